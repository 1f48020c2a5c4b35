set_option maxHeartbeats 4000000 in
set_option maxRecDepth 100000 in
/-- beginWords -/
theorem c_X12_beginWords (l : Launch) (D : va_G) (cy : Nat → ClassId) (sz : Nat) (cs : List Nat) (ad : Nat → Nat) (en : Nat → va_E) (hI : RX cy cs ad en)    : Met l yX12_beginWords (Cond.code yX12_beginWords cX12_beginWords 1 none :: TB) (rmN 1) (va_Pc [.ref (ad 0)] (Pre D cy cs ad en sz)) (va_Qv (S := Nat → va_E) (fun en1 => RX cy cs ad en1 ∧ (∀ c, (c ≠ 0 ∧ c ≠ 6 ∧ c ≠ 7) → en1 c = en c) ∧ rdI (en1 0) 14 = nI 0 ∧ rdF (en1 7) 0 = -1 ∧ KP en en1) (PostM D cs ad) (Af cs ad sz)) 0 0 (Af cs ad sz) := by
  refine Met.ofW (cc := cX12_beginWords) (maxL := 1) (ret := none) (by decide) rfl ?_
  intro p e s m args below meth c s₁ B hml hv
  obtain ⟨rfl, hsz, hP, hK, hD0⟩ := hv
  have hx := B.exec
  have hb := B.bytes
  have hr := B.returns
  have hts : ∀ w ∈ TB, w.before _ s = true := fun w h => atoms_spec (ws := _ :: TB) B.pre w (List.mem_cons_of_mem _ h)
  have hown : s.vm.findClass RX12 = some m.cls := findClass_of_methodNamed B.named
  have hlocks := B.notSynchronized
  have hh : Hp D (Af cs ad sz) (Af cs ad sz) s.heap s.heap [] cs ad en := ⟨hP, Af_self hD0, va_S.rf⟩
  have hA : ∀ q : Nat, s.heap.size ≤ q → Af cs ad sz q := fun q h => Or.inr (by rw [hsz] at h; exact h)
  have hl := lv_entry ([.ref (ad 0)]) (n := 1) (Nat.le_of_ble_eq_true rfl)
  rw [lg_entry_eq]
  generalize (lg_sl ([.ref (ad 0)]) ++ List.replicate (1 - (lg_sl ([.ref (ad 0)])).length) Slot.unset).toArray = ls at hl ⊢
  have hl : lv_has ls 1 [(0, .ref (ad 0))] := hl
  have hf0 : ∀ c, (c ≠ 0 ∧ c ≠ 6 ∧ c ≠ 7) → en c = en c := fun _ _ => rfl
  obtain ⟨fa, hi, wd, mo, tb, dp, many, grt, lst, nou, rm, rb, pr, wo, es1322, hwd2, hwd3, hmo, htb, hwo⟩ := getr_M hI
  refine lv_aload_n hx hb dX12_beginWords_0 rfl (lv_at hl 0 rfl) ?_
  refine hp_callMv (va_runV (As := []) (rest := []) ⟨hx, hb, hml, hown, hts⟩ (c_X12_beginLevels l D cy _ cs ad en hI  ) (kw_X12_beginLevels hts tw_1042 ⟨by decide, by decide⟩) (preV_of hh hK (hI.1 _ (by decide)) es1322 rfl) rfl rfl hl.1 rfl (lv_room (Nat.le_of_ble_eq_true rfl)) dX12_beginWords_1 ⟨Nat.le_of_ble_eq_true rfl, Nat.le_of_ble_eq_true rfl⟩) hh hA (fun H locs en_1323 hw_1323 hh => ?_)
  obtain ⟨hI_1323, hu_1323⟩ := hw_1323
  have es1322_1323 : en_1323 0 = .inr (11, [.int fa, .int hi, .int (nI wd), .int (nI mo), .int (nI tb), .ref (ad 1), .ref (ad 2), .ref (ad 3), .ref (ad 4), .ref (ad 5), .ref (ad 6), .ref (ad 7), .ref (ad 8), .ref (ad 9), .int dp, .long many, .long grt, .long lst, .long nou, .ref (ad 10), .ref (ad 11), .ref (ad 12), .int rm, .long rb, .ref (ad 13), .int pr, .ref (ad 14), .ref (ad 15), .ref (ad 16), .ref (ad 17), .int (nI wo), .ref (ad 18), .ref (ad 19)]) := (hu_1323 0 (by omega)).trans es1322
  have hf_1323 : ∀ c, (c ≠ 0 ∧ c ≠ 6 ∧ c ≠ 7) → en_1323 c = en c := fun c hc => (hu_1323 c (by omega)).trans (hf0 c hc)
  have hkp_1323 : KP en en_1323 := KP_same (KP_rf en) (hu_1323 0 (by omega))
  refine lv_aload_n hx hb dX12_beginWords_4 rfl (lv_at hl 0 rfl) ?_
  refine lv_iconst (v := 0) hx hb dX12_beginWords_5 (by decide) ?_
  refine hp_put hx hb hts ix12 tyX12 tyX12_ok nmX12 hown hK hh (q := 0) rfl (hI.1 _ (by decide)) es1322_1323 rfl 14 (by decide) (hts _ tw_893) (fun _ h9 => h9) rfl (ty := .int) (by decide +kernel) rfl rfl (Nat.le_of_ble_eq_true rfl) dX12_beginWords_6 (fun H locs en_1324 hen_1324 hh => ?_)
  have es1322_1324 : en_1324 0 = .inr (11, [.int fa, .int hi, .int (nI wd), .int (nI mo), .int (nI tb), .ref (ad 1), .ref (ad 2), .ref (ad 3), .ref (ad 4), .ref (ad 5), .ref (ad 6), .ref (ad 7), .ref (ad 8), .ref (ad 9), .int 0, .long many, .long grt, .long lst, .long nou, .ref (ad 10), .ref (ad 11), .ref (ad 12), .int rm, .long rb, .ref (ad 13), .int pr, .ref (ad 14), .ref (ad 15), .ref (ad 16), .ref (ad 17), .int (nI wo), .ref (ad 18), .ref (ad 19)]) := by rw [hen_1324]; exact va_up_self _ _ _
  have hI_1324 : RX cy cs ad en_1324 := by rw [hen_1324]; exact upr_M hI_1323 ⟨fa, hi, wd, mo, tb, 0, many, grt, lst, nou, rm, rb, pr, wo, rfl, hwd2, hwd3, hmo, htb, hwo⟩
  have hf_1324 : ∀ c, (c ≠ 0 ∧ c ≠ 6 ∧ c ≠ 7) → en_1324 c = en c := fun c hc => Eq.trans (show en_1324 c = en_1323 c from by rw [hen_1324, va_up_ne _ _ (by omega)]) (hf_1323 c hc)
  have hkp_1324 : KP en en_1324 := KP_fv hkp_1323 es1322_1323 es1322_1324 hi (nI wd) (nI mo) (nI tb) pr (nI wo) rfl rfl rfl rfl rfl rfl rfl rfl rfl rfl rfl rfl
  refine lv_aload_n hx hb dX12_beginWords_9 rfl (lv_at hl 0 rfl) ?_
  refine hp_get hx hb hts ix12 hown hK hh (q := 0) rfl (hI.1 _ (by decide)) es1322_1324 rfl 11 (by decide) (hts _ tw_890) (fun _ h9 => h9) rfl dX12_beginWords_10 ?_
  refine lv_iconst (v := 0) hx hb dX12_beginWords_13 (by decide) ?_
  refine lv_iconst (v := (-1)) hx hb dX12_beginWords_14 (by decide) ?_
  obtain ⟨f_1325, es1325⟩ := getr_nw hI_1324
  rw [show (0 : Int32) = nI 0 from rfl]
  refine hp_iast hx hb hK hh (q := 7) rfl (hI.1 _ (by decide)) es1325 (vp_in_nI (n := 0) (by decide) (by decide)) dX12_beginWords_15 (fun H locs en_1326 hen_1326 hh => ?_)
  rw [nI_clamp (n := 0) (by decide)] at hen_1326
  have es1322_1326 : en_1326 0 = .inr (11, [.int fa, .int hi, .int (nI wd), .int (nI mo), .int (nI tb), .ref (ad 1), .ref (ad 2), .ref (ad 3), .ref (ad 4), .ref (ad 5), .ref (ad 6), .ref (ad 7), .ref (ad 8), .ref (ad 9), .int 0, .long many, .long grt, .long lst, .long nou, .ref (ad 10), .ref (ad 11), .ref (ad 12), .int rm, .long rb, .ref (ad 13), .int pr, .ref (ad 14), .ref (ad 15), .ref (ad 16), .ref (ad 17), .int (nI wo), .ref (ad 18), .ref (ad 19)]) := by rw [hen_1326, va_up_ne _ _ (by decide)]; exact es1322_1324
  have es1325_1326 : en_1326 7 = .inl (cy 0, 13, .inl (upd f_1325 0 (-1))) := by rw [hen_1326]; exact va_up_self _ _ _
  have hI_1326 : RX cy cs ad en_1326 := by rw [hen_1326]; exact upr_nw hI_1324 ⟨(upd f_1325 0 (-1)), rfl⟩
  have hf_1326 : ∀ c, (c ≠ 0 ∧ c ≠ 6 ∧ c ≠ 7) → en_1326 c = en c := fun c hc => Eq.trans (show en_1326 c = en_1324 c from by rw [hen_1326, va_up_ne _ _ (by omega)]) (hf_1324 c hc)
  have hkp_1326 : KP en en_1326 := KP_same hkp_1324 (show en_1326 0 = en_1324 0 from by rw [hen_1326, va_up_ne _ _ (by decide)])
  exact hp_vretM hx hb hr hlocks hh (⟨hI_1326, hf_1326, (by rw [es1322_1326]; rfl), (by rw [es1325_1326]; exact pk_us), hkp_1326⟩) dX12_beginWords_16
theorem kw_X12_beginWords {R : Room} {s : State} {args : Array Value} {own : String} {idx : Nat} (hts : ∀ w ∈ TB, w.before args s = true) (hl : Cond.methodLink own idx yX12_beginWords ∈ TB) (hR : 1 + 1 ≤ R.frames ∧ 8 + (1 + 11) + 40 * 1 ≤ R.locals) : CallW R s args own RX12 idx yX12_beginWords cX12_beginWords 1 none (Cond.code yX12_beginWords cX12_beginWords 1 none :: TB) (rmN 1) 0 0 0 := cwV 0 hts (TB_V hl tw_1040 ts_38 tw_9 tw_1041) rfl rfl rfl (by decide +kernel) hR
set_option maxHeartbeats 4000000 in
set_option maxRecDepth 100000 in
/-- next -/
theorem c_X12_next (l : Launch) (D : va_G) (cy : Nat → ClassId) (sz : Nat) (cs : List Nat) (ad : Nat → Nat) (en : Nat → va_E) (hI : RX cy cs ad en) (n : Nat) (hn1 : 1 ≤ n) (hn8 : n ≤ 8) (d u : Nat) (hND : ND en n d u)   : Met l yX12_next (Cond.code yX12_next cX12_next 2 (some .boolean) :: TB) (rmN 2) (va_Pc [.ref (ad 0), .int (nI n)] (Pre D cy cs ad en sz)) (va_Qi (S := Nat → va_E) (fun r en1 => RX cy cs ad en1 ∧ (∀ c, (c ≠ 0 ∧ c ≠ 6 ∧ c ≠ 7) → en1 c = en c) ∧ (r = 0 ∨ (r = 1 ∧ ∃ u1, ND en1 n (n - 1) u1 ∧ 1 ≤ u1 ∧ nmv (rdF (en 7)) d u < nmv (rdF (en1 7)) (n - 1) u1)) ∧ KP en en1) (PostM D cs ad) (Af cs ad sz)) 0 0 (Af cs ad sz) := by
  refine Met.ofW (cc := cX12_next) (maxL := 2) (ret := (some .boolean)) (by decide) rfl ?_
  intro p e s m args below meth c s₁ B hml hv
  obtain ⟨rfl, hsz, hP, hK, hD0⟩ := hv
  have hx := B.exec
  have hb := B.bytes
  have hr := B.returns
  have hts : ∀ w ∈ TB, w.before _ s = true := fun w h => atoms_spec (ws := _ :: TB) B.pre w (List.mem_cons_of_mem _ h)
  have hown : s.vm.findClass RX12 = some m.cls := findClass_of_methodNamed B.named
  have hlocks := B.notSynchronized
  have hh : Hp D (Af cs ad sz) (Af cs ad sz) s.heap s.heap [] cs ad en := ⟨hP, Af_self hD0, va_S.rf⟩
  have hA : ∀ q : Nat, s.heap.size ≤ q → Af cs ad sz q := fun q h => Or.inr (by rw [hsz] at h; exact h)
  have hl := lv_entry ([.ref (ad 0), .int (nI n)]) (n := 2) (Nat.le_of_ble_eq_true rfl)
  rw [lg_entry_eq]
  generalize (lg_sl ([.ref (ad 0), .int (nI n)]) ++ List.replicate (2 - (lg_sl ([.ref (ad 0), .int (nI n)])).length) Slot.unset).toArray = ls at hl ⊢
  have hl : lv_has ls 2 [(0, .ref (ad 0)), (1, .int (nI n))] := hl
  have hf0 : ∀ c, (c ≠ 0 ∧ c ≠ 6 ∧ c ≠ 7) → en c = en c := fun _ _ => rfl
  obtain ⟨fa, hi, wd, mo, tb, dp, many, grt, lst, nou, rm, rb, pr, wo, es1327, hwd2, hwd3, hmo, htb, hwo⟩ := getr_M hI
  obtain ⟨hd1, hd2, hd3⟩ := hND
  rcases hd2 with hd2 | ⟨hd2, hd4⟩
  · have hdp : dp = nI d := (show dp = rdI (en 0) 14 from by rw [es1327]; rfl).trans hd2
    rw [hdp] at es1327
    refine lv_aload_n hx hb dX12_next_0 rfl (lv_at hl 0 rfl) ?_
    refine hp_get hx hb hts ix12 hown hK hh (q := 0) rfl (hI.1 _ (by decide)) es1327 rfl 14 (by decide) (hts _ tw_893) (fun _ h9 => h9) rfl dX12_next_1 ?_
    refine lv_iload_n hx hb dX12_next_4 rfl (lv_at hl 1 rfl) ?_
    refine lv_icmp_ne (tgt := 18) hx hb dX12_next_5 (by decide) (fun c_1328 => ?_) (fun c_1328 => ?_)
    · have n_1328 : d ≠ n := n_neq (a := d) (b := n) c_1328 (by omega) (by omega)
      have loop_1329 : ∀ (fu mm1329 : Nat)  (d1329 : Nat) (u1329 : Nat) (en_1329 : Nat → va_E) (ls : Array Slot) (H : Heap) (locs : List Loc), mm1329 < fu → RX cy cs ad en_1329 → (∀ c, (c ≠ 0 ∧ c ≠ 6 ∧ c ≠ 7) → en_1329 c = en c) → (rdI (en_1329 0) 14 = nI d1329 ∧ d1329 < n) → (NWp (rdF (en_1329 7)) d1329 u1329) → (134217728 ≤ nmv (rdF (en_1329 7)) d1329 u1329 + mm1329 ∧ nmv (rdF (en 7)) d u ≤ nmv (rdF (en_1329 7)) d1329 u1329) → (KP en en_1329) → lv_has ls 2 [(0, .ref (ad 0)), (1, .int (nI n))] → Hp D (Af cs ad sz) (Af cs ad sz) s.heap H locs cs ad en_1329 → W p l e (headSpec (Cond.code yX12_next cX12_next 2 (some .boolean) :: TB) (rmN 2)).room s m ([.ref (ad 0), .int (nI n)] : List Value).toArray below meth c H locs 0 0 (MQ below (va_Qi (S := Nat → va_E) (fun r en1 => RX cy cs ad en1 ∧ (∀ c, (c ≠ 0 ∧ c ≠ 6 ∧ c ≠ 7) → en1 c = en c) ∧ (r = 0 ∨ (r = 1 ∧ ∃ u1, ND en1 n (n - 1) u1 ∧ 1 ≤ u1 ∧ nmv (rdF (en 7)) d u < nmv (rdF (en1 7)) (n - 1) u1)) ∧ KP en en1) (PostM D cs ad) (Af cs ad sz)) ([.ref (ad 0), .int (nI n)] : List Value).toArray s 0 0 (Af cs ad sz)) (F0 m 18 ls []) := by
        intro fu
        induction fu with
        | zero => intro mm1329 d1329 u1329 en_1329 ls H locs h2; exact absurd h2 (by omega)
        | succ fu ih_1329 =>
          intro mm1329 d1329 u1329 en_1329 ls H locs hmm_1329 hI_1329 hf_1329 i0_1329 i1_1329 i2_1329 i3_1329 hl hh
          have hlt_1329 := nmv_lt i1_1329 (by omega)
          refine lv_aload_n hx hb dX12_next_18 rfl (lv_at hl 0 rfl) ?_
          obtain ⟨fa_1330, hi_1330, wd_1330, mo_1330, tb_1330, dp_1330, many_1330, grt_1330, lst_1330, nou_1330, rm_1330, rb_1330, pr_1330, wo_1330, es1330, p0_1330, p1_1330, p2_1330, p3_1330, p4_1330⟩ := getr_M hI_1329
          have hq2_1331 : wd_1330 = wd := n_eq ((show nI wd_1330 = rdI (en_1329 0) 2 from by rw [es1330]; rfl).trans (i3_1329.2.1.trans (show rdI (en 0) 2 = nI wd from by rw [es1327]; rfl))) (by omega) (by omega)
          have hq3_1331 : mo_1330 = mo := n_eq ((show nI mo_1330 = rdI (en_1329 0) 3 from by rw [es1330]; rfl).trans (i3_1329.2.2.1.trans (show rdI (en 0) 3 = nI mo from by rw [es1327]; rfl))) (by omega) (by omega)
          have hq4_1331 : tb_1330 = tb := n_eq ((show nI tb_1330 = rdI (en_1329 0) 4 from by rw [es1330]; rfl).trans (i3_1329.2.2.2.1.trans (show rdI (en 0) 4 = nI tb from by rw [es1327]; rfl))) (by omega) (by omega)
          have hq30_1331 : wo_1330 = wo := n_eq ((show nI wo_1330 = rdI (en_1329 0) 30 from by rw [es1330]; rfl).trans (i3_1329.2.2.2.2.2.trans (show rdI (en 0) 30 = nI wo from by rw [es1327]; rfl))) (by omega) (by omega)
          rw [hq2_1331, hq3_1331, hq4_1331, hq30_1331] at es1330
          have hdp_1332 : dp_1330 = nI d1329 := (show dp_1330 = rdI (en_1329 0) 14 from by rw [es1330]; rfl).trans (i0_1329.1)
          rw [hdp_1332] at es1330
          refine hp_get hx hb hts ix12 hown hK hh (q := 0) rfl (hI.1 _ (by decide)) es1330 rfl 14 (by decide) (hts _ tw_893) (fun _ h9 => h9) rfl dX12_next_19 ?_
          refine lv_if_lt (tgt := 183) hx hb dX12_next_22 (by decide) (fun c_1333 => ?_) (fun c_1333 => ?_)
          · have n_1333 : d1329 < 0 := n_lt (a := d1329) (b := 0) c_1333 (by omega) (by decide)
            exact absurd n_1333 (by omega)
          · have n_1333 : 0 ≤ d1329 := n_nlt (a := d1329) (b := 0) c_1333 (by omega) (by decide)
            refine lv_aload_n hx hb dX12_next_25 rfl (lv_at hl 0 rfl) ?_
            refine hp_get hx hb hts ix12 hown hK hh (q := 0) rfl (hI.1 _ (by decide)) es1330 rfl 11 (by decide) (hts _ tw_890) (fun _ h9 => h9) rfl dX12_next_26 ?_
            refine lv_aload_n hx hb dX12_next_29 rfl (lv_at hl 0 rfl) ?_
            refine hp_get hx hb hts ix12 hown hK hh (q := 0) rfl (hI.1 _ (by decide)) es1330 rfl 14 (by decide) (hts _ tw_893) (fun _ h9 => h9) rfl dX12_next_30 ?_
            refine lv_dup2_11 hx hb dX12_next_33 rfl rfl ?_
            obtain ⟨f_1334, es1334⟩ := getr_nw hI_1329
            refine hp_iald hx hb hK hh (q := 7) rfl (hI.1 _ (by decide)) es1334 (vp_in_nI (n := d1329) (by omega) (by decide)) dX12_next_34 ?_
            rw [nI_clamp (n := d1329) (by omega)]
            refine lv_iconst (v := 1) hx hb dX12_next_35 (by decide) ?_
            refine lv_iadd hx hb dX12_next_36 ?_
            rw [show f_1334 d1329 + 1 = nI u1329 from (show f_1334 d1329 + 1 = rdF (en_1329 7) d1329 + 1 from by rw [es1334]; rfl).trans i1_1329.2.1]
            refine hp_iast hx hb hK hh (q := 7) rfl (hI.1 _ (by decide)) es1334 (vp_in_nI (n := d1329) (by omega) (by decide)) dX12_next_37 (fun H locs en_1335 hen_1335 hh => ?_)
            rw [nI_clamp (n := d1329) (by omega)] at hen_1335
            have es1330_1335 : en_1335 0 = .inr (11, [.int fa_1330, .int hi_1330, .int (nI wd), .int (nI mo), .int (nI tb), .ref (ad 1), .ref (ad 2), .ref (ad 3), .ref (ad 4), .ref (ad 5), .ref (ad 6), .ref (ad 7), .ref (ad 8), .ref (ad 9), .int (nI d1329), .long many_1330, .long grt_1330, .long lst_1330, .long nou_1330, .ref (ad 10), .ref (ad 11), .ref (ad 12), .int rm_1330, .long rb_1330, .ref (ad 13), .int pr_1330, .ref (ad 14), .ref (ad 15), .ref (ad 16), .ref (ad 17), .int (nI wo), .ref (ad 18), .ref (ad 19)]) := by rw [hen_1335, va_up_ne _ _ (by decide)]; exact es1330
            have es1334_1335 : en_1335 7 = .inl (cy 0, 13, .inl (upd f_1334 d1329 (nI u1329))) := by rw [hen_1335]; exact va_up_self _ _ _
            have hI_1335 : RX cy cs ad en_1335 := by rw [hen_1335]; exact upr_nw hI_1329 ⟨(upd f_1334 d1329 (nI u1329)), rfl⟩
            have hf_1335 : ∀ c, (c ≠ 0 ∧ c ≠ 6 ∧ c ≠ 7) → en_1335 c = en c := fun c hc => Eq.trans (show en_1335 c = en_1329 c from by rw [hen_1335, va_up_ne _ _ (by omega)]) (hf_1329 c hc)
            have hkp_1335 : KP en en_1335 := KP_same i3_1329 (show en_1335 0 = en_1329 0 from by rw [hen_1335, va_up_ne _ _ (by decide)])
            have hno_1335 : ∀ i, i ≠ d1329 → rdF (en_1335 7) i = rdF (en_1329 7) i := fun i hi => by rw [es1334_1335, es1334]; exact pk_un hi
            have hnv_1335 : rdF (en_1335 7) d1329 = (nI u1329) := by rw [es1334_1335]; exact pk_us
            have loop_1336 : ∀ (fu mm1336 : Nat)  (w1336 : Nat) (en_1336 : Nat → va_E) (ls : Array Slot) (H : Heap) (locs : List Loc), mm1336 < fu → RX cy cs ad en_1336 → (∀ c, (c ≠ 0 ∧ c ≠ 6 ∧ c ≠ 7) → en_1336 c = en c) → (rdI (en_1336 0) 14 = nI d1329) → (rdF (en_1336 7) d1329 = nI w1336 ∧ u1329 ≤ w1336 ∧ w1336 ≤ 6) → (∀ i, i < d1329 → rdF (en_1336 7) i = rdF (en_1329 7) i) → (7 ≤ w1336 + mm1336) → (KP en en_1336) → lv_has ls 2 [(0, .ref (ad 0)), (1, .int (nI n))] → Hp D (Af cs ad sz) (Af cs ad sz) s.heap H locs cs ad en_1336 → W p l e (headSpec (Cond.code yX12_next cX12_next 2 (some .boolean) :: TB) (rmN 2)).room s m ([.ref (ad 0), .int (nI n)] : List Value).toArray below meth c H locs 0 0 (MQ below (va_Qi (S := Nat → va_E) (fun r en1 => RX cy cs ad en1 ∧ (∀ c, (c ≠ 0 ∧ c ≠ 6 ∧ c ≠ 7) → en1 c = en c) ∧ (r = 0 ∨ (r = 1 ∧ ∃ u1, ND en1 n (n - 1) u1 ∧ 1 ≤ u1 ∧ nmv (rdF (en 7)) d u < nmv (rdF (en1 7)) (n - 1) u1)) ∧ KP en en1) (PostM D cs ad) (Af cs ad sz)) ([.ref (ad 0), .int (nI n)] : List Value).toArray s 0 0 (Af cs ad sz)) (F0 m 38 ls []) := by
              intro fu
              induction fu with
              | zero => intro mm1336 w1336 en_1336 ls H locs h2; exact absurd h2 (by omega)
              | succ fu ih_1336 =>
                intro mm1336 w1336 en_1336 ls H locs hmm_1336 hI_1336 hf_1336 i0_1336 i1_1336 i2_1336 i3_1336 i4_1336 hl hh
                refine lv_aload_n hx hb dX12_next_38 rfl (lv_at hl 0 rfl) ?_
                obtain ⟨fa_1337, hi_1337, wd_1337, mo_1337, tb_1337, dp_1337, many_1337, grt_1337, lst_1337, nou_1337, rm_1337, rb_1337, pr_1337, wo_1337, es1337, p0_1337, p1_1337, p2_1337, p3_1337, p4_1337⟩ := getr_M hI_1336
                have hq2_1338 : wd_1337 = wd := n_eq ((show nI wd_1337 = rdI (en_1336 0) 2 from by rw [es1337]; rfl).trans (i4_1336.2.1.trans (show rdI (en 0) 2 = nI wd from by rw [es1327]; rfl))) (by omega) (by omega)
                have hq3_1338 : mo_1337 = mo := n_eq ((show nI mo_1337 = rdI (en_1336 0) 3 from by rw [es1337]; rfl).trans (i4_1336.2.2.1.trans (show rdI (en 0) 3 = nI mo from by rw [es1327]; rfl))) (by omega) (by omega)
                have hq4_1338 : tb_1337 = tb := n_eq ((show nI tb_1337 = rdI (en_1336 0) 4 from by rw [es1337]; rfl).trans (i4_1336.2.2.2.1.trans (show rdI (en 0) 4 = nI tb from by rw [es1327]; rfl))) (by omega) (by omega)
                have hq30_1338 : wo_1337 = wo := n_eq ((show nI wo_1337 = rdI (en_1336 0) 30 from by rw [es1337]; rfl).trans (i4_1336.2.2.2.2.2.trans (show rdI (en 0) 30 = nI wo from by rw [es1327]; rfl))) (by omega) (by omega)
                rw [hq2_1338, hq3_1338, hq4_1338, hq30_1338] at es1337
                have hdp_1339 : dp_1337 = nI d1329 := (show dp_1337 = rdI (en_1336 0) 14 from by rw [es1337]; rfl).trans (i0_1336)
                rw [hdp_1339] at es1337
                refine hp_get hx hb hts ix12 hown hK hh (q := 0) rfl (hI.1 _ (by decide)) es1337 rfl 11 (by decide) (hts _ tw_890) (fun _ h9 => h9) rfl dX12_next_39 ?_
                refine lv_aload_n hx hb dX12_next_42 rfl (lv_at hl 0 rfl) ?_
                refine hp_get hx hb hts ix12 hown hK hh (q := 0) rfl (hI.1 _ (by decide)) es1337 rfl 14 (by decide) (hts _ tw_893) (fun _ h9 => h9) rfl dX12_next_43 ?_
                obtain ⟨f_1340, es1340⟩ := getr_nw hI_1336
                refine hp_iald hx hb hK hh (q := 7) rfl (hI.1 _ (by decide)) es1340 (vp_in_nI (n := d1329) (by omega) (by decide)) dX12_next_46 ?_
                rw [nI_clamp (n := d1329) (by omega)]
                rw [show f_1340 d1329 = nI w1336 from (show f_1340 d1329 = rdF (en_1336 7) d1329 from by rw [es1340]; rfl).trans i1_1336.1]
                refine lv_aload_n hx hb dX12_next_47 rfl (lv_at hl 0 rfl) ?_
                refine hp_get hx hb hts ix12 hown hK hh (q := 0) rfl (hI.1 _ (by decide)) es1337 rfl 4 (by decide) (hts _ tw_883) (fun _ h9 => h9) rfl dX12_next_48 ?_
                refine lv_icmp_ge (tgt := 104) hx hb dX12_next_51 (by decide) (fun c_1341 => ?_) (fun c_1341 => ?_)
                · have n_1341 : tb ≤ w1336 := n_le (a := tb) (b := w1336) c_1341 (by omega) (by omega)
                  refine lv_aload_n hx hb dX12_next_104 rfl (lv_at hl 0 rfl) ?_
                  refine hp_get hx hb hts ix12 hown hK hh (q := 0) rfl (hI.1 _ (by decide)) es1337 rfl 11 (by decide) (hts _ tw_890) (fun _ h9 => h9) rfl dX12_next_105 ?_
                  refine lv_aload_n hx hb dX12_next_108 rfl (lv_at hl 0 rfl) ?_
                  refine hp_get hx hb hts ix12 hown hK hh (q := 0) rfl (hI.1 _ (by decide)) es1337 rfl 14 (by decide) (hts _ tw_893) (fun _ h9 => h9) rfl dX12_next_109 ?_
                  refine hp_iald hx hb hK hh (q := 7) rfl (hI.1 _ (by decide)) es1340 (vp_in_nI (n := d1329) (by omega) (by decide)) dX12_next_112 ?_
                  rw [nI_clamp (n := d1329) (by omega)]
                  rw [show f_1340 d1329 = nI w1336 from (show f_1340 d1329 = rdF (en_1336 7) d1329 from by rw [es1340]; rfl).trans i1_1336.1]
                  refine lv_aload_n hx hb dX12_next_113 rfl (lv_at hl 0 rfl) ?_
                  refine hp_get hx hb hts ix12 hown hK hh (q := 0) rfl (hI.1 _ (by decide)) es1337 rfl 4 (by decide) (hts _ tw_883) (fun _ h9 => h9) rfl dX12_next_114 ?_
                  refine lv_icmp_lt (tgt := 133) hx hb dX12_next_117 (by decide) (fun c_1342 => ?_) (fun c_1342 => ?_)
                  · have n_1342 : w1336 < tb := n_lt (a := w1336) (b := tb) c_1342 (by omega) (by omega)
                    exact absurd n_1342 (by omega)
                  · have n_1342 : tb ≤ w1336 := n_nlt (a := w1336) (b := tb) c_1342 (by omega) (by omega)
                    rcases Nat.eq_zero_or_pos d1329 with hz9 | hz9
                    · have hz8 := hz9
                      refine lv_aload_n hx hb dX12_next_120 rfl (lv_at hl 0 rfl) ?_
                      refine lv_dup hx hb dX12_next_121 rfl ?_
                      refine hp_get hx hb hts ix12 hown hK hh (q := 0) rfl (hI.1 _ (by decide)) es1337 rfl 14 (by decide) (hts _ tw_893) (fun _ h9 => h9) rfl dX12_next_122 ?_
                      refine lv_iconst (v := 1) hx hb dX12_next_125 (by decide) ?_
                      refine lv_isub hx hb dX12_next_126 ?_
                      rw [show nI d1329 - (1 : Int32) = -1 from by rw [hz9]; decide]
                      refine hp_put hx hb hts ix12 tyX12 tyX12_ok nmX12 hown hK hh (q := 0) rfl (hI.1 _ (by decide)) es1337 rfl 14 (by decide) (hts _ tw_893) (fun _ h9 => h9) rfl (ty := .int) (by decide +kernel) rfl rfl (Nat.le_of_ble_eq_true rfl) dX12_next_127 (fun H locs en_1343 hen_1343 hh => ?_)
                      have es1340_1343 : en_1343 7 = .inl (cy 0, 13, .inl f_1340) := by rw [hen_1343, va_up_ne _ _ (by decide)]; exact es1340
                      have es1337_1343 : en_1343 0 = .inr (11, [.int fa_1337, .int hi_1337, .int (nI wd), .int (nI mo), .int (nI tb), .ref (ad 1), .ref (ad 2), .ref (ad 3), .ref (ad 4), .ref (ad 5), .ref (ad 6), .ref (ad 7), .ref (ad 8), .ref (ad 9), .int (-1), .long many_1337, .long grt_1337, .long lst_1337, .long nou_1337, .ref (ad 10), .ref (ad 11), .ref (ad 12), .int rm_1337, .long rb_1337, .ref (ad 13), .int pr_1337, .ref (ad 14), .ref (ad 15), .ref (ad 16), .ref (ad 17), .int (nI wo), .ref (ad 18), .ref (ad 19)]) := by rw [hen_1343]; exact va_up_self _ _ _
                      have hI_1343 : RX cy cs ad en_1343 := by rw [hen_1343]; exact upr_M hI_1336 ⟨fa_1337, hi_1337, wd, mo, tb, (-1), many_1337, grt_1337, lst_1337, nou_1337, rm_1337, rb_1337, pr_1337, wo, rfl, hwd2, hwd3, hmo, htb, hwo⟩
                      have hf_1343 : ∀ c, (c ≠ 0 ∧ c ≠ 6 ∧ c ≠ 7) → en_1343 c = en c := fun c hc => Eq.trans (show en_1343 c = en_1336 c from by rw [hen_1343, va_up_ne _ _ (by omega)]) (hf_1336 c hc)
                      have hkp_1343 : KP en en_1343 := KP_fv i4_1336 es1337 es1337_1343 hi_1337 (nI wd) (nI mo) (nI tb) pr_1337 (nI wo) rfl rfl rfl rfl rfl rfl rfl rfl rfl rfl rfl rfl
                      have hg7_1343 : ∀ i, rdF (en_1343 7) i = rdF (en_1336 7) i := fun i => by rw [hen_1343, va_up_ne _ _ (by decide)]
                      have ha_1343 : ∀ i, i < d1329 → rdF (en_1343 7) i = rdF (en_1329 7) i := fun i hi => (hg7_1343 i).trans (i2_1336 i hi)
                      have hwv_1343 : rdF (en_1343 7) d1329 = nI w1336 := (hg7_1343 d1329).trans i1_1336.1
                      refine lv_goto (tgt := 18) hx hb dX12_next_130 (by decide) ?_
                      refine lv_aload_n hx hb dX12_next_18 rfl (lv_at hl 0 rfl) ?_
                      refine hp_get hx hb hts ix12 hown hK hh (q := 0) rfl (hI.1 _ (by decide)) es1337_1343 rfl 14 (by decide) (hts _ tw_893) (fun _ h9 => h9) rfl dX12_next_19 ?_
                      refine lv_if_lt (tgt := 183) hx hb dX12_next_22 (by decide) (fun _ => ?_) (fun c_0 => absurd c_0 (by decide))
                      refine lv_iconst (v := 0) hx hb dX12_next_183 (by decide) ?_
                      exact hp_iretM hx hb hr rfl hlocks hh (⟨hI_1343, hf_1343, Or.inl rfl, hkp_1343⟩) dX12_next_184
                    · obtain ⟨v_1344, hv_1344, hve_1344⟩ := i1_1329.1 (d1329 - 1) (by omega)
                      refine lv_aload_n hx hb dX12_next_120 rfl (lv_at hl 0 rfl) ?_
                      refine lv_dup hx hb dX12_next_121 rfl ?_
                      refine hp_get hx hb hts ix12 hown hK hh (q := 0) rfl (hI.1 _ (by decide)) es1337 rfl 14 (by decide) (hts _ tw_893) (fun _ h9 => h9) rfl dX12_next_122 ?_
                      refine lv_iconst (v := 1) hx hb dX12_next_125 (by decide) ?_
                      refine lv_isub hx hb dX12_next_126 ?_
                      rw [show (1 : Int32) = nI 1 from rfl, pk_sub (a := d1329) (b := 1) (by omega)]
                      refine hp_put hx hb hts ix12 tyX12 tyX12_ok nmX12 hown hK hh (q := 0) rfl (hI.1 _ (by decide)) es1337 rfl 14 (by decide) (hts _ tw_893) (fun _ h9 => h9) rfl (ty := .int) (by decide +kernel) rfl rfl (Nat.le_of_ble_eq_true rfl) dX12_next_127 (fun H locs en_1345 hen_1345 hh => ?_)
                      have es1340_1345 : en_1345 7 = .inl (cy 0, 13, .inl f_1340) := by rw [hen_1345, va_up_ne _ _ (by decide)]; exact es1340
                      have es1337_1345 : en_1345 0 = .inr (11, [.int fa_1337, .int hi_1337, .int (nI wd), .int (nI mo), .int (nI tb), .ref (ad 1), .ref (ad 2), .ref (ad 3), .ref (ad 4), .ref (ad 5), .ref (ad 6), .ref (ad 7), .ref (ad 8), .ref (ad 9), .int (nI (d1329 - 1)), .long many_1337, .long grt_1337, .long lst_1337, .long nou_1337, .ref (ad 10), .ref (ad 11), .ref (ad 12), .int rm_1337, .long rb_1337, .ref (ad 13), .int pr_1337, .ref (ad 14), .ref (ad 15), .ref (ad 16), .ref (ad 17), .int (nI wo), .ref (ad 18), .ref (ad 19)]) := by rw [hen_1345]; exact va_up_self _ _ _
                      have hI_1345 : RX cy cs ad en_1345 := by rw [hen_1345]; exact upr_M hI_1336 ⟨fa_1337, hi_1337, wd, mo, tb, (nI (d1329 - 1)), many_1337, grt_1337, lst_1337, nou_1337, rm_1337, rb_1337, pr_1337, wo, rfl, hwd2, hwd3, hmo, htb, hwo⟩
                      have hf_1345 : ∀ c, (c ≠ 0 ∧ c ≠ 6 ∧ c ≠ 7) → en_1345 c = en c := fun c hc => Eq.trans (show en_1345 c = en_1336 c from by rw [hen_1345, va_up_ne _ _ (by omega)]) (hf_1336 c hc)
                      have hkp_1345 : KP en en_1345 := KP_fv i4_1336 es1337 es1337_1345 hi_1337 (nI wd) (nI mo) (nI tb) pr_1337 (nI wo) rfl rfl rfl rfl rfl rfl rfl rfl rfl rfl rfl rfl
                      have hg7_1345 : ∀ i, rdF (en_1345 7) i = rdF (en_1336 7) i := fun i => by rw [hen_1345, va_up_ne _ _ (by decide)]
                      have ha_1345 : ∀ i, i < d1329 → rdF (en_1345 7) i = rdF (en_1329 7) i := fun i hi => (hg7_1345 i).trans (i2_1336 i hi)
                      have hwv_1345 : rdF (en_1345 7) d1329 = nI w1336 := (hg7_1345 d1329).trans i1_1336.1
                      refine lv_goto (tgt := 18) hx hb dX12_next_130 (by decide) ?_
                      have hNB_1346 := NWp_back i1_1329 (by omega) (by omega) ha_1345 hv_1344 hve_1344
                      exact ih_1329 (mm1329 - 1) (d1329 - 1) (v_1344 + 1) en_1345 ls H locs (by omega) hI_1345 hf_1345 (⟨by rw [es1337_1345]; rfl, by omega⟩) (hNB_1346.1) (by have h1 := hNB_1346.2; have h2 := i2_1329; omega) (hkp_1345) (lv_sub hl [0, 1] rfl) hh
                · have n_1341 : w1336 < tb := n_nle (a := tb) (b := w1336) c_1341 (by omega) (by omega)
                  refine lv_aload_n hx hb dX12_next_54 rfl (lv_at hl 0 rfl) ?_
                  refine hp_get hx hb hts ix12 hown hK hh (q := 0) rfl (hI.1 _ (by decide)) es1337 rfl 14 (by decide) (hts _ tw_893) (fun _ h9 => h9) rfl dX12_next_55 ?_
                  refine lv_if_le (tgt := 104) hx hb dX12_next_58 (by decide) (fun c_1347 => ?_) (fun c_1347 => ?_)
                  · have n_1347 : d1329 ≤ 0 := n_le (a := d1329) (b := 0) c_1347 (by omega) (by decide)
                    refine lv_aload_n hx hb dX12_next_104 rfl (lv_at hl 0 rfl) ?_
                    refine hp_get hx hb hts ix12 hown hK hh (q := 0) rfl (hI.1 _ (by decide)) es1337 rfl 11 (by decide) (hts _ tw_890) (fun _ h9 => h9) rfl dX12_next_105 ?_
                    refine lv_aload_n hx hb dX12_next_108 rfl (lv_at hl 0 rfl) ?_
                    refine hp_get hx hb hts ix12 hown hK hh (q := 0) rfl (hI.1 _ (by decide)) es1337 rfl 14 (by decide) (hts _ tw_893) (fun _ h9 => h9) rfl dX12_next_109 ?_
                    refine hp_iald hx hb hK hh (q := 7) rfl (hI.1 _ (by decide)) es1340 (vp_in_nI (n := d1329) (by omega) (by decide)) dX12_next_112 ?_
                    rw [nI_clamp (n := d1329) (by omega)]
                    rw [show f_1340 d1329 = nI w1336 from (show f_1340 d1329 = rdF (en_1336 7) d1329 from by rw [es1340]; rfl).trans i1_1336.1]
                    refine lv_aload_n hx hb dX12_next_113 rfl (lv_at hl 0 rfl) ?_
                    refine hp_get hx hb hts ix12 hown hK hh (q := 0) rfl (hI.1 _ (by decide)) es1337 rfl 4 (by decide) (hts _ tw_883) (fun _ h9 => h9) rfl dX12_next_114 ?_
                    refine lv_icmp_lt (tgt := 133) hx hb dX12_next_117 (by decide) (fun c_1348 => ?_) (fun c_1348 => ?_)
                    · have n_1348 : w1336 < tb := n_lt (a := w1336) (b := tb) c_1348 (by omega) (by omega)
                      refine lv_aload_n hx hb dX12_next_133 rfl (lv_at hl 0 rfl) ?_
                      refine lv_aload_n hx hb dX12_next_134 rfl (lv_at hl 0 rfl) ?_
                      refine hp_get hx hb hts ix12 hown hK hh (q := 0) rfl (hI.1 _ (by decide)) es1337 rfl 14 (by decide) (hts _ tw_893) (fun _ h9 => h9) rfl dX12_next_135 ?_
                      refine lv_aload_n hx hb dX12_next_138 rfl (lv_at hl 0 rfl) ?_
                      refine hp_get hx hb hts ix12 hown hK hh (q := 0) rfl (hI.1 _ (by decide)) es1337 rfl 11 (by decide) (hts _ tw_890) (fun _ h9 => h9) rfl dX12_next_139 ?_
                      refine lv_aload_n hx hb dX12_next_142 rfl (lv_at hl 0 rfl) ?_
                      refine hp_get hx hb hts ix12 hown hK hh (q := 0) rfl (hI.1 _ (by decide)) es1337 rfl 14 (by decide) (hts _ tw_893) (fun _ h9 => h9) rfl dX12_next_143 ?_
                      refine hp_iald hx hb hK hh (q := 7) rfl (hI.1 _ (by decide)) es1340 (vp_in_nI (n := d1329) (by omega) (by decide)) dX12_next_146 ?_
                      rw [nI_clamp (n := d1329) (by omega)]
                      rw [show f_1340 d1329 = nI w1336 from (show f_1340 d1329 = rdF (en_1336 7) d1329 from by rw [es1340]; rfl).trans i1_1336.1]
                      refine hp_callMv (va_runV (As := [.int (nI d1329), .int (nI w1336)]) (rest := []) ⟨hx, hb, hml, hown, hts⟩ (c_X12_goOn l D cy _ cs ad en_1336 hI_1336 d1329 w1336 (by omega) (by omega)) (kw_X12_goOn hts tw_1050 ⟨by decide, by decide⟩) (preV_of hh hK (hI.1 _ (by decide)) es1337 rfl) rfl rfl hl.1 rfl (lv_room (Nat.le_of_ble_eq_true rfl)) dX12_next_147 ⟨Nat.le_of_ble_eq_true rfl, Nat.le_of_ble_eq_true rfl⟩) hh hA (fun H locs en_1349 hw_1349 hh => ?_)
                      obtain ⟨hI_1349, hu_1349⟩ := hw_1349
                      have es1337_1349 : en_1349 0 = .inr (11, [.int fa_1337, .int hi_1337, .int (nI wd), .int (nI mo), .int (nI tb), .ref (ad 1), .ref (ad 2), .ref (ad 3), .ref (ad 4), .ref (ad 5), .ref (ad 6), .ref (ad 7), .ref (ad 8), .ref (ad 9), .int (nI d1329), .long many_1337, .long grt_1337, .long lst_1337, .long nou_1337, .ref (ad 10), .ref (ad 11), .ref (ad 12), .int rm_1337, .long rb_1337, .ref (ad 13), .int pr_1337, .ref (ad 14), .ref (ad 15), .ref (ad 16), .ref (ad 17), .int (nI wo), .ref (ad 18), .ref (ad 19)]) := (hu_1349 0 (by omega)).trans es1337
                      have es1340_1349 : en_1349 7 = .inl (cy 0, 13, .inl f_1340) := (hu_1349 7 (by omega)).trans es1340
                      have hf_1349 : ∀ c, (c ≠ 0 ∧ c ≠ 6 ∧ c ≠ 7) → en_1349 c = en c := fun c hc => (hu_1349 c (by omega)).trans (hf_1336 c hc)
                      have hkp_1349 : KP en en_1349 := KP_same i4_1336 (hu_1349 0 (by omega))
                      have hg7_1349 : ∀ i, rdF (en_1349 7) i = rdF (en_1336 7) i := fun i => by rw [hu_1349 7 (by omega)]
                      have ha_1349 : ∀ i, i < d1329 → rdF (en_1349 7) i = rdF (en_1329 7) i := fun i hi => (hg7_1349 i).trans (i2_1336 i hi)
                      have hwv_1349 : rdF (en_1349 7) d1329 = nI w1336 := (hg7_1349 d1329).trans i1_1336.1
                      refine lv_aload_n hx hb dX12_next_150 rfl (lv_at hl 0 rfl) ?_
                      refine lv_dup hx hb dX12_next_151 rfl ?_
                      refine hp_get hx hb hts ix12 hown hK hh (q := 0) rfl (hI.1 _ (by decide)) es1337_1349 rfl 14 (by decide) (hts _ tw_893) (fun _ h9 => h9) rfl dX12_next_152 ?_
                      refine lv_iconst (v := 1) hx hb dX12_next_155 (by decide) ?_
                      refine lv_iadd hx hb dX12_next_156 ?_
                      rw [show (1 : Int32) = nI 1 from rfl, nI_add d1329 1]
                      refine hp_put hx hb hts ix12 tyX12 tyX12_ok nmX12 hown hK hh (q := 0) rfl (hI.1 _ (by decide)) es1337_1349 rfl 14 (by decide) (hts _ tw_893) (fun _ h9 => h9) rfl (ty := .int) (by decide +kernel) rfl rfl (Nat.le_of_ble_eq_true rfl) dX12_next_157 (fun H locs en_1350 hen_1350 hh => ?_)
                      have es1340_1350 : en_1350 7 = .inl (cy 0, 13, .inl f_1340) := by rw [hen_1350, va_up_ne _ _ (by decide)]; exact es1340_1349
                      have es1337_1350 : en_1350 0 = .inr (11, [.int fa_1337, .int hi_1337, .int (nI wd), .int (nI mo), .int (nI tb), .ref (ad 1), .ref (ad 2), .ref (ad 3), .ref (ad 4), .ref (ad 5), .ref (ad 6), .ref (ad 7), .ref (ad 8), .ref (ad 9), .int (nI (d1329 + 1)), .long many_1337, .long grt_1337, .long lst_1337, .long nou_1337, .ref (ad 10), .ref (ad 11), .ref (ad 12), .int rm_1337, .long rb_1337, .ref (ad 13), .int pr_1337, .ref (ad 14), .ref (ad 15), .ref (ad 16), .ref (ad 17), .int (nI wo), .ref (ad 18), .ref (ad 19)]) := by rw [hen_1350]; exact va_up_self _ _ _
                      have hI_1350 : RX cy cs ad en_1350 := by rw [hen_1350]; exact upr_M hI_1349 ⟨fa_1337, hi_1337, wd, mo, tb, (nI (d1329 + 1)), many_1337, grt_1337, lst_1337, nou_1337, rm_1337, rb_1337, pr_1337, wo, rfl, hwd2, hwd3, hmo, htb, hwo⟩
                      have hf_1350 : ∀ c, (c ≠ 0 ∧ c ≠ 6 ∧ c ≠ 7) → en_1350 c = en c := fun c hc => Eq.trans (show en_1350 c = en_1349 c from by rw [hen_1350, va_up_ne _ _ (by omega)]) (hf_1349 c hc)
                      have hkp_1350 : KP en en_1350 := KP_fv hkp_1349 es1337_1349 es1337_1350 hi_1337 (nI wd) (nI mo) (nI tb) pr_1337 (nI wo) rfl rfl rfl rfl rfl rfl rfl rfl rfl rfl rfl rfl
                      have hg7_1350 : ∀ i, rdF (en_1350 7) i = rdF (en_1349 7) i := fun i => by rw [hen_1350, va_up_ne _ _ (by decide)]
                      have ha_1350 : ∀ i, i < d1329 → rdF (en_1350 7) i = rdF (en_1329 7) i := fun i hi => (hg7_1350 i).trans (ha_1349 i hi)
                      have hwv_1350 : rdF (en_1350 7) d1329 = nI w1336 := (hg7_1350 d1329).trans hwv_1349
                      refine lv_aload_n hx hb dX12_next_160 rfl (lv_at hl 0 rfl) ?_
                      refine hp_get hx hb hts ix12 hown hK hh (q := 0) rfl (hI.1 _ (by decide)) es1337_1350 rfl 14 (by decide) (hts _ tw_893) (fun _ h9 => h9) rfl dX12_next_161 ?_
                      refine lv_iload_n hx hb dX12_next_164 rfl (lv_at hl 1 rfl) ?_
                      refine lv_icmp_ne (tgt := 170) hx hb dX12_next_165 (by decide) (fun c_1351 => ?_) (fun c_1351 => ?_)
                      · have n_1351 : (d1329 + 1) ≠ n := n_neq (a := (d1329 + 1)) (b := n) c_1351 (by omega) (by omega)
                        refine lv_aload_n hx hb dX12_next_170 rfl (lv_at hl 0 rfl) ?_
                        refine hp_get hx hb hts ix12 hown hK hh (q := 0) rfl (hI.1 _ (by decide)) es1337_1350 rfl 11 (by decide) (hts _ tw_890) (fun _ h9 => h9) rfl dX12_next_171 ?_
                        refine lv_aload_n hx hb dX12_next_174 rfl (lv_at hl 0 rfl) ?_
                        refine hp_get hx hb hts ix12 hown hK hh (q := 0) rfl (hI.1 _ (by decide)) es1337_1350 rfl 14 (by decide) (hts _ tw_893) (fun _ h9 => h9) rfl dX12_next_175 ?_
                        refine lv_iconst (v := (-1)) hx hb dX12_next_178 (by decide) ?_
                        refine hp_iast hx hb hK hh (q := 7) rfl (hI.1 _ (by decide)) es1340_1350 (vp_in_nI (n := (d1329 + 1)) (by omega) (by decide)) dX12_next_179 (fun H locs en_1352 hen_1352 hh => ?_)
                        rw [nI_clamp (n := (d1329 + 1)) (by omega)] at hen_1352
                        have es1337_1352 : en_1352 0 = .inr (11, [.int fa_1337, .int hi_1337, .int (nI wd), .int (nI mo), .int (nI tb), .ref (ad 1), .ref (ad 2), .ref (ad 3), .ref (ad 4), .ref (ad 5), .ref (ad 6), .ref (ad 7), .ref (ad 8), .ref (ad 9), .int (nI (d1329 + 1)), .long many_1337, .long grt_1337, .long lst_1337, .long nou_1337, .ref (ad 10), .ref (ad 11), .ref (ad 12), .int rm_1337, .long rb_1337, .ref (ad 13), .int pr_1337, .ref (ad 14), .ref (ad 15), .ref (ad 16), .ref (ad 17), .int (nI wo), .ref (ad 18), .ref (ad 19)]) := by rw [hen_1352, va_up_ne _ _ (by decide)]; exact es1337_1350
                        have es1340_1352 : en_1352 7 = .inl (cy 0, 13, .inl (upd f_1340 (d1329 + 1) (-1))) := by rw [hen_1352]; exact va_up_self _ _ _
                        have hI_1352 : RX cy cs ad en_1352 := by rw [hen_1352]; exact upr_nw hI_1350 ⟨(upd f_1340 (d1329 + 1) (-1)), rfl⟩
                        have hf_1352 : ∀ c, (c ≠ 0 ∧ c ≠ 6 ∧ c ≠ 7) → en_1352 c = en c := fun c hc => Eq.trans (show en_1352 c = en_1350 c from by rw [hen_1352, va_up_ne _ _ (by omega)]) (hf_1350 c hc)
                        have hkp_1352 : KP en en_1352 := KP_same hkp_1350 (show en_1352 0 = en_1350 0 from by rw [hen_1352, va_up_ne _ _ (by decide)])
                        have hno_1352 : ∀ i, i ≠ (d1329 + 1) → rdF (en_1352 7) i = rdF (en_1350 7) i := fun i hi => by rw [es1340_1352, es1340_1350]; exact pk_un hi
                        have hnv_1352 : rdF (en_1352 7) (d1329 + 1) = (-1) := by rw [es1340_1352]; exact pk_us
                        have ha_1352 : ∀ i, i < d1329 → rdF (en_1352 7) i = rdF (en_1329 7) i := fun i hi => (hno_1352 i (by omega)).trans (ha_1350 i hi)
                        have hwv_1352 : rdF (en_1352 7) d1329 = nI w1336 := (hno_1352 d1329 (by omega)).trans hwv_1350
                        refine lv_goto (tgt := 18) hx hb dX12_next_180 (by decide) ?_
                        have hNB_1353 := NWp_desc i1_1329 (by omega) ha_1352 hwv_1352 (by omega) (by omega) hnv_1352
                        exact ih_1329 (mm1329 - 1) (d1329 + 1) 0 en_1352 ls H locs (by omega) hI_1352 hf_1352 (⟨by rw [es1337_1352]; rfl, by omega⟩) (hNB_1353.1) (by have h1 := hNB_1353.2; have h2 := i2_1329; omega) (hkp_1352) (lv_sub hl [0, 1] rfl) hh
                      · have n_1351 : (d1329 + 1) = n := n_eq (a := (d1329 + 1)) (b := n) c_1351 (by omega) (by omega)
                        refine lv_iconst (v := 1) hx hb dX12_next_168 (by decide) ?_
                        have hNR_1354 := NWp_ret i1_1329 ha_1350 hwv_1350 (by omega) (by omega)
                        have hdn_1354 : n - 1 = d1329 := by omega
                        exact hp_iretM hx hb hr rfl hlocks hh (⟨hI_1350, hf_1350, Or.inr ⟨rfl, w1336 + 1, ⟨by omega, Or.inr ⟨by rw [es1337_1350]; exact congrArg nI (by omega), by omega⟩, by rw [hdn_1354]; exact hNR_1354.1⟩, by omega, by have h1 := hNR_1354.2; have h2 := i2_1329.2; rw [hdn_1354]; omega⟩, hkp_1350⟩) dX12_next_169
                    · have n_1348 : tb ≤ w1336 := n_nlt (a := w1336) (b := tb) c_1348 (by omega) (by omega)
                      exact absurd n_1348 (by omega)
                  · have n_1347 : 0 < d1329 := n_nle (a := d1329) (b := 0) c_1347 (by omega) (by decide)
                    refine lv_aload_n hx hb dX12_next_61 rfl (lv_at hl 0 rfl) ?_
                    refine lv_aload_n hx hb dX12_next_62 rfl (lv_at hl 0 rfl) ?_
                    refine hp_get hx hb hts ix12 hown hK hh (q := 0) rfl (hI.1 _ (by decide)) es1337 rfl 11 (by decide) (hts _ tw_890) (fun _ h9 => h9) rfl dX12_next_63 ?_
                    refine lv_aload_n hx hb dX12_next_66 rfl (lv_at hl 0 rfl) ?_
                    refine hp_get hx hb hts ix12 hown hK hh (q := 0) rfl (hI.1 _ (by decide)) es1337 rfl 14 (by decide) (hts _ tw_893) (fun _ h9 => h9) rfl dX12_next_67 ?_
                    refine lv_iconst (v := 1) hx hb dX12_next_70 (by decide) ?_
                    refine lv_isub hx hb dX12_next_71 ?_
                    rw [show (1 : Int32) = nI 1 from rfl, pk_sub (a := d1329) (b := 1) (by omega)]
                    refine hp_iald hx hb hK hh (q := 7) rfl (hI.1 _ (by decide)) es1340 (vp_in_nI (n := (d1329 - 1)) (by omega) (by decide)) dX12_next_72 ?_
                    rw [nI_clamp (n := (d1329 - 1)) (by omega)]
                    obtain ⟨v_1355, hv_1355, hve_1355⟩ := i1_1329.1 (d1329 - 1) (by omega)
                    rw [show f_1340 (d1329 - 1) = nI v_1355 from (show f_1340 (d1329 - 1) = rdF (en_1336 7) (d1329 - 1) from by rw [es1340]; rfl).trans ((i2_1336 (d1329 - 1) (by omega)).trans hve_1355)]
                    refine lv_aload_n hx hb dX12_next_73 rfl (lv_at hl 0 rfl) ?_
                    refine hp_get hx hb hts ix12 hown hK hh (q := 0) rfl (hI.1 _ (by decide)) es1337 rfl 11 (by decide) (hts _ tw_890) (fun _ h9 => h9) rfl dX12_next_74 ?_
                    refine lv_aload_n hx hb dX12_next_77 rfl (lv_at hl 0 rfl) ?_
                    refine hp_get hx hb hts ix12 hown hK hh (q := 0) rfl (hI.1 _ (by decide)) es1337 rfl 14 (by decide) (hts _ tw_893) (fun _ h9 => h9) rfl dX12_next_78 ?_
                    refine hp_iald hx hb hK hh (q := 7) rfl (hI.1 _ (by decide)) es1340 (vp_in_nI (n := d1329) (by omega) (by decide)) dX12_next_81 ?_
                    rw [nI_clamp (n := d1329) (by omega)]
                    rw [show f_1340 d1329 = nI w1336 from (show f_1340 d1329 = rdF (en_1336 7) d1329 from by rw [es1340]; rfl).trans i1_1336.1]
                    refine hp_callRi (va_runV (As := [.int (nI v_1355), .int (nI w1336)]) (rest := []) ⟨hx, hb, hml, hown, hts⟩ (c_X12_mayFollow l D cy _ cs ad en_1336 hI_1336 v_1355 w1336 (by omega) (by omega)) (kw_X12_mayFollow hts tw_1029 ⟨by decide, by decide⟩) (preV_of hh hK (hI.1 _ (by decide)) es1337 rfl) rfl rfl hl.1 rfl (lv_room (Nat.le_of_ble_eq_true rfl)) dX12_next_82 ⟨Nat.le_of_ble_eq_true rfl, Nat.le_of_ble_eq_true rfl⟩) hh hA (fun r_1356 H locs hw_1356 hh => ?_)
                    rcases Decidable.em (rdF (en_1336 2) (6 * v_1355 + w1336) = 0) with hp_1356 | hp_1356
                    · obtain rfl : r_1356 = 1 := Eq.trans hw_1356 (if_pos hp_1356)
                      refine lv_if_ne (tgt := 104) hx hb dX12_next_85 (by decide) (fun _ => ?_) (fun c_0 => absurd c_0 (by decide))
                      refine lv_aload_n hx hb dX12_next_104 rfl (lv_at hl 0 rfl) ?_
                      refine hp_get hx hb hts ix12 hown hK hh (q := 0) rfl (hI.1 _ (by decide)) es1337 rfl 11 (by decide) (hts _ tw_890) (fun _ h9 => h9) rfl dX12_next_105 ?_
                      refine lv_aload_n hx hb dX12_next_108 rfl (lv_at hl 0 rfl) ?_
                      refine hp_get hx hb hts ix12 hown hK hh (q := 0) rfl (hI.1 _ (by decide)) es1337 rfl 14 (by decide) (hts _ tw_893) (fun _ h9 => h9) rfl dX12_next_109 ?_
                      refine hp_iald hx hb hK hh (q := 7) rfl (hI.1 _ (by decide)) es1340 (vp_in_nI (n := d1329) (by omega) (by decide)) dX12_next_112 ?_
                      rw [nI_clamp (n := d1329) (by omega)]
                      rw [show f_1340 d1329 = nI w1336 from (show f_1340 d1329 = rdF (en_1336 7) d1329 from by rw [es1340]; rfl).trans i1_1336.1]
                      refine lv_aload_n hx hb dX12_next_113 rfl (lv_at hl 0 rfl) ?_
                      refine hp_get hx hb hts ix12 hown hK hh (q := 0) rfl (hI.1 _ (by decide)) es1337 rfl 4 (by decide) (hts _ tw_883) (fun _ h9 => h9) rfl dX12_next_114 ?_
                      refine lv_icmp_lt (tgt := 133) hx hb dX12_next_117 (by decide) (fun c_1357 => ?_) (fun c_1357 => ?_)
                      · have n_1357 : w1336 < tb := n_lt (a := w1336) (b := tb) c_1357 (by omega) (by omega)
                        refine lv_aload_n hx hb dX12_next_133 rfl (lv_at hl 0 rfl) ?_
                        refine lv_aload_n hx hb dX12_next_134 rfl (lv_at hl 0 rfl) ?_
                        refine hp_get hx hb hts ix12 hown hK hh (q := 0) rfl (hI.1 _ (by decide)) es1337 rfl 14 (by decide) (hts _ tw_893) (fun _ h9 => h9) rfl dX12_next_135 ?_
                        refine lv_aload_n hx hb dX12_next_138 rfl (lv_at hl 0 rfl) ?_
                        refine hp_get hx hb hts ix12 hown hK hh (q := 0) rfl (hI.1 _ (by decide)) es1337 rfl 11 (by decide) (hts _ tw_890) (fun _ h9 => h9) rfl dX12_next_139 ?_
                        refine lv_aload_n hx hb dX12_next_142 rfl (lv_at hl 0 rfl) ?_
                        refine hp_get hx hb hts ix12 hown hK hh (q := 0) rfl (hI.1 _ (by decide)) es1337 rfl 14 (by decide) (hts _ tw_893) (fun _ h9 => h9) rfl dX12_next_143 ?_
                        refine hp_iald hx hb hK hh (q := 7) rfl (hI.1 _ (by decide)) es1340 (vp_in_nI (n := d1329) (by omega) (by decide)) dX12_next_146 ?_
                        rw [nI_clamp (n := d1329) (by omega)]
                        rw [show f_1340 d1329 = nI w1336 from (show f_1340 d1329 = rdF (en_1336 7) d1329 from by rw [es1340]; rfl).trans i1_1336.1]
                        refine hp_callMv (va_runV (As := [.int (nI d1329), .int (nI w1336)]) (rest := []) ⟨hx, hb, hml, hown, hts⟩ (c_X12_goOn l D cy _ cs ad en_1336 hI_1336 d1329 w1336 (by omega) (by omega)) (kw_X12_goOn hts tw_1050 ⟨by decide, by decide⟩) (preV_of hh hK (hI.1 _ (by decide)) es1337 rfl) rfl rfl hl.1 rfl (lv_room (Nat.le_of_ble_eq_true rfl)) dX12_next_147 ⟨Nat.le_of_ble_eq_true rfl, Nat.le_of_ble_eq_true rfl⟩) hh hA (fun H locs en_1358 hw_1358 hh => ?_)
                        obtain ⟨hI_1358, hu_1358⟩ := hw_1358
                        have es1337_1358 : en_1358 0 = .inr (11, [.int fa_1337, .int hi_1337, .int (nI wd), .int (nI mo), .int (nI tb), .ref (ad 1), .ref (ad 2), .ref (ad 3), .ref (ad 4), .ref (ad 5), .ref (ad 6), .ref (ad 7), .ref (ad 8), .ref (ad 9), .int (nI d1329), .long many_1337, .long grt_1337, .long lst_1337, .long nou_1337, .ref (ad 10), .ref (ad 11), .ref (ad 12), .int rm_1337, .long rb_1337, .ref (ad 13), .int pr_1337, .ref (ad 14), .ref (ad 15), .ref (ad 16), .ref (ad 17), .int (nI wo), .ref (ad 18), .ref (ad 19)]) := (hu_1358 0 (by omega)).trans es1337
                        have es1340_1358 : en_1358 7 = .inl (cy 0, 13, .inl f_1340) := (hu_1358 7 (by omega)).trans es1340
                        have hf_1358 : ∀ c, (c ≠ 0 ∧ c ≠ 6 ∧ c ≠ 7) → en_1358 c = en c := fun c hc => (hu_1358 c (by omega)).trans (hf_1336 c hc)
                        have hkp_1358 : KP en en_1358 := KP_same i4_1336 (hu_1358 0 (by omega))
                        have hg7_1358 : ∀ i, rdF (en_1358 7) i = rdF (en_1336 7) i := fun i => by rw [hu_1358 7 (by omega)]
                        have ha_1358 : ∀ i, i < d1329 → rdF (en_1358 7) i = rdF (en_1329 7) i := fun i hi => (hg7_1358 i).trans (i2_1336 i hi)
                        have hwv_1358 : rdF (en_1358 7) d1329 = nI w1336 := (hg7_1358 d1329).trans i1_1336.1
                        refine lv_aload_n hx hb dX12_next_150 rfl (lv_at hl 0 rfl) ?_
                        refine lv_dup hx hb dX12_next_151 rfl ?_
                        refine hp_get hx hb hts ix12 hown hK hh (q := 0) rfl (hI.1 _ (by decide)) es1337_1358 rfl 14 (by decide) (hts _ tw_893) (fun _ h9 => h9) rfl dX12_next_152 ?_
                        refine lv_iconst (v := 1) hx hb dX12_next_155 (by decide) ?_
                        refine lv_iadd hx hb dX12_next_156 ?_
                        rw [show (1 : Int32) = nI 1 from rfl, nI_add d1329 1]
                        refine hp_put hx hb hts ix12 tyX12 tyX12_ok nmX12 hown hK hh (q := 0) rfl (hI.1 _ (by decide)) es1337_1358 rfl 14 (by decide) (hts _ tw_893) (fun _ h9 => h9) rfl (ty := .int) (by decide +kernel) rfl rfl (Nat.le_of_ble_eq_true rfl) dX12_next_157 (fun H locs en_1359 hen_1359 hh => ?_)
                        have es1340_1359 : en_1359 7 = .inl (cy 0, 13, .inl f_1340) := by rw [hen_1359, va_up_ne _ _ (by decide)]; exact es1340_1358
                        have es1337_1359 : en_1359 0 = .inr (11, [.int fa_1337, .int hi_1337, .int (nI wd), .int (nI mo), .int (nI tb), .ref (ad 1), .ref (ad 2), .ref (ad 3), .ref (ad 4), .ref (ad 5), .ref (ad 6), .ref (ad 7), .ref (ad 8), .ref (ad 9), .int (nI (d1329 + 1)), .long many_1337, .long grt_1337, .long lst_1337, .long nou_1337, .ref (ad 10), .ref (ad 11), .ref (ad 12), .int rm_1337, .long rb_1337, .ref (ad 13), .int pr_1337, .ref (ad 14), .ref (ad 15), .ref (ad 16), .ref (ad 17), .int (nI wo), .ref (ad 18), .ref (ad 19)]) := by rw [hen_1359]; exact va_up_self _ _ _
                        have hI_1359 : RX cy cs ad en_1359 := by rw [hen_1359]; exact upr_M hI_1358 ⟨fa_1337, hi_1337, wd, mo, tb, (nI (d1329 + 1)), many_1337, grt_1337, lst_1337, nou_1337, rm_1337, rb_1337, pr_1337, wo, rfl, hwd2, hwd3, hmo, htb, hwo⟩
                        have hf_1359 : ∀ c, (c ≠ 0 ∧ c ≠ 6 ∧ c ≠ 7) → en_1359 c = en c := fun c hc => Eq.trans (show en_1359 c = en_1358 c from by rw [hen_1359, va_up_ne _ _ (by omega)]) (hf_1358 c hc)
                        have hkp_1359 : KP en en_1359 := KP_fv hkp_1358 es1337_1358 es1337_1359 hi_1337 (nI wd) (nI mo) (nI tb) pr_1337 (nI wo) rfl rfl rfl rfl rfl rfl rfl rfl rfl rfl rfl rfl
                        have hg7_1359 : ∀ i, rdF (en_1359 7) i = rdF (en_1358 7) i := fun i => by rw [hen_1359, va_up_ne _ _ (by decide)]
                        have ha_1359 : ∀ i, i < d1329 → rdF (en_1359 7) i = rdF (en_1329 7) i := fun i hi => (hg7_1359 i).trans (ha_1358 i hi)
                        have hwv_1359 : rdF (en_1359 7) d1329 = nI w1336 := (hg7_1359 d1329).trans hwv_1358
                        refine lv_aload_n hx hb dX12_next_160 rfl (lv_at hl 0 rfl) ?_
                        refine hp_get hx hb hts ix12 hown hK hh (q := 0) rfl (hI.1 _ (by decide)) es1337_1359 rfl 14 (by decide) (hts _ tw_893) (fun _ h9 => h9) rfl dX12_next_161 ?_
                        refine lv_iload_n hx hb dX12_next_164 rfl (lv_at hl 1 rfl) ?_
                        refine lv_icmp_ne (tgt := 170) hx hb dX12_next_165 (by decide) (fun c_1360 => ?_) (fun c_1360 => ?_)
                        · have n_1360 : (d1329 + 1) ≠ n := n_neq (a := (d1329 + 1)) (b := n) c_1360 (by omega) (by omega)
                          refine lv_aload_n hx hb dX12_next_170 rfl (lv_at hl 0 rfl) ?_
                          refine hp_get hx hb hts ix12 hown hK hh (q := 0) rfl (hI.1 _ (by decide)) es1337_1359 rfl 11 (by decide) (hts _ tw_890) (fun _ h9 => h9) rfl dX12_next_171 ?_
                          refine lv_aload_n hx hb dX12_next_174 rfl (lv_at hl 0 rfl) ?_
                          refine hp_get hx hb hts ix12 hown hK hh (q := 0) rfl (hI.1 _ (by decide)) es1337_1359 rfl 14 (by decide) (hts _ tw_893) (fun _ h9 => h9) rfl dX12_next_175 ?_
                          refine lv_iconst (v := (-1)) hx hb dX12_next_178 (by decide) ?_
                          refine hp_iast hx hb hK hh (q := 7) rfl (hI.1 _ (by decide)) es1340_1359 (vp_in_nI (n := (d1329 + 1)) (by omega) (by decide)) dX12_next_179 (fun H locs en_1361 hen_1361 hh => ?_)
                          rw [nI_clamp (n := (d1329 + 1)) (by omega)] at hen_1361
                          have es1337_1361 : en_1361 0 = .inr (11, [.int fa_1337, .int hi_1337, .int (nI wd), .int (nI mo), .int (nI tb), .ref (ad 1), .ref (ad 2), .ref (ad 3), .ref (ad 4), .ref (ad 5), .ref (ad 6), .ref (ad 7), .ref (ad 8), .ref (ad 9), .int (nI (d1329 + 1)), .long many_1337, .long grt_1337, .long lst_1337, .long nou_1337, .ref (ad 10), .ref (ad 11), .ref (ad 12), .int rm_1337, .long rb_1337, .ref (ad 13), .int pr_1337, .ref (ad 14), .ref (ad 15), .ref (ad 16), .ref (ad 17), .int (nI wo), .ref (ad 18), .ref (ad 19)]) := by rw [hen_1361, va_up_ne _ _ (by decide)]; exact es1337_1359
                          have es1340_1361 : en_1361 7 = .inl (cy 0, 13, .inl (upd f_1340 (d1329 + 1) (-1))) := by rw [hen_1361]; exact va_up_self _ _ _
                          have hI_1361 : RX cy cs ad en_1361 := by rw [hen_1361]; exact upr_nw hI_1359 ⟨(upd f_1340 (d1329 + 1) (-1)), rfl⟩
                          have hf_1361 : ∀ c, (c ≠ 0 ∧ c ≠ 6 ∧ c ≠ 7) → en_1361 c = en c := fun c hc => Eq.trans (show en_1361 c = en_1359 c from by rw [hen_1361, va_up_ne _ _ (by omega)]) (hf_1359 c hc)
                          have hkp_1361 : KP en en_1361 := KP_same hkp_1359 (show en_1361 0 = en_1359 0 from by rw [hen_1361, va_up_ne _ _ (by decide)])
                          have hno_1361 : ∀ i, i ≠ (d1329 + 1) → rdF (en_1361 7) i = rdF (en_1359 7) i := fun i hi => by rw [es1340_1361, es1340_1359]; exact pk_un hi
                          have hnv_1361 : rdF (en_1361 7) (d1329 + 1) = (-1) := by rw [es1340_1361]; exact pk_us
                          have ha_1361 : ∀ i, i < d1329 → rdF (en_1361 7) i = rdF (en_1329 7) i := fun i hi => (hno_1361 i (by omega)).trans (ha_1359 i hi)
                          have hwv_1361 : rdF (en_1361 7) d1329 = nI w1336 := (hno_1361 d1329 (by omega)).trans hwv_1359
                          refine lv_goto (tgt := 18) hx hb dX12_next_180 (by decide) ?_
                          have hNB_1362 := NWp_desc i1_1329 (by omega) ha_1361 hwv_1361 (by omega) (by omega) hnv_1361
                          exact ih_1329 (mm1329 - 1) (d1329 + 1) 0 en_1361 ls H locs (by omega) hI_1361 hf_1361 (⟨by rw [es1337_1361]; rfl, by omega⟩) (hNB_1362.1) (by have h1 := hNB_1362.2; have h2 := i2_1329; omega) (hkp_1361) (lv_sub hl [0, 1] rfl) hh
                        · have n_1360 : (d1329 + 1) = n := n_eq (a := (d1329 + 1)) (b := n) c_1360 (by omega) (by omega)
                          refine lv_iconst (v := 1) hx hb dX12_next_168 (by decide) ?_
                          have hNR_1363 := NWp_ret i1_1329 ha_1359 hwv_1359 (by omega) (by omega)
                          have hdn_1363 : n - 1 = d1329 := by omega
                          exact hp_iretM hx hb hr rfl hlocks hh (⟨hI_1359, hf_1359, Or.inr ⟨rfl, w1336 + 1, ⟨by omega, Or.inr ⟨by rw [es1337_1359]; exact congrArg nI (by omega), by omega⟩, by rw [hdn_1363]; exact hNR_1363.1⟩, by omega, by have h1 := hNR_1363.2; have h2 := i2_1329.2; rw [hdn_1363]; omega⟩, hkp_1359⟩) dX12_next_169
                      · have n_1357 : tb ≤ w1336 := n_nlt (a := w1336) (b := tb) c_1357 (by omega) (by omega)
                        exact absurd n_1357 (by omega)
                    · obtain rfl : r_1356 = 0 := Eq.trans hw_1356 (if_neg hp_1356)
                      refine lv_if_ne (tgt := 104) hx hb dX12_next_85 (by decide) (fun c_0 => absurd c_0 (by decide)) (fun _ => ?_)
                      refine lv_aload_n hx hb dX12_next_88 rfl (lv_at hl 0 rfl) ?_
                      refine hp_get hx hb hts ix12 hown hK hh (q := 0) rfl (hI.1 _ (by decide)) es1337 rfl 11 (by decide) (hts _ tw_890) (fun _ h9 => h9) rfl dX12_next_89 ?_
                      refine lv_aload_n hx hb dX12_next_92 rfl (lv_at hl 0 rfl) ?_
                      refine hp_get hx hb hts ix12 hown hK hh (q := 0) rfl (hI.1 _ (by decide)) es1337 rfl 14 (by decide) (hts _ tw_893) (fun _ h9 => h9) rfl dX12_next_93 ?_
                      refine lv_dup2_11 hx hb dX12_next_96 rfl rfl ?_
                      refine hp_iald hx hb hK hh (q := 7) rfl (hI.1 _ (by decide)) es1340 (vp_in_nI (n := d1329) (by omega) (by decide)) dX12_next_97 ?_
                      rw [nI_clamp (n := d1329) (by omega)]
                      rw [show f_1340 d1329 = nI w1336 from (show f_1340 d1329 = rdF (en_1336 7) d1329 from by rw [es1340]; rfl).trans i1_1336.1]
                      refine lv_iconst (v := 1) hx hb dX12_next_98 (by decide) ?_
                      refine lv_iadd hx hb dX12_next_99 ?_
                      rw [show (1 : Int32) = nI 1 from rfl, nI_add w1336 1]
                      refine hp_iast hx hb hK hh (q := 7) rfl (hI.1 _ (by decide)) es1340 (vp_in_nI (n := d1329) (by omega) (by decide)) dX12_next_100 (fun H locs en_1364 hen_1364 hh => ?_)
                      rw [nI_clamp (n := d1329) (by omega)] at hen_1364
                      have es1337_1364 : en_1364 0 = .inr (11, [.int fa_1337, .int hi_1337, .int (nI wd), .int (nI mo), .int (nI tb), .ref (ad 1), .ref (ad 2), .ref (ad 3), .ref (ad 4), .ref (ad 5), .ref (ad 6), .ref (ad 7), .ref (ad 8), .ref (ad 9), .int (nI d1329), .long many_1337, .long grt_1337, .long lst_1337, .long nou_1337, .ref (ad 10), .ref (ad 11), .ref (ad 12), .int rm_1337, .long rb_1337, .ref (ad 13), .int pr_1337, .ref (ad 14), .ref (ad 15), .ref (ad 16), .ref (ad 17), .int (nI wo), .ref (ad 18), .ref (ad 19)]) := by rw [hen_1364, va_up_ne _ _ (by decide)]; exact es1337
                      have es1340_1364 : en_1364 7 = .inl (cy 0, 13, .inl (upd f_1340 d1329 (nI (w1336 + 1)))) := by rw [hen_1364]; exact va_up_self _ _ _
                      have hI_1364 : RX cy cs ad en_1364 := by rw [hen_1364]; exact upr_nw hI_1336 ⟨(upd f_1340 d1329 (nI (w1336 + 1))), rfl⟩
                      have hf_1364 : ∀ c, (c ≠ 0 ∧ c ≠ 6 ∧ c ≠ 7) → en_1364 c = en c := fun c hc => Eq.trans (show en_1364 c = en_1336 c from by rw [hen_1364, va_up_ne _ _ (by omega)]) (hf_1336 c hc)
                      have hkp_1364 : KP en en_1364 := KP_same i4_1336 (show en_1364 0 = en_1336 0 from by rw [hen_1364, va_up_ne _ _ (by decide)])
                      have hno_1364 : ∀ i, i ≠ d1329 → rdF (en_1364 7) i = rdF (en_1336 7) i := fun i hi => by rw [es1340_1364, es1340]; exact pk_un hi
                      have hnv_1364 : rdF (en_1364 7) d1329 = (nI (w1336 + 1)) := by rw [es1340_1364]; exact pk_us
                      refine lv_goto (tgt := 38) hx hb dX12_next_101 (by decide) ?_
                      exact ih_1336 (mm1336 - 1) (w1336 + 1) en_1364 ls H locs (by omega) hI_1364 hf_1364 (by rw [es1337_1364]; rfl) (⟨hnv_1364, by omega, by omega⟩) (fun i hi => (hno_1364 i (by omega)).trans (i2_1336 i hi)) (by omega) (hkp_1364) (lv_sub hl [0, 1] rfl) hh
            exact loop_1336 (7 + 1) 7 u1329 en_1335 ls _ _ (by omega) hI_1335 hf_1335 (by rw [es1330_1335]; rfl) (⟨hnv_1335, by omega, i1_1329.2.2⟩) (fun i hi => hno_1335 i (by omega)) (by omega) (hkp_1335) (lv_sub hl [0, 1] rfl) hh
      exact loop_1329 (134217728 + 1) 134217728 d u en ls _ _ (by omega) hI hf0 (⟨by rw [es1327]; exact congrArg nI (by omega), by omega⟩) (hd3) (⟨by omega, Nat.le_of_eq rfl⟩) ((KP_rf en)) (lv_sub hl [0, 1] rfl) hh
    · have n_1328 : d = n := n_eq (a := d) (b := n) c_1328 (by omega) (by omega)
      exact absurd n_1328 (by omega)
  · have hdp : dp = nI n := (show dp = rdI (en 0) 14 from by rw [es1327]; rfl).trans hd2
    rw [hdp] at es1327
    refine lv_aload_n hx hb dX12_next_0 rfl (lv_at hl 0 rfl) ?_
    refine hp_get hx hb hts ix12 hown hK hh (q := 0) rfl (hI.1 _ (by decide)) es1327 rfl 14 (by decide) (hts _ tw_893) (fun _ h9 => h9) rfl dX12_next_1 ?_
    refine lv_iload_n hx hb dX12_next_4 rfl (lv_at hl 1 rfl) ?_
    refine lv_icmp_ne (tgt := 18) hx hb dX12_next_5 (by decide) (fun c_1365 => ?_) (fun c_1365 => ?_)
    · have n_1365 : n ≠ n := n_neq (a := n) (b := n) c_1365 (by omega) (by omega)
      exact absurd n_1365 (by omega)
    · have n_1365 : n = n := n_eq (a := n) (b := n) c_1365 (by omega) (by omega)
      refine lv_aload_n hx hb dX12_next_8 rfl (lv_at hl 0 rfl) ?_
      refine lv_dup hx hb dX12_next_9 rfl ?_
      refine hp_get hx hb hts ix12 hown hK hh (q := 0) rfl (hI.1 _ (by decide)) es1327 rfl 14 (by decide) (hts _ tw_893) (fun _ h9 => h9) rfl dX12_next_10 ?_
      refine lv_iconst (v := 1) hx hb dX12_next_13 (by decide) ?_
      refine lv_isub hx hb dX12_next_14 ?_
      rw [show (1 : Int32) = nI 1 from rfl, pk_sub (a := n) (b := 1) (by omega)]
      refine hp_put hx hb hts ix12 tyX12 tyX12_ok nmX12 hown hK hh (q := 0) rfl (hI.1 _ (by decide)) es1327 rfl 14 (by decide) (hts _ tw_893) (fun _ h9 => h9) rfl (ty := .int) (by decide +kernel) rfl rfl (Nat.le_of_ble_eq_true rfl) dX12_next_15 (fun H locs en_1366 hen_1366 hh => ?_)
      obtain ⟨f_1367, es1367⟩ := getr_nw hI
      have es1367_1366 : en_1366 7 = .inl (cy 0, 13, .inl f_1367) := by rw [hen_1366, va_up_ne _ _ (by decide)]; exact es1367
      have es1327_1366 : en_1366 0 = .inr (11, [.int fa, .int hi, .int (nI wd), .int (nI mo), .int (nI tb), .ref (ad 1), .ref (ad 2), .ref (ad 3), .ref (ad 4), .ref (ad 5), .ref (ad 6), .ref (ad 7), .ref (ad 8), .ref (ad 9), .int (nI (n - 1)), .long many, .long grt, .long lst, .long nou, .ref (ad 10), .ref (ad 11), .ref (ad 12), .int rm, .long rb, .ref (ad 13), .int pr, .ref (ad 14), .ref (ad 15), .ref (ad 16), .ref (ad 17), .int (nI wo), .ref (ad 18), .ref (ad 19)]) := by rw [hen_1366]; exact va_up_self _ _ _
      have hI_1366 : RX cy cs ad en_1366 := by rw [hen_1366]; exact upr_M hI ⟨fa, hi, wd, mo, tb, (nI (n - 1)), many, grt, lst, nou, rm, rb, pr, wo, rfl, hwd2, hwd3, hmo, htb, hwo⟩
      have hf_1366 : ∀ c, (c ≠ 0 ∧ c ≠ 6 ∧ c ≠ 7) → en_1366 c = en c := fun c hc => Eq.trans (show en_1366 c = en c from by rw [hen_1366, va_up_ne _ _ (by omega)]) (hf0 c hc)
      have hkp_1366 : KP en en_1366 := KP_fv (KP_rf en) es1327 es1327_1366 hi (nI wd) (nI mo) (nI tb) pr (nI wo) rfl rfl rfl rfl rfl rfl rfl rfl rfl rfl rfl rfl
      have loop_1368 : ∀ (fu mm1368 : Nat)  (d1368 : Nat) (u1368 : Nat) (en_1368 : Nat → va_E) (ls : Array Slot) (H : Heap) (locs : List Loc), mm1368 < fu → RX cy cs ad en_1368 → (∀ c, (c ≠ 0 ∧ c ≠ 6 ∧ c ≠ 7) → en_1368 c = en c) → (rdI (en_1368 0) 14 = nI d1368 ∧ d1368 < n) → (NWp (rdF (en_1368 7)) d1368 u1368) → (134217728 ≤ nmv (rdF (en_1368 7)) d1368 u1368 + mm1368 ∧ nmv (rdF (en 7)) d u ≤ nmv (rdF (en_1368 7)) d1368 u1368) → (KP en en_1368) → lv_has ls 2 [(0, .ref (ad 0)), (1, .int (nI n))] → Hp D (Af cs ad sz) (Af cs ad sz) s.heap H locs cs ad en_1368 → W p l e (headSpec (Cond.code yX12_next cX12_next 2 (some .boolean) :: TB) (rmN 2)).room s m ([.ref (ad 0), .int (nI n)] : List Value).toArray below meth c H locs 0 0 (MQ below (va_Qi (S := Nat → va_E) (fun r en1 => RX cy cs ad en1 ∧ (∀ c, (c ≠ 0 ∧ c ≠ 6 ∧ c ≠ 7) → en1 c = en c) ∧ (r = 0 ∨ (r = 1 ∧ ∃ u1, ND en1 n (n - 1) u1 ∧ 1 ≤ u1 ∧ nmv (rdF (en 7)) d u < nmv (rdF (en1 7)) (n - 1) u1)) ∧ KP en en1) (PostM D cs ad) (Af cs ad sz)) ([.ref (ad 0), .int (nI n)] : List Value).toArray s 0 0 (Af cs ad sz)) (F0 m 18 ls []) := by
        intro fu
        induction fu with
        | zero => intro mm1368 d1368 u1368 en_1368 ls H locs h2; exact absurd h2 (by omega)
        | succ fu ih_1368 =>
          intro mm1368 d1368 u1368 en_1368 ls H locs hmm_1368 hI_1368 hf_1368 i0_1368 i1_1368 i2_1368 i3_1368 hl hh
          have hlt_1368 := nmv_lt i1_1368 (by omega)
          refine lv_aload_n hx hb dX12_next_18 rfl (lv_at hl 0 rfl) ?_
          obtain ⟨fa_1369, hi_1369, wd_1369, mo_1369, tb_1369, dp_1369, many_1369, grt_1369, lst_1369, nou_1369, rm_1369, rb_1369, pr_1369, wo_1369, es1369, p0_1369, p1_1369, p2_1369, p3_1369, p4_1369⟩ := getr_M hI_1368
          have hq2_1370 : wd_1369 = wd := n_eq ((show nI wd_1369 = rdI (en_1368 0) 2 from by rw [es1369]; rfl).trans (i3_1368.2.1.trans (show rdI (en 0) 2 = nI wd from by rw [es1327]; rfl))) (by omega) (by omega)
          have hq3_1370 : mo_1369 = mo := n_eq ((show nI mo_1369 = rdI (en_1368 0) 3 from by rw [es1369]; rfl).trans (i3_1368.2.2.1.trans (show rdI (en 0) 3 = nI mo from by rw [es1327]; rfl))) (by omega) (by omega)
          have hq4_1370 : tb_1369 = tb := n_eq ((show nI tb_1369 = rdI (en_1368 0) 4 from by rw [es1369]; rfl).trans (i3_1368.2.2.2.1.trans (show rdI (en 0) 4 = nI tb from by rw [es1327]; rfl))) (by omega) (by omega)
          have hq30_1370 : wo_1369 = wo := n_eq ((show nI wo_1369 = rdI (en_1368 0) 30 from by rw [es1369]; rfl).trans (i3_1368.2.2.2.2.2.trans (show rdI (en 0) 30 = nI wo from by rw [es1327]; rfl))) (by omega) (by omega)
          rw [hq2_1370, hq3_1370, hq4_1370, hq30_1370] at es1369
          have hdp_1371 : dp_1369 = nI d1368 := (show dp_1369 = rdI (en_1368 0) 14 from by rw [es1369]; rfl).trans (i0_1368.1)
          rw [hdp_1371] at es1369
          refine hp_get hx hb hts ix12 hown hK hh (q := 0) rfl (hI.1 _ (by decide)) es1369 rfl 14 (by decide) (hts _ tw_893) (fun _ h9 => h9) rfl dX12_next_19 ?_
          refine lv_if_lt (tgt := 183) hx hb dX12_next_22 (by decide) (fun c_1372 => ?_) (fun c_1372 => ?_)
          · have n_1372 : d1368 < 0 := n_lt (a := d1368) (b := 0) c_1372 (by omega) (by decide)
            exact absurd n_1372 (by omega)
          · have n_1372 : 0 ≤ d1368 := n_nlt (a := d1368) (b := 0) c_1372 (by omega) (by decide)
            refine lv_aload_n hx hb dX12_next_25 rfl (lv_at hl 0 rfl) ?_
            refine hp_get hx hb hts ix12 hown hK hh (q := 0) rfl (hI.1 _ (by decide)) es1369 rfl 11 (by decide) (hts _ tw_890) (fun _ h9 => h9) rfl dX12_next_26 ?_
            refine lv_aload_n hx hb dX12_next_29 rfl (lv_at hl 0 rfl) ?_
            refine hp_get hx hb hts ix12 hown hK hh (q := 0) rfl (hI.1 _ (by decide)) es1369 rfl 14 (by decide) (hts _ tw_893) (fun _ h9 => h9) rfl dX12_next_30 ?_
            refine lv_dup2_11 hx hb dX12_next_33 rfl rfl ?_
            obtain ⟨f_1373, es1373⟩ := getr_nw hI_1368
            refine hp_iald hx hb hK hh (q := 7) rfl (hI.1 _ (by decide)) es1373 (vp_in_nI (n := d1368) (by omega) (by decide)) dX12_next_34 ?_
            rw [nI_clamp (n := d1368) (by omega)]
            refine lv_iconst (v := 1) hx hb dX12_next_35 (by decide) ?_
            refine lv_iadd hx hb dX12_next_36 ?_
            rw [show f_1373 d1368 + 1 = nI u1368 from (show f_1373 d1368 + 1 = rdF (en_1368 7) d1368 + 1 from by rw [es1373]; rfl).trans i1_1368.2.1]
            refine hp_iast hx hb hK hh (q := 7) rfl (hI.1 _ (by decide)) es1373 (vp_in_nI (n := d1368) (by omega) (by decide)) dX12_next_37 (fun H locs en_1374 hen_1374 hh => ?_)
            rw [nI_clamp (n := d1368) (by omega)] at hen_1374
            have es1369_1374 : en_1374 0 = .inr (11, [.int fa_1369, .int hi_1369, .int (nI wd), .int (nI mo), .int (nI tb), .ref (ad 1), .ref (ad 2), .ref (ad 3), .ref (ad 4), .ref (ad 5), .ref (ad 6), .ref (ad 7), .ref (ad 8), .ref (ad 9), .int (nI d1368), .long many_1369, .long grt_1369, .long lst_1369, .long nou_1369, .ref (ad 10), .ref (ad 11), .ref (ad 12), .int rm_1369, .long rb_1369, .ref (ad 13), .int pr_1369, .ref (ad 14), .ref (ad 15), .ref (ad 16), .ref (ad 17), .int (nI wo), .ref (ad 18), .ref (ad 19)]) := by rw [hen_1374, va_up_ne _ _ (by decide)]; exact es1369
            have es1373_1374 : en_1374 7 = .inl (cy 0, 13, .inl (upd f_1373 d1368 (nI u1368))) := by rw [hen_1374]; exact va_up_self _ _ _
            have hI_1374 : RX cy cs ad en_1374 := by rw [hen_1374]; exact upr_nw hI_1368 ⟨(upd f_1373 d1368 (nI u1368)), rfl⟩
            have hf_1374 : ∀ c, (c ≠ 0 ∧ c ≠ 6 ∧ c ≠ 7) → en_1374 c = en c := fun c hc => Eq.trans (show en_1374 c = en_1368 c from by rw [hen_1374, va_up_ne _ _ (by omega)]) (hf_1368 c hc)
            have hkp_1374 : KP en en_1374 := KP_same i3_1368 (show en_1374 0 = en_1368 0 from by rw [hen_1374, va_up_ne _ _ (by decide)])
            have hno_1374 : ∀ i, i ≠ d1368 → rdF (en_1374 7) i = rdF (en_1368 7) i := fun i hi => by rw [es1373_1374, es1373]; exact pk_un hi
            have hnv_1374 : rdF (en_1374 7) d1368 = (nI u1368) := by rw [es1373_1374]; exact pk_us
            have loop_1375 : ∀ (fu mm1375 : Nat)  (w1375 : Nat) (en_1375 : Nat → va_E) (ls : Array Slot) (H : Heap) (locs : List Loc), mm1375 < fu → RX cy cs ad en_1375 → (∀ c, (c ≠ 0 ∧ c ≠ 6 ∧ c ≠ 7) → en_1375 c = en c) → (rdI (en_1375 0) 14 = nI d1368) → (rdF (en_1375 7) d1368 = nI w1375 ∧ u1368 ≤ w1375 ∧ w1375 ≤ 6) → (∀ i, i < d1368 → rdF (en_1375 7) i = rdF (en_1368 7) i) → (7 ≤ w1375 + mm1375) → (KP en en_1375) → lv_has ls 2 [(0, .ref (ad 0)), (1, .int (nI n))] → Hp D (Af cs ad sz) (Af cs ad sz) s.heap H locs cs ad en_1375 → W p l e (headSpec (Cond.code yX12_next cX12_next 2 (some .boolean) :: TB) (rmN 2)).room s m ([.ref (ad 0), .int (nI n)] : List Value).toArray below meth c H locs 0 0 (MQ below (va_Qi (S := Nat → va_E) (fun r en1 => RX cy cs ad en1 ∧ (∀ c, (c ≠ 0 ∧ c ≠ 6 ∧ c ≠ 7) → en1 c = en c) ∧ (r = 0 ∨ (r = 1 ∧ ∃ u1, ND en1 n (n - 1) u1 ∧ 1 ≤ u1 ∧ nmv (rdF (en 7)) d u < nmv (rdF (en1 7)) (n - 1) u1)) ∧ KP en en1) (PostM D cs ad) (Af cs ad sz)) ([.ref (ad 0), .int (nI n)] : List Value).toArray s 0 0 (Af cs ad sz)) (F0 m 38 ls []) := by
              intro fu
              induction fu with
              | zero => intro mm1375 w1375 en_1375 ls H locs h2; exact absurd h2 (by omega)
              | succ fu ih_1375 =>
                intro mm1375 w1375 en_1375 ls H locs hmm_1375 hI_1375 hf_1375 i0_1375 i1_1375 i2_1375 i3_1375 i4_1375 hl hh
                refine lv_aload_n hx hb dX12_next_38 rfl (lv_at hl 0 rfl) ?_
                obtain ⟨fa_1376, hi_1376, wd_1376, mo_1376, tb_1376, dp_1376, many_1376, grt_1376, lst_1376, nou_1376, rm_1376, rb_1376, pr_1376, wo_1376, es1376, p0_1376, p1_1376, p2_1376, p3_1376, p4_1376⟩ := getr_M hI_1375
                have hq2_1377 : wd_1376 = wd := n_eq ((show nI wd_1376 = rdI (en_1375 0) 2 from by rw [es1376]; rfl).trans (i4_1375.2.1.trans (show rdI (en 0) 2 = nI wd from by rw [es1327]; rfl))) (by omega) (by omega)
                have hq3_1377 : mo_1376 = mo := n_eq ((show nI mo_1376 = rdI (en_1375 0) 3 from by rw [es1376]; rfl).trans (i4_1375.2.2.1.trans (show rdI (en 0) 3 = nI mo from by rw [es1327]; rfl))) (by omega) (by omega)
                have hq4_1377 : tb_1376 = tb := n_eq ((show nI tb_1376 = rdI (en_1375 0) 4 from by rw [es1376]; rfl).trans (i4_1375.2.2.2.1.trans (show rdI (en 0) 4 = nI tb from by rw [es1327]; rfl))) (by omega) (by omega)
                have hq30_1377 : wo_1376 = wo := n_eq ((show nI wo_1376 = rdI (en_1375 0) 30 from by rw [es1376]; rfl).trans (i4_1375.2.2.2.2.2.trans (show rdI (en 0) 30 = nI wo from by rw [es1327]; rfl))) (by omega) (by omega)
                rw [hq2_1377, hq3_1377, hq4_1377, hq30_1377] at es1376
                have hdp_1378 : dp_1376 = nI d1368 := (show dp_1376 = rdI (en_1375 0) 14 from by rw [es1376]; rfl).trans (i0_1375)
                rw [hdp_1378] at es1376
                refine hp_get hx hb hts ix12 hown hK hh (q := 0) rfl (hI.1 _ (by decide)) es1376 rfl 11 (by decide) (hts _ tw_890) (fun _ h9 => h9) rfl dX12_next_39 ?_
                refine lv_aload_n hx hb dX12_next_42 rfl (lv_at hl 0 rfl) ?_
                refine hp_get hx hb hts ix12 hown hK hh (q := 0) rfl (hI.1 _ (by decide)) es1376 rfl 14 (by decide) (hts _ tw_893) (fun _ h9 => h9) rfl dX12_next_43 ?_
                obtain ⟨f_1379, es1379⟩ := getr_nw hI_1375
                refine hp_iald hx hb hK hh (q := 7) rfl (hI.1 _ (by decide)) es1379 (vp_in_nI (n := d1368) (by omega) (by decide)) dX12_next_46 ?_
                rw [nI_clamp (n := d1368) (by omega)]
                rw [show f_1379 d1368 = nI w1375 from (show f_1379 d1368 = rdF (en_1375 7) d1368 from by rw [es1379]; rfl).trans i1_1375.1]
                refine lv_aload_n hx hb dX12_next_47 rfl (lv_at hl 0 rfl) ?_
                refine hp_get hx hb hts ix12 hown hK hh (q := 0) rfl (hI.1 _ (by decide)) es1376 rfl 4 (by decide) (hts _ tw_883) (fun _ h9 => h9) rfl dX12_next_48 ?_
                refine lv_icmp_ge (tgt := 104) hx hb dX12_next_51 (by decide) (fun c_1380 => ?_) (fun c_1380 => ?_)
                · have n_1380 : tb ≤ w1375 := n_le (a := tb) (b := w1375) c_1380 (by omega) (by omega)
                  refine lv_aload_n hx hb dX12_next_104 rfl (lv_at hl 0 rfl) ?_
                  refine hp_get hx hb hts ix12 hown hK hh (q := 0) rfl (hI.1 _ (by decide)) es1376 rfl 11 (by decide) (hts _ tw_890) (fun _ h9 => h9) rfl dX12_next_105 ?_
                  refine lv_aload_n hx hb dX12_next_108 rfl (lv_at hl 0 rfl) ?_
                  refine hp_get hx hb hts ix12 hown hK hh (q := 0) rfl (hI.1 _ (by decide)) es1376 rfl 14 (by decide) (hts _ tw_893) (fun _ h9 => h9) rfl dX12_next_109 ?_
                  refine hp_iald hx hb hK hh (q := 7) rfl (hI.1 _ (by decide)) es1379 (vp_in_nI (n := d1368) (by omega) (by decide)) dX12_next_112 ?_
                  rw [nI_clamp (n := d1368) (by omega)]
                  rw [show f_1379 d1368 = nI w1375 from (show f_1379 d1368 = rdF (en_1375 7) d1368 from by rw [es1379]; rfl).trans i1_1375.1]
                  refine lv_aload_n hx hb dX12_next_113 rfl (lv_at hl 0 rfl) ?_
                  refine hp_get hx hb hts ix12 hown hK hh (q := 0) rfl (hI.1 _ (by decide)) es1376 rfl 4 (by decide) (hts _ tw_883) (fun _ h9 => h9) rfl dX12_next_114 ?_
                  refine lv_icmp_lt (tgt := 133) hx hb dX12_next_117 (by decide) (fun c_1381 => ?_) (fun c_1381 => ?_)
                  · have n_1381 : w1375 < tb := n_lt (a := w1375) (b := tb) c_1381 (by omega) (by omega)
                    exact absurd n_1381 (by omega)
                  · have n_1381 : tb ≤ w1375 := n_nlt (a := w1375) (b := tb) c_1381 (by omega) (by omega)
                    rcases Nat.eq_zero_or_pos d1368 with hz9 | hz9
                    · have hz8 := hz9
                      refine lv_aload_n hx hb dX12_next_120 rfl (lv_at hl 0 rfl) ?_
                      refine lv_dup hx hb dX12_next_121 rfl ?_
                      refine hp_get hx hb hts ix12 hown hK hh (q := 0) rfl (hI.1 _ (by decide)) es1376 rfl 14 (by decide) (hts _ tw_893) (fun _ h9 => h9) rfl dX12_next_122 ?_
                      refine lv_iconst (v := 1) hx hb dX12_next_125 (by decide) ?_
                      refine lv_isub hx hb dX12_next_126 ?_
                      rw [show nI d1368 - (1 : Int32) = -1 from by rw [hz9]; decide]
                      refine hp_put hx hb hts ix12 tyX12 tyX12_ok nmX12 hown hK hh (q := 0) rfl (hI.1 _ (by decide)) es1376 rfl 14 (by decide) (hts _ tw_893) (fun _ h9 => h9) rfl (ty := .int) (by decide +kernel) rfl rfl (Nat.le_of_ble_eq_true rfl) dX12_next_127 (fun H locs en_1382 hen_1382 hh => ?_)
                      have es1379_1382 : en_1382 7 = .inl (cy 0, 13, .inl f_1379) := by rw [hen_1382, va_up_ne _ _ (by decide)]; exact es1379
                      have es1376_1382 : en_1382 0 = .inr (11, [.int fa_1376, .int hi_1376, .int (nI wd), .int (nI mo), .int (nI tb), .ref (ad 1), .ref (ad 2), .ref (ad 3), .ref (ad 4), .ref (ad 5), .ref (ad 6), .ref (ad 7), .ref (ad 8), .ref (ad 9), .int (-1), .long many_1376, .long grt_1376, .long lst_1376, .long nou_1376, .ref (ad 10), .ref (ad 11), .ref (ad 12), .int rm_1376, .long rb_1376, .ref (ad 13), .int pr_1376, .ref (ad 14), .ref (ad 15), .ref (ad 16), .ref (ad 17), .int (nI wo), .ref (ad 18), .ref (ad 19)]) := by rw [hen_1382]; exact va_up_self _ _ _
                      have hI_1382 : RX cy cs ad en_1382 := by rw [hen_1382]; exact upr_M hI_1375 ⟨fa_1376, hi_1376, wd, mo, tb, (-1), many_1376, grt_1376, lst_1376, nou_1376, rm_1376, rb_1376, pr_1376, wo, rfl, hwd2, hwd3, hmo, htb, hwo⟩
                      have hf_1382 : ∀ c, (c ≠ 0 ∧ c ≠ 6 ∧ c ≠ 7) → en_1382 c = en c := fun c hc => Eq.trans (show en_1382 c = en_1375 c from by rw [hen_1382, va_up_ne _ _ (by omega)]) (hf_1375 c hc)
                      have hkp_1382 : KP en en_1382 := KP_fv i4_1375 es1376 es1376_1382 hi_1376 (nI wd) (nI mo) (nI tb) pr_1376 (nI wo) rfl rfl rfl rfl rfl rfl rfl rfl rfl rfl rfl rfl
                      have hg7_1382 : ∀ i, rdF (en_1382 7) i = rdF (en_1375 7) i := fun i => by rw [hen_1382, va_up_ne _ _ (by decide)]
                      have ha_1382 : ∀ i, i < d1368 → rdF (en_1382 7) i = rdF (en_1368 7) i := fun i hi => (hg7_1382 i).trans (i2_1375 i hi)
                      have hwv_1382 : rdF (en_1382 7) d1368 = nI w1375 := (hg7_1382 d1368).trans i1_1375.1
                      refine lv_goto (tgt := 18) hx hb dX12_next_130 (by decide) ?_
                      refine lv_aload_n hx hb dX12_next_18 rfl (lv_at hl 0 rfl) ?_
                      refine hp_get hx hb hts ix12 hown hK hh (q := 0) rfl (hI.1 _ (by decide)) es1376_1382 rfl 14 (by decide) (hts _ tw_893) (fun _ h9 => h9) rfl dX12_next_19 ?_
                      refine lv_if_lt (tgt := 183) hx hb dX12_next_22 (by decide) (fun _ => ?_) (fun c_0 => absurd c_0 (by decide))
                      refine lv_iconst (v := 0) hx hb dX12_next_183 (by decide) ?_
                      exact hp_iretM hx hb hr rfl hlocks hh (⟨hI_1382, hf_1382, Or.inl rfl, hkp_1382⟩) dX12_next_184
                    · obtain ⟨v_1383, hv_1383, hve_1383⟩ := i1_1368.1 (d1368 - 1) (by omega)
                      refine lv_aload_n hx hb dX12_next_120 rfl (lv_at hl 0 rfl) ?_
                      refine lv_dup hx hb dX12_next_121 rfl ?_
                      refine hp_get hx hb hts ix12 hown hK hh (q := 0) rfl (hI.1 _ (by decide)) es1376 rfl 14 (by decide) (hts _ tw_893) (fun _ h9 => h9) rfl dX12_next_122 ?_
                      refine lv_iconst (v := 1) hx hb dX12_next_125 (by decide) ?_
                      refine lv_isub hx hb dX12_next_126 ?_
                      rw [show (1 : Int32) = nI 1 from rfl, pk_sub (a := d1368) (b := 1) (by omega)]
                      refine hp_put hx hb hts ix12 tyX12 tyX12_ok nmX12 hown hK hh (q := 0) rfl (hI.1 _ (by decide)) es1376 rfl 14 (by decide) (hts _ tw_893) (fun _ h9 => h9) rfl (ty := .int) (by decide +kernel) rfl rfl (Nat.le_of_ble_eq_true rfl) dX12_next_127 (fun H locs en_1384 hen_1384 hh => ?_)
                      have es1379_1384 : en_1384 7 = .inl (cy 0, 13, .inl f_1379) := by rw [hen_1384, va_up_ne _ _ (by decide)]; exact es1379
                      have es1376_1384 : en_1384 0 = .inr (11, [.int fa_1376, .int hi_1376, .int (nI wd), .int (nI mo), .int (nI tb), .ref (ad 1), .ref (ad 2), .ref (ad 3), .ref (ad 4), .ref (ad 5), .ref (ad 6), .ref (ad 7), .ref (ad 8), .ref (ad 9), .int (nI (d1368 - 1)), .long many_1376, .long grt_1376, .long lst_1376, .long nou_1376, .ref (ad 10), .ref (ad 11), .ref (ad 12), .int rm_1376, .long rb_1376, .ref (ad 13), .int pr_1376, .ref (ad 14), .ref (ad 15), .ref (ad 16), .ref (ad 17), .int (nI wo), .ref (ad 18), .ref (ad 19)]) := by rw [hen_1384]; exact va_up_self _ _ _
                      have hI_1384 : RX cy cs ad en_1384 := by rw [hen_1384]; exact upr_M hI_1375 ⟨fa_1376, hi_1376, wd, mo, tb, (nI (d1368 - 1)), many_1376, grt_1376, lst_1376, nou_1376, rm_1376, rb_1376, pr_1376, wo, rfl, hwd2, hwd3, hmo, htb, hwo⟩
                      have hf_1384 : ∀ c, (c ≠ 0 ∧ c ≠ 6 ∧ c ≠ 7) → en_1384 c = en c := fun c hc => Eq.trans (show en_1384 c = en_1375 c from by rw [hen_1384, va_up_ne _ _ (by omega)]) (hf_1375 c hc)
                      have hkp_1384 : KP en en_1384 := KP_fv i4_1375 es1376 es1376_1384 hi_1376 (nI wd) (nI mo) (nI tb) pr_1376 (nI wo) rfl rfl rfl rfl rfl rfl rfl rfl rfl rfl rfl rfl
                      have hg7_1384 : ∀ i, rdF (en_1384 7) i = rdF (en_1375 7) i := fun i => by rw [hen_1384, va_up_ne _ _ (by decide)]
                      have ha_1384 : ∀ i, i < d1368 → rdF (en_1384 7) i = rdF (en_1368 7) i := fun i hi => (hg7_1384 i).trans (i2_1375 i hi)
                      have hwv_1384 : rdF (en_1384 7) d1368 = nI w1375 := (hg7_1384 d1368).trans i1_1375.1
                      refine lv_goto (tgt := 18) hx hb dX12_next_130 (by decide) ?_
                      have hNB_1385 := NWp_back i1_1368 (by omega) (by omega) ha_1384 hv_1383 hve_1383
                      exact ih_1368 (mm1368 - 1) (d1368 - 1) (v_1383 + 1) en_1384 ls H locs (by omega) hI_1384 hf_1384 (⟨by rw [es1376_1384]; rfl, by omega⟩) (hNB_1385.1) (by have h1 := hNB_1385.2; have h2 := i2_1368; omega) (hkp_1384) (lv_sub hl [0, 1] rfl) hh
                · have n_1380 : w1375 < tb := n_nle (a := tb) (b := w1375) c_1380 (by omega) (by omega)
                  refine lv_aload_n hx hb dX12_next_54 rfl (lv_at hl 0 rfl) ?_
                  refine hp_get hx hb hts ix12 hown hK hh (q := 0) rfl (hI.1 _ (by decide)) es1376 rfl 14 (by decide) (hts _ tw_893) (fun _ h9 => h9) rfl dX12_next_55 ?_
                  refine lv_if_le (tgt := 104) hx hb dX12_next_58 (by decide) (fun c_1386 => ?_) (fun c_1386 => ?_)
                  · have n_1386 : d1368 ≤ 0 := n_le (a := d1368) (b := 0) c_1386 (by omega) (by decide)
                    refine lv_aload_n hx hb dX12_next_104 rfl (lv_at hl 0 rfl) ?_
                    refine hp_get hx hb hts ix12 hown hK hh (q := 0) rfl (hI.1 _ (by decide)) es1376 rfl 11 (by decide) (hts _ tw_890) (fun _ h9 => h9) rfl dX12_next_105 ?_
                    refine lv_aload_n hx hb dX12_next_108 rfl (lv_at hl 0 rfl) ?_
                    refine hp_get hx hb hts ix12 hown hK hh (q := 0) rfl (hI.1 _ (by decide)) es1376 rfl 14 (by decide) (hts _ tw_893) (fun _ h9 => h9) rfl dX12_next_109 ?_
                    refine hp_iald hx hb hK hh (q := 7) rfl (hI.1 _ (by decide)) es1379 (vp_in_nI (n := d1368) (by omega) (by decide)) dX12_next_112 ?_
                    rw [nI_clamp (n := d1368) (by omega)]
                    rw [show f_1379 d1368 = nI w1375 from (show f_1379 d1368 = rdF (en_1375 7) d1368 from by rw [es1379]; rfl).trans i1_1375.1]
                    refine lv_aload_n hx hb dX12_next_113 rfl (lv_at hl 0 rfl) ?_
                    refine hp_get hx hb hts ix12 hown hK hh (q := 0) rfl (hI.1 _ (by decide)) es1376 rfl 4 (by decide) (hts _ tw_883) (fun _ h9 => h9) rfl dX12_next_114 ?_
                    refine lv_icmp_lt (tgt := 133) hx hb dX12_next_117 (by decide) (fun c_1387 => ?_) (fun c_1387 => ?_)
                    · have n_1387 : w1375 < tb := n_lt (a := w1375) (b := tb) c_1387 (by omega) (by omega)
                      refine lv_aload_n hx hb dX12_next_133 rfl (lv_at hl 0 rfl) ?_
                      refine lv_aload_n hx hb dX12_next_134 rfl (lv_at hl 0 rfl) ?_
                      refine hp_get hx hb hts ix12 hown hK hh (q := 0) rfl (hI.1 _ (by decide)) es1376 rfl 14 (by decide) (hts _ tw_893) (fun _ h9 => h9) rfl dX12_next_135 ?_
                      refine lv_aload_n hx hb dX12_next_138 rfl (lv_at hl 0 rfl) ?_
                      refine hp_get hx hb hts ix12 hown hK hh (q := 0) rfl (hI.1 _ (by decide)) es1376 rfl 11 (by decide) (hts _ tw_890) (fun _ h9 => h9) rfl dX12_next_139 ?_
                      refine lv_aload_n hx hb dX12_next_142 rfl (lv_at hl 0 rfl) ?_
                      refine hp_get hx hb hts ix12 hown hK hh (q := 0) rfl (hI.1 _ (by decide)) es1376 rfl 14 (by decide) (hts _ tw_893) (fun _ h9 => h9) rfl dX12_next_143 ?_
                      refine hp_iald hx hb hK hh (q := 7) rfl (hI.1 _ (by decide)) es1379 (vp_in_nI (n := d1368) (by omega) (by decide)) dX12_next_146 ?_
                      rw [nI_clamp (n := d1368) (by omega)]
                      rw [show f_1379 d1368 = nI w1375 from (show f_1379 d1368 = rdF (en_1375 7) d1368 from by rw [es1379]; rfl).trans i1_1375.1]
                      refine hp_callMv (va_runV (As := [.int (nI d1368), .int (nI w1375)]) (rest := []) ⟨hx, hb, hml, hown, hts⟩ (c_X12_goOn l D cy _ cs ad en_1375 hI_1375 d1368 w1375 (by omega) (by omega)) (kw_X12_goOn hts tw_1050 ⟨by decide, by decide⟩) (preV_of hh hK (hI.1 _ (by decide)) es1376 rfl) rfl rfl hl.1 rfl (lv_room (Nat.le_of_ble_eq_true rfl)) dX12_next_147 ⟨Nat.le_of_ble_eq_true rfl, Nat.le_of_ble_eq_true rfl⟩) hh hA (fun H locs en_1388 hw_1388 hh => ?_)
                      obtain ⟨hI_1388, hu_1388⟩ := hw_1388
                      have es1376_1388 : en_1388 0 = .inr (11, [.int fa_1376, .int hi_1376, .int (nI wd), .int (nI mo), .int (nI tb), .ref (ad 1), .ref (ad 2), .ref (ad 3), .ref (ad 4), .ref (ad 5), .ref (ad 6), .ref (ad 7), .ref (ad 8), .ref (ad 9), .int (nI d1368), .long many_1376, .long grt_1376, .long lst_1376, .long nou_1376, .ref (ad 10), .ref (ad 11), .ref (ad 12), .int rm_1376, .long rb_1376, .ref (ad 13), .int pr_1376, .ref (ad 14), .ref (ad 15), .ref (ad 16), .ref (ad 17), .int (nI wo), .ref (ad 18), .ref (ad 19)]) := (hu_1388 0 (by omega)).trans es1376
                      have es1379_1388 : en_1388 7 = .inl (cy 0, 13, .inl f_1379) := (hu_1388 7 (by omega)).trans es1379
                      have hf_1388 : ∀ c, (c ≠ 0 ∧ c ≠ 6 ∧ c ≠ 7) → en_1388 c = en c := fun c hc => (hu_1388 c (by omega)).trans (hf_1375 c hc)
                      have hkp_1388 : KP en en_1388 := KP_same i4_1375 (hu_1388 0 (by omega))
                      have hg7_1388 : ∀ i, rdF (en_1388 7) i = rdF (en_1375 7) i := fun i => by rw [hu_1388 7 (by omega)]
                      have ha_1388 : ∀ i, i < d1368 → rdF (en_1388 7) i = rdF (en_1368 7) i := fun i hi => (hg7_1388 i).trans (i2_1375 i hi)
                      have hwv_1388 : rdF (en_1388 7) d1368 = nI w1375 := (hg7_1388 d1368).trans i1_1375.1
                      refine lv_aload_n hx hb dX12_next_150 rfl (lv_at hl 0 rfl) ?_
                      refine lv_dup hx hb dX12_next_151 rfl ?_
                      refine hp_get hx hb hts ix12 hown hK hh (q := 0) rfl (hI.1 _ (by decide)) es1376_1388 rfl 14 (by decide) (hts _ tw_893) (fun _ h9 => h9) rfl dX12_next_152 ?_
                      refine lv_iconst (v := 1) hx hb dX12_next_155 (by decide) ?_
                      refine lv_iadd hx hb dX12_next_156 ?_
                      rw [show (1 : Int32) = nI 1 from rfl, nI_add d1368 1]
                      refine hp_put hx hb hts ix12 tyX12 tyX12_ok nmX12 hown hK hh (q := 0) rfl (hI.1 _ (by decide)) es1376_1388 rfl 14 (by decide) (hts _ tw_893) (fun _ h9 => h9) rfl (ty := .int) (by decide +kernel) rfl rfl (Nat.le_of_ble_eq_true rfl) dX12_next_157 (fun H locs en_1389 hen_1389 hh => ?_)
                      have es1379_1389 : en_1389 7 = .inl (cy 0, 13, .inl f_1379) := by rw [hen_1389, va_up_ne _ _ (by decide)]; exact es1379_1388
                      have es1376_1389 : en_1389 0 = .inr (11, [.int fa_1376, .int hi_1376, .int (nI wd), .int (nI mo), .int (nI tb), .ref (ad 1), .ref (ad 2), .ref (ad 3), .ref (ad 4), .ref (ad 5), .ref (ad 6), .ref (ad 7), .ref (ad 8), .ref (ad 9), .int (nI (d1368 + 1)), .long many_1376, .long grt_1376, .long lst_1376, .long nou_1376, .ref (ad 10), .ref (ad 11), .ref (ad 12), .int rm_1376, .long rb_1376, .ref (ad 13), .int pr_1376, .ref (ad 14), .ref (ad 15), .ref (ad 16), .ref (ad 17), .int (nI wo), .ref (ad 18), .ref (ad 19)]) := by rw [hen_1389]; exact va_up_self _ _ _
                      have hI_1389 : RX cy cs ad en_1389 := by rw [hen_1389]; exact upr_M hI_1388 ⟨fa_1376, hi_1376, wd, mo, tb, (nI (d1368 + 1)), many_1376, grt_1376, lst_1376, nou_1376, rm_1376, rb_1376, pr_1376, wo, rfl, hwd2, hwd3, hmo, htb, hwo⟩
                      have hf_1389 : ∀ c, (c ≠ 0 ∧ c ≠ 6 ∧ c ≠ 7) → en_1389 c = en c := fun c hc => Eq.trans (show en_1389 c = en_1388 c from by rw [hen_1389, va_up_ne _ _ (by omega)]) (hf_1388 c hc)
                      have hkp_1389 : KP en en_1389 := KP_fv hkp_1388 es1376_1388 es1376_1389 hi_1376 (nI wd) (nI mo) (nI tb) pr_1376 (nI wo) rfl rfl rfl rfl rfl rfl rfl rfl rfl rfl rfl rfl
                      have hg7_1389 : ∀ i, rdF (en_1389 7) i = rdF (en_1388 7) i := fun i => by rw [hen_1389, va_up_ne _ _ (by decide)]
                      have ha_1389 : ∀ i, i < d1368 → rdF (en_1389 7) i = rdF (en_1368 7) i := fun i hi => (hg7_1389 i).trans (ha_1388 i hi)
                      have hwv_1389 : rdF (en_1389 7) d1368 = nI w1375 := (hg7_1389 d1368).trans hwv_1388
                      refine lv_aload_n hx hb dX12_next_160 rfl (lv_at hl 0 rfl) ?_
                      refine hp_get hx hb hts ix12 hown hK hh (q := 0) rfl (hI.1 _ (by decide)) es1376_1389 rfl 14 (by decide) (hts _ tw_893) (fun _ h9 => h9) rfl dX12_next_161 ?_
                      refine lv_iload_n hx hb dX12_next_164 rfl (lv_at hl 1 rfl) ?_
                      refine lv_icmp_ne (tgt := 170) hx hb dX12_next_165 (by decide) (fun c_1390 => ?_) (fun c_1390 => ?_)
                      · have n_1390 : (d1368 + 1) ≠ n := n_neq (a := (d1368 + 1)) (b := n) c_1390 (by omega) (by omega)
                        refine lv_aload_n hx hb dX12_next_170 rfl (lv_at hl 0 rfl) ?_
                        refine hp_get hx hb hts ix12 hown hK hh (q := 0) rfl (hI.1 _ (by decide)) es1376_1389 rfl 11 (by decide) (hts _ tw_890) (fun _ h9 => h9) rfl dX12_next_171 ?_
                        refine lv_aload_n hx hb dX12_next_174 rfl (lv_at hl 0 rfl) ?_
                        refine hp_get hx hb hts ix12 hown hK hh (q := 0) rfl (hI.1 _ (by decide)) es1376_1389 rfl 14 (by decide) (hts _ tw_893) (fun _ h9 => h9) rfl dX12_next_175 ?_
                        refine lv_iconst (v := (-1)) hx hb dX12_next_178 (by decide) ?_
                        refine hp_iast hx hb hK hh (q := 7) rfl (hI.1 _ (by decide)) es1379_1389 (vp_in_nI (n := (d1368 + 1)) (by omega) (by decide)) dX12_next_179 (fun H locs en_1391 hen_1391 hh => ?_)
                        rw [nI_clamp (n := (d1368 + 1)) (by omega)] at hen_1391
                        have es1376_1391 : en_1391 0 = .inr (11, [.int fa_1376, .int hi_1376, .int (nI wd), .int (nI mo), .int (nI tb), .ref (ad 1), .ref (ad 2), .ref (ad 3), .ref (ad 4), .ref (ad 5), .ref (ad 6), .ref (ad 7), .ref (ad 8), .ref (ad 9), .int (nI (d1368 + 1)), .long many_1376, .long grt_1376, .long lst_1376, .long nou_1376, .ref (ad 10), .ref (ad 11), .ref (ad 12), .int rm_1376, .long rb_1376, .ref (ad 13), .int pr_1376, .ref (ad 14), .ref (ad 15), .ref (ad 16), .ref (ad 17), .int (nI wo), .ref (ad 18), .ref (ad 19)]) := by rw [hen_1391, va_up_ne _ _ (by decide)]; exact es1376_1389
                        have es1379_1391 : en_1391 7 = .inl (cy 0, 13, .inl (upd f_1379 (d1368 + 1) (-1))) := by rw [hen_1391]; exact va_up_self _ _ _
                        have hI_1391 : RX cy cs ad en_1391 := by rw [hen_1391]; exact upr_nw hI_1389 ⟨(upd f_1379 (d1368 + 1) (-1)), rfl⟩
                        have hf_1391 : ∀ c, (c ≠ 0 ∧ c ≠ 6 ∧ c ≠ 7) → en_1391 c = en c := fun c hc => Eq.trans (show en_1391 c = en_1389 c from by rw [hen_1391, va_up_ne _ _ (by omega)]) (hf_1389 c hc)
                        have hkp_1391 : KP en en_1391 := KP_same hkp_1389 (show en_1391 0 = en_1389 0 from by rw [hen_1391, va_up_ne _ _ (by decide)])
                        have hno_1391 : ∀ i, i ≠ (d1368 + 1) → rdF (en_1391 7) i = rdF (en_1389 7) i := fun i hi => by rw [es1379_1391, es1379_1389]; exact pk_un hi
                        have hnv_1391 : rdF (en_1391 7) (d1368 + 1) = (-1) := by rw [es1379_1391]; exact pk_us
                        have ha_1391 : ∀ i, i < d1368 → rdF (en_1391 7) i = rdF (en_1368 7) i := fun i hi => (hno_1391 i (by omega)).trans (ha_1389 i hi)
                        have hwv_1391 : rdF (en_1391 7) d1368 = nI w1375 := (hno_1391 d1368 (by omega)).trans hwv_1389
                        refine lv_goto (tgt := 18) hx hb dX12_next_180 (by decide) ?_
                        have hNB_1392 := NWp_desc i1_1368 (by omega) ha_1391 hwv_1391 (by omega) (by omega) hnv_1391
                        exact ih_1368 (mm1368 - 1) (d1368 + 1) 0 en_1391 ls H locs (by omega) hI_1391 hf_1391 (⟨by rw [es1376_1391]; rfl, by omega⟩) (hNB_1392.1) (by have h1 := hNB_1392.2; have h2 := i2_1368; omega) (hkp_1391) (lv_sub hl [0, 1] rfl) hh
                      · have n_1390 : (d1368 + 1) = n := n_eq (a := (d1368 + 1)) (b := n) c_1390 (by omega) (by omega)
                        refine lv_iconst (v := 1) hx hb dX12_next_168 (by decide) ?_
                        have hNR_1393 := NWp_ret i1_1368 ha_1389 hwv_1389 (by omega) (by omega)
                        have hdn_1393 : n - 1 = d1368 := by omega
                        exact hp_iretM hx hb hr rfl hlocks hh (⟨hI_1389, hf_1389, Or.inr ⟨rfl, w1375 + 1, ⟨by omega, Or.inr ⟨by rw [es1376_1389]; exact congrArg nI (by omega), by omega⟩, by rw [hdn_1393]; exact hNR_1393.1⟩, by omega, by have h1 := hNR_1393.2; have h2 := i2_1368.2; rw [hdn_1393]; omega⟩, hkp_1389⟩) dX12_next_169
                    · have n_1387 : tb ≤ w1375 := n_nlt (a := w1375) (b := tb) c_1387 (by omega) (by omega)
                      exact absurd n_1387 (by omega)
                  · have n_1386 : 0 < d1368 := n_nle (a := d1368) (b := 0) c_1386 (by omega) (by decide)
                    refine lv_aload_n hx hb dX12_next_61 rfl (lv_at hl 0 rfl) ?_
                    refine lv_aload_n hx hb dX12_next_62 rfl (lv_at hl 0 rfl) ?_
                    refine hp_get hx hb hts ix12 hown hK hh (q := 0) rfl (hI.1 _ (by decide)) es1376 rfl 11 (by decide) (hts _ tw_890) (fun _ h9 => h9) rfl dX12_next_63 ?_
                    refine lv_aload_n hx hb dX12_next_66 rfl (lv_at hl 0 rfl) ?_
                    refine hp_get hx hb hts ix12 hown hK hh (q := 0) rfl (hI.1 _ (by decide)) es1376 rfl 14 (by decide) (hts _ tw_893) (fun _ h9 => h9) rfl dX12_next_67 ?_
                    refine lv_iconst (v := 1) hx hb dX12_next_70 (by decide) ?_
                    refine lv_isub hx hb dX12_next_71 ?_
                    rw [show (1 : Int32) = nI 1 from rfl, pk_sub (a := d1368) (b := 1) (by omega)]
                    refine hp_iald hx hb hK hh (q := 7) rfl (hI.1 _ (by decide)) es1379 (vp_in_nI (n := (d1368 - 1)) (by omega) (by decide)) dX12_next_72 ?_
                    rw [nI_clamp (n := (d1368 - 1)) (by omega)]
                    obtain ⟨v_1394, hv_1394, hve_1394⟩ := i1_1368.1 (d1368 - 1) (by omega)
                    rw [show f_1379 (d1368 - 1) = nI v_1394 from (show f_1379 (d1368 - 1) = rdF (en_1375 7) (d1368 - 1) from by rw [es1379]; rfl).trans ((i2_1375 (d1368 - 1) (by omega)).trans hve_1394)]
                    refine lv_aload_n hx hb dX12_next_73 rfl (lv_at hl 0 rfl) ?_
                    refine hp_get hx hb hts ix12 hown hK hh (q := 0) rfl (hI.1 _ (by decide)) es1376 rfl 11 (by decide) (hts _ tw_890) (fun _ h9 => h9) rfl dX12_next_74 ?_
                    refine lv_aload_n hx hb dX12_next_77 rfl (lv_at hl 0 rfl) ?_
                    refine hp_get hx hb hts ix12 hown hK hh (q := 0) rfl (hI.1 _ (by decide)) es1376 rfl 14 (by decide) (hts _ tw_893) (fun _ h9 => h9) rfl dX12_next_78 ?_
                    refine hp_iald hx hb hK hh (q := 7) rfl (hI.1 _ (by decide)) es1379 (vp_in_nI (n := d1368) (by omega) (by decide)) dX12_next_81 ?_
                    rw [nI_clamp (n := d1368) (by omega)]
                    rw [show f_1379 d1368 = nI w1375 from (show f_1379 d1368 = rdF (en_1375 7) d1368 from by rw [es1379]; rfl).trans i1_1375.1]
                    refine hp_callRi (va_runV (As := [.int (nI v_1394), .int (nI w1375)]) (rest := []) ⟨hx, hb, hml, hown, hts⟩ (c_X12_mayFollow l D cy _ cs ad en_1375 hI_1375 v_1394 w1375 (by omega) (by omega)) (kw_X12_mayFollow hts tw_1029 ⟨by decide, by decide⟩) (preV_of hh hK (hI.1 _ (by decide)) es1376 rfl) rfl rfl hl.1 rfl (lv_room (Nat.le_of_ble_eq_true rfl)) dX12_next_82 ⟨Nat.le_of_ble_eq_true rfl, Nat.le_of_ble_eq_true rfl⟩) hh hA (fun r_1395 H locs hw_1395 hh => ?_)
                    rcases Decidable.em (rdF (en_1375 2) (6 * v_1394 + w1375) = 0) with hp_1395 | hp_1395
                    · obtain rfl : r_1395 = 1 := Eq.trans hw_1395 (if_pos hp_1395)
                      refine lv_if_ne (tgt := 104) hx hb dX12_next_85 (by decide) (fun _ => ?_) (fun c_0 => absurd c_0 (by decide))
                      refine lv_aload_n hx hb dX12_next_104 rfl (lv_at hl 0 rfl) ?_
                      refine hp_get hx hb hts ix12 hown hK hh (q := 0) rfl (hI.1 _ (by decide)) es1376 rfl 11 (by decide) (hts _ tw_890) (fun _ h9 => h9) rfl dX12_next_105 ?_
                      refine lv_aload_n hx hb dX12_next_108 rfl (lv_at hl 0 rfl) ?_
                      refine hp_get hx hb hts ix12 hown hK hh (q := 0) rfl (hI.1 _ (by decide)) es1376 rfl 14 (by decide) (hts _ tw_893) (fun _ h9 => h9) rfl dX12_next_109 ?_
                      refine hp_iald hx hb hK hh (q := 7) rfl (hI.1 _ (by decide)) es1379 (vp_in_nI (n := d1368) (by omega) (by decide)) dX12_next_112 ?_
                      rw [nI_clamp (n := d1368) (by omega)]
                      rw [show f_1379 d1368 = nI w1375 from (show f_1379 d1368 = rdF (en_1375 7) d1368 from by rw [es1379]; rfl).trans i1_1375.1]
                      refine lv_aload_n hx hb dX12_next_113 rfl (lv_at hl 0 rfl) ?_
                      refine hp_get hx hb hts ix12 hown hK hh (q := 0) rfl (hI.1 _ (by decide)) es1376 rfl 4 (by decide) (hts _ tw_883) (fun _ h9 => h9) rfl dX12_next_114 ?_
                      refine lv_icmp_lt (tgt := 133) hx hb dX12_next_117 (by decide) (fun c_1396 => ?_) (fun c_1396 => ?_)
                      · have n_1396 : w1375 < tb := n_lt (a := w1375) (b := tb) c_1396 (by omega) (by omega)
                        refine lv_aload_n hx hb dX12_next_133 rfl (lv_at hl 0 rfl) ?_
                        refine lv_aload_n hx hb dX12_next_134 rfl (lv_at hl 0 rfl) ?_
                        refine hp_get hx hb hts ix12 hown hK hh (q := 0) rfl (hI.1 _ (by decide)) es1376 rfl 14 (by decide) (hts _ tw_893) (fun _ h9 => h9) rfl dX12_next_135 ?_
                        refine lv_aload_n hx hb dX12_next_138 rfl (lv_at hl 0 rfl) ?_
                        refine hp_get hx hb hts ix12 hown hK hh (q := 0) rfl (hI.1 _ (by decide)) es1376 rfl 11 (by decide) (hts _ tw_890) (fun _ h9 => h9) rfl dX12_next_139 ?_
                        refine lv_aload_n hx hb dX12_next_142 rfl (lv_at hl 0 rfl) ?_
                        refine hp_get hx hb hts ix12 hown hK hh (q := 0) rfl (hI.1 _ (by decide)) es1376 rfl 14 (by decide) (hts _ tw_893) (fun _ h9 => h9) rfl dX12_next_143 ?_
                        refine hp_iald hx hb hK hh (q := 7) rfl (hI.1 _ (by decide)) es1379 (vp_in_nI (n := d1368) (by omega) (by decide)) dX12_next_146 ?_
                        rw [nI_clamp (n := d1368) (by omega)]
                        rw [show f_1379 d1368 = nI w1375 from (show f_1379 d1368 = rdF (en_1375 7) d1368 from by rw [es1379]; rfl).trans i1_1375.1]
                        refine hp_callMv (va_runV (As := [.int (nI d1368), .int (nI w1375)]) (rest := []) ⟨hx, hb, hml, hown, hts⟩ (c_X12_goOn l D cy _ cs ad en_1375 hI_1375 d1368 w1375 (by omega) (by omega)) (kw_X12_goOn hts tw_1050 ⟨by decide, by decide⟩) (preV_of hh hK (hI.1 _ (by decide)) es1376 rfl) rfl rfl hl.1 rfl (lv_room (Nat.le_of_ble_eq_true rfl)) dX12_next_147 ⟨Nat.le_of_ble_eq_true rfl, Nat.le_of_ble_eq_true rfl⟩) hh hA (fun H locs en_1397 hw_1397 hh => ?_)
                        obtain ⟨hI_1397, hu_1397⟩ := hw_1397
                        have es1376_1397 : en_1397 0 = .inr (11, [.int fa_1376, .int hi_1376, .int (nI wd), .int (nI mo), .int (nI tb), .ref (ad 1), .ref (ad 2), .ref (ad 3), .ref (ad 4), .ref (ad 5), .ref (ad 6), .ref (ad 7), .ref (ad 8), .ref (ad 9), .int (nI d1368), .long many_1376, .long grt_1376, .long lst_1376, .long nou_1376, .ref (ad 10), .ref (ad 11), .ref (ad 12), .int rm_1376, .long rb_1376, .ref (ad 13), .int pr_1376, .ref (ad 14), .ref (ad 15), .ref (ad 16), .ref (ad 17), .int (nI wo), .ref (ad 18), .ref (ad 19)]) := (hu_1397 0 (by omega)).trans es1376
                        have es1379_1397 : en_1397 7 = .inl (cy 0, 13, .inl f_1379) := (hu_1397 7 (by omega)).trans es1379
                        have hf_1397 : ∀ c, (c ≠ 0 ∧ c ≠ 6 ∧ c ≠ 7) → en_1397 c = en c := fun c hc => (hu_1397 c (by omega)).trans (hf_1375 c hc)
                        have hkp_1397 : KP en en_1397 := KP_same i4_1375 (hu_1397 0 (by omega))
                        have hg7_1397 : ∀ i, rdF (en_1397 7) i = rdF (en_1375 7) i := fun i => by rw [hu_1397 7 (by omega)]
                        have ha_1397 : ∀ i, i < d1368 → rdF (en_1397 7) i = rdF (en_1368 7) i := fun i hi => (hg7_1397 i).trans (i2_1375 i hi)
                        have hwv_1397 : rdF (en_1397 7) d1368 = nI w1375 := (hg7_1397 d1368).trans i1_1375.1
                        refine lv_aload_n hx hb dX12_next_150 rfl (lv_at hl 0 rfl) ?_
                        refine lv_dup hx hb dX12_next_151 rfl ?_
                        refine hp_get hx hb hts ix12 hown hK hh (q := 0) rfl (hI.1 _ (by decide)) es1376_1397 rfl 14 (by decide) (hts _ tw_893) (fun _ h9 => h9) rfl dX12_next_152 ?_
                        refine lv_iconst (v := 1) hx hb dX12_next_155 (by decide) ?_
                        refine lv_iadd hx hb dX12_next_156 ?_
                        rw [show (1 : Int32) = nI 1 from rfl, nI_add d1368 1]
                        refine hp_put hx hb hts ix12 tyX12 tyX12_ok nmX12 hown hK hh (q := 0) rfl (hI.1 _ (by decide)) es1376_1397 rfl 14 (by decide) (hts _ tw_893) (fun _ h9 => h9) rfl (ty := .int) (by decide +kernel) rfl rfl (Nat.le_of_ble_eq_true rfl) dX12_next_157 (fun H locs en_1398 hen_1398 hh => ?_)
                        have es1379_1398 : en_1398 7 = .inl (cy 0, 13, .inl f_1379) := by rw [hen_1398, va_up_ne _ _ (by decide)]; exact es1379_1397
                        have es1376_1398 : en_1398 0 = .inr (11, [.int fa_1376, .int hi_1376, .int (nI wd), .int (nI mo), .int (nI tb), .ref (ad 1), .ref (ad 2), .ref (ad 3), .ref (ad 4), .ref (ad 5), .ref (ad 6), .ref (ad 7), .ref (ad 8), .ref (ad 9), .int (nI (d1368 + 1)), .long many_1376, .long grt_1376, .long lst_1376, .long nou_1376, .ref (ad 10), .ref (ad 11), .ref (ad 12), .int rm_1376, .long rb_1376, .ref (ad 13), .int pr_1376, .ref (ad 14), .ref (ad 15), .ref (ad 16), .ref (ad 17), .int (nI wo), .ref (ad 18), .ref (ad 19)]) := by rw [hen_1398]; exact va_up_self _ _ _
                        have hI_1398 : RX cy cs ad en_1398 := by rw [hen_1398]; exact upr_M hI_1397 ⟨fa_1376, hi_1376, wd, mo, tb, (nI (d1368 + 1)), many_1376, grt_1376, lst_1376, nou_1376, rm_1376, rb_1376, pr_1376, wo, rfl, hwd2, hwd3, hmo, htb, hwo⟩
                        have hf_1398 : ∀ c, (c ≠ 0 ∧ c ≠ 6 ∧ c ≠ 7) → en_1398 c = en c := fun c hc => Eq.trans (show en_1398 c = en_1397 c from by rw [hen_1398, va_up_ne _ _ (by omega)]) (hf_1397 c hc)
                        have hkp_1398 : KP en en_1398 := KP_fv hkp_1397 es1376_1397 es1376_1398 hi_1376 (nI wd) (nI mo) (nI tb) pr_1376 (nI wo) rfl rfl rfl rfl rfl rfl rfl rfl rfl rfl rfl rfl
                        have hg7_1398 : ∀ i, rdF (en_1398 7) i = rdF (en_1397 7) i := fun i => by rw [hen_1398, va_up_ne _ _ (by decide)]
                        have ha_1398 : ∀ i, i < d1368 → rdF (en_1398 7) i = rdF (en_1368 7) i := fun i hi => (hg7_1398 i).trans (ha_1397 i hi)
                        have hwv_1398 : rdF (en_1398 7) d1368 = nI w1375 := (hg7_1398 d1368).trans hwv_1397
                        refine lv_aload_n hx hb dX12_next_160 rfl (lv_at hl 0 rfl) ?_
                        refine hp_get hx hb hts ix12 hown hK hh (q := 0) rfl (hI.1 _ (by decide)) es1376_1398 rfl 14 (by decide) (hts _ tw_893) (fun _ h9 => h9) rfl dX12_next_161 ?_
                        refine lv_iload_n hx hb dX12_next_164 rfl (lv_at hl 1 rfl) ?_
                        refine lv_icmp_ne (tgt := 170) hx hb dX12_next_165 (by decide) (fun c_1399 => ?_) (fun c_1399 => ?_)
                        · have n_1399 : (d1368 + 1) ≠ n := n_neq (a := (d1368 + 1)) (b := n) c_1399 (by omega) (by omega)
                          refine lv_aload_n hx hb dX12_next_170 rfl (lv_at hl 0 rfl) ?_
                          refine hp_get hx hb hts ix12 hown hK hh (q := 0) rfl (hI.1 _ (by decide)) es1376_1398 rfl 11 (by decide) (hts _ tw_890) (fun _ h9 => h9) rfl dX12_next_171 ?_
                          refine lv_aload_n hx hb dX12_next_174 rfl (lv_at hl 0 rfl) ?_
                          refine hp_get hx hb hts ix12 hown hK hh (q := 0) rfl (hI.1 _ (by decide)) es1376_1398 rfl 14 (by decide) (hts _ tw_893) (fun _ h9 => h9) rfl dX12_next_175 ?_
                          refine lv_iconst (v := (-1)) hx hb dX12_next_178 (by decide) ?_
                          refine hp_iast hx hb hK hh (q := 7) rfl (hI.1 _ (by decide)) es1379_1398 (vp_in_nI (n := (d1368 + 1)) (by omega) (by decide)) dX12_next_179 (fun H locs en_1400 hen_1400 hh => ?_)
                          rw [nI_clamp (n := (d1368 + 1)) (by omega)] at hen_1400
                          have es1376_1400 : en_1400 0 = .inr (11, [.int fa_1376, .int hi_1376, .int (nI wd), .int (nI mo), .int (nI tb), .ref (ad 1), .ref (ad 2), .ref (ad 3), .ref (ad 4), .ref (ad 5), .ref (ad 6), .ref (ad 7), .ref (ad 8), .ref (ad 9), .int (nI (d1368 + 1)), .long many_1376, .long grt_1376, .long lst_1376, .long nou_1376, .ref (ad 10), .ref (ad 11), .ref (ad 12), .int rm_1376, .long rb_1376, .ref (ad 13), .int pr_1376, .ref (ad 14), .ref (ad 15), .ref (ad 16), .ref (ad 17), .int (nI wo), .ref (ad 18), .ref (ad 19)]) := by rw [hen_1400, va_up_ne _ _ (by decide)]; exact es1376_1398
                          have es1379_1400 : en_1400 7 = .inl (cy 0, 13, .inl (upd f_1379 (d1368 + 1) (-1))) := by rw [hen_1400]; exact va_up_self _ _ _
                          have hI_1400 : RX cy cs ad en_1400 := by rw [hen_1400]; exact upr_nw hI_1398 ⟨(upd f_1379 (d1368 + 1) (-1)), rfl⟩
                          have hf_1400 : ∀ c, (c ≠ 0 ∧ c ≠ 6 ∧ c ≠ 7) → en_1400 c = en c := fun c hc => Eq.trans (show en_1400 c = en_1398 c from by rw [hen_1400, va_up_ne _ _ (by omega)]) (hf_1398 c hc)
                          have hkp_1400 : KP en en_1400 := KP_same hkp_1398 (show en_1400 0 = en_1398 0 from by rw [hen_1400, va_up_ne _ _ (by decide)])
                          have hno_1400 : ∀ i, i ≠ (d1368 + 1) → rdF (en_1400 7) i = rdF (en_1398 7) i := fun i hi => by rw [es1379_1400, es1379_1398]; exact pk_un hi
                          have hnv_1400 : rdF (en_1400 7) (d1368 + 1) = (-1) := by rw [es1379_1400]; exact pk_us
                          have ha_1400 : ∀ i, i < d1368 → rdF (en_1400 7) i = rdF (en_1368 7) i := fun i hi => (hno_1400 i (by omega)).trans (ha_1398 i hi)
                          have hwv_1400 : rdF (en_1400 7) d1368 = nI w1375 := (hno_1400 d1368 (by omega)).trans hwv_1398
                          refine lv_goto (tgt := 18) hx hb dX12_next_180 (by decide) ?_
                          have hNB_1401 := NWp_desc i1_1368 (by omega) ha_1400 hwv_1400 (by omega) (by omega) hnv_1400
                          exact ih_1368 (mm1368 - 1) (d1368 + 1) 0 en_1400 ls H locs (by omega) hI_1400 hf_1400 (⟨by rw [es1376_1400]; rfl, by omega⟩) (hNB_1401.1) (by have h1 := hNB_1401.2; have h2 := i2_1368; omega) (hkp_1400) (lv_sub hl [0, 1] rfl) hh
                        · have n_1399 : (d1368 + 1) = n := n_eq (a := (d1368 + 1)) (b := n) c_1399 (by omega) (by omega)
                          refine lv_iconst (v := 1) hx hb dX12_next_168 (by decide) ?_
                          have hNR_1402 := NWp_ret i1_1368 ha_1398 hwv_1398 (by omega) (by omega)
                          have hdn_1402 : n - 1 = d1368 := by omega
                          exact hp_iretM hx hb hr rfl hlocks hh (⟨hI_1398, hf_1398, Or.inr ⟨rfl, w1375 + 1, ⟨by omega, Or.inr ⟨by rw [es1376_1398]; exact congrArg nI (by omega), by omega⟩, by rw [hdn_1402]; exact hNR_1402.1⟩, by omega, by have h1 := hNR_1402.2; have h2 := i2_1368.2; rw [hdn_1402]; omega⟩, hkp_1398⟩) dX12_next_169
                      · have n_1396 : tb ≤ w1375 := n_nlt (a := w1375) (b := tb) c_1396 (by omega) (by omega)
                        exact absurd n_1396 (by omega)
                    · obtain rfl : r_1395 = 0 := Eq.trans hw_1395 (if_neg hp_1395)
                      refine lv_if_ne (tgt := 104) hx hb dX12_next_85 (by decide) (fun c_0 => absurd c_0 (by decide)) (fun _ => ?_)
                      refine lv_aload_n hx hb dX12_next_88 rfl (lv_at hl 0 rfl) ?_
                      refine hp_get hx hb hts ix12 hown hK hh (q := 0) rfl (hI.1 _ (by decide)) es1376 rfl 11 (by decide) (hts _ tw_890) (fun _ h9 => h9) rfl dX12_next_89 ?_
                      refine lv_aload_n hx hb dX12_next_92 rfl (lv_at hl 0 rfl) ?_
                      refine hp_get hx hb hts ix12 hown hK hh (q := 0) rfl (hI.1 _ (by decide)) es1376 rfl 14 (by decide) (hts _ tw_893) (fun _ h9 => h9) rfl dX12_next_93 ?_
                      refine lv_dup2_11 hx hb dX12_next_96 rfl rfl ?_
                      refine hp_iald hx hb hK hh (q := 7) rfl (hI.1 _ (by decide)) es1379 (vp_in_nI (n := d1368) (by omega) (by decide)) dX12_next_97 ?_
                      rw [nI_clamp (n := d1368) (by omega)]
                      rw [show f_1379 d1368 = nI w1375 from (show f_1379 d1368 = rdF (en_1375 7) d1368 from by rw [es1379]; rfl).trans i1_1375.1]
                      refine lv_iconst (v := 1) hx hb dX12_next_98 (by decide) ?_
                      refine lv_iadd hx hb dX12_next_99 ?_
                      rw [show (1 : Int32) = nI 1 from rfl, nI_add w1375 1]
                      refine hp_iast hx hb hK hh (q := 7) rfl (hI.1 _ (by decide)) es1379 (vp_in_nI (n := d1368) (by omega) (by decide)) dX12_next_100 (fun H locs en_1403 hen_1403 hh => ?_)
                      rw [nI_clamp (n := d1368) (by omega)] at hen_1403
                      have es1376_1403 : en_1403 0 = .inr (11, [.int fa_1376, .int hi_1376, .int (nI wd), .int (nI mo), .int (nI tb), .ref (ad 1), .ref (ad 2), .ref (ad 3), .ref (ad 4), .ref (ad 5), .ref (ad 6), .ref (ad 7), .ref (ad 8), .ref (ad 9), .int (nI d1368), .long many_1376, .long grt_1376, .long lst_1376, .long nou_1376, .ref (ad 10), .ref (ad 11), .ref (ad 12), .int rm_1376, .long rb_1376, .ref (ad 13), .int pr_1376, .ref (ad 14), .ref (ad 15), .ref (ad 16), .ref (ad 17), .int (nI wo), .ref (ad 18), .ref (ad 19)]) := by rw [hen_1403, va_up_ne _ _ (by decide)]; exact es1376
                      have es1379_1403 : en_1403 7 = .inl (cy 0, 13, .inl (upd f_1379 d1368 (nI (w1375 + 1)))) := by rw [hen_1403]; exact va_up_self _ _ _
                      have hI_1403 : RX cy cs ad en_1403 := by rw [hen_1403]; exact upr_nw hI_1375 ⟨(upd f_1379 d1368 (nI (w1375 + 1))), rfl⟩
                      have hf_1403 : ∀ c, (c ≠ 0 ∧ c ≠ 6 ∧ c ≠ 7) → en_1403 c = en c := fun c hc => Eq.trans (show en_1403 c = en_1375 c from by rw [hen_1403, va_up_ne _ _ (by omega)]) (hf_1375 c hc)
                      have hkp_1403 : KP en en_1403 := KP_same i4_1375 (show en_1403 0 = en_1375 0 from by rw [hen_1403, va_up_ne _ _ (by decide)])
                      have hno_1403 : ∀ i, i ≠ d1368 → rdF (en_1403 7) i = rdF (en_1375 7) i := fun i hi => by rw [es1379_1403, es1379]; exact pk_un hi
                      have hnv_1403 : rdF (en_1403 7) d1368 = (nI (w1375 + 1)) := by rw [es1379_1403]; exact pk_us
                      refine lv_goto (tgt := 38) hx hb dX12_next_101 (by decide) ?_
                      exact ih_1375 (mm1375 - 1) (w1375 + 1) en_1403 ls H locs (by omega) hI_1403 hf_1403 (by rw [es1376_1403]; rfl) (⟨hnv_1403, by omega, by omega⟩) (fun i hi => (hno_1403 i (by omega)).trans (i2_1375 i hi)) (by omega) (hkp_1403) (lv_sub hl [0, 1] rfl) hh
            exact loop_1375 (7 + 1) 7 u1368 en_1374 ls _ _ (by omega) hI_1374 hf_1374 (by rw [es1369_1374]; rfl) (⟨hnv_1374, by omega, i1_1368.2.2⟩) (fun i hi => hno_1374 i (by omega)) (by omega) (hkp_1374) (lv_sub hl [0, 1] rfl) hh
      exact loop_1368 (134217728 + 1) 134217728 d u en_1366 ls _ _ (by omega) hI_1366 hf_1366 (⟨by rw [es1327_1366]; exact congrArg nI (by omega), by omega⟩) ((by rw [show en_1366 7 = en 7 from by rw [hen_1366, va_up_ne _ _ (by decide)]]; exact hd3)) (⟨by omega, Nat.le_of_eq (by rw [show en_1366 7 = en 7 from by rw [hen_1366, va_up_ne _ _ (by decide)]])⟩) (hkp_1366) (lv_sub hl [0, 1] rfl) hh
theorem kw_X12_next {R : Room} {s : State} {args : Array Value} {own : String} {idx : Nat} (hts : ∀ w ∈ TB, w.before args s = true) (hl : Cond.methodLink own idx yX12_next ∈ TB) (hR : 2 + 1 ≤ R.frames ∧ 8 + (2 + 11) + 40 * 2 ≤ R.locals) : CallW R s args own RX12 idx yX12_next cX12_next 2 (some .boolean) (Cond.code yX12_next cX12_next 2 (some .boolean) :: TB) (rmN 2) 0 0 1 := cwV 1 hts (TB_V hl tw_1048 ts_40 tw_9 tw_1049) rfl rfl rfl (by decide +kernel) hR
