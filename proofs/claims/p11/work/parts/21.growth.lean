set_option maxHeartbeats 4000000 in
set_option maxRecDepth 100000 in
/-- compareGrowth -/
theorem c_X2_compareGrowth (l : Launch) (D : va_G) (cy : Nat → ClassId) (sz : Nat) (cs : List Nat) (ad : Nat → Nat) (en : Nat → va_E) (hI : SX cy cs ad en) (a b : Int32) (n : Nat) (hn1 : 1 ≤ n) (hn8 : n ≤ 8) (hLN : LNX en)   : Met l yX2_compareGrowth (Cond.code yX2_compareGrowth cX2_compareGrowth 11 (some .int) :: TB) (rmN 21) (va_Pc [.ref (ad 12), .int a, .int b, .int (nI n)] (Pre D cy cs ad en sz)) (va_Qi (S := Nat → va_E) (fun r en1 => SX cy cs ad en1 ∧ (∀ c, (c < 12 ∨ 70 ≤ c) → en1 c = en c) ∧ (LNX en1 ∧ XGR en a b n r)) (PostM D cs ad) (Af cs ad sz)) 0 0 (Af cs ad sz) := by
  refine Met.ofW (cc := cX2_compareGrowth) (maxL := 11) (ret := (some .int)) (by decide) rfl ?_
  intro p e s m args below meth c s₁ B hml hv
  obtain ⟨rfl, hsz, hP, hK, hD0⟩ := hv
  have hx := B.exec
  have hb := B.bytes
  have hr := B.returns
  have hts : ∀ w ∈ TB, w.before _ s = true := fun w h => atoms_spec (ws := _ :: TB) B.pre w (List.mem_cons_of_mem _ h)
  have hown : s.vm.findClass RX2 = some m.cls := findClass_of_methodNamed B.named
  have hlocks := B.notSynchronized
  have hh : Hp D (Af cs ad sz) (Af cs ad sz) s.heap s.heap [] cs ad en := ⟨hP, Af_self hD0, va_S.rf⟩
  have hA : ∀ q : Nat, s.heap.size ≤ q → Af cs ad sz q := fun q h => Or.inr (by rw [hsz] at h; exact h)
  have hl := lv_entry ([.ref (ad 12), .int a, .int b, .int (nI n)]) (n := 11) (Nat.le_of_ble_eq_true rfl)
  rw [lg_entry_eq]
  generalize (lg_sl ([.ref (ad 12), .int a, .int b, .int (nI n)]) ++ List.replicate (11 - (lg_sl ([.ref (ad 12), .int a, .int b, .int (nI n)])).length) Slot.unset).toArray = ls at hl ⊢
  have hl : lv_has ls 11 [(0, .ref (ad 12)), (1, .int a), (2, .int b), (3, .int (nI n))] := hl
  have hf0 : ∀ c, (c < 12 ∨ 70 ≤ c) → en c = en c := fun _ _ => rfl
  obtain ⟨cnt, d, mm, es270, hcnt, hd2, hd3, hmm⟩ := get_T hI
  obtain ⟨f10, es271, hb10⟩ := get_alw hI
  have hk9 : kX en = cnt := by unfold kX; rw [show rdI (en 1) 4 = nI cnt from by rw [es270]; rfl]; exact nI_clamp (by omega)
  have ha9 : aX en = (alX f10) := by unfold aX; rw [show rdF (en 10) = f10 from by rw [es271]; rfl]
  refine lv_iconst (v := 0) hx hb dX2_compareGrowth_0 (by decide) ?_
  refine lv_istore (lv' := [(4, .int 0), (0, .ref (ad 12)), (1, .int a), (2, .int b), (3, .int (nI n))]) hx hb dX2_compareGrowth_1 hl (by decide) rfl (fun ls hl => ?_)
  refine lv_lconst (v := 1) hx hb dX2_compareGrowth_3 (by decide) ?_
  refine lv_lstore (lv' := [(5, .long 1), (4, .int 0), (0, .ref (ad 12)), (1, .int a), (2, .int b), (3, .int (nI n))]) hx hb dX2_compareGrowth_4 hl (by decide) rfl (fun ls hl => ?_)
  refine lv_lconst (v := 1) hx hb dX2_compareGrowth_6 (by decide) ?_
  refine lv_lstore (lv' := [(7, .long 1), (5, .long 1), (4, .int 0), (0, .ref (ad 12)), (1, .int a), (2, .int b), (3, .int (nI n))]) hx hb dX2_compareGrowth_7 hl (by decide) rfl (fun ls hl => ?_)
  refine lv_iconst (v := 1) hx hb dX2_compareGrowth_9 (by decide) ?_
  refine lv_istore (lv' := [(9, .int 1), (7, .long 1), (5, .long 1), (4, .int 0), (0, .ref (ad 12)), (1, .int a), (2, .int b), (3, .int (nI n))]) hx hb dX2_compareGrowth_10 hl (by decide) rfl (fun ls hl => ?_)
  have loop_272 : ∀ (fu j272 : Nat) (ib272 : Int32) (pa272 : Int64) (pb272 : Int64) (en_272 : Nat → va_E) (ls : Array Slot) (H : Heap) (locs : List Loc), 1 ≤ j272 → j272 ≤ (n + 1) → (n + 1) < j272 + fu → SX cy cs ad en_272 → (∀ c, (c < 12 ∨ 70 ≤ c) → en_272 c = en c) → (pa272 = pwR a.toInt64 (j272 - 1)) → (pb272 = pwR b.toInt64 (j272 - 1)) → (XO9 en a b j272 ib272) → (LNX en_272) → lv_has ls 11 [(9, .int (nI j272)), (7, .long pb272), (5, .long pa272), (4, .int ib272), (0, .ref (ad 12)), (1, .int a), (2, .int b), (3, .int (nI n))] → Hp D (Af cs ad sz) (Af cs ad sz) s.heap H locs cs ad en_272 → W p l e (headSpec (Cond.code yX2_compareGrowth cX2_compareGrowth 11 (some .int) :: TB) (rmN 21)).room s m ([.ref (ad 12), .int a, .int b, .int (nI n)] : List Value).toArray below meth c H locs 0 0 (MQ below (va_Qi (S := Nat → va_E) (fun r en1 => SX cy cs ad en1 ∧ (∀ c, (c < 12 ∨ 70 ≤ c) → en1 c = en c) ∧ (LNX en1 ∧ XGR en a b n r)) (PostM D cs ad) (Af cs ad sz)) ([.ref (ad 12), .int a, .int b, .int (nI n)] : List Value).toArray s 0 0 (Af cs ad sz)) (F0 m 12 ls []) := by
    intro fu
    induction fu with
    | zero => intro j272 ib272 pa272 pb272 en_272 ls H locs h0 h1 h2; exact absurd h2 (by omega)
    | succ fu ih_272 =>
      intro j272 ib272 pa272 pb272 en_272 ls H locs hj0_272 hj_272 hfu_272 hI_272 hf_272 i0_272 i1_272 i2_272 i3_272 hl hh
      refine lv_iload hx hb dX2_compareGrowth_12 (lv_at hl 0 rfl) ?_
      refine lv_iload_n hx hb dX2_compareGrowth_14 rfl (lv_at hl 7 rfl) ?_
      refine lv_icmp_gt (tgt := 106) hx hb dX2_compareGrowth_15 (by decide) (fun c_273 => ?_) (fun c_273 => ?_)
      · have n_273 : n < j272 := n_lt (a := n) (b := j272) c_273 (by omega) (by omega)
        refine lv_iload hx hb dX2_compareGrowth_106 (lv_at hl 3 rfl) ?_
        refine lv_if_eq (tgt := 115) hx hb dX2_compareGrowth_108 (by decide) (fun c_274 => ?_) (fun c_274 => ?_)
        · refine lv_iconst (v := 0) hx hb dX2_compareGrowth_115 (by decide) ?_
          exact hp_iretM hx hb hr rfl hlocks hh (⟨hI_272, hf_272, ⟨i3_272, (XO9_e (by have h9 := i2_272; rw [show j272 = n + 1 by omega] at h9; exact h9)).1 c_274⟩⟩) dX2_compareGrowth_116
        · refine lv_iconst (v := (-1)) hx hb dX2_compareGrowth_111 (by decide) ?_
          refine lv_goto (tgt := 116) hx hb dX2_compareGrowth_112 (by decide) ?_
          exact hp_iretM hx hb hr rfl hlocks hh (⟨hI_272, hf_272, ⟨i3_272, (XO9_e (by have h9 := i2_272; rw [show j272 = n + 1 by omega] at h9; exact h9)).2 c_274⟩⟩) dX2_compareGrowth_116
      · have n_273 : j272 ≤ n := n_nlt (a := n) (b := j272) c_273 (by omega) (by omega)
        refine lv_lload hx hb dX2_compareGrowth_18 (lv_at hl 2 rfl) ?_
        refine lv_iload_n hx hb dX2_compareGrowth_20 rfl (lv_at hl 5 rfl) ?_
        refine lv_i2l hx hb dX2_compareGrowth_21 rfl ?_
        refine lv_lmul hx hb dX2_compareGrowth_22 ?_
        refine lv_lstore (lv' := [(5, .long (pa272 * a.toInt64)), (9, .int (nI j272)), (7, .long pb272), (4, .int ib272), (0, .ref (ad 12)), (1, .int a), (2, .int b), (3, .int (nI n))]) hx hb dX2_compareGrowth_23 hl (by decide) rfl (fun ls hl => ?_)
        refine lv_lload hx hb dX2_compareGrowth_25 (lv_at hl 2 rfl) ?_
        refine lv_iload_n hx hb dX2_compareGrowth_27 rfl (lv_at hl 6 rfl) ?_
        refine lv_i2l hx hb dX2_compareGrowth_28 rfl ?_
        refine lv_lmul hx hb dX2_compareGrowth_29 ?_
        refine lv_lstore (lv' := [(7, .long (pb272 * b.toInt64)), (5, .long (pa272 * a.toInt64)), (9, .int (nI j272)), (4, .int ib272), (0, .ref (ad 12)), (1, .int a), (2, .int b), (3, .int (nI n))]) hx hb dX2_compareGrowth_30 hl (by decide) rfl (fun ls hl => ?_)
        refine lv_aload_n hx hb dX2_compareGrowth_32 rfl (lv_at hl 4 rfl) ?_
        refine lv_iload hx hb dX2_compareGrowth_33 (lv_at hl 2 rfl) ?_
        obtain ⟨hw_275, es275, p0_275⟩ := get_L hI_272
        refine hp_callMq (va_runV (As := [.int (nI j272)]) (rest := []) ⟨hx, hb, hml, hown, hts⟩ (c_X2_surveyOf l D cy _ cs ad en_272 hI_272 j272 (by omega) (by omega) i3_272) (kw_X2_surveyOf hts tw_569 ⟨by show _ ≤ 21; omega, by show _ ≤ 40 * 21; omega⟩) (preV_of hh hK (hI.1 _ (by decide)) es275 rfl) rfl rfl hl.1 rfl (lv_room (Nat.le_of_ble_eq_true rfl)) dX2_compareGrowth_35 ⟨Nat.le_of_ble_eq_true rfl, Nat.le_of_ble_eq_true rfl⟩) hh hA (fun r_276 H locs en_276 hw_276 hh => ?_)
        obtain ⟨hI_276, hu_276, hx_276⟩ := hw_276
        have hf_276 : ∀ c, (c < 12 ∨ 70 ≤ c) → en_276 c = en c := fun c hc => (hu_276 c (by omega)).trans (hf_272 c hc)
        obtain rfl : r_276 = some (ad (34 + 4 * j272)) := hx_276.1
        refine W.eq (g2 := F0 m 38 ls [.ref (ad (34 + 4 * j272))]) rfl ?_
        refine lv_astore (lv' := [(10, .ref (ad (34 + 4 * j272))), (7, .long (pb272 * b.toInt64)), (5, .long (pa272 * a.toInt64)), (9, .int (nI j272)), (4, .int ib272), (0, .ref (ad 12)), (1, .int a), (2, .int b), (3, .int (nI n))]) hx hb dX2_compareGrowth_38 hl (by decide) rfl (fun ls hl => ?_)
        refine lv_aload hx hb dX2_compareGrowth_40 (lv_at hl 0 rfl) ?_
        obtain ⟨dn_277, no_277, rc_277, gr_277, le_277, rt_277, tt_277, es277, p0_277⟩ := get_sv hI_276 (j := j272) (by omega)
        refine hp_get hx hb hts ix6 hown hK hh (q := (34 + 4 * j272)) rfl (hI.1 _ (by omega)) es277 rfl 9 (by decide) (hts _ tw_99) (fun _ h9 => h9) rfl dX2_compareGrowth_42 ?_
        refine lv_lload hx hb dX2_compareGrowth_45 (lv_at hl 1 rfl) ?_
        refine lv_lmul hx hb dX2_compareGrowth_47 ?_
        refine lv_aload_n hx hb dX2_compareGrowth_48 rfl (lv_at hl 5 rfl) ?_
        obtain ⟨hw_278, es278, p0_278⟩ := get_L hI_276
        refine hp_get hx hb hts ix2 hown hK hh (q := 12) rfl (hI.1 _ (by decide)) es278 rfl 0 (by decide) (hts _ tw_122) (fun _ h9 => h9) rfl dX2_compareGrowth_49 ?_
        have es270_279 : en_276 1 = .inr (7, [.ref (ad 2), .ref (ad 3), .ref (ad 10), .ref (ad 11), .int (nI cnt), .int (nI d), .int (nI mm)]) := (hf_276 1 (by omega)).trans es270
        refine hp_callRi (va_runV (As := []) (rest := [.long (tt_277 * (pb272 * b.toInt64))]) ⟨hx, hb, hml, hown, hts⟩ (c_X8_dimension l D cy _ cs ad en_276 (hI.1 _ (by decide)) cnt d mm hcnt hd2 hd3 hmm  es270_279) (kw_X8_dimension hts tw_570 ⟨by show _ ≤ 21; omega, by show _ ≤ 40 * 21; omega⟩) (preV_of hh hK (hI.1 _ (by decide)) es270_279 rfl) rfl rfl hl.1 rfl (lv_room (Nat.le_of_ble_eq_true rfl)) dX2_compareGrowth_52 ⟨Nat.le_of_ble_eq_true rfl, Nat.le_of_ble_eq_true rfl⟩) hh hA (fun r_280 H locs hw_280 hh => ?_)
        obtain rfl : r_280 = (nI d) := hw_280
        refine lv_i2l hx hb dX2_compareGrowth_55 rfl ?_
        refine lv_lload hx hb dX2_compareGrowth_56 (lv_at hl 2 rfl) ?_
        refine lv_lmul hx hb dX2_compareGrowth_58 ?_
        refine W.lcmp hx hb dX2_compareGrowth_59 ?_
        refine lv_if_le (tgt := 65) hx hb dX2_compareGrowth_60 (by decide) (fun c_281 => ?_) (fun c_281 => ?_)
        · refine lv_iload hx hb dX2_compareGrowth_65 (lv_at hl 4 rfl) ?_
          refine lv_if_ne (tgt := 93) hx hb dX2_compareGrowth_67 (by decide) (fun c_282 => ?_) (fun c_282 => ?_)
          · refine lv_iconst (v := 1) hx hb dX2_compareGrowth_93 (by decide) ?_
            refine lv_goto (tgt := 98) hx hb dX2_compareGrowth_94 (by decide) ?_
            refine lv_istore (lv' := [(4, .int 1), (10, .ref (ad (34 + 4 * j272))), (7, .long (pb272 * b.toInt64)), (5, .long (pa272 * a.toInt64)), (9, .int (nI j272)), (0, .ref (ad 12)), (1, .int a), (2, .int b), (3, .int (nI n))]) hx hb dX2_compareGrowth_98 hl (by decide) rfl (fun ls hl => ?_)
            refine lv_iinc (v := (nI (j272 + 1))) (lv' := [(9, .int (nI (j272 + 1))), (4, .int 1), (10, .ref (ad (34 + 4 * j272))), (7, .long (pb272 * b.toInt64)), (5, .long (pa272 * a.toInt64)), (0, .ref (ad 12)), (1, .int a), (2, .int b), (3, .int (nI n))]) hx hb dX2_compareGrowth_100 hl (k := 4) rfl (nI_1 _) (by decide) rfl (fun ls hl => ?_)
            refine lv_goto (tgt := 12) hx hb dX2_compareGrowth_103 (by decide) ?_
            exact ih_272 ((j272 + 1)) 1 (pa272 * a.toInt64) (pb272 * b.toInt64) en_276 ls H locs (by omega) (by omega) (by omega) hI_276 hf_276 (by rw [show j272 + 1 - 1 = j272 by omega]; exact pw_s (by omega) i0_272) (by rw [show j272 + 1 - 1 = j272 by omega]; exact pw_s (by omega) i1_272) (XO9_1 i2_272 (show ¬ XP9 en a b j272 from fun q => absurd (Int64.lt_iff_toInt_lt.mp q) (Int.not_lt.mpr (by rw [(show TF9 en j272 = tt_277 from by rw [← TF9_c (a := en) (b := en_276) hf_276, show TF9 en_276 j272 = svT en_276 j272 from hx_276.2.2.2.1.symm]; show rdJ (en_276 (34 + 4 * j272)) 9 = _; rw [es277]; rfl), show rdI (en 1) 5 = nI d from by rw [es270]; rfl, ← pw_s (by omega) i0_272, ← pw_s (by omega) i1_272]; exact g_le c_281))) c_282) (hx_276.2.1) (lv_sub hl [0, 3, 4, 1, 5, 6, 7, 8] rfl) hh
          · refine lv_aload_n hx hb dX2_compareGrowth_70 rfl (lv_at hl 5 rfl) ?_
            refine lv_iload hx hb dX2_compareGrowth_71 (lv_at hl 3 rfl) ?_
            refine hp_callMi (va_runV (As := [.int (nI j272)]) (rest := []) ⟨hx, hb, hml, hown, hts⟩ (c_X2_countOf l D cy _ cs ad en_276 hI_276 j272 (by omega) (by omega) (hx_276.2.1).1) (kw_X2_countOf hts tw_449 ⟨by show _ ≤ 21; omega, by show _ ≤ 40 * 21; omega⟩) (preV_of hh hK (hI.1 _ (by decide)) es278 rfl) rfl rfl hl.1 rfl (lv_room (Nat.le_of_ble_eq_true rfl)) dX2_compareGrowth_73 ⟨Nat.le_of_ble_eq_true rfl, Nat.le_of_ble_eq_true rfl⟩) hh hA (fun r_283 H locs en_283 hw_283 hh => ?_)
            obtain ⟨hI_283, hu_283, hx_283⟩ := hw_283
            have hf_283 : ∀ c, (c < 12 ∨ 70 ≤ c) → en_283 c = en c := fun c hc => (hu_283 c (by omega)).trans (hf_276 c hc)
            have hcb_283 : CNX en j272 ≤ 1679616 := cnt_le (al := aX en) (by rw [hk9]; omega) (by omega)
            have hcn_283 : CNX en_276 j272 = CNX en j272 := CNX_c (hf_276 1 (by omega)) (hf_276 10 (by omega))
            obtain rfl : r_283 = nI (CNX en j272) := hx_283.1.trans (congrArg nI hcn_283)
            have hln_283 : LNX en_283 := LNX_w hx_276.2.1 hx_283.2.1 hu_283
            refine lv_if_eq (tgt := 93) hx hb dX2_compareGrowth_76 (by decide) (fun c_284 => ?_) (fun c_284 => ?_)
            · have n_284 : (CNX en j272) = 0 := n_eq (a := (CNX en j272)) (b := 0) c_284 (by omega) (by decide)
              refine lv_iconst (v := 1) hx hb dX2_compareGrowth_93 (by decide) ?_
              refine lv_goto (tgt := 98) hx hb dX2_compareGrowth_94 (by decide) ?_
              refine lv_istore (lv' := [(4, .int 1), (10, .ref (ad (34 + 4 * j272))), (7, .long (pb272 * b.toInt64)), (5, .long (pa272 * a.toInt64)), (9, .int (nI j272)), (0, .ref (ad 12)), (1, .int a), (2, .int b), (3, .int (nI n))]) hx hb dX2_compareGrowth_98 hl (by decide) rfl (fun ls hl => ?_)
              refine lv_iinc (v := (nI (j272 + 1))) (lv' := [(9, .int (nI (j272 + 1))), (4, .int 1), (10, .ref (ad (34 + 4 * j272))), (7, .long (pb272 * b.toInt64)), (5, .long (pa272 * a.toInt64)), (0, .ref (ad 12)), (1, .int a), (2, .int b), (3, .int (nI n))]) hx hb dX2_compareGrowth_100 hl (k := 4) rfl (nI_1 _) (by decide) rfl (fun ls hl => ?_)
              refine lv_goto (tgt := 12) hx hb dX2_compareGrowth_103 (by decide) ?_
              exact ih_272 ((j272 + 1)) 1 (pa272 * a.toInt64) (pb272 * b.toInt64) en_283 ls H locs (by omega) (by omega) (by omega) hI_283 hf_283 (by rw [show j272 + 1 - 1 = j272 by omega]; exact pw_s (by omega) i0_272) (by rw [show j272 + 1 - 1 = j272 by omega]; exact pw_s (by omega) i1_272) (XO9_2 (by omega) i2_272 (show ¬ XP9 en a b j272 from fun q => absurd (Int64.lt_iff_toInt_lt.mp q) (Int.not_lt.mpr (by rw [(show TF9 en j272 = tt_277 from by rw [← TF9_c (a := en) (b := en_276) hf_276, show TF9 en_276 j272 = svT en_276 j272 from hx_276.2.2.2.1.symm]; show rdJ (en_276 (34 + 4 * j272)) 9 = _; rw [es277]; rfl), show rdI (en 1) 5 = nI d from by rw [es270]; rfl, ← pw_s (by omega) i0_272, ← pw_s (by omega) i1_272]; exact g_le c_281))) (Or.inl n_284)) (hln_283) (lv_sub hl [0, 3, 4, 1, 5, 6, 7, 8] rfl) hh
            · have n_284 : (CNX en j272) ≠ 0 := n_neq (a := (CNX en j272)) (b := 0) c_284 (by omega) (by decide)
              refine lv_aload hx hb dX2_compareGrowth_79 (lv_at hl 0 rfl) ?_
              obtain ⟨dn_285, no_285, rc_285, gr_285, le_285, rt_285, tt_285, es285, p0_285⟩ := get_sv hI_283 (j := j272) (by omega)
              refine hp_get hx hb hts ix6 hown hK hh (q := (34 + 4 * j272)) rfl (hI.1 _ (by omega)) es285 rfl 6 (by decide) (hts _ tw_93) (fun _ h9 => h9) rfl dX2_compareGrowth_81 ?_
              refine lv_lload hx hb dX2_compareGrowth_84 (lv_at hl 1 rfl) ?_
              refine lv_lmul hx hb dX2_compareGrowth_86 ?_
              refine lv_lload hx hb dX2_compareGrowth_87 (lv_at hl 2 rfl) ?_
              refine W.lcmp hx hb dX2_compareGrowth_89 ?_
              refine lv_if_ge (tgt := 97) hx hb dX2_compareGrowth_90 (by decide) (fun c_286 => ?_) (fun c_286 => ?_)
              · refine lv_iconst (v := 0) hx hb dX2_compareGrowth_97 (by decide) ?_
                refine lv_istore (lv' := [(4, .int 0), (10, .ref (ad (34 + 4 * j272))), (7, .long (pb272 * b.toInt64)), (5, .long (pa272 * a.toInt64)), (9, .int (nI j272)), (0, .ref (ad 12)), (1, .int a), (2, .int b), (3, .int (nI n))]) hx hb dX2_compareGrowth_98 hl (by decide) rfl (fun ls hl => ?_)
                refine lv_iinc (v := (nI (j272 + 1))) (lv' := [(9, .int (nI (j272 + 1))), (4, .int 0), (10, .ref (ad (34 + 4 * j272))), (7, .long (pb272 * b.toInt64)), (5, .long (pa272 * a.toInt64)), (0, .ref (ad 12)), (1, .int a), (2, .int b), (3, .int (nI n))]) hx hb dX2_compareGrowth_100 hl (k := 4) rfl (nI_1 _) (by decide) rfl (fun ls hl => ?_)
                refine lv_goto (tgt := 12) hx hb dX2_compareGrowth_103 (by decide) ?_
                obtain ⟨fN_276, gN_276, hfg_276⟩ := hx_276.2.2.1
                exact ih_272 ((j272 + 1)) 0 (pa272 * a.toInt64) (pb272 * b.toInt64) en_283 ls H locs (by omega) (by omega) (by omega) hI_283 hf_283 (by rw [show j272 + 1 - 1 = j272 by omega]; exact pw_s (by omega) i0_272) (by rw [show j272 + 1 - 1 = j272 by omega]; exact pw_s (by omega) i1_272) (XO9_3 i2_272 (show ¬ XP9 en a b j272 from fun q => absurd (Int64.lt_iff_toInt_lt.mp q) (Int.not_lt.mpr (by rw [(show TF9 en j272 = tt_277 from by rw [← TF9_c (a := en) (b := en_276) hf_276, show TF9 en_276 j272 = svT en_276 j272 from hx_276.2.2.2.1.symm]; show rdJ (en_276 (34 + 4 * j272)) 9 = _; rw [es277]; rfl), show rdI (en 1) 5 = nI d from by rw [es270]; rfl, ← pw_s (by omega) i0_272, ← pw_s (by omega) i1_272]; exact g_le c_281))) c_282 (fun q => q.elim n_284 (fun q => absurd (Int64.lt_iff_toInt_lt.mp q) (Int.not_lt.mpr (by rw [(show GF9 en j272 = gr_285 from by rw [← NF9_gr (f := fN_276) (g := gN_276), ← NF9_c (a := en) (b := en_276) hf_276, show NF9 en_276 j272 fN_276 gN_276 = svN en_276 j272 from hfg_276.symm]; show rdJ (en_276 (34 + 4 * j272)) 6 = _; rw [← hu_283 (34 + 4 * j272) (by omega), es285]; rfl), ← pw_s (by omega) i0_272, ← pw_s (by omega) i1_272]; exact g_ge c_286))))) (hln_283) (lv_sub hl [0, 3, 4, 1, 5, 6, 7, 8] rfl) hh
              · refine lv_iconst (v := 1) hx hb dX2_compareGrowth_93 (by decide) ?_
                refine lv_goto (tgt := 98) hx hb dX2_compareGrowth_94 (by decide) ?_
                refine lv_istore (lv' := [(4, .int 1), (10, .ref (ad (34 + 4 * j272))), (7, .long (pb272 * b.toInt64)), (5, .long (pa272 * a.toInt64)), (9, .int (nI j272)), (0, .ref (ad 12)), (1, .int a), (2, .int b), (3, .int (nI n))]) hx hb dX2_compareGrowth_98 hl (by decide) rfl (fun ls hl => ?_)
                refine lv_iinc (v := (nI (j272 + 1))) (lv' := [(9, .int (nI (j272 + 1))), (4, .int 1), (10, .ref (ad (34 + 4 * j272))), (7, .long (pb272 * b.toInt64)), (5, .long (pa272 * a.toInt64)), (0, .ref (ad 12)), (1, .int a), (2, .int b), (3, .int (nI n))]) hx hb dX2_compareGrowth_100 hl (k := 4) rfl (nI_1 _) (by decide) rfl (fun ls hl => ?_)
                refine lv_goto (tgt := 12) hx hb dX2_compareGrowth_103 (by decide) ?_
                obtain ⟨fN_276, gN_276, hfg_276⟩ := hx_276.2.2.1
                exact ih_272 ((j272 + 1)) 1 (pa272 * a.toInt64) (pb272 * b.toInt64) en_283 ls H locs (by omega) (by omega) (by omega) hI_283 hf_283 (by rw [show j272 + 1 - 1 = j272 by omega]; exact pw_s (by omega) i0_272) (by rw [show j272 + 1 - 1 = j272 by omega]; exact pw_s (by omega) i1_272) (XO9_2 (by omega) i2_272 (show ¬ XP9 en a b j272 from fun q => absurd (Int64.lt_iff_toInt_lt.mp q) (Int.not_lt.mpr (by rw [(show TF9 en j272 = tt_277 from by rw [← TF9_c (a := en) (b := en_276) hf_276, show TF9 en_276 j272 = svT en_276 j272 from hx_276.2.2.2.1.symm]; show rdJ (en_276 (34 + 4 * j272)) 9 = _; rw [es277]; rfl), show rdI (en 1) 5 = nI d from by rw [es270]; rfl, ← pw_s (by omega) i0_272, ← pw_s (by omega) i1_272]; exact g_le c_281))) (Or.inr (by rw [(show GF9 en j272 = gr_285 from by rw [← NF9_gr (f := fN_276) (g := gN_276), ← NF9_c (a := en) (b := en_276) hf_276, show NF9 en_276 j272 fN_276 gN_276 = svN en_276 j272 from hfg_276.symm]; show rdJ (en_276 (34 + 4 * j272)) 6 = _; rw [← hu_283 (34 + 4 * j272) (by omega), es285]; rfl), ← pw_s (by omega) i0_272, ← pw_s (by omega) i1_272]; exact Int64.lt_iff_toInt_lt.mpr (g_nge c_286)))) (hln_283) (lv_sub hl [0, 3, 4, 1, 5, 6, 7, 8] rfl) hh
        · refine lv_iconst (v := 1) hx hb dX2_compareGrowth_63 (by decide) ?_
          exact hp_iretM hx hb hr rfl hlocks hh (⟨hI_276, hf_276, ⟨hx_276.2.1, Or.inl ⟨rfl, j272, by omega, by omega, (show XP9 en a b j272 from by unfold XP9; rw [(show TF9 en j272 = tt_277 from by rw [← TF9_c (a := en) (b := en_276) hf_276, show TF9 en_276 j272 = svT en_276 j272 from hx_276.2.2.2.1.symm]; show rdJ (en_276 (34 + 4 * j272)) 9 = _; rw [es277]; rfl), show rdI (en 1) 5 = nI d from by rw [es270]; rfl, ← pw_s (by omega) i0_272, ← pw_s (by omega) i1_272]; exact Int64.lt_iff_toInt_lt.mpr (g_nle c_281))⟩⟩⟩) dX2_compareGrowth_64
  exact loop_272 ((n + 1) + 1) 1 0 1 1 en ls _ _ (Nat.le_refl _) (by omega) (by omega) hI hf0 (rfl) (rfl) (XO9_0) (hLN) (lv_sub hl [0, 1, 2, 3, 4, 5, 6, 7] rfl) hh
theorem kw_X2_compareGrowth {R : Room} {s : State} {args : Array Value} {own : String} {idx : Nat} (hts : ∀ w ∈ TB, w.before args s = true) (hl : Cond.methodLink own idx yX2_compareGrowth ∈ TB) (hR : 21 + 1 ≤ R.frames ∧ 8 + (11 + 11) + 40 * 21 ≤ R.locals) : CallW R s args own RX2 idx yX2_compareGrowth cX2_compareGrowth 11 (some .int) (Cond.code yX2_compareGrowth cX2_compareGrowth 11 (some .int) :: TB) (rmN 21) 0 0 3 := cwV 3 hts (TB_V hl tw_566 tw_567 tw_3 tw_568) rfl rfl rfl (by decide +kernel) hR
