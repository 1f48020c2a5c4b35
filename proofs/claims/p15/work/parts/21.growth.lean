set_option maxHeartbeats 4000000 in
set_option maxRecDepth 100000 in
/-- compareGrowth -/
theorem c_X2_compareGrowth (l : Launch) (D : va_G) (cy : Nat → ClassId) (sz : Nat) (cs : List Nat) (ad : Nat → Nat) (en : Nat → va_E) (hI : SX cy cs ad en) (a b : Int32) (n : Nat) (hn1 : 1 ≤ n) (hn8 : n ≤ 8)   : Met l yX2_compareGrowth (Cond.code yX2_compareGrowth cX2_compareGrowth 11 (some .int) :: TB) (rmN 21) (va_Pc [.ref (ad 12), .int a, .int b, .int (nI n)] (Pre D cy cs ad en sz)) (va_Qi (S := Nat → va_E) (fun r en1 => SX cy cs ad en1 ∧ (∀ c, (c < 12 ∨ 70 ≤ c) → en1 c = en c)) (PostM D cs ad) (Af cs ad sz)) 0 0 (Af cs ad sz) := by
  refine Met.ofW (cc := cX2_compareGrowth) (maxL := 11) (ret := (some .int)) (by decide) rfl ?_
  intro p e s m args below meth c s₁ B hml hv
  obtain ⟨rfl, hsz, hP, hK, hD0⟩ := hv
  have hx := B.exec
  have hb := B.bytes
  have hr := B.returns
  have hts : ∀ w ∈ TB, w.before _ s = true := fun w h => atoms_spec (ws := _ :: TB) B.pre w (List.mem_cons_of_mem _ h)
  have hown : s.vm.findClass RX2 = some m.cls := findClass_of_methodNamed B.named
  have hlocks := B.notSynchronized
  have hh : Hp D (Af cs ad sz) (Af cs ad sz) s.heap s.heap [] cs ad en := ⟨hP, Af_self hD0, va_S.rf⟩
  have hA : ∀ q : Nat, s.heap.size ≤ q → Af cs ad sz q := fun q h => Or.inr (by rw [hsz] at h; exact h)
  have hl := lv_entry ([.ref (ad 12), .int a, .int b, .int (nI n)]) (n := 11) (Nat.le_of_ble_eq_true rfl)
  rw [lg_entry_eq]
  generalize (lg_sl ([.ref (ad 12), .int a, .int b, .int (nI n)]) ++ List.replicate (11 - (lg_sl ([.ref (ad 12), .int a, .int b, .int (nI n)])).length) Slot.unset).toArray = ls at hl ⊢
  have hl : lv_has ls 11 [(0, .ref (ad 12)), (1, .int a), (2, .int b), (3, .int (nI n))] := hl
  have hf0 : ∀ c, (c < 12 ∨ 70 ≤ c) → en c = en c := fun _ _ => rfl
  obtain ⟨cnt, d, mm, es279, hcnt, hd2, hd3, hmm⟩ := get_T hI
  obtain ⟨f10, es280, hb10⟩ := get_alw hI
  refine lv_iconst (v := 0) hx hb dX2_compareGrowth_0 (by decide) ?_
  refine lv_istore (lv' := [(4, .int 0), (0, .ref (ad 12)), (1, .int a), (2, .int b), (3, .int (nI n))]) hx hb dX2_compareGrowth_1 hl (by decide) rfl (fun ls hl => ?_)
  refine lv_lconst (v := 1) hx hb dX2_compareGrowth_3 (by decide) ?_
  refine lv_lstore (lv' := [(5, .long 1), (4, .int 0), (0, .ref (ad 12)), (1, .int a), (2, .int b), (3, .int (nI n))]) hx hb dX2_compareGrowth_4 hl (by decide) rfl (fun ls hl => ?_)
  refine lv_lconst (v := 1) hx hb dX2_compareGrowth_6 (by decide) ?_
  refine lv_lstore (lv' := [(7, .long 1), (5, .long 1), (4, .int 0), (0, .ref (ad 12)), (1, .int a), (2, .int b), (3, .int (nI n))]) hx hb dX2_compareGrowth_7 hl (by decide) rfl (fun ls hl => ?_)
  refine lv_iconst (v := 1) hx hb dX2_compareGrowth_9 (by decide) ?_
  refine lv_istore (lv' := [(9, .int 1), (7, .long 1), (5, .long 1), (4, .int 0), (0, .ref (ad 12)), (1, .int a), (2, .int b), (3, .int (nI n))]) hx hb dX2_compareGrowth_10 hl (by decide) rfl (fun ls hl => ?_)
  have loop_281 : ∀ (fu j281 : Nat) (ib281 : Int32) (pa281 : Int64) (pb281 : Int64) (en_281 : Nat → va_E) (ls : Array Slot) (H : Heap) (locs : List Loc), 1 ≤ j281 → j281 ≤ (n + 1) → (n + 1) < j281 + fu → SX cy cs ad en_281 → (∀ c, (c < 12 ∨ 70 ≤ c) → en_281 c = en c) →  lv_has ls 11 [(9, .int (nI j281)), (7, .long pb281), (5, .long pa281), (4, .int ib281), (0, .ref (ad 12)), (1, .int a), (2, .int b), (3, .int (nI n))] → Hp D (Af cs ad sz) (Af cs ad sz) s.heap H locs cs ad en_281 → W p l e (headSpec (Cond.code yX2_compareGrowth cX2_compareGrowth 11 (some .int) :: TB) (rmN 21)).room s m ([.ref (ad 12), .int a, .int b, .int (nI n)] : List Value).toArray below meth c H locs 0 0 (MQ below (va_Qi (S := Nat → va_E) (fun r en1 => SX cy cs ad en1 ∧ (∀ c, (c < 12 ∨ 70 ≤ c) → en1 c = en c)) (PostM D cs ad) (Af cs ad sz)) ([.ref (ad 12), .int a, .int b, .int (nI n)] : List Value).toArray s 0 0 (Af cs ad sz)) (F0 m 12 ls []) := by
    intro fu
    induction fu with
    | zero => intro j281 ib281 pa281 pb281 en_281 ls H locs h0 h1 h2; exact absurd h2 (by omega)
    | succ fu ih_281 =>
      intro j281 ib281 pa281 pb281 en_281 ls H locs hj0_281 hj_281 hfu_281 hI_281 hf_281  hl hh
      refine lv_iload hx hb dX2_compareGrowth_12 (lv_at hl 0 rfl) ?_
      refine lv_iload_n hx hb dX2_compareGrowth_14 rfl (lv_at hl 7 rfl) ?_
      refine lv_icmp_gt (tgt := 106) hx hb dX2_compareGrowth_15 (by decide) (fun c_282 => ?_) (fun c_282 => ?_)
      · have n_282 : n < j281 := n_lt (a := n) (b := j281) c_282 (by omega) (by omega)
        refine lv_iload hx hb dX2_compareGrowth_106 (lv_at hl 3 rfl) ?_
        refine lv_if_eq (tgt := 115) hx hb dX2_compareGrowth_108 (by decide) (fun c_283 => ?_) (fun c_283 => ?_)
        · refine lv_iconst (v := 0) hx hb dX2_compareGrowth_115 (by decide) ?_
          exact hp_iretM hx hb hr rfl hlocks hh (⟨hI_281, hf_281⟩) dX2_compareGrowth_116
        · refine lv_iconst (v := (-1)) hx hb dX2_compareGrowth_111 (by decide) ?_
          refine lv_goto (tgt := 116) hx hb dX2_compareGrowth_112 (by decide) ?_
          exact hp_iretM hx hb hr rfl hlocks hh (⟨hI_281, hf_281⟩) dX2_compareGrowth_116
      · have n_282 : j281 ≤ n := n_nlt (a := n) (b := j281) c_282 (by omega) (by omega)
        refine lv_lload hx hb dX2_compareGrowth_18 (lv_at hl 2 rfl) ?_
        refine lv_iload_n hx hb dX2_compareGrowth_20 rfl (lv_at hl 5 rfl) ?_
        refine lv_i2l hx hb dX2_compareGrowth_21 rfl ?_
        refine lv_lmul hx hb dX2_compareGrowth_22 ?_
        refine lv_lstore (lv' := [(5, .long (pa281 * a.toInt64)), (9, .int (nI j281)), (7, .long pb281), (4, .int ib281), (0, .ref (ad 12)), (1, .int a), (2, .int b), (3, .int (nI n))]) hx hb dX2_compareGrowth_23 hl (by decide) rfl (fun ls hl => ?_)
        refine lv_lload hx hb dX2_compareGrowth_25 (lv_at hl 2 rfl) ?_
        refine lv_iload_n hx hb dX2_compareGrowth_27 rfl (lv_at hl 6 rfl) ?_
        refine lv_i2l hx hb dX2_compareGrowth_28 rfl ?_
        refine lv_lmul hx hb dX2_compareGrowth_29 ?_
        refine lv_lstore (lv' := [(7, .long (pb281 * b.toInt64)), (5, .long (pa281 * a.toInt64)), (9, .int (nI j281)), (4, .int ib281), (0, .ref (ad 12)), (1, .int a), (2, .int b), (3, .int (nI n))]) hx hb dX2_compareGrowth_30 hl (by decide) rfl (fun ls hl => ?_)
        refine lv_aload_n hx hb dX2_compareGrowth_32 rfl (lv_at hl 4 rfl) ?_
        refine lv_iload hx hb dX2_compareGrowth_33 (lv_at hl 2 rfl) ?_
        obtain ⟨hw_284, es284, p0_284⟩ := get_L hI_281
        refine hp_callMq (va_runV (As := [.int (nI j281)]) (rest := []) ⟨hx, hb, hml, hown, hts⟩ (c_X2_surveyOf l D cy _ cs ad en_281 hI_281 j281 (by omega) (by omega)) (kw_X2_surveyOf hts tw_569 ⟨by show _ ≤ 21; omega, by show _ ≤ 40 * 21; omega⟩) (preV_of hh hK (hI.1 _ (by decide)) es284 rfl) rfl rfl hl.1 rfl (lv_room (Nat.le_of_ble_eq_true rfl)) dX2_compareGrowth_35 ⟨Nat.le_of_ble_eq_true rfl, Nat.le_of_ble_eq_true rfl⟩) hh hA (fun r_285 H locs en_285 hw_285 hh => ?_)
        obtain ⟨hI_285, hu_285, hx_285⟩ := hw_285
        have hf_285 : ∀ c, (c < 12 ∨ 70 ≤ c) → en_285 c = en c := fun c hc => (hu_285 c (by omega)).trans (hf_281 c hc)
        obtain rfl : r_285 = some (ad (34 + 4 * j281)) := hx_285
        refine W.eq (g2 := F0 m 38 ls [.ref (ad (34 + 4 * j281))]) rfl ?_
        refine lv_astore (lv' := [(10, .ref (ad (34 + 4 * j281))), (7, .long (pb281 * b.toInt64)), (5, .long (pa281 * a.toInt64)), (9, .int (nI j281)), (4, .int ib281), (0, .ref (ad 12)), (1, .int a), (2, .int b), (3, .int (nI n))]) hx hb dX2_compareGrowth_38 hl (by decide) rfl (fun ls hl => ?_)
        refine lv_aload hx hb dX2_compareGrowth_40 (lv_at hl 0 rfl) ?_
        obtain ⟨dn_286, no_286, rc_286, gr_286, le_286, rt_286, tt_286, es286, p0_286⟩ := get_sv hI_285 (j := j281) (by omega)
        refine hp_get hx hb hts ix6 hown hK hh (q := (34 + 4 * j281)) rfl (hI.1 _ (by omega)) es286 rfl 9 (by decide) (hts _ tw_99) (fun _ h9 => h9) rfl dX2_compareGrowth_42 ?_
        refine lv_lload hx hb dX2_compareGrowth_45 (lv_at hl 1 rfl) ?_
        refine lv_lmul hx hb dX2_compareGrowth_47 ?_
        refine lv_aload_n hx hb dX2_compareGrowth_48 rfl (lv_at hl 5 rfl) ?_
        obtain ⟨hw_287, es287, p0_287⟩ := get_L hI_285
        refine hp_get hx hb hts ix2 hown hK hh (q := 12) rfl (hI.1 _ (by decide)) es287 rfl 0 (by decide) (hts _ tw_122) (fun _ h9 => h9) rfl dX2_compareGrowth_49 ?_
        have es279_288 : en_285 1 = .inr (7, [.ref (ad 2), .ref (ad 3), .ref (ad 10), .ref (ad 11), .int (nI cnt), .int (nI d), .int (nI mm)]) := (hf_285 1 (by omega)).trans es279
        refine hp_callRi (va_runV (As := []) (rest := [.long (tt_286 * (pb281 * b.toInt64))]) ⟨hx, hb, hml, hown, hts⟩ (c_X8_dimension l D cy _ cs ad en_285 (hI.1 _ (by decide)) cnt d mm hcnt hd2 hd3 hmm  es279_288) (kw_X8_dimension hts tw_570 ⟨by show _ ≤ 21; omega, by show _ ≤ 40 * 21; omega⟩) (preV_of hh hK (hI.1 _ (by decide)) es279_288 rfl) rfl rfl hl.1 rfl (lv_room (Nat.le_of_ble_eq_true rfl)) dX2_compareGrowth_52 ⟨Nat.le_of_ble_eq_true rfl, Nat.le_of_ble_eq_true rfl⟩) hh hA (fun r_289 H locs hw_289 hh => ?_)
        obtain rfl : r_289 = (nI d) := hw_289
        refine lv_i2l hx hb dX2_compareGrowth_55 rfl ?_
        refine lv_lload hx hb dX2_compareGrowth_56 (lv_at hl 2 rfl) ?_
        refine lv_lmul hx hb dX2_compareGrowth_58 ?_
        refine W.lcmp hx hb dX2_compareGrowth_59 ?_
        refine lv_if_le (tgt := 65) hx hb dX2_compareGrowth_60 (by decide) (fun c_290 => ?_) (fun c_290 => ?_)
        · refine lv_iload hx hb dX2_compareGrowth_65 (lv_at hl 4 rfl) ?_
          refine lv_if_ne (tgt := 93) hx hb dX2_compareGrowth_67 (by decide) (fun c_291 => ?_) (fun c_291 => ?_)
          · refine lv_iconst (v := 1) hx hb dX2_compareGrowth_93 (by decide) ?_
            refine lv_goto (tgt := 98) hx hb dX2_compareGrowth_94 (by decide) ?_
            refine lv_istore (lv' := [(4, .int 1), (10, .ref (ad (34 + 4 * j281))), (7, .long (pb281 * b.toInt64)), (5, .long (pa281 * a.toInt64)), (9, .int (nI j281)), (0, .ref (ad 12)), (1, .int a), (2, .int b), (3, .int (nI n))]) hx hb dX2_compareGrowth_98 hl (by decide) rfl (fun ls hl => ?_)
            refine lv_iinc (v := (nI (j281 + 1))) (lv' := [(9, .int (nI (j281 + 1))), (4, .int 1), (10, .ref (ad (34 + 4 * j281))), (7, .long (pb281 * b.toInt64)), (5, .long (pa281 * a.toInt64)), (0, .ref (ad 12)), (1, .int a), (2, .int b), (3, .int (nI n))]) hx hb dX2_compareGrowth_100 hl (k := 4) rfl (nI_1 _) (by decide) rfl (fun ls hl => ?_)
            refine lv_goto (tgt := 12) hx hb dX2_compareGrowth_103 (by decide) ?_
            exact ih_281 ((j281 + 1)) 1 (pa281 * a.toInt64) (pb281 * b.toInt64) en_285 ls H locs (by omega) (by omega) (by omega) hI_285 hf_285  (lv_sub hl [0, 3, 4, 1, 5, 6, 7, 8] rfl) hh
          · refine lv_aload_n hx hb dX2_compareGrowth_70 rfl (lv_at hl 5 rfl) ?_
            refine lv_iload hx hb dX2_compareGrowth_71 (lv_at hl 3 rfl) ?_
            refine hp_callMi (va_runV (As := [.int (nI j281)]) (rest := []) ⟨hx, hb, hml, hown, hts⟩ (c_X2_countOf l D cy _ cs ad en_285 hI_285 j281 (by omega)) (kw_X2_countOf hts tw_449 ⟨by show _ ≤ 21; omega, by show _ ≤ 40 * 21; omega⟩) (preV_of hh hK (hI.1 _ (by decide)) es287 rfl) rfl rfl hl.1 rfl (lv_room (Nat.le_of_ble_eq_true rfl)) dX2_compareGrowth_73 ⟨Nat.le_of_ble_eq_true rfl, Nat.le_of_ble_eq_true rfl⟩) hh hA (fun r_292 H locs en_292 hw_292 hh => ?_)
            obtain ⟨hI_292, hu_292⟩ := hw_292
            have hf_292 : ∀ c, (c < 12 ∨ 70 ≤ c) → en_292 c = en c := fun c hc => (hu_292 c (by omega)).trans (hf_285 c hc)
            refine lv_if_eq (tgt := 93) hx hb dX2_compareGrowth_76 (by decide) (fun c_293 => ?_) (fun c_293 => ?_)
            · refine lv_iconst (v := 1) hx hb dX2_compareGrowth_93 (by decide) ?_
              refine lv_goto (tgt := 98) hx hb dX2_compareGrowth_94 (by decide) ?_
              refine lv_istore (lv' := [(4, .int 1), (10, .ref (ad (34 + 4 * j281))), (7, .long (pb281 * b.toInt64)), (5, .long (pa281 * a.toInt64)), (9, .int (nI j281)), (0, .ref (ad 12)), (1, .int a), (2, .int b), (3, .int (nI n))]) hx hb dX2_compareGrowth_98 hl (by decide) rfl (fun ls hl => ?_)
              refine lv_iinc (v := (nI (j281 + 1))) (lv' := [(9, .int (nI (j281 + 1))), (4, .int 1), (10, .ref (ad (34 + 4 * j281))), (7, .long (pb281 * b.toInt64)), (5, .long (pa281 * a.toInt64)), (0, .ref (ad 12)), (1, .int a), (2, .int b), (3, .int (nI n))]) hx hb dX2_compareGrowth_100 hl (k := 4) rfl (nI_1 _) (by decide) rfl (fun ls hl => ?_)
              refine lv_goto (tgt := 12) hx hb dX2_compareGrowth_103 (by decide) ?_
              exact ih_281 ((j281 + 1)) 1 (pa281 * a.toInt64) (pb281 * b.toInt64) en_292 ls H locs (by omega) (by omega) (by omega) hI_292 hf_292  (lv_sub hl [0, 3, 4, 1, 5, 6, 7, 8] rfl) hh
            · refine lv_aload hx hb dX2_compareGrowth_79 (lv_at hl 0 rfl) ?_
              obtain ⟨dn_294, no_294, rc_294, gr_294, le_294, rt_294, tt_294, es294, p0_294⟩ := get_sv hI_292 (j := j281) (by omega)
              refine hp_get hx hb hts ix6 hown hK hh (q := (34 + 4 * j281)) rfl (hI.1 _ (by omega)) es294 rfl 6 (by decide) (hts _ tw_93) (fun _ h9 => h9) rfl dX2_compareGrowth_81 ?_
              refine lv_lload hx hb dX2_compareGrowth_84 (lv_at hl 1 rfl) ?_
              refine lv_lmul hx hb dX2_compareGrowth_86 ?_
              refine lv_lload hx hb dX2_compareGrowth_87 (lv_at hl 2 rfl) ?_
              refine W.lcmp hx hb dX2_compareGrowth_89 ?_
              refine lv_if_ge (tgt := 97) hx hb dX2_compareGrowth_90 (by decide) (fun c_295 => ?_) (fun c_295 => ?_)
              · refine lv_iconst (v := 0) hx hb dX2_compareGrowth_97 (by decide) ?_
                refine lv_istore (lv' := [(4, .int 0), (10, .ref (ad (34 + 4 * j281))), (7, .long (pb281 * b.toInt64)), (5, .long (pa281 * a.toInt64)), (9, .int (nI j281)), (0, .ref (ad 12)), (1, .int a), (2, .int b), (3, .int (nI n))]) hx hb dX2_compareGrowth_98 hl (by decide) rfl (fun ls hl => ?_)
                refine lv_iinc (v := (nI (j281 + 1))) (lv' := [(9, .int (nI (j281 + 1))), (4, .int 0), (10, .ref (ad (34 + 4 * j281))), (7, .long (pb281 * b.toInt64)), (5, .long (pa281 * a.toInt64)), (0, .ref (ad 12)), (1, .int a), (2, .int b), (3, .int (nI n))]) hx hb dX2_compareGrowth_100 hl (k := 4) rfl (nI_1 _) (by decide) rfl (fun ls hl => ?_)
                refine lv_goto (tgt := 12) hx hb dX2_compareGrowth_103 (by decide) ?_
                exact ih_281 ((j281 + 1)) 0 (pa281 * a.toInt64) (pb281 * b.toInt64) en_292 ls H locs (by omega) (by omega) (by omega) hI_292 hf_292  (lv_sub hl [0, 3, 4, 1, 5, 6, 7, 8] rfl) hh
              · refine lv_iconst (v := 1) hx hb dX2_compareGrowth_93 (by decide) ?_
                refine lv_goto (tgt := 98) hx hb dX2_compareGrowth_94 (by decide) ?_
                refine lv_istore (lv' := [(4, .int 1), (10, .ref (ad (34 + 4 * j281))), (7, .long (pb281 * b.toInt64)), (5, .long (pa281 * a.toInt64)), (9, .int (nI j281)), (0, .ref (ad 12)), (1, .int a), (2, .int b), (3, .int (nI n))]) hx hb dX2_compareGrowth_98 hl (by decide) rfl (fun ls hl => ?_)
                refine lv_iinc (v := (nI (j281 + 1))) (lv' := [(9, .int (nI (j281 + 1))), (4, .int 1), (10, .ref (ad (34 + 4 * j281))), (7, .long (pb281 * b.toInt64)), (5, .long (pa281 * a.toInt64)), (0, .ref (ad 12)), (1, .int a), (2, .int b), (3, .int (nI n))]) hx hb dX2_compareGrowth_100 hl (k := 4) rfl (nI_1 _) (by decide) rfl (fun ls hl => ?_)
                refine lv_goto (tgt := 12) hx hb dX2_compareGrowth_103 (by decide) ?_
                exact ih_281 ((j281 + 1)) 1 (pa281 * a.toInt64) (pb281 * b.toInt64) en_292 ls H locs (by omega) (by omega) (by omega) hI_292 hf_292  (lv_sub hl [0, 3, 4, 1, 5, 6, 7, 8] rfl) hh
        · refine lv_iconst (v := 1) hx hb dX2_compareGrowth_63 (by decide) ?_
          exact hp_iretM hx hb hr rfl hlocks hh (⟨hI_285, hf_285⟩) dX2_compareGrowth_64
  exact loop_281 ((n + 1) + 1) 1 0 1 1 en ls _ _ (Nat.le_refl _) (by omega) (by omega) hI hf0  (lv_sub hl [0, 1, 2, 3, 4, 5, 6, 7] rfl) hh
theorem kw_X2_compareGrowth {R : Room} {s : State} {args : Array Value} {own : String} {idx : Nat} (hts : ∀ w ∈ TB, w.before args s = true) (hl : Cond.methodLink own idx yX2_compareGrowth ∈ TB) (hR : 21 + 1 ≤ R.frames ∧ 8 + (11 + 11) + 40 * 21 ≤ R.locals) : CallW R s args own RX2 idx yX2_compareGrowth cX2_compareGrowth 11 (some .int) (Cond.code yX2_compareGrowth cX2_compareGrowth 11 (some .int) :: TB) (rmN 21) 0 0 3 := cwV 3 hts (TB_V hl tw_566 tw_567 tw_3 tw_568) rfl rfl rfl (by decide +kernel) hR
