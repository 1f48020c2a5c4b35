set_option maxHeartbeats 4000000 in
set_option maxRecDepth 100000 in
/-- compareGrowth -/
theorem c_X2_compareGrowth (l : Launch) (D : va_G) (cy : Nat → ClassId) (sz : Nat) (cs : List Nat) (ad : Nat → Nat) (en : Nat → va_E) (hI : SX cy cs ad en) (a b : Int32) (n : Nat) (hn1 : 1 ≤ n) (hn8 : n ≤ 8)   : Met l yX2_compareGrowth (Cond.code yX2_compareGrowth cX2_compareGrowth 11 (some .int) :: TB) (rmN 21) (va_Pc [.ref (ad 12), .int a, .int b, .int (nI n)] (Pre D cy cs ad en sz)) (va_Qi (S := Nat → va_E) (fun r en1 => SX cy cs ad en1 ∧ (∀ c, (c < 12 ∨ 70 ≤ c) → en1 c = en c)) (PostM D cs ad) (Af cs ad sz)) 0 0 (Af cs ad sz) := by
  refine Met.ofW (cc := cX2_compareGrowth) (maxL := 11) (ret := (some .int)) (by decide) rfl ?_
  intro p e s m args below meth c s₁ B hml hv
  obtain ⟨rfl, hsz, hP, hK, hD0⟩ := hv
  have hx := B.exec
  have hb := B.bytes
  have hr := B.returns
  have hts : ∀ w ∈ TB, w.before _ s = true := fun w h => atoms_spec (ws := _ :: TB) B.pre w (List.mem_cons_of_mem _ h)
  have hown : s.vm.findClass RX2 = some m.cls := findClass_of_methodNamed B.named
  have hlocks := B.notSynchronized
  have hh : Hp D (Af cs ad sz) (Af cs ad sz) s.heap s.heap [] cs ad en := ⟨hP, Af_self hD0, va_S.rf⟩
  have hA : ∀ q : Nat, s.heap.size ≤ q → Af cs ad sz q := fun q h => Or.inr (by rw [hsz] at h; exact h)
  have hl := lv_entry ([.ref (ad 12), .int a, .int b, .int (nI n)]) (n := 11) (Nat.le_of_ble_eq_true rfl)
  rw [lg_entry_eq]
  generalize (lg_sl ([.ref (ad 12), .int a, .int b, .int (nI n)]) ++ List.replicate (11 - (lg_sl ([.ref (ad 12), .int a, .int b, .int (nI n)])).length) Slot.unset).toArray = ls at hl ⊢
  have hl : lv_has ls 11 [(0, .ref (ad 12)), (1, .int a), (2, .int b), (3, .int (nI n))] := hl
  have hf0 : ∀ c, (c < 12 ∨ 70 ≤ c) → en c = en c := fun _ _ => rfl
  obtain ⟨cnt, d, mm, es349, hcnt, hd2, hd3, hmm⟩ := get_T hI
  obtain ⟨f10, es350, hb10⟩ := get_alw hI
  refine lv_iconst (v := 0) hx hb dX2_compareGrowth_0 (by decide) ?_
  refine lv_istore (lv' := [(4, .int 0), (0, .ref (ad 12)), (1, .int a), (2, .int b), (3, .int (nI n))]) hx hb dX2_compareGrowth_1 hl (by decide) rfl (fun ls hl => ?_)
  refine lv_lconst (v := 1) hx hb dX2_compareGrowth_3 (by decide) ?_
  refine lv_lstore (lv' := [(5, .long 1), (4, .int 0), (0, .ref (ad 12)), (1, .int a), (2, .int b), (3, .int (nI n))]) hx hb dX2_compareGrowth_4 hl (by decide) rfl (fun ls hl => ?_)
  refine lv_lconst (v := 1) hx hb dX2_compareGrowth_6 (by decide) ?_
  refine lv_lstore (lv' := [(7, .long 1), (5, .long 1), (4, .int 0), (0, .ref (ad 12)), (1, .int a), (2, .int b), (3, .int (nI n))]) hx hb dX2_compareGrowth_7 hl (by decide) rfl (fun ls hl => ?_)
  refine lv_iconst (v := 1) hx hb dX2_compareGrowth_9 (by decide) ?_
  refine lv_istore (lv' := [(9, .int 1), (7, .long 1), (5, .long 1), (4, .int 0), (0, .ref (ad 12)), (1, .int a), (2, .int b), (3, .int (nI n))]) hx hb dX2_compareGrowth_10 hl (by decide) rfl (fun ls hl => ?_)
  have loop_351 : ∀ (fu j351 : Nat) (ib351 : Int32) (pa351 : Int64) (pb351 : Int64) (en_351 : Nat → va_E) (ls : Array Slot) (H : Heap) (locs : List Loc), 1 ≤ j351 → j351 ≤ (n + 1) → (n + 1) < j351 + fu → SX cy cs ad en_351 → (∀ c, (c < 12 ∨ 70 ≤ c) → en_351 c = en c) →  lv_has ls 11 [(9, .int (nI j351)), (7, .long pb351), (5, .long pa351), (4, .int ib351), (0, .ref (ad 12)), (1, .int a), (2, .int b), (3, .int (nI n))] → Hp D (Af cs ad sz) (Af cs ad sz) s.heap H locs cs ad en_351 → W p l e (headSpec (Cond.code yX2_compareGrowth cX2_compareGrowth 11 (some .int) :: TB) (rmN 21)).room s m ([.ref (ad 12), .int a, .int b, .int (nI n)] : List Value).toArray below meth c H locs 0 0 (MQ below (va_Qi (S := Nat → va_E) (fun r en1 => SX cy cs ad en1 ∧ (∀ c, (c < 12 ∨ 70 ≤ c) → en1 c = en c)) (PostM D cs ad) (Af cs ad sz)) ([.ref (ad 12), .int a, .int b, .int (nI n)] : List Value).toArray s 0 0 (Af cs ad sz)) (F0 m 12 ls []) := by
    intro fu
    induction fu with
    | zero => intro j351 ib351 pa351 pb351 en_351 ls H locs h0 h1 h2; exact absurd h2 (by omega)
    | succ fu ih_351 =>
      intro j351 ib351 pa351 pb351 en_351 ls H locs hj0_351 hj_351 hfu_351 hI_351 hf_351  hl hh
      refine lv_iload hx hb dX2_compareGrowth_12 (lv_at hl 0 rfl) ?_
      refine lv_iload_n hx hb dX2_compareGrowth_14 rfl (lv_at hl 7 rfl) ?_
      refine lv_icmp_gt (tgt := 106) hx hb dX2_compareGrowth_15 (by decide) (fun c_352 => ?_) (fun c_352 => ?_)
      · have n_352 : n < j351 := n_lt (a := n) (b := j351) c_352 (by omega) (by omega)
        refine lv_iload hx hb dX2_compareGrowth_106 (lv_at hl 3 rfl) ?_
        refine lv_if_eq (tgt := 115) hx hb dX2_compareGrowth_108 (by decide) (fun c_353 => ?_) (fun c_353 => ?_)
        · refine lv_iconst (v := 0) hx hb dX2_compareGrowth_115 (by decide) ?_
          exact hp_iretM hx hb hr rfl hlocks hh (⟨hI_351, hf_351⟩) dX2_compareGrowth_116
        · refine lv_iconst (v := (-1)) hx hb dX2_compareGrowth_111 (by decide) ?_
          refine lv_goto (tgt := 116) hx hb dX2_compareGrowth_112 (by decide) ?_
          exact hp_iretM hx hb hr rfl hlocks hh (⟨hI_351, hf_351⟩) dX2_compareGrowth_116
      · have n_352 : j351 ≤ n := n_nlt (a := n) (b := j351) c_352 (by omega) (by omega)
        refine lv_lload hx hb dX2_compareGrowth_18 (lv_at hl 2 rfl) ?_
        refine lv_iload_n hx hb dX2_compareGrowth_20 rfl (lv_at hl 5 rfl) ?_
        refine lv_i2l hx hb dX2_compareGrowth_21 rfl ?_
        refine lv_lmul hx hb dX2_compareGrowth_22 ?_
        refine lv_lstore (lv' := [(5, .long (pa351 * a.toInt64)), (9, .int (nI j351)), (7, .long pb351), (4, .int ib351), (0, .ref (ad 12)), (1, .int a), (2, .int b), (3, .int (nI n))]) hx hb dX2_compareGrowth_23 hl (by decide) rfl (fun ls hl => ?_)
        refine lv_lload hx hb dX2_compareGrowth_25 (lv_at hl 2 rfl) ?_
        refine lv_iload_n hx hb dX2_compareGrowth_27 rfl (lv_at hl 6 rfl) ?_
        refine lv_i2l hx hb dX2_compareGrowth_28 rfl ?_
        refine lv_lmul hx hb dX2_compareGrowth_29 ?_
        refine lv_lstore (lv' := [(7, .long (pb351 * b.toInt64)), (5, .long (pa351 * a.toInt64)), (9, .int (nI j351)), (4, .int ib351), (0, .ref (ad 12)), (1, .int a), (2, .int b), (3, .int (nI n))]) hx hb dX2_compareGrowth_30 hl (by decide) rfl (fun ls hl => ?_)
        refine lv_aload_n hx hb dX2_compareGrowth_32 rfl (lv_at hl 4 rfl) ?_
        refine lv_iload hx hb dX2_compareGrowth_33 (lv_at hl 2 rfl) ?_
        obtain ⟨hw_354, es354, p0_354⟩ := get_L hI_351
        refine hp_callMq (va_runV (As := [.int (nI j351)]) (rest := []) ⟨hx, hb, hml, hown, hts⟩ (c_X2_surveyOf l D cy _ cs ad en_351 hI_351 j351 (by omega) (by omega)) (kw_X2_surveyOf hts tw_569 ⟨by show _ ≤ 21; omega, by show _ ≤ 40 * 21; omega⟩) (preV_of hh hK (hI.1 _ (by decide)) es354 rfl) rfl rfl hl.1 rfl (lv_room (Nat.le_of_ble_eq_true rfl)) dX2_compareGrowth_35 ⟨Nat.le_of_ble_eq_true rfl, Nat.le_of_ble_eq_true rfl⟩) hh hA (fun r_355 H locs en_355 hw_355 hh => ?_)
        obtain ⟨hI_355, hu_355, hx_355⟩ := hw_355
        have hf_355 : ∀ c, (c < 12 ∨ 70 ≤ c) → en_355 c = en c := fun c hc => (hu_355 c (by omega)).trans (hf_351 c hc)
        obtain rfl : r_355 = some (ad (34 + 4 * j351)) := hx_355
        refine W.eq (g2 := F0 m 38 ls [.ref (ad (34 + 4 * j351))]) rfl ?_
        refine lv_astore (lv' := [(10, .ref (ad (34 + 4 * j351))), (7, .long (pb351 * b.toInt64)), (5, .long (pa351 * a.toInt64)), (9, .int (nI j351)), (4, .int ib351), (0, .ref (ad 12)), (1, .int a), (2, .int b), (3, .int (nI n))]) hx hb dX2_compareGrowth_38 hl (by decide) rfl (fun ls hl => ?_)
        refine lv_aload hx hb dX2_compareGrowth_40 (lv_at hl 0 rfl) ?_
        obtain ⟨dn_356, no_356, rc_356, gr_356, le_356, rt_356, tt_356, es356, p0_356⟩ := get_sv hI_355 (j := j351) (by omega)
        refine hp_get hx hb hts ix6 hown hK hh (q := (34 + 4 * j351)) rfl (hI.1 _ (by omega)) es356 rfl 9 (by decide) (hts _ tw_99) (fun _ h9 => h9) rfl dX2_compareGrowth_42 ?_
        refine lv_lload hx hb dX2_compareGrowth_45 (lv_at hl 1 rfl) ?_
        refine lv_lmul hx hb dX2_compareGrowth_47 ?_
        refine lv_aload_n hx hb dX2_compareGrowth_48 rfl (lv_at hl 5 rfl) ?_
        obtain ⟨hw_357, es357, p0_357⟩ := get_L hI_355
        refine hp_get hx hb hts ix2 hown hK hh (q := 12) rfl (hI.1 _ (by decide)) es357 rfl 0 (by decide) (hts _ tw_122) (fun _ h9 => h9) rfl dX2_compareGrowth_49 ?_
        have es349_358 : en_355 1 = .inr (7, [.ref (ad 2), .ref (ad 3), .ref (ad 10), .ref (ad 11), .int (nI cnt), .int (nI d), .int (nI mm)]) := (hf_355 1 (by omega)).trans es349
        refine hp_callRi (va_runV (As := []) (rest := [.long (tt_356 * (pb351 * b.toInt64))]) ⟨hx, hb, hml, hown, hts⟩ (c_X8_dimension l D cy _ cs ad en_355 (hI.1 _ (by decide)) cnt d mm hcnt hd2 hd3 hmm  es349_358) (kw_X8_dimension hts tw_570 ⟨by show _ ≤ 21; omega, by show _ ≤ 40 * 21; omega⟩) (preV_of hh hK (hI.1 _ (by decide)) es349_358 rfl) rfl rfl hl.1 rfl (lv_room (Nat.le_of_ble_eq_true rfl)) dX2_compareGrowth_52 ⟨Nat.le_of_ble_eq_true rfl, Nat.le_of_ble_eq_true rfl⟩) hh hA (fun r_359 H locs hw_359 hh => ?_)
        obtain rfl : r_359 = (nI d) := hw_359
        refine lv_i2l hx hb dX2_compareGrowth_55 rfl ?_
        refine lv_lload hx hb dX2_compareGrowth_56 (lv_at hl 2 rfl) ?_
        refine lv_lmul hx hb dX2_compareGrowth_58 ?_
        refine W.lcmp hx hb dX2_compareGrowth_59 ?_
        refine lv_if_le (tgt := 65) hx hb dX2_compareGrowth_60 (by decide) (fun c_360 => ?_) (fun c_360 => ?_)
        · refine lv_iload hx hb dX2_compareGrowth_65 (lv_at hl 4 rfl) ?_
          refine lv_if_ne (tgt := 93) hx hb dX2_compareGrowth_67 (by decide) (fun c_361 => ?_) (fun c_361 => ?_)
          · refine lv_iconst (v := 1) hx hb dX2_compareGrowth_93 (by decide) ?_
            refine lv_goto (tgt := 98) hx hb dX2_compareGrowth_94 (by decide) ?_
            refine lv_istore (lv' := [(4, .int 1), (10, .ref (ad (34 + 4 * j351))), (7, .long (pb351 * b.toInt64)), (5, .long (pa351 * a.toInt64)), (9, .int (nI j351)), (0, .ref (ad 12)), (1, .int a), (2, .int b), (3, .int (nI n))]) hx hb dX2_compareGrowth_98 hl (by decide) rfl (fun ls hl => ?_)
            refine lv_iinc (v := (nI (j351 + 1))) (lv' := [(9, .int (nI (j351 + 1))), (4, .int 1), (10, .ref (ad (34 + 4 * j351))), (7, .long (pb351 * b.toInt64)), (5, .long (pa351 * a.toInt64)), (0, .ref (ad 12)), (1, .int a), (2, .int b), (3, .int (nI n))]) hx hb dX2_compareGrowth_100 hl (k := 4) rfl (nI_1 _) (by decide) rfl (fun ls hl => ?_)
            refine lv_goto (tgt := 12) hx hb dX2_compareGrowth_103 (by decide) ?_
            exact ih_351 ((j351 + 1)) 1 (pa351 * a.toInt64) (pb351 * b.toInt64) en_355 ls H locs (by omega) (by omega) (by omega) hI_355 hf_355  (lv_sub hl [0, 3, 4, 1, 5, 6, 7, 8] rfl) hh
          · refine lv_aload_n hx hb dX2_compareGrowth_70 rfl (lv_at hl 5 rfl) ?_
            refine lv_iload hx hb dX2_compareGrowth_71 (lv_at hl 3 rfl) ?_
            refine hp_callMi (va_runV (As := [.int (nI j351)]) (rest := []) ⟨hx, hb, hml, hown, hts⟩ (c_X2_countOf l D cy _ cs ad en_355 hI_355 j351 (by omega)) (kw_X2_countOf hts tw_449 ⟨by show _ ≤ 21; omega, by show _ ≤ 40 * 21; omega⟩) (preV_of hh hK (hI.1 _ (by decide)) es357 rfl) rfl rfl hl.1 rfl (lv_room (Nat.le_of_ble_eq_true rfl)) dX2_compareGrowth_73 ⟨Nat.le_of_ble_eq_true rfl, Nat.le_of_ble_eq_true rfl⟩) hh hA (fun r_362 H locs en_362 hw_362 hh => ?_)
            obtain ⟨hI_362, hu_362⟩ := hw_362
            have hf_362 : ∀ c, (c < 12 ∨ 70 ≤ c) → en_362 c = en c := fun c hc => (hu_362 c (by omega)).trans (hf_355 c hc)
            refine lv_if_eq (tgt := 93) hx hb dX2_compareGrowth_76 (by decide) (fun c_363 => ?_) (fun c_363 => ?_)
            · refine lv_iconst (v := 1) hx hb dX2_compareGrowth_93 (by decide) ?_
              refine lv_goto (tgt := 98) hx hb dX2_compareGrowth_94 (by decide) ?_
              refine lv_istore (lv' := [(4, .int 1), (10, .ref (ad (34 + 4 * j351))), (7, .long (pb351 * b.toInt64)), (5, .long (pa351 * a.toInt64)), (9, .int (nI j351)), (0, .ref (ad 12)), (1, .int a), (2, .int b), (3, .int (nI n))]) hx hb dX2_compareGrowth_98 hl (by decide) rfl (fun ls hl => ?_)
              refine lv_iinc (v := (nI (j351 + 1))) (lv' := [(9, .int (nI (j351 + 1))), (4, .int 1), (10, .ref (ad (34 + 4 * j351))), (7, .long (pb351 * b.toInt64)), (5, .long (pa351 * a.toInt64)), (0, .ref (ad 12)), (1, .int a), (2, .int b), (3, .int (nI n))]) hx hb dX2_compareGrowth_100 hl (k := 4) rfl (nI_1 _) (by decide) rfl (fun ls hl => ?_)
              refine lv_goto (tgt := 12) hx hb dX2_compareGrowth_103 (by decide) ?_
              exact ih_351 ((j351 + 1)) 1 (pa351 * a.toInt64) (pb351 * b.toInt64) en_362 ls H locs (by omega) (by omega) (by omega) hI_362 hf_362  (lv_sub hl [0, 3, 4, 1, 5, 6, 7, 8] rfl) hh
            · refine lv_aload hx hb dX2_compareGrowth_79 (lv_at hl 0 rfl) ?_
              obtain ⟨dn_364, no_364, rc_364, gr_364, le_364, rt_364, tt_364, es364, p0_364⟩ := get_sv hI_362 (j := j351) (by omega)
              refine hp_get hx hb hts ix6 hown hK hh (q := (34 + 4 * j351)) rfl (hI.1 _ (by omega)) es364 rfl 6 (by decide) (hts _ tw_93) (fun _ h9 => h9) rfl dX2_compareGrowth_81 ?_
              refine lv_lload hx hb dX2_compareGrowth_84 (lv_at hl 1 rfl) ?_
              refine lv_lmul hx hb dX2_compareGrowth_86 ?_
              refine lv_lload hx hb dX2_compareGrowth_87 (lv_at hl 2 rfl) ?_
              refine W.lcmp hx hb dX2_compareGrowth_89 ?_
              refine lv_if_ge (tgt := 97) hx hb dX2_compareGrowth_90 (by decide) (fun c_365 => ?_) (fun c_365 => ?_)
              · refine lv_iconst (v := 0) hx hb dX2_compareGrowth_97 (by decide) ?_
                refine lv_istore (lv' := [(4, .int 0), (10, .ref (ad (34 + 4 * j351))), (7, .long (pb351 * b.toInt64)), (5, .long (pa351 * a.toInt64)), (9, .int (nI j351)), (0, .ref (ad 12)), (1, .int a), (2, .int b), (3, .int (nI n))]) hx hb dX2_compareGrowth_98 hl (by decide) rfl (fun ls hl => ?_)
                refine lv_iinc (v := (nI (j351 + 1))) (lv' := [(9, .int (nI (j351 + 1))), (4, .int 0), (10, .ref (ad (34 + 4 * j351))), (7, .long (pb351 * b.toInt64)), (5, .long (pa351 * a.toInt64)), (0, .ref (ad 12)), (1, .int a), (2, .int b), (3, .int (nI n))]) hx hb dX2_compareGrowth_100 hl (k := 4) rfl (nI_1 _) (by decide) rfl (fun ls hl => ?_)
                refine lv_goto (tgt := 12) hx hb dX2_compareGrowth_103 (by decide) ?_
                exact ih_351 ((j351 + 1)) 0 (pa351 * a.toInt64) (pb351 * b.toInt64) en_362 ls H locs (by omega) (by omega) (by omega) hI_362 hf_362  (lv_sub hl [0, 3, 4, 1, 5, 6, 7, 8] rfl) hh
              · refine lv_iconst (v := 1) hx hb dX2_compareGrowth_93 (by decide) ?_
                refine lv_goto (tgt := 98) hx hb dX2_compareGrowth_94 (by decide) ?_
                refine lv_istore (lv' := [(4, .int 1), (10, .ref (ad (34 + 4 * j351))), (7, .long (pb351 * b.toInt64)), (5, .long (pa351 * a.toInt64)), (9, .int (nI j351)), (0, .ref (ad 12)), (1, .int a), (2, .int b), (3, .int (nI n))]) hx hb dX2_compareGrowth_98 hl (by decide) rfl (fun ls hl => ?_)
                refine lv_iinc (v := (nI (j351 + 1))) (lv' := [(9, .int (nI (j351 + 1))), (4, .int 1), (10, .ref (ad (34 + 4 * j351))), (7, .long (pb351 * b.toInt64)), (5, .long (pa351 * a.toInt64)), (0, .ref (ad 12)), (1, .int a), (2, .int b), (3, .int (nI n))]) hx hb dX2_compareGrowth_100 hl (k := 4) rfl (nI_1 _) (by decide) rfl (fun ls hl => ?_)
                refine lv_goto (tgt := 12) hx hb dX2_compareGrowth_103 (by decide) ?_
                exact ih_351 ((j351 + 1)) 1 (pa351 * a.toInt64) (pb351 * b.toInt64) en_362 ls H locs (by omega) (by omega) (by omega) hI_362 hf_362  (lv_sub hl [0, 3, 4, 1, 5, 6, 7, 8] rfl) hh
        · refine lv_iconst (v := 1) hx hb dX2_compareGrowth_63 (by decide) ?_
          exact hp_iretM hx hb hr rfl hlocks hh (⟨hI_355, hf_355⟩) dX2_compareGrowth_64
  exact loop_351 ((n + 1) + 1) 1 0 1 1 en ls _ _ (Nat.le_refl _) (by omega) (by omega) hI hf0  (lv_sub hl [0, 1, 2, 3, 4, 5, 6, 7] rfl) hh
theorem kw_X2_compareGrowth {R : Room} {s : State} {args : Array Value} {own : String} {idx : Nat} (hts : ∀ w ∈ TB, w.before args s = true) (hl : Cond.methodLink own idx yX2_compareGrowth ∈ TB) (hR : 21 + 1 ≤ R.frames ∧ 8 + (11 + 11) + 40 * 21 ≤ R.locals) : CallW R s args own RX2 idx yX2_compareGrowth cX2_compareGrowth 11 (some .int) (Cond.code yX2_compareGrowth cX2_compareGrowth 11 (some .int) :: TB) (rmN 21) 0 0 3 := cwV 3 hts (TB_V hl tw_566 tw_567 tw_3 tw_568) rfl rfl rfl (by decide +kernel) hR
