set_option maxHeartbeats 4000000 in
set_option maxRecDepth 100000 in
/-- X11_length -/
theorem c_X11_length (l : Launch) (D : va_G) (cy : Nat → ClassId) (sz : Nat) (cs : List Nat) (ad : Nat → Nat) (en : Nat → va_E) (hI : SX cy cs ad en) (n w : Int32) (hLN : LNX en)   : Met l yX11_length (Cond.code yX11_length cX11_length 4 (some .long) :: TB) (rmN 22) (va_Pc [.ref (ad 0), .int n, .int w] (Pre D cy cs ad en sz)) (va_Ql (S := Nat → va_E) (fun r en1 => SX cy cs ad en1 ∧ (∀ c, (c < 12 ∨ 70 ≤ c) → en1 c = en c) ∧ (LNX en1 ∧ XLN n w r en)) (PostM D cs ad) (Af cs ad sz)) 0 0 (Af cs ad sz) := by
  refine Met.ofW (cc := cX11_length) (maxL := 4) (ret := (some .long)) (by decide) rfl ?_
  intro p e s m args below meth c s₁ B hml hv
  obtain ⟨rfl, hsz, hP, hK, hD0⟩ := hv
  have hx := B.exec
  have hb := B.bytes
  have hr := B.returns
  have hts : ∀ w ∈ TB, w.before _ s = true := fun w h => atoms_spec (ws := _ :: TB) B.pre w (List.mem_cons_of_mem _ h)
  have hown : s.vm.findClass RX11 = some m.cls := findClass_of_methodNamed B.named
  have hlocks := B.notSynchronized
  have hh : Hp D (Af cs ad sz) (Af cs ad sz) s.heap s.heap [] cs ad en := ⟨hP, Af_self hD0, va_S.rf⟩
  have hA : ∀ q : Nat, s.heap.size ≤ q → Af cs ad sz q := fun q h => Or.inr (by rw [hsz] at h; exact h)
  have hl := lv_entry ([.ref (ad 0), .int n, .int w]) (n := 4) (Nat.le_of_ble_eq_true rfl)
  rw [lg_entry_eq]
  generalize (lg_sl ([.ref (ad 0), .int n, .int w]) ++ List.replicate (4 - (lg_sl ([.ref (ad 0), .int n, .int w])).length) Slot.unset).toArray = ls at hl ⊢
  have hl : lv_has ls 4 [(0, .ref (ad 0)), (1, .int n), (2, .int w)] := hl
  have hf0 : ∀ c, (c < 12 ∨ 70 ≤ c) → en c = en c := fun _ _ => rfl
  obtain ⟨wc_287, lf_287, es287, p0_287⟩ := get_A hI
  obtain ⟨cnt, d, mm, es288, hcnt, hd2, hd3, hmm⟩ := get_T hI
  obtain ⟨f10, es289, hb10⟩ := get_alw hI
  have hk9 : kX en = cnt := by unfold kX; rw [show rdI (en 1) 4 = nI cnt from by rw [es288]; rfl]; exact nI_clamp (by omega)
  have ha9 : aX en = (alX f10) := by unfold aX; rw [show rdF (en 10) = f10 from by rw [es289]; rfl]
  refine lv_iload_n hx hb dX11_length_0 rfl (lv_at hl 1 rfl) ?_
  refine lv_iconst (v := 1) hx hb dX11_length_1 (by decide) ?_
  refine lv_bipush (v := 8) hx hb dX11_length_2 (by decide) ?_
  refine hp_callRi (va_runS (As := [.int n, .int 1, .int 8]) (rest := []) ⟨hx, hb, hml, hown, hts⟩ (c_X11_isWithin l D cy _ cs ad en n 1 8) (kw_X11_isWithin hts tw_274 ⟨by show _ ≤ 22; omega, by show _ ≤ 40 * 22; omega⟩) (preS_of hh hK) rfl rfl hl.1 rfl (lv_room (Nat.le_of_ble_eq_true rfl)) dX11_length_4 ⟨Nat.le_of_ble_eq_true rfl, Nat.le_of_ble_eq_true rfl⟩) hh hA (fun r_290 H locs hw_290 hh => ?_)
  rcases Decidable.em (wi n 1 8) with hp_290 | hp_290
  · obtain rfl : r_290 = 1 := Eq.trans hw_290 (if_pos hp_290)
    obtain ⟨N_290, rfl, hA_290, hB_290⟩ := wi_natB hp_290 1 8 (by decide) (by decide)
    refine lv_if_eq (tgt := 19) hx hb dX11_length_7 (by decide) (fun c_0 => absurd c_0 (by decide)) (fun _ => ?_)
    refine lv_iload_n hx hb dX11_length_10 rfl (lv_at hl 2 rfl) ?_
    refine lv_iconst (v := 0) hx hb dX11_length_11 (by decide) ?_
    refine lv_iconst (v := 3) hx hb dX11_length_12 (by decide) ?_
    refine hp_callRi (va_runS (As := [.int w, .int 0, .int 3]) (rest := []) ⟨hx, hb, hml, hown, hts⟩ (c_X11_isWithin l D cy _ cs ad en w 0 3) (kw_X11_isWithin hts tw_274 ⟨by show _ ≤ 22; omega, by show _ ≤ 40 * 22; omega⟩) (preS_of hh hK) rfl rfl hl.1 rfl (lv_room (Nat.le_of_ble_eq_true rfl)) dX11_length_13 ⟨Nat.le_of_ble_eq_true rfl, Nat.le_of_ble_eq_true rfl⟩) hh hA (fun r_291 H locs hw_291 hh => ?_)
    rcases Decidable.em (wi w 0 3) with hp_291 | hp_291
    · obtain rfl : r_291 = 1 := Eq.trans hw_291 (if_pos hp_291)
      obtain ⟨N_291, rfl, hA_291, hB_291⟩ := wi_natB hp_291 0 3 (by decide) (by decide)
      refine lv_if_ne (tgt := 23) hx hb dX11_length_16 (by decide) (fun _ => ?_) (fun c_0 => absurd c_0 (by decide))
      refine lv_aload_n hx hb dX11_length_23 rfl (lv_at hl 0 rfl) ?_
      refine hp_get hx hb hts ix11 hown hK hh (q := 0) rfl (hI.1 _ (by decide)) es287 rfl 1 (by decide) (hts _ tw_246) (fun _ h9 => h9) rfl dX11_length_24 ?_
      refine lv_iload_n hx hb dX11_length_27 rfl (lv_at hl 1 rfl) ?_
      obtain ⟨hw_292, es292, p0_292⟩ := get_L hI
      refine hp_callMi (va_runV (As := [.int (nI N_290)]) (rest := []) ⟨hx, hb, hml, hown, hts⟩ (c_X2_isSpent l D cy _ cs ad en hI N_290 (by omega) (by omega) (hLN).1) (kw_X2_isSpent hts tw_445 ⟨by show _ ≤ 22; omega, by show _ ≤ 40 * 22; omega⟩) (preV_of hh hK (hI.1 _ (by decide)) es292 rfl) rfl rfl hl.1 rfl (lv_room (Nat.le_of_ble_eq_true rfl)) dX11_length_28 ⟨Nat.le_of_ble_eq_true rfl, Nat.le_of_ble_eq_true rfl⟩) hh hA (fun r_293 H locs en_293 hw_293 hh => ?_)
      obtain ⟨hI_293, hu_293, hx_293⟩ := hw_293
      have hf_293 : ∀ c, (c < 12 ∨ 70 ≤ c) → en_293 c = en c := fun c hc => (hu_293 c (by omega)).trans (hf0 c hc)
      have hln_293 : LNX en_293 := LNX_w hLN hx_293.2.1 hu_293
      have hw_293 := hx_293.1
      rcases hw_293 with ⟨hb_293, hy_293⟩ | ⟨hb_293, hy_293⟩
      · obtain rfl : r_293 = 1 := hb_293
        refine lv_if_eq (tgt := 38) hx hb dX11_length_31 (by decide) (fun c_0 => absurd c_0 (by decide)) (fun _ => ?_)
        refine lv_ldc2 hx hb hown (hts _ tw_420) dX11_length_34 ?_
        exact hp_lretM hx hb hr hlocks hh (⟨hI_293, hf_293, ⟨hln_293, Or.inr ⟨N_290, N_291, rfl, rfl, by omega, by omega, by omega, Or.inl ⟨hy_293, rfl⟩⟩⟩⟩) dX11_length_37
      · obtain rfl : r_293 = 0 := hb_293
        refine lv_if_eq (tgt := 38) hx hb dX11_length_31 (by decide) (fun _ => ?_) (fun c_0 => absurd c_0 (by decide))
        refine lv_aload_n hx hb dX11_length_38 rfl (lv_at hl 0 rfl) ?_
        have es287_294 : en_293 0 = .inr (10, [.ref (ad 1), .ref (ad 12), .ref (ad 70), .ref (ad 74), .ref (ad 75), .ref (ad 76), .int (nI wc_287), .int lf_287]) := (hf_293 0 (by omega)).trans es287
        refine hp_get hx hb hts ix11 hown hK hh (q := 0) rfl (hI.1 _ (by decide)) es287_294 rfl 1 (by decide) (hts _ tw_246) (fun _ h9 => h9) rfl dX11_length_39 ?_
        refine lv_iload_n hx hb dX11_length_42 rfl (lv_at hl 1 rfl) ?_
        obtain ⟨hw_295, es295, p0_295⟩ := get_L hI_293
        refine hp_callMi (va_runV (As := [.int (nI N_290)]) (rest := []) ⟨hx, hb, hml, hown, hts⟩ (c_X2_countOf l D cy _ cs ad en_293 hI_293 N_290 (by omega) (by omega) (hln_293).1) (kw_X2_countOf hts tw_466 ⟨by show _ ≤ 22; omega, by show _ ≤ 40 * 22; omega⟩) (preV_of hh hK (hI.1 _ (by decide)) es295 rfl) rfl rfl hl.1 rfl (lv_room (Nat.le_of_ble_eq_true rfl)) dX11_length_43 ⟨Nat.le_of_ble_eq_true rfl, Nat.le_of_ble_eq_true rfl⟩) hh hA (fun r_296 H locs en_296 hw_296 hh => ?_)
        obtain ⟨hI_296, hu_296, hx_296⟩ := hw_296
        have hf_296 : ∀ c, (c < 12 ∨ 70 ≤ c) → en_296 c = en c := fun c hc => (hu_296 c (by omega)).trans (hf_293 c hc)
        have hcb_296 : CNX en N_290 ≤ 1679616 := cnt_le (al := aX en) (by rw [hk9]; omega) (by omega)
        have hcn_296 : CNX en_293 N_290 = CNX en N_290 := CNX_c (hf_293 1 (by omega)) (hf_293 10 (by omega))
        obtain rfl : r_296 = nI (CNX en N_290) := hx_296.1.trans (congrArg nI hcn_296)
        have hln_296 : LNX en_296 := LNX_w hln_293 hx_296.2.1 hu_296
        refine lv_if_ne (tgt := 53) hx hb dX11_length_46 (by decide) (fun c_297 => ?_) (fun c_297 => ?_)
        · have n_297 : (CNX en N_290) ≠ 0 := n_neq (a := (CNX en N_290)) (b := 0) c_297 (by omega) (by decide)
          refine lv_iconst (v := 0) hx hb dX11_length_53 (by decide) ?_
          refine lv_istore_n (lv' := [(3, .int 0), (0, .ref (ad 0)), (1, .int (nI N_290)), (2, .int (nI N_291))]) hx hb dX11_length_54 rfl hl (by decide) rfl (fun ls hl => ?_)
          refine lv_iload_n hx hb dX11_length_55 rfl (lv_at hl 3 rfl) ?_
          by_cases q_298_0 : (nI N_291) = 0
          · refine lv_tableIn (off := 28) (tgt := 84) hx hb dX11_length_56 (by rw [q_298_0]; decide) (by rw [q_298_0]; decide) (by rw [q_298_0]; decide) (by decide) ?_
            refine lv_aload_n hx hb dX11_length_84 rfl (lv_at hl 1 rfl) ?_
            have es287_299 : en_296 0 = .inr (10, [.ref (ad 1), .ref (ad 12), .ref (ad 70), .ref (ad 74), .ref (ad 75), .ref (ad 76), .int (nI wc_287), .int lf_287]) := (hf_296 0 (by omega)).trans es287
            refine hp_get hx hb hts ix11 hown hK hh (q := 0) rfl (hI.1 _ (by decide)) es287_299 rfl 1 (by decide) (hts _ tw_246) (fun _ h9 => h9) rfl dX11_length_85 ?_
            refine lv_iload_n hx hb dX11_length_88 rfl (lv_at hl 2 rfl) ?_
            obtain ⟨hw_300, es300, p0_300⟩ := get_L hI_296
            refine hp_callMi (va_runV (As := [.int (nI N_290)]) (rest := []) ⟨hx, hb, hml, hown, hts⟩ (c_X2_countOf l D cy _ cs ad en_296 hI_296 N_290 (by omega) (by omega) (hln_296).1) (kw_X2_countOf hts tw_466 ⟨by show _ ≤ 22; omega, by show _ ≤ 40 * 22; omega⟩) (preV_of hh hK (hI.1 _ (by decide)) es300 rfl) rfl rfl hl.1 rfl (lv_room (Nat.le_of_ble_eq_true rfl)) dX11_length_89 ⟨Nat.le_of_ble_eq_true rfl, Nat.le_of_ble_eq_true rfl⟩) hh hA (fun r_301 H locs en_301 hw_301 hh => ?_)
            obtain ⟨hI_301, hu_301, hx_301⟩ := hw_301
            have hf_301 : ∀ c, (c < 12 ∨ 70 ≤ c) → en_301 c = en c := fun c hc => (hu_301 c (by omega)).trans (hf_296 c hc)
            have hcb_301 : CNX en N_290 ≤ 1679616 := cnt_le (al := aX en) (by rw [hk9]; omega) (by omega)
            have hcn_301 : CNX en_296 N_290 = CNX en N_290 := CNX_c (hf_296 1 (by omega)) (hf_296 10 (by omega))
            obtain rfl : r_301 = nI (CNX en N_290) := hx_301.1.trans (congrArg nI hcn_301)
            have hln_301 : LNX en_301 := LNX_w hln_296 hx_301.2.1 hu_301
            refine lv_i2l hx hb dX11_length_92 rfl ?_
            have hV0 : N_291 = 0 := n_eq (a := N_291) (b := 0) q_298_0 (by omega) (by decide)
            exact hp_lretM hx hb hr hlocks hh (⟨hI_301, hf_301, ⟨hln_301, Or.inr ⟨N_290, N_291, rfl, rfl, by omega, by omega, by omega, Or.inr ⟨hy_293, fun _ => 0, fun _ => 0, by unfold pickC; rw [if_pos hV0]⟩⟩⟩⟩) dX11_length_93
          by_cases q_298_1 : (nI N_291) = 1
          · refine lv_tableIn (off := 38) (tgt := 94) hx hb dX11_length_56 (by rw [q_298_1]; decide) (by rw [q_298_1]; decide) (by rw [q_298_1]; decide) (by decide) ?_
            refine lv_iload_n hx hb dX11_length_94 rfl (lv_at hl 0 rfl) ?_
            refine lv_if_eq (tgt := 104) hx hb dX11_length_95 (by decide) (fun _ => ?_) (fun c_0 => absurd c_0 (by decide))
            refine lv_aload_n hx hb dX11_length_104 rfl (lv_at hl 1 rfl) ?_
            have es287_302 : en_296 0 = .inr (10, [.ref (ad 1), .ref (ad 12), .ref (ad 70), .ref (ad 74), .ref (ad 75), .ref (ad 76), .int (nI wc_287), .int lf_287]) := (hf_296 0 (by omega)).trans es287
            refine hp_get hx hb hts ix11 hown hK hh (q := 0) rfl (hI.1 _ (by decide)) es287_302 rfl 1 (by decide) (hts _ tw_246) (fun _ h9 => h9) rfl dX11_length_105 ?_
            refine lv_iload_n hx hb dX11_length_108 rfl (lv_at hl 2 rfl) ?_
            obtain ⟨hw_303, es303, p0_303⟩ := get_L hI_296
            refine hp_callMq (va_runV (As := [.int (nI N_290)]) (rest := []) ⟨hx, hb, hml, hown, hts⟩ (c_X2_surveyOf l D cy _ cs ad en_296 hI_296 N_290 (by omega) (by omega) hln_296) (kw_X2_surveyOf hts tw_467 ⟨by show _ ≤ 22; omega, by show _ ≤ 40 * 22; omega⟩) (preV_of hh hK (hI.1 _ (by decide)) es303 rfl) rfl rfl hl.1 rfl (lv_room (Nat.le_of_ble_eq_true rfl)) dX11_length_109 ⟨Nat.le_of_ble_eq_true rfl, Nat.le_of_ble_eq_true rfl⟩) hh hA (fun r_304 H locs en_304 hw_304 hh => ?_)
            obtain ⟨hI_304, hu_304, hx_304⟩ := hw_304
            have hf_304 : ∀ c, (c < 12 ∨ 70 ≤ c) → en_304 c = en c := fun c hc => (hu_304 c (by omega)).trans (hf_296 c hc)
            obtain rfl : r_304 = some (ad (34 + 4 * N_290)) := hx_304.1
            refine W.eq (g2 := F0 m 112 ls [.ref (ad (34 + 4 * N_290))]) rfl ?_
            obtain ⟨dn_305, no_305, rc_305, gr_305, le_305, rt_305, tt_305, es305, p0_305⟩ := get_sv hI_304 (j := N_290) (by omega)
            refine hp_get hx hb hts ix6 hown hK hh (q := (34 + 4 * N_290)) rfl (hI.1 _ (by omega)) es305 rfl 6 (by decide) (hts _ tw_92) (fun _ h9 => h9) rfl dX11_length_112 ?_
            have hV0 : N_291 ≠ 0 := n_neq (a := N_291) (b := 0) q_298_0 (by omega) (by decide)
            have hV1 : N_291 = 1 := n_eq (a := N_291) (b := 1) q_298_1 (by omega) (by decide)
            obtain ⟨fN, gN, hfg⟩ := hx_304.2.2.1
            exact hp_lretM hx hb hr hlocks hh (⟨hI_304, hf_304, ⟨hx_304.2.1, Or.inr ⟨N_290, N_291, rfl, rfl, by omega, by omega, by omega, Or.inr ⟨hy_293, fN, gN, by unfold pickC; rw [if_neg hV0, if_pos hV1, if_neg n_297, ← NF9_c (a := en) (b := en_304) hf_304, show NF9 en_304 N_290 fN gN = svN en_304 N_290 from hfg.symm]; show _ = rdJ (en_304 (34 + 4 * N_290)) 6; rw [es305]; rfl⟩⟩⟩⟩) dX11_length_115
          by_cases q_298_2 : (nI N_291) = 2
          · refine lv_tableIn (off := 60) (tgt := 116) hx hb dX11_length_56 (by rw [q_298_2]; decide) (by rw [q_298_2]; decide) (by rw [q_298_2]; decide) (by decide) ?_
            refine lv_iload_n hx hb dX11_length_116 rfl (lv_at hl 0 rfl) ?_
            refine lv_if_eq (tgt := 126) hx hb dX11_length_117 (by decide) (fun _ => ?_) (fun c_0 => absurd c_0 (by decide))
            refine lv_aload_n hx hb dX11_length_126 rfl (lv_at hl 1 rfl) ?_
            have es287_306 : en_296 0 = .inr (10, [.ref (ad 1), .ref (ad 12), .ref (ad 70), .ref (ad 74), .ref (ad 75), .ref (ad 76), .int (nI wc_287), .int lf_287]) := (hf_296 0 (by omega)).trans es287
            refine hp_get hx hb hts ix11 hown hK hh (q := 0) rfl (hI.1 _ (by decide)) es287_306 rfl 1 (by decide) (hts _ tw_246) (fun _ h9 => h9) rfl dX11_length_127 ?_
            refine lv_iload_n hx hb dX11_length_130 rfl (lv_at hl 2 rfl) ?_
            obtain ⟨hw_307, es307, p0_307⟩ := get_L hI_296
            refine hp_callMq (va_runV (As := [.int (nI N_290)]) (rest := []) ⟨hx, hb, hml, hown, hts⟩ (c_X2_surveyOf l D cy _ cs ad en_296 hI_296 N_290 (by omega) (by omega) hln_296) (kw_X2_surveyOf hts tw_467 ⟨by show _ ≤ 22; omega, by show _ ≤ 40 * 22; omega⟩) (preV_of hh hK (hI.1 _ (by decide)) es307 rfl) rfl rfl hl.1 rfl (lv_room (Nat.le_of_ble_eq_true rfl)) dX11_length_131 ⟨Nat.le_of_ble_eq_true rfl, Nat.le_of_ble_eq_true rfl⟩) hh hA (fun r_308 H locs en_308 hw_308 hh => ?_)
            obtain ⟨hI_308, hu_308, hx_308⟩ := hw_308
            have hf_308 : ∀ c, (c < 12 ∨ 70 ≤ c) → en_308 c = en c := fun c hc => (hu_308 c (by omega)).trans (hf_296 c hc)
            obtain rfl : r_308 = some (ad (34 + 4 * N_290)) := hx_308.1
            refine W.eq (g2 := F0 m 134 ls [.ref (ad (34 + 4 * N_290))]) rfl ?_
            obtain ⟨dn_309, no_309, rc_309, gr_309, le_309, rt_309, tt_309, es309, p0_309⟩ := get_sv hI_308 (j := N_290) (by omega)
            refine hp_get hx hb hts ix6 hown hK hh (q := (34 + 4 * N_290)) rfl (hI.1 _ (by omega)) es309 rfl 7 (by decide) (hts _ tw_95) (fun _ h9 => h9) rfl dX11_length_134 ?_
            have hV0 : N_291 ≠ 0 := n_neq (a := N_291) (b := 0) q_298_0 (by omega) (by decide)
            have hV1 : N_291 ≠ 1 := n_neq (a := N_291) (b := 1) q_298_1 (by omega) (by decide)
            have hV2 : N_291 = 2 := n_eq (a := N_291) (b := 2) q_298_2 (by omega) (by decide)
            obtain ⟨fN, gN, hfg⟩ := hx_308.2.2.1
            exact hp_lretM hx hb hr hlocks hh (⟨hI_308, hf_308, ⟨hx_308.2.1, Or.inr ⟨N_290, N_291, rfl, rfl, by omega, by omega, by omega, Or.inr ⟨hy_293, fN, gN, by unfold pickC; rw [if_neg hV0, if_neg hV1, if_pos hV2, if_neg n_297, ← NF9_c (a := en) (b := en_308) hf_308, show NF9 en_308 N_290 fN gN = svN en_308 N_290 from hfg.symm]; show _ = rdJ (en_308 (34 + 4 * N_290)) 7; rw [es309]; rfl⟩⟩⟩⟩) dX11_length_137
          refine lv_tableOut (tgt := 138) hx hb dX11_length_56 (tb_out 3 (by decide) (by decide) (fun j hj => by rcases (show j = 0 ∨ j = 1 ∨ j = 2 by omega) with rfl | rfl | rfl <;> first | exact lv_neT q_298_0 (by decide) | exact lv_neT q_298_1 (by decide) | exact lv_neT q_298_2 (by decide))) (by decide) ?_
          refine lv_aload_n hx hb dX11_length_138 rfl (lv_at hl 1 rfl) ?_
          have es287_310 : en_296 0 = .inr (10, [.ref (ad 1), .ref (ad 12), .ref (ad 70), .ref (ad 74), .ref (ad 75), .ref (ad 76), .int (nI wc_287), .int lf_287]) := (hf_296 0 (by omega)).trans es287
          refine hp_get hx hb hts ix11 hown hK hh (q := 0) rfl (hI.1 _ (by decide)) es287_310 rfl 1 (by decide) (hts _ tw_246) (fun _ h9 => h9) rfl dX11_length_139 ?_
          refine lv_iload_n hx hb dX11_length_142 rfl (lv_at hl 2 rfl) ?_
          obtain ⟨hw_311, es311, p0_311⟩ := get_L hI_296
          refine hp_callMq (va_runV (As := [.int (nI N_290)]) (rest := []) ⟨hx, hb, hml, hown, hts⟩ (c_X2_surveyOf l D cy _ cs ad en_296 hI_296 N_290 (by omega) (by omega) hln_296) (kw_X2_surveyOf hts tw_467 ⟨by show _ ≤ 22; omega, by show _ ≤ 40 * 22; omega⟩) (preV_of hh hK (hI.1 _ (by decide)) es311 rfl) rfl rfl hl.1 rfl (lv_room (Nat.le_of_ble_eq_true rfl)) dX11_length_143 ⟨Nat.le_of_ble_eq_true rfl, Nat.le_of_ble_eq_true rfl⟩) hh hA (fun r_312 H locs en_312 hw_312 hh => ?_)
          obtain ⟨hI_312, hu_312, hx_312⟩ := hw_312
          have hf_312 : ∀ c, (c < 12 ∨ 70 ≤ c) → en_312 c = en c := fun c hc => (hu_312 c (by omega)).trans (hf_296 c hc)
          obtain rfl : r_312 = some (ad (34 + 4 * N_290)) := hx_312.1
          refine W.eq (g2 := F0 m 146 ls [.ref (ad (34 + 4 * N_290))]) rfl ?_
          obtain ⟨dn_313, no_313, rc_313, gr_313, le_313, rt_313, tt_313, es313, p0_313⟩ := get_sv hI_312 (j := N_290) (by omega)
          refine hp_get hx hb hts ix6 hown hK hh (q := (34 + 4 * N_290)) rfl (hI.1 _ (by omega)) es313 rfl 4 (by decide) (hts _ tw_88) (fun _ h9 => h9) rfl dX11_length_146 ?_
          refine lv_i2l hx hb dX11_length_149 rfl ?_
          have hV0 : N_291 ≠ 0 := n_neq (a := N_291) (b := 0) q_298_0 (by omega) (by decide)
          have hV1 : N_291 ≠ 1 := n_neq (a := N_291) (b := 1) q_298_1 (by omega) (by decide)
          have hV2 : N_291 ≠ 2 := n_neq (a := N_291) (b := 2) q_298_2 (by omega) (by decide)
          obtain ⟨fN, gN, hfg⟩ := hx_312.2.2.1
          exact hp_lretM hx hb hr hlocks hh (⟨hI_312, hf_312, ⟨hx_312.2.1, Or.inr ⟨N_290, N_291, rfl, rfl, by omega, by omega, by omega, Or.inr ⟨hy_293, fN, gN, by unfold pickC; rw [if_neg hV0, if_neg hV1, if_neg hV2, ← NF9_c (a := en) (b := en_312) hf_312, show NF9 en_312 N_290 fN gN = svN en_312 N_290 from hfg.symm]; show _ = (rdI (en_312 (34 + 4 * N_290)) 4).toInt64; rw [es313]; rfl⟩⟩⟩⟩) dX11_length_150
        · have n_297 : (CNX en N_290) = 0 := n_eq (a := (CNX en N_290)) (b := 0) c_297 (by omega) (by decide)
          refine lv_iconst (v := 1) hx hb dX11_length_49 (by decide) ?_
          refine lv_goto (tgt := 54) hx hb dX11_length_50 (by decide) ?_
          refine lv_istore_n (lv' := [(3, .int 1), (0, .ref (ad 0)), (1, .int (nI N_290)), (2, .int (nI N_291))]) hx hb dX11_length_54 rfl hl (by decide) rfl (fun ls hl => ?_)
          refine lv_iload_n hx hb dX11_length_55 rfl (lv_at hl 3 rfl) ?_
          by_cases q_314_0 : (nI N_291) = 0
          · refine lv_tableIn (off := 28) (tgt := 84) hx hb dX11_length_56 (by rw [q_314_0]; decide) (by rw [q_314_0]; decide) (by rw [q_314_0]; decide) (by decide) ?_
            refine lv_aload_n hx hb dX11_length_84 rfl (lv_at hl 1 rfl) ?_
            have es287_315 : en_296 0 = .inr (10, [.ref (ad 1), .ref (ad 12), .ref (ad 70), .ref (ad 74), .ref (ad 75), .ref (ad 76), .int (nI wc_287), .int lf_287]) := (hf_296 0 (by omega)).trans es287
            refine hp_get hx hb hts ix11 hown hK hh (q := 0) rfl (hI.1 _ (by decide)) es287_315 rfl 1 (by decide) (hts _ tw_246) (fun _ h9 => h9) rfl dX11_length_85 ?_
            refine lv_iload_n hx hb dX11_length_88 rfl (lv_at hl 2 rfl) ?_
            obtain ⟨hw_316, es316, p0_316⟩ := get_L hI_296
            refine hp_callMi (va_runV (As := [.int (nI N_290)]) (rest := []) ⟨hx, hb, hml, hown, hts⟩ (c_X2_countOf l D cy _ cs ad en_296 hI_296 N_290 (by omega) (by omega) (hln_296).1) (kw_X2_countOf hts tw_466 ⟨by show _ ≤ 22; omega, by show _ ≤ 40 * 22; omega⟩) (preV_of hh hK (hI.1 _ (by decide)) es316 rfl) rfl rfl hl.1 rfl (lv_room (Nat.le_of_ble_eq_true rfl)) dX11_length_89 ⟨Nat.le_of_ble_eq_true rfl, Nat.le_of_ble_eq_true rfl⟩) hh hA (fun r_317 H locs en_317 hw_317 hh => ?_)
            obtain ⟨hI_317, hu_317, hx_317⟩ := hw_317
            have hf_317 : ∀ c, (c < 12 ∨ 70 ≤ c) → en_317 c = en c := fun c hc => (hu_317 c (by omega)).trans (hf_296 c hc)
            have hcb_317 : CNX en N_290 ≤ 1679616 := cnt_le (al := aX en) (by rw [hk9]; omega) (by omega)
            have hcn_317 : CNX en_296 N_290 = CNX en N_290 := CNX_c (hf_296 1 (by omega)) (hf_296 10 (by omega))
            obtain rfl : r_317 = nI (CNX en N_290) := hx_317.1.trans (congrArg nI hcn_317)
            have hln_317 : LNX en_317 := LNX_w hln_296 hx_317.2.1 hu_317
            refine lv_i2l hx hb dX11_length_92 rfl ?_
            have hV0 : N_291 = 0 := n_eq (a := N_291) (b := 0) q_314_0 (by omega) (by decide)
            exact hp_lretM hx hb hr hlocks hh (⟨hI_317, hf_317, ⟨hln_317, Or.inr ⟨N_290, N_291, rfl, rfl, by omega, by omega, by omega, Or.inr ⟨hy_293, fun _ => 0, fun _ => 0, by unfold pickC; rw [if_pos hV0]⟩⟩⟩⟩) dX11_length_93
          by_cases q_314_1 : (nI N_291) = 1
          · refine lv_tableIn (off := 38) (tgt := 94) hx hb dX11_length_56 (by rw [q_314_1]; decide) (by rw [q_314_1]; decide) (by rw [q_314_1]; decide) (by decide) ?_
            refine lv_iload_n hx hb dX11_length_94 rfl (lv_at hl 0 rfl) ?_
            refine lv_if_eq (tgt := 104) hx hb dX11_length_95 (by decide) (fun c_0 => absurd c_0 (by decide)) (fun _ => ?_)
            refine lv_ldc2 hx hb hown (hts _ tw_420) dX11_length_98 ?_
            refine lv_goto (tgt := 115) hx hb dX11_length_101 (by decide) ?_
            have hV0 : N_291 ≠ 0 := n_neq (a := N_291) (b := 0) q_314_0 (by omega) (by decide)
            have hV1 : N_291 = 1 := n_eq (a := N_291) (b := 1) q_314_1 (by omega) (by decide)
            exact hp_lretM hx hb hr hlocks hh (⟨hI_296, hf_296, ⟨hln_296, Or.inr ⟨N_290, N_291, rfl, rfl, by omega, by omega, by omega, Or.inr ⟨hy_293, fun _ => 0, fun _ => 0, by unfold pickC; rw [if_neg hV0, if_pos hV1, if_pos n_297]⟩⟩⟩⟩) dX11_length_115
          by_cases q_314_2 : (nI N_291) = 2
          · refine lv_tableIn (off := 60) (tgt := 116) hx hb dX11_length_56 (by rw [q_314_2]; decide) (by rw [q_314_2]; decide) (by rw [q_314_2]; decide) (by decide) ?_
            refine lv_iload_n hx hb dX11_length_116 rfl (lv_at hl 0 rfl) ?_
            refine lv_if_eq (tgt := 126) hx hb dX11_length_117 (by decide) (fun c_0 => absurd c_0 (by decide)) (fun _ => ?_)
            refine lv_ldc2 hx hb hown (hts _ tw_420) dX11_length_120 ?_
            refine lv_goto (tgt := 137) hx hb dX11_length_123 (by decide) ?_
            have hV0 : N_291 ≠ 0 := n_neq (a := N_291) (b := 0) q_314_0 (by omega) (by decide)
            have hV1 : N_291 ≠ 1 := n_neq (a := N_291) (b := 1) q_314_1 (by omega) (by decide)
            have hV2 : N_291 = 2 := n_eq (a := N_291) (b := 2) q_314_2 (by omega) (by decide)
            exact hp_lretM hx hb hr hlocks hh (⟨hI_296, hf_296, ⟨hln_296, Or.inr ⟨N_290, N_291, rfl, rfl, by omega, by omega, by omega, Or.inr ⟨hy_293, fun _ => 0, fun _ => 0, by unfold pickC; rw [if_neg hV0, if_neg hV1, if_pos hV2, if_pos n_297]⟩⟩⟩⟩) dX11_length_137
          refine lv_tableOut (tgt := 138) hx hb dX11_length_56 (tb_out 3 (by decide) (by decide) (fun j hj => by rcases (show j = 0 ∨ j = 1 ∨ j = 2 by omega) with rfl | rfl | rfl <;> first | exact lv_neT q_314_0 (by decide) | exact lv_neT q_314_1 (by decide) | exact lv_neT q_314_2 (by decide))) (by decide) ?_
          refine lv_aload_n hx hb dX11_length_138 rfl (lv_at hl 1 rfl) ?_
          have es287_318 : en_296 0 = .inr (10, [.ref (ad 1), .ref (ad 12), .ref (ad 70), .ref (ad 74), .ref (ad 75), .ref (ad 76), .int (nI wc_287), .int lf_287]) := (hf_296 0 (by omega)).trans es287
          refine hp_get hx hb hts ix11 hown hK hh (q := 0) rfl (hI.1 _ (by decide)) es287_318 rfl 1 (by decide) (hts _ tw_246) (fun _ h9 => h9) rfl dX11_length_139 ?_
          refine lv_iload_n hx hb dX11_length_142 rfl (lv_at hl 2 rfl) ?_
          obtain ⟨hw_319, es319, p0_319⟩ := get_L hI_296
          refine hp_callMq (va_runV (As := [.int (nI N_290)]) (rest := []) ⟨hx, hb, hml, hown, hts⟩ (c_X2_surveyOf l D cy _ cs ad en_296 hI_296 N_290 (by omega) (by omega) hln_296) (kw_X2_surveyOf hts tw_467 ⟨by show _ ≤ 22; omega, by show _ ≤ 40 * 22; omega⟩) (preV_of hh hK (hI.1 _ (by decide)) es319 rfl) rfl rfl hl.1 rfl (lv_room (Nat.le_of_ble_eq_true rfl)) dX11_length_143 ⟨Nat.le_of_ble_eq_true rfl, Nat.le_of_ble_eq_true rfl⟩) hh hA (fun r_320 H locs en_320 hw_320 hh => ?_)
          obtain ⟨hI_320, hu_320, hx_320⟩ := hw_320
          have hf_320 : ∀ c, (c < 12 ∨ 70 ≤ c) → en_320 c = en c := fun c hc => (hu_320 c (by omega)).trans (hf_296 c hc)
          obtain rfl : r_320 = some (ad (34 + 4 * N_290)) := hx_320.1
          refine W.eq (g2 := F0 m 146 ls [.ref (ad (34 + 4 * N_290))]) rfl ?_
          obtain ⟨dn_321, no_321, rc_321, gr_321, le_321, rt_321, tt_321, es321, p0_321⟩ := get_sv hI_320 (j := N_290) (by omega)
          refine hp_get hx hb hts ix6 hown hK hh (q := (34 + 4 * N_290)) rfl (hI.1 _ (by omega)) es321 rfl 4 (by decide) (hts _ tw_88) (fun _ h9 => h9) rfl dX11_length_146 ?_
          refine lv_i2l hx hb dX11_length_149 rfl ?_
          have hV0 : N_291 ≠ 0 := n_neq (a := N_291) (b := 0) q_314_0 (by omega) (by decide)
          have hV1 : N_291 ≠ 1 := n_neq (a := N_291) (b := 1) q_314_1 (by omega) (by decide)
          have hV2 : N_291 ≠ 2 := n_neq (a := N_291) (b := 2) q_314_2 (by omega) (by decide)
          obtain ⟨fN, gN, hfg⟩ := hx_320.2.2.1
          exact hp_lretM hx hb hr hlocks hh (⟨hI_320, hf_320, ⟨hx_320.2.1, Or.inr ⟨N_290, N_291, rfl, rfl, by omega, by omega, by omega, Or.inr ⟨hy_293, fN, gN, by unfold pickC; rw [if_neg hV0, if_neg hV1, if_neg hV2, ← NF9_c (a := en) (b := en_320) hf_320, show NF9 en_320 N_290 fN gN = svN en_320 N_290 from hfg.symm]; show _ = (rdI (en_320 (34 + 4 * N_290)) 4).toInt64; rw [es321]; rfl⟩⟩⟩⟩) dX11_length_150
    · obtain rfl : r_291 = 0 := Eq.trans hw_291 (if_neg hp_291)
      refine lv_if_ne (tgt := 23) hx hb dX11_length_16 (by decide) (fun c_0 => absurd c_0 (by decide)) (fun _ => ?_)
      refine lv_ldc2 hx hb hown (hts _ tw_420) dX11_length_19 ?_
      exact hp_lretM hx hb hr hlocks hh (⟨hI, hf0, ⟨hLN, Or.inl ⟨fun q => hp_291 q.2, rfl⟩⟩⟩) dX11_length_22
  · obtain rfl : r_290 = 0 := Eq.trans hw_290 (if_neg hp_290)
    refine lv_if_eq (tgt := 19) hx hb dX11_length_7 (by decide) (fun _ => ?_) (fun c_0 => absurd c_0 (by decide))
    refine lv_ldc2 hx hb hown (hts _ tw_420) dX11_length_19 ?_
    exact hp_lretM hx hb hr hlocks hh (⟨hI, hf0, ⟨hLN, Or.inl ⟨fun q => hp_290 q.1, rfl⟩⟩⟩) dX11_length_22
theorem kw_X11_length {R : Room} {s : State} {args : Array Value} {own : String} {idx : Nat} (hts : ∀ w ∈ TB, w.before args s = true) (hl : Cond.methodLink own idx yX11_length ∈ TB) (hR : 22 + 1 ≤ R.frames ∧ 8 + (4 + 11) + 40 * 22 ≤ R.locals) : CallW R s args own RX11 idx yX11_length cX11_length 4 (some .long) (Cond.code yX11_length cX11_length 4 (some .long) :: TB) (rmN 22) 0 0 2 := cwV 2 hts (TB_V hl tw_442 tw_443 tw_1 tw_444) rfl rfl rfl (by decide +kernel) hR
set_option maxHeartbeats 4000000 in
set_option maxRecDepth 100000 in
/-- X11_rings -/
theorem c_X11_rings (l : Launch) (D : va_G) (cy : Nat → ClassId) (sz : Nat) (cs : List Nat) (ad : Nat → Nat) (en : Nat → va_E) (hI : SX cy cs ad en) (n : Int32) (hLN : LNX en)   : Met l yX11_rings (Cond.code yX11_rings cX11_rings 2 (some .int) :: TB) (rmN 22) (va_Pc [.ref (ad 0), .int n] (Pre D cy cs ad en sz)) (va_Qi (S := Nat → va_E) (fun r en1 => SX cy cs ad en1 ∧ (∀ c, (c < 12 ∨ 70 ≤ c) → en1 c = en c) ∧ (LNX en1 ∧ XRG n r en)) (PostM D cs ad) (Af cs ad sz)) 0 0 (Af cs ad sz) := by
  refine Met.ofW (cc := cX11_rings) (maxL := 2) (ret := (some .int)) (by decide) rfl ?_
  intro p e s m args below meth c s₁ B hml hv
  obtain ⟨rfl, hsz, hP, hK, hD0⟩ := hv
  have hx := B.exec
  have hb := B.bytes
  have hr := B.returns
  have hts : ∀ w ∈ TB, w.before _ s = true := fun w h => atoms_spec (ws := _ :: TB) B.pre w (List.mem_cons_of_mem _ h)
  have hown : s.vm.findClass RX11 = some m.cls := findClass_of_methodNamed B.named
  have hlocks := B.notSynchronized
  have hh : Hp D (Af cs ad sz) (Af cs ad sz) s.heap s.heap [] cs ad en := ⟨hP, Af_self hD0, va_S.rf⟩
  have hA : ∀ q : Nat, s.heap.size ≤ q → Af cs ad sz q := fun q h => Or.inr (by rw [hsz] at h; exact h)
  have hl := lv_entry ([.ref (ad 0), .int n]) (n := 2) (Nat.le_of_ble_eq_true rfl)
  rw [lg_entry_eq]
  generalize (lg_sl ([.ref (ad 0), .int n]) ++ List.replicate (2 - (lg_sl ([.ref (ad 0), .int n])).length) Slot.unset).toArray = ls at hl ⊢
  have hl : lv_has ls 2 [(0, .ref (ad 0)), (1, .int n)] := hl
  have hf0 : ∀ c, (c < 12 ∨ 70 ≤ c) → en c = en c := fun _ _ => rfl
  obtain ⟨wc_322, lf_322, es322, p0_322⟩ := get_A hI
  obtain ⟨cnt, d, mm, es323, hcnt, hd2, hd3, hmm⟩ := get_T hI
  obtain ⟨f10, es324, hb10⟩ := get_alw hI
  have hk9 : kX en = cnt := by unfold kX; rw [show rdI (en 1) 4 = nI cnt from by rw [es323]; rfl]; exact nI_clamp (by omega)
  have ha9 : aX en = (alX f10) := by unfold aX; rw [show rdF (en 10) = f10 from by rw [es324]; rfl]
  refine lv_iload_n hx hb dX11_rings_0 rfl (lv_at hl 1 rfl) ?_
  refine lv_iconst (v := 1) hx hb dX11_rings_1 (by decide) ?_
  refine lv_bipush (v := 8) hx hb dX11_rings_2 (by decide) ?_
  refine hp_callRi (va_runS (As := [.int n, .int 1, .int 8]) (rest := []) ⟨hx, hb, hml, hown, hts⟩ (c_X11_isWithin l D cy _ cs ad en n 1 8) (kw_X11_isWithin hts tw_274 ⟨by show _ ≤ 22; omega, by show _ ≤ 40 * 22; omega⟩) (preS_of hh hK) rfl rfl hl.1 rfl (lv_room (Nat.le_of_ble_eq_true rfl)) dX11_rings_4 ⟨Nat.le_of_ble_eq_true rfl, Nat.le_of_ble_eq_true rfl⟩) hh hA (fun r_325 H locs hw_325 hh => ?_)
  rcases Decidable.em (wi n 1 8) with hp_325 | hp_325
  · obtain rfl : r_325 = 1 := Eq.trans hw_325 (if_pos hp_325)
    obtain ⟨N_325, rfl, hA_325, hB_325⟩ := wi_natB hp_325 1 8 (by decide) (by decide)
    refine lv_if_ne (tgt := 13) hx hb dX11_rings_7 (by decide) (fun _ => ?_) (fun c_0 => absurd c_0 (by decide))
    refine lv_aload_n hx hb dX11_rings_13 rfl (lv_at hl 0 rfl) ?_
    refine hp_get hx hb hts ix11 hown hK hh (q := 0) rfl (hI.1 _ (by decide)) es322 rfl 1 (by decide) (hts _ tw_246) (fun _ h9 => h9) rfl dX11_rings_14 ?_
    refine lv_iload_n hx hb dX11_rings_17 rfl (lv_at hl 1 rfl) ?_
    obtain ⟨hw_326, es326, p0_326⟩ := get_L hI
    refine hp_callMi (va_runV (As := [.int (nI N_325)]) (rest := []) ⟨hx, hb, hml, hown, hts⟩ (c_X2_isSpent l D cy _ cs ad en hI N_325 (by omega) (by omega) (hLN).1) (kw_X2_isSpent hts tw_445 ⟨by show _ ≤ 22; omega, by show _ ≤ 40 * 22; omega⟩) (preV_of hh hK (hI.1 _ (by decide)) es326 rfl) rfl rfl hl.1 rfl (lv_room (Nat.le_of_ble_eq_true rfl)) dX11_rings_18 ⟨Nat.le_of_ble_eq_true rfl, Nat.le_of_ble_eq_true rfl⟩) hh hA (fun r_327 H locs en_327 hw_327 hh => ?_)
    obtain ⟨hI_327, hu_327, hx_327⟩ := hw_327
    have hf_327 : ∀ c, (c < 12 ∨ 70 ≤ c) → en_327 c = en c := fun c hc => (hu_327 c (by omega)).trans (hf0 c hc)
    have hln_327 : LNX en_327 := LNX_w hLN hx_327.2.1 hu_327
    have hw_327 := hx_327.1
    rcases hw_327 with ⟨hb_327, hy_327⟩ | ⟨hb_327, hy_327⟩
    · obtain rfl : r_327 = 1 := hb_327
      refine lv_if_eq (tgt := 29) hx hb dX11_rings_21 (by decide) (fun c_0 => absurd c_0 (by decide)) (fun _ => ?_)
      refine lv_bipush (v := (-6)) hx hb dX11_rings_24 (by decide) ?_
      refine lv_goto (tgt := 40) hx hb dX11_rings_26 (by decide) ?_
      exact hp_iretM hx hb hr rfl hlocks hh (⟨hI_327, hf_327, ⟨hln_327, Or.inr ⟨N_325, rfl, by omega, by omega, Or.inl ⟨hy_327, rfl⟩⟩⟩⟩) dX11_rings_40
    · obtain rfl : r_327 = 0 := hb_327
      refine lv_if_eq (tgt := 29) hx hb dX11_rings_21 (by decide) (fun _ => ?_) (fun c_0 => absurd c_0 (by decide))
      refine lv_aload_n hx hb dX11_rings_29 rfl (lv_at hl 0 rfl) ?_
      have es322_328 : en_327 0 = .inr (10, [.ref (ad 1), .ref (ad 12), .ref (ad 70), .ref (ad 74), .ref (ad 75), .ref (ad 76), .int (nI wc_322), .int lf_322]) := (hf_327 0 (by omega)).trans es322
      refine hp_get hx hb hts ix11 hown hK hh (q := 0) rfl (hI.1 _ (by decide)) es322_328 rfl 1 (by decide) (hts _ tw_246) (fun _ h9 => h9) rfl dX11_rings_30 ?_
      refine lv_iload_n hx hb dX11_rings_33 rfl (lv_at hl 1 rfl) ?_
      obtain ⟨hw_329, es329, p0_329⟩ := get_L hI_327
      refine hp_callMq (va_runV (As := [.int (nI N_325)]) (rest := []) ⟨hx, hb, hml, hown, hts⟩ (c_X2_surveyOf l D cy _ cs ad en_327 hI_327 N_325 (by omega) (by omega) hln_327) (kw_X2_surveyOf hts tw_467 ⟨by show _ ≤ 22; omega, by show _ ≤ 40 * 22; omega⟩) (preV_of hh hK (hI.1 _ (by decide)) es329 rfl) rfl rfl hl.1 rfl (lv_room (Nat.le_of_ble_eq_true rfl)) dX11_rings_34 ⟨Nat.le_of_ble_eq_true rfl, Nat.le_of_ble_eq_true rfl⟩) hh hA (fun r_330 H locs en_330 hw_330 hh => ?_)
      obtain ⟨hI_330, hu_330, hx_330⟩ := hw_330
      have hf_330 : ∀ c, (c < 12 ∨ 70 ≤ c) → en_330 c = en c := fun c hc => (hu_330 c (by omega)).trans (hf_327 c hc)
      obtain rfl : r_330 = some (ad (34 + 4 * N_325)) := hx_330.1
      refine W.eq (g2 := F0 m 37 ls [.ref (ad (34 + 4 * N_325))]) rfl ?_
      obtain ⟨dn_331, no_331, rc_331, gr_331, le_331, rt_331, tt_331, es331, p0_331⟩ := get_sv hI_330 (j := N_325) (by omega)
      refine hp_get hx hb hts ix6 hown hK hh (q := (34 + 4 * N_325)) rfl (hI.1 _ (by omega)) es331 rfl 5 (by decide) (hts _ tw_90) (fun _ h9 => h9) rfl dX11_rings_37 ?_
      exact hp_iretM hx hb hr rfl hlocks hh (⟨hI_330, hf_330, ⟨hx_330.2.1, Or.inr ⟨N_325, rfl, by omega, by omega, Or.inr ⟨hy_327, fun Q hQ => by obtain ⟨f, hf⟩ := hx_330.2.2.2.2 Q (by rw [hf_330 10 (by omega)]; exact hQ); exact ⟨f, by rw [← RF9_c (a := en) (b := en_330) hf_330, show RF9 en_330 N_325 Q f = svR en_330 N_325 from hf.symm]; show _ = rdI (en_330 (34 + 4 * N_325)) 5; rw [es331]; rfl⟩⟩⟩⟩⟩) dX11_rings_40
  · obtain rfl : r_325 = 0 := Eq.trans hw_325 (if_neg hp_325)
    refine lv_if_ne (tgt := 13) hx hb dX11_rings_7 (by decide) (fun c_0 => absurd c_0 (by decide)) (fun _ => ?_)
    refine lv_bipush (v := (-2)) hx hb dX11_rings_10 (by decide) ?_
    exact hp_iretM hx hb hr rfl hlocks hh (⟨hI, hf0, ⟨hLN, Or.inl ⟨hp_325, rfl⟩⟩⟩) dX11_rings_12
theorem kw_X11_rings {R : Room} {s : State} {args : Array Value} {own : String} {idx : Nat} (hts : ∀ w ∈ TB, w.before args s = true) (hl : Cond.methodLink own idx yX11_rings ∈ TB) (hR : 22 + 1 ≤ R.frames ∧ 8 + (2 + 11) + 40 * 22 ≤ R.locals) : CallW R s args own RX11 idx yX11_rings cX11_rings 2 (some .int) (Cond.code yX11_rings cX11_rings 2 (some .int) :: TB) (rmN 22) 0 0 1 := cwV 1 hts (TB_V hl tw_546 tw_547 tw_1 tw_548) rfl rfl rfl (by decide +kernel) hR
set_option maxHeartbeats 4000000 in
set_option maxRecDepth 100000 in
/-- X11_ringTrack -/
theorem c_X11_ringTrack (l : Launch) (D : va_G) (cy : Nat → ClassId) (sz : Nat) (cs : List Nat) (ad : Nat → Nat) (en : Nat → va_E) (hI : SX cy cs ad en) (n : Int32) (hLN : LNX en)   : Met l yX11_ringTrack (Cond.code yX11_ringTrack cX11_ringTrack 3 (some .long) :: TB) (rmN 22) (va_Pc [.ref (ad 0), .int n] (Pre D cy cs ad en sz)) (va_Ql (S := Nat → va_E) (fun r en1 => SX cy cs ad en1 ∧ (∀ c, (c < 12 ∨ 70 ≤ c) → en1 c = en c) ∧ (LNX en1 ∧ XRT n r en)) (PostM D cs ad) (Af cs ad sz)) 0 0 (Af cs ad sz) := by
  refine Met.ofW (cc := cX11_ringTrack) (maxL := 3) (ret := (some .long)) (by decide) rfl ?_
  intro p e s m args below meth c s₁ B hml hv
  obtain ⟨rfl, hsz, hP, hK, hD0⟩ := hv
  have hx := B.exec
  have hb := B.bytes
  have hr := B.returns
  have hts : ∀ w ∈ TB, w.before _ s = true := fun w h => atoms_spec (ws := _ :: TB) B.pre w (List.mem_cons_of_mem _ h)
  have hown : s.vm.findClass RX11 = some m.cls := findClass_of_methodNamed B.named
  have hlocks := B.notSynchronized
  have hh : Hp D (Af cs ad sz) (Af cs ad sz) s.heap s.heap [] cs ad en := ⟨hP, Af_self hD0, va_S.rf⟩
  have hA : ∀ q : Nat, s.heap.size ≤ q → Af cs ad sz q := fun q h => Or.inr (by rw [hsz] at h; exact h)
  have hl := lv_entry ([.ref (ad 0), .int n]) (n := 3) (Nat.le_of_ble_eq_true rfl)
  rw [lg_entry_eq]
  generalize (lg_sl ([.ref (ad 0), .int n]) ++ List.replicate (3 - (lg_sl ([.ref (ad 0), .int n])).length) Slot.unset).toArray = ls at hl ⊢
  have hl : lv_has ls 3 [(0, .ref (ad 0)), (1, .int n)] := hl
  have hf0 : ∀ c, (c < 12 ∨ 70 ≤ c) → en c = en c := fun _ _ => rfl
  obtain ⟨wc_332, lf_332, es332, p0_332⟩ := get_A hI
  obtain ⟨cnt, d, mm, es333, hcnt, hd2, hd3, hmm⟩ := get_T hI
  obtain ⟨f10, es334, hb10⟩ := get_alw hI
  have hk9 : kX en = cnt := by unfold kX; rw [show rdI (en 1) 4 = nI cnt from by rw [es333]; rfl]; exact nI_clamp (by omega)
  have ha9 : aX en = (alX f10) := by unfold aX; rw [show rdF (en 10) = f10 from by rw [es334]; rfl]
  refine lv_iload_n hx hb dX11_ringTrack_0 rfl (lv_at hl 1 rfl) ?_
  refine lv_iconst (v := 1) hx hb dX11_ringTrack_1 (by decide) ?_
  refine lv_bipush (v := 8) hx hb dX11_ringTrack_2 (by decide) ?_
  refine hp_callRi (va_runS (As := [.int n, .int 1, .int 8]) (rest := []) ⟨hx, hb, hml, hown, hts⟩ (c_X11_isWithin l D cy _ cs ad en n 1 8) (kw_X11_isWithin hts tw_274 ⟨by show _ ≤ 22; omega, by show _ ≤ 40 * 22; omega⟩) (preS_of hh hK) rfl rfl hl.1 rfl (lv_room (Nat.le_of_ble_eq_true rfl)) dX11_ringTrack_4 ⟨Nat.le_of_ble_eq_true rfl, Nat.le_of_ble_eq_true rfl⟩) hh hA (fun r_335 H locs hw_335 hh => ?_)
  rcases Decidable.em (wi n 1 8) with hp_335 | hp_335
  · obtain rfl : r_335 = 1 := Eq.trans hw_335 (if_pos hp_335)
    obtain ⟨N_335, rfl, hA_335, hB_335⟩ := wi_natB hp_335 1 8 (by decide) (by decide)
    refine lv_if_eq (tgt := 21) hx hb dX11_ringTrack_7 (by decide) (fun c_0 => absurd c_0 (by decide)) (fun _ => ?_)
    refine lv_aload_n hx hb dX11_ringTrack_10 rfl (lv_at hl 0 rfl) ?_
    refine hp_get hx hb hts ix11 hown hK hh (q := 0) rfl (hI.1 _ (by decide)) es332 rfl 1 (by decide) (hts _ tw_246) (fun _ h9 => h9) rfl dX11_ringTrack_11 ?_
    refine lv_iload_n hx hb dX11_ringTrack_14 rfl (lv_at hl 1 rfl) ?_
    obtain ⟨hw_336, es336, p0_336⟩ := get_L hI
    refine hp_callMi (va_runV (As := [.int (nI N_335)]) (rest := []) ⟨hx, hb, hml, hown, hts⟩ (c_X2_isSpent l D cy _ cs ad en hI N_335 (by omega) (by omega) (hLN).1) (kw_X2_isSpent hts tw_445 ⟨by show _ ≤ 22; omega, by show _ ≤ 40 * 22; omega⟩) (preV_of hh hK (hI.1 _ (by decide)) es336 rfl) rfl rfl hl.1 rfl (lv_room (Nat.le_of_ble_eq_true rfl)) dX11_ringTrack_15 ⟨Nat.le_of_ble_eq_true rfl, Nat.le_of_ble_eq_true rfl⟩) hh hA (fun r_337 H locs en_337 hw_337 hh => ?_)
    obtain ⟨hI_337, hu_337, hx_337⟩ := hw_337
    have hf_337 : ∀ c, (c < 12 ∨ 70 ≤ c) → en_337 c = en c := fun c hc => (hu_337 c (by omega)).trans (hf0 c hc)
    have hln_337 : LNX en_337 := LNX_w hLN hx_337.2.1 hu_337
    have hw_337 := hx_337.1
    rcases hw_337 with ⟨hb_337, hy_337⟩ | ⟨hb_337, hy_337⟩
    · obtain rfl : r_337 = 1 := hb_337
      refine lv_if_eq (tgt := 25) hx hb dX11_ringTrack_18 (by decide) (fun c_0 => absurd c_0 (by decide)) (fun _ => ?_)
      refine lv_ldc2 hx hb hown (hts _ tw_420) dX11_ringTrack_21 ?_
      exact hp_lretM hx hb hr hlocks hh (⟨hI_337, hf_337, ⟨hln_337, Or.inr ⟨N_335, rfl, by omega, by omega, Or.inl ⟨hy_337, rfl⟩⟩⟩⟩) dX11_ringTrack_24
    · obtain rfl : r_337 = 0 := hb_337
      refine lv_if_eq (tgt := 25) hx hb dX11_ringTrack_18 (by decide) (fun _ => ?_) (fun c_0 => absurd c_0 (by decide))
      refine lv_aload_n hx hb dX11_ringTrack_25 rfl (lv_at hl 0 rfl) ?_
      have es332_338 : en_337 0 = .inr (10, [.ref (ad 1), .ref (ad 12), .ref (ad 70), .ref (ad 74), .ref (ad 75), .ref (ad 76), .int (nI wc_332), .int lf_332]) := (hf_337 0 (by omega)).trans es332
      refine hp_get hx hb hts ix11 hown hK hh (q := 0) rfl (hI.1 _ (by decide)) es332_338 rfl 1 (by decide) (hts _ tw_246) (fun _ h9 => h9) rfl dX11_ringTrack_26 ?_
      refine lv_iload_n hx hb dX11_ringTrack_29 rfl (lv_at hl 1 rfl) ?_
      obtain ⟨hw_339, es339, p0_339⟩ := get_L hI_337
      refine hp_callMq (va_runV (As := [.int (nI N_335)]) (rest := []) ⟨hx, hb, hml, hown, hts⟩ (c_X2_surveyOf l D cy _ cs ad en_337 hI_337 N_335 (by omega) (by omega) hln_337) (kw_X2_surveyOf hts tw_467 ⟨by show _ ≤ 22; omega, by show _ ≤ 40 * 22; omega⟩) (preV_of hh hK (hI.1 _ (by decide)) es339 rfl) rfl rfl hl.1 rfl (lv_room (Nat.le_of_ble_eq_true rfl)) dX11_ringTrack_30 ⟨Nat.le_of_ble_eq_true rfl, Nat.le_of_ble_eq_true rfl⟩) hh hA (fun r_340 H locs en_340 hw_340 hh => ?_)
      obtain ⟨hI_340, hu_340, hx_340⟩ := hw_340
      have hf_340 : ∀ c, (c < 12 ∨ 70 ≤ c) → en_340 c = en c := fun c hc => (hu_340 c (by omega)).trans (hf_337 c hc)
      obtain rfl : r_340 = some (ad (34 + 4 * N_335)) := hx_340.1
      refine W.eq (g2 := F0 m 33 ls [.ref (ad (34 + 4 * N_335))]) rfl ?_
      refine lv_astore_n (lv' := [(2, .ref (ad (34 + 4 * N_335))), (0, .ref (ad 0)), (1, .int (nI N_335))]) hx hb dX11_ringTrack_33 rfl hl (by decide) rfl (fun ls hl => ?_)
      refine lv_aload_n hx hb dX11_ringTrack_34 rfl (lv_at hl 0 rfl) ?_
      obtain ⟨dn_341, no_341, rc_341, gr_341, le_341, rt_341, tt_341, es341, p0_341⟩ := get_sv hI_340 (j := N_335) (by omega)
      refine hp_get hx hb hts ix6 hown hK hh (q := (34 + 4 * N_335)) rfl (hI.1 _ (by omega)) es341 rfl 5 (by decide) (hts _ tw_90) (fun _ h9 => h9) rfl dX11_ringTrack_35 ?_
      refine lv_if_ne (tgt := 47) hx hb dX11_ringTrack_38 (by decide) (fun c_342 => ?_) (fun c_342 => ?_)
      · refine lv_aload_n hx hb dX11_ringTrack_47 rfl (lv_at hl 0 rfl) ?_
        refine hp_get hx hb hts ix6 hown hK hh (q := (34 + 4 * N_335)) rfl (hI.1 _ (by omega)) es341 rfl 8 (by decide) (hts _ tw_97) (fun _ h9 => h9) rfl dX11_ringTrack_48 ?_
        exact hp_lretM hx hb hr hlocks hh (⟨hI_340, hf_340, ⟨hx_340.2.1, Or.inr ⟨N_335, rfl, by omega, by omega, Or.inr ⟨hy_337, fun Q hQ => by obtain ⟨f, hf⟩ := hx_340.2.2.2.2 Q (by rw [hf_340 10 (by omega)]; exact hQ); exact ⟨f, by unfold pickQ; rw [← RF9_c (a := en) (b := en_340) hf_340, show RF9 en_340 N_335 Q f = svR en_340 N_335 from hf.symm, if_neg (fun q => c_342 ((show (svR en_340 N_335).1 = _ from by show rdI (en_340 (34 + 4 * N_335)) 5 = _; rw [es341]; rfl).symm.trans q))]; show _ = rdJ (en_340 (34 + 4 * N_335)) 8; rw [es341]; rfl⟩⟩⟩⟩⟩) dX11_ringTrack_51
      · refine lv_ldc2 hx hb hown (hts _ tw_420) dX11_ringTrack_41 ?_
        refine lv_goto (tgt := 51) hx hb dX11_ringTrack_44 (by decide) ?_
        exact hp_lretM hx hb hr hlocks hh (⟨hI_340, hf_340, ⟨hx_340.2.1, Or.inr ⟨N_335, rfl, by omega, by omega, Or.inr ⟨hy_337, fun Q hQ => by obtain ⟨f, hf⟩ := hx_340.2.2.2.2 Q (by rw [hf_340 10 (by omega)]; exact hQ); exact ⟨f, by unfold pickQ; rw [← RF9_c (a := en) (b := en_340) hf_340, show RF9 en_340 N_335 Q f = svR en_340 N_335 from hf.symm, if_pos ((show (svR en_340 N_335).1 = _ from by show rdI (en_340 (34 + 4 * N_335)) 5 = _; rw [es341]; rfl).trans c_342)]⟩⟩⟩⟩⟩) dX11_ringTrack_51
  · obtain rfl : r_335 = 0 := Eq.trans hw_335 (if_neg hp_335)
    refine lv_if_eq (tgt := 21) hx hb dX11_ringTrack_7 (by decide) (fun _ => ?_) (fun c_0 => absurd c_0 (by decide))
    refine lv_ldc2 hx hb hown (hts _ tw_420) dX11_ringTrack_21 ?_
    exact hp_lretM hx hb hr hlocks hh (⟨hI, hf0, ⟨hLN, Or.inl ⟨hp_335, rfl⟩⟩⟩) dX11_ringTrack_24
theorem kw_X11_ringTrack {R : Room} {s : State} {args : Array Value} {own : String} {idx : Nat} (hts : ∀ w ∈ TB, w.before args s = true) (hl : Cond.methodLink own idx yX11_ringTrack ∈ TB) (hR : 22 + 1 ≤ R.frames ∧ 8 + (3 + 11) + 40 * 22 ≤ R.locals) : CallW R s args own RX11 idx yX11_ringTrack cX11_ringTrack 3 (some .long) (Cond.code yX11_ringTrack cX11_ringTrack 3 (some .long) :: TB) (rmN 22) 0 0 1 := cwV 1 hts (TB_V hl tw_550 tw_551 tw_1 tw_552) rfl rfl rfl (by decide +kernel) hR
set_option maxHeartbeats 4000000 in
set_option maxRecDepth 100000 in
/-- X11_extreme -/
theorem c_X11_extreme (l : Launch) (D : va_G) (cy : Nat → ClassId) (sz : Nat) (cs : List Nat) (ad : Nat → Nat) (en : Nat → va_E) (hI : SX cy cs ad en) (n z i : Int32) (hLN : LNX en)   : Met l yX11_extreme (Cond.code yX11_extreme cX11_extreme 5 (some .int) :: TB) (rmN 22) (va_Pc [.ref (ad 0), .int n, .int z, .int i] (Pre D cy cs ad en sz)) (va_Qi (S := Nat → va_E) (fun r en1 => SX cy cs ad en1 ∧ (∀ c, (c < 12 ∨ 70 ≤ c) → en1 c = en c) ∧ (LNX en1 ∧ XXT n z i r en)) (PostM D cs ad) (Af cs ad sz)) 0 0 (Af cs ad sz) := by
  refine Met.ofW (cc := cX11_extreme) (maxL := 5) (ret := (some .int)) (by decide) rfl ?_
  intro p e s m args below meth c s₁ B hml hv
  obtain ⟨rfl, hsz, hP, hK, hD0⟩ := hv
  have hx := B.exec
  have hb := B.bytes
  have hr := B.returns
  have hts : ∀ w ∈ TB, w.before _ s = true := fun w h => atoms_spec (ws := _ :: TB) B.pre w (List.mem_cons_of_mem _ h)
  have hown : s.vm.findClass RX11 = some m.cls := findClass_of_methodNamed B.named
  have hlocks := B.notSynchronized
  have hh : Hp D (Af cs ad sz) (Af cs ad sz) s.heap s.heap [] cs ad en := ⟨hP, Af_self hD0, va_S.rf⟩
  have hA : ∀ q : Nat, s.heap.size ≤ q → Af cs ad sz q := fun q h => Or.inr (by rw [hsz] at h; exact h)
  have hl := lv_entry ([.ref (ad 0), .int n, .int z, .int i]) (n := 5) (Nat.le_of_ble_eq_true rfl)
  rw [lg_entry_eq]
  generalize (lg_sl ([.ref (ad 0), .int n, .int z, .int i]) ++ List.replicate (5 - (lg_sl ([.ref (ad 0), .int n, .int z, .int i])).length) Slot.unset).toArray = ls at hl ⊢
  have hl : lv_has ls 5 [(0, .ref (ad 0)), (1, .int n), (2, .int z), (3, .int i)] := hl
  have hf0 : ∀ c, (c < 12 ∨ 70 ≤ c) → en c = en c := fun _ _ => rfl
  obtain ⟨wc_343, lf_343, es343, p0_343⟩ := get_A hI
  obtain ⟨cnt, d, mm, es344, hcnt, hd2, hd3, hmm⟩ := get_T hI
  obtain ⟨f10, es345, hb10⟩ := get_alw hI
  have hk9 : kX en = cnt := by unfold kX; rw [show rdI (en 1) 4 = nI cnt from by rw [es344]; rfl]; exact nI_clamp (by omega)
  have ha9 : aX en = (alX f10) := by unfold aX; rw [show rdF (en 10) = f10 from by rw [es345]; rfl]
  refine lv_iload_n hx hb dX11_extreme_0 rfl (lv_at hl 1 rfl) ?_
  refine lv_iconst (v := 1) hx hb dX11_extreme_1 (by decide) ?_
  refine lv_bipush (v := 8) hx hb dX11_extreme_2 (by decide) ?_
  refine hp_callRi (va_runS (As := [.int n, .int 1, .int 8]) (rest := []) ⟨hx, hb, hml, hown, hts⟩ (c_X11_isWithin l D cy _ cs ad en n 1 8) (kw_X11_isWithin hts tw_274 ⟨by show _ ≤ 22; omega, by show _ ≤ 40 * 22; omega⟩) (preS_of hh hK) rfl rfl hl.1 rfl (lv_room (Nat.le_of_ble_eq_true rfl)) dX11_extreme_4 ⟨Nat.le_of_ble_eq_true rfl, Nat.le_of_ble_eq_true rfl⟩) hh hA (fun r_346 H locs hw_346 hh => ?_)
  rcases Decidable.em (wi n 1 8) with hp_346 | hp_346
  · obtain rfl : r_346 = 1 := Eq.trans hw_346 (if_pos hp_346)
    obtain ⟨N_346, rfl, hA_346, hB_346⟩ := wi_natB hp_346 1 8 (by decide) (by decide)
    refine lv_if_eq (tgt := 30) hx hb dX11_extreme_7 (by decide) (fun c_0 => absurd c_0 (by decide)) (fun _ => ?_)
    refine lv_iload_n hx hb dX11_extreme_10 rfl (lv_at hl 2 rfl) ?_
    refine lv_iconst (v := 0) hx hb dX11_extreme_11 (by decide) ?_
    refine lv_iconst (v := 1) hx hb dX11_extreme_12 (by decide) ?_
    refine hp_callRi (va_runS (As := [.int z, .int 0, .int 1]) (rest := []) ⟨hx, hb, hml, hown, hts⟩ (c_X11_isWithin l D cy _ cs ad en z 0 1) (kw_X11_isWithin hts tw_274 ⟨by show _ ≤ 22; omega, by show _ ≤ 40 * 22; omega⟩) (preS_of hh hK) rfl rfl hl.1 rfl (lv_room (Nat.le_of_ble_eq_true rfl)) dX11_extreme_13 ⟨Nat.le_of_ble_eq_true rfl, Nat.le_of_ble_eq_true rfl⟩) hh hA (fun r_347 H locs hw_347 hh => ?_)
    rcases Decidable.em (wi z 0 1) with hp_347 | hp_347
    · obtain rfl : r_347 = 1 := Eq.trans hw_347 (if_pos hp_347)
      obtain ⟨N_347, rfl, hA_347, hB_347⟩ := wi_natB hp_347 0 1 (by decide) (by decide)
      refine lv_if_eq (tgt := 30) hx hb dX11_extreme_16 (by decide) (fun c_0 => absurd c_0 (by decide)) (fun _ => ?_)
      refine lv_iload_n hx hb dX11_extreme_19 rfl (lv_at hl 3 rfl) ?_
      refine lv_iconst (v := 0) hx hb dX11_extreme_20 (by decide) ?_
      refine lv_iload_n hx hb dX11_extreme_21 rfl (lv_at hl 1 rfl) ?_
      refine lv_iconst (v := 1) hx hb dX11_extreme_22 (by decide) ?_
      refine lv_isub hx hb dX11_extreme_23 ?_
      rw [show (1 : Int32) = nI 1 from rfl, pk_sub (a := N_346) (b := 1) (by omega)]
      refine hp_callRi (va_runS (As := [.int i, .int 0, .int (nI (N_346 - 1))]) (rest := []) ⟨hx, hb, hml, hown, hts⟩ (c_X11_isWithin l D cy _ cs ad en i 0 (nI (N_346 - 1))) (kw_X11_isWithin hts tw_274 ⟨by show _ ≤ 22; omega, by show _ ≤ 40 * 22; omega⟩) (preS_of hh hK) rfl rfl hl.1 rfl (lv_room (Nat.le_of_ble_eq_true rfl)) dX11_extreme_24 ⟨Nat.le_of_ble_eq_true rfl, Nat.le_of_ble_eq_true rfl⟩) hh hA (fun r_348 H locs hw_348 hh => ?_)
      rcases Decidable.em (wi i 0 (nI (N_346 - 1))) with hp_348 | hp_348
      · obtain rfl : r_348 = 1 := Eq.trans hw_348 (if_pos hp_348)
        obtain ⟨N_348, rfl, hA_348, hB_348⟩ := wi_natB hp_348 0 ((N_346 - 1)) (by decide) (nI_toInt (by omega))
        refine lv_if_ne (tgt := 33) hx hb dX11_extreme_27 (by decide) (fun _ => ?_) (fun c_0 => absurd c_0 (by decide))
        refine lv_aload_n hx hb dX11_extreme_33 rfl (lv_at hl 0 rfl) ?_
        refine hp_get hx hb hts ix11 hown hK hh (q := 0) rfl (hI.1 _ (by decide)) es343 rfl 1 (by decide) (hts _ tw_246) (fun _ h9 => h9) rfl dX11_extreme_34 ?_
        refine lv_iload_n hx hb dX11_extreme_37 rfl (lv_at hl 1 rfl) ?_
        obtain ⟨hw_349, es349, p0_349⟩ := get_L hI
        refine hp_callMi (va_runV (As := [.int (nI N_346)]) (rest := []) ⟨hx, hb, hml, hown, hts⟩ (c_X2_isSpent l D cy _ cs ad en hI N_346 (by omega) (by omega) (hLN).1) (kw_X2_isSpent hts tw_445 ⟨by show _ ≤ 22; omega, by show _ ≤ 40 * 22; omega⟩) (preV_of hh hK (hI.1 _ (by decide)) es349 rfl) rfl rfl hl.1 rfl (lv_room (Nat.le_of_ble_eq_true rfl)) dX11_extreme_38 ⟨Nat.le_of_ble_eq_true rfl, Nat.le_of_ble_eq_true rfl⟩) hh hA (fun r_350 H locs en_350 hw_350 hh => ?_)
        obtain ⟨hI_350, hu_350, hx_350⟩ := hw_350
        have hf_350 : ∀ c, (c < 12 ∨ 70 ≤ c) → en_350 c = en c := fun c hc => (hu_350 c (by omega)).trans (hf0 c hc)
        have hln_350 : LNX en_350 := LNX_w hLN hx_350.2.1 hu_350
        have hw_350 := hx_350.1
        rcases hw_350 with ⟨hb_350, hy_350⟩ | ⟨hb_350, hy_350⟩
        · obtain rfl : r_350 = 1 := hb_350
          refine lv_if_eq (tgt := 47) hx hb dX11_extreme_41 (by decide) (fun c_0 => absurd c_0 (by decide)) (fun _ => ?_)
          refine lv_bipush (v := (-6)) hx hb dX11_extreme_44 (by decide) ?_
          exact hp_iretM hx hb hr rfl hlocks hh (⟨hI_350, hf_350, ⟨hln_350, Or.inr ⟨N_346, N_347, N_348, rfl, rfl, rfl, by omega, by omega, by omega, by omega, Or.inl ⟨hy_350, rfl⟩⟩⟩⟩) dX11_extreme_46
        · obtain rfl : r_350 = 0 := hb_350
          refine lv_if_eq (tgt := 47) hx hb dX11_extreme_41 (by decide) (fun _ => ?_) (fun c_0 => absurd c_0 (by decide))
          refine lv_aload_n hx hb dX11_extreme_47 rfl (lv_at hl 0 rfl) ?_
          have es343_351 : en_350 0 = .inr (10, [.ref (ad 1), .ref (ad 12), .ref (ad 70), .ref (ad 74), .ref (ad 75), .ref (ad 76), .int (nI wc_343), .int lf_343]) := (hf_350 0 (by omega)).trans es343
          refine hp_get hx hb hts ix11 hown hK hh (q := 0) rfl (hI.1 _ (by decide)) es343_351 rfl 1 (by decide) (hts _ tw_246) (fun _ h9 => h9) rfl dX11_extreme_48 ?_
          refine lv_iload_n hx hb dX11_extreme_51 rfl (lv_at hl 1 rfl) ?_
          obtain ⟨hw_352, es352, p0_352⟩ := get_L hI_350
          refine hp_callMi (va_runV (As := [.int (nI N_346)]) (rest := []) ⟨hx, hb, hml, hown, hts⟩ (c_X2_countOf l D cy _ cs ad en_350 hI_350 N_346 (by omega) (by omega) (hln_350).1) (kw_X2_countOf hts tw_466 ⟨by show _ ≤ 22; omega, by show _ ≤ 40 * 22; omega⟩) (preV_of hh hK (hI.1 _ (by decide)) es352 rfl) rfl rfl hl.1 rfl (lv_room (Nat.le_of_ble_eq_true rfl)) dX11_extreme_52 ⟨Nat.le_of_ble_eq_true rfl, Nat.le_of_ble_eq_true rfl⟩) hh hA (fun r_353 H locs en_353 hw_353 hh => ?_)
          obtain ⟨hI_353, hu_353, hx_353⟩ := hw_353
          have hf_353 : ∀ c, (c < 12 ∨ 70 ≤ c) → en_353 c = en c := fun c hc => (hu_353 c (by omega)).trans (hf_350 c hc)
          have hcb_353 : CNX en N_346 ≤ 1679616 := cnt_le (al := aX en) (by rw [hk9]; omega) (by omega)
          have hcn_353 : CNX en_350 N_346 = CNX en N_346 := CNX_c (hf_350 1 (by omega)) (hf_350 10 (by omega))
          obtain rfl : r_353 = nI (CNX en N_346) := hx_353.1.trans (congrArg nI hcn_353)
          have hln_353 : LNX en_353 := LNX_w hln_350 hx_353.2.1 hu_353
          refine lv_if_ne (tgt := 61) hx hb dX11_extreme_55 (by decide) (fun c_354 => ?_) (fun c_354 => ?_)
          · have n_354 : (CNX en N_346) ≠ 0 := n_neq (a := (CNX en N_346)) (b := 0) c_354 (by omega) (by decide)
            refine lv_aload_n hx hb dX11_extreme_61 rfl (lv_at hl 0 rfl) ?_
            have es343_355 : en_353 0 = .inr (10, [.ref (ad 1), .ref (ad 12), .ref (ad 70), .ref (ad 74), .ref (ad 75), .ref (ad 76), .int (nI wc_343), .int lf_343]) := (hf_353 0 (by omega)).trans es343
            refine hp_get hx hb hts ix11 hown hK hh (q := 0) rfl (hI.1 _ (by decide)) es343_355 rfl 1 (by decide) (hts _ tw_246) (fun _ h9 => h9) rfl dX11_extreme_62 ?_
            refine lv_iload_n hx hb dX11_extreme_65 rfl (lv_at hl 1 rfl) ?_
            obtain ⟨hw_356, es356, p0_356⟩ := get_L hI_353
            refine hp_callMq (va_runV (As := [.int (nI N_346)]) (rest := []) ⟨hx, hb, hml, hown, hts⟩ (c_X2_surveyOf l D cy _ cs ad en_353 hI_353 N_346 (by omega) (by omega) hln_353) (kw_X2_surveyOf hts tw_467 ⟨by show _ ≤ 22; omega, by show _ ≤ 40 * 22; omega⟩) (preV_of hh hK (hI.1 _ (by decide)) es356 rfl) rfl rfl hl.1 rfl (lv_room (Nat.le_of_ble_eq_true rfl)) dX11_extreme_66 ⟨Nat.le_of_ble_eq_true rfl, Nat.le_of_ble_eq_true rfl⟩) hh hA (fun r_357 H locs en_357 hw_357 hh => ?_)
            obtain ⟨hI_357, hu_357, hx_357⟩ := hw_357
            have hf_357 : ∀ c, (c < 12 ∨ 70 ≤ c) → en_357 c = en c := fun c hc => (hu_357 c (by omega)).trans (hf_353 c hc)
            obtain rfl : r_357 = some (ad (34 + 4 * N_346)) := hx_357.1
            refine W.eq (g2 := F0 m 69 ls [.ref (ad (34 + 4 * N_346))]) rfl ?_
            refine lv_astore (lv' := [(4, .ref (ad (34 + 4 * N_346))), (0, .ref (ad 0)), (1, .int (nI N_346)), (2, .int (nI N_347)), (3, .int (nI N_348))]) hx hb dX11_extreme_69 hl (by decide) rfl (fun ls hl => ?_)
            refine lv_iload_n hx hb dX11_extreme_71 rfl (lv_at hl 3 rfl) ?_
            refine lv_if_ne (tgt := 85) hx hb dX11_extreme_72 (by decide) (fun c_358 => ?_) (fun c_358 => ?_)
            · have n_358 : N_347 ≠ 0 := n_neq (a := N_347) (b := 0) c_358 (by omega) (by decide)
              refine lv_aload hx hb dX11_extreme_85 (lv_at hl 0 rfl) ?_
              obtain ⟨dn_359, no_359, rc_359, gr_359, le_359, rt_359, tt_359, es359, p0_359⟩ := get_sv hI_357 (j := N_346) (by omega)
              refine hp_get hx hb hts ix6 hown hK hh (q := (34 + 4 * N_346)) rfl (hI.1 _ (by omega)) es359 rfl 1 (by decide) (hts _ tw_82) (fun _ h9 => h9) rfl dX11_extreme_87 ?_
              refine lv_iload_n hx hb dX11_extreme_90 rfl (lv_at hl 4 rfl) ?_
              obtain ⟨f_360, es360⟩ := get_svb hI_357 (j := N_346) (by omega)
              refine hp_iald hx hb hK hh (q := (36 + 4 * N_346)) rfl (hI.1 _ (by omega)) es360 (vp_in_nI (n := N_348) (by omega) (by decide)) dX11_extreme_91 ?_
              rw [nI_clamp (n := N_348) (by omega)]
              obtain ⟨fN, gN, hfg⟩ := hx_357.2.2.1
              exact hp_iretM hx hb hr rfl hlocks hh (⟨hI_357, hf_357, ⟨hx_357.2.1, Or.inr ⟨N_346, N_347, N_348, rfl, rfl, rfl, by omega, by omega, by omega, by omega, Or.inr ⟨hy_350, fN, gN, by unfold pickE; rw [if_neg n_354, if_neg n_358, ← NF9_c (a := en) (b := en_357) hf_357, show NF9 en_357 N_346 fN gN = svN en_357 N_346 from hfg.symm]; show _ = rdF (en_357 (36 + 4 * N_346)) N_348; rw [es360]; rfl⟩⟩⟩⟩) dX11_extreme_92
            · have n_358 : N_347 = 0 := n_eq (a := N_347) (b := 0) c_358 (by omega) (by decide)
              refine lv_aload hx hb dX11_extreme_75 (lv_at hl 0 rfl) ?_
              obtain ⟨dn_361, no_361, rc_361, gr_361, le_361, rt_361, tt_361, es361, p0_361⟩ := get_sv hI_357 (j := N_346) (by omega)
              refine hp_get hx hb hts ix6 hown hK hh (q := (34 + 4 * N_346)) rfl (hI.1 _ (by omega)) es361 rfl 0 (by decide) (hts _ tw_80) (fun _ h9 => h9) rfl dX11_extreme_77 ?_
              refine lv_iload_n hx hb dX11_extreme_80 rfl (lv_at hl 4 rfl) ?_
              obtain ⟨f_362, es362⟩ := get_sva hI_357 (j := N_346) (by omega)
              refine hp_iald hx hb hK hh (q := (35 + 4 * N_346)) rfl (hI.1 _ (by omega)) es362 (vp_in_nI (n := N_348) (by omega) (by decide)) dX11_extreme_81 ?_
              rw [nI_clamp (n := N_348) (by omega)]
              refine lv_goto (tgt := 92) hx hb dX11_extreme_82 (by decide) ?_
              obtain ⟨fN, gN, hfg⟩ := hx_357.2.2.1
              exact hp_iretM hx hb hr rfl hlocks hh (⟨hI_357, hf_357, ⟨hx_357.2.1, Or.inr ⟨N_346, N_347, N_348, rfl, rfl, rfl, by omega, by omega, by omega, by omega, Or.inr ⟨hy_350, fN, gN, by unfold pickE; rw [if_neg n_354, if_pos n_358, ← NF9_c (a := en) (b := en_357) hf_357, show NF9 en_357 N_346 fN gN = svN en_357 N_346 from hfg.symm]; show _ = rdF (en_357 (35 + 4 * N_346)) N_348; rw [es362]; rfl⟩⟩⟩⟩) dX11_extreme_92
          · have n_354 : (CNX en N_346) = 0 := n_eq (a := (CNX en N_346)) (b := 0) c_354 (by omega) (by decide)
            refine lv_bipush (v := (-9)) hx hb dX11_extreme_58 (by decide) ?_
            exact hp_iretM hx hb hr rfl hlocks hh (⟨hI_353, hf_353, ⟨hln_353, Or.inr ⟨N_346, N_347, N_348, rfl, rfl, rfl, by omega, by omega, by omega, by omega, Or.inr ⟨hy_350, fun _ => 0, fun _ => 0, by unfold pickE; rw [if_pos n_354]⟩⟩⟩⟩) dX11_extreme_60
      · obtain rfl : r_348 = 0 := Eq.trans hw_348 (if_neg hp_348)
        refine lv_if_ne (tgt := 33) hx hb dX11_extreme_27 (by decide) (fun c_0 => absurd c_0 (by decide)) (fun _ => ?_)
        refine lv_bipush (v := (-2)) hx hb dX11_extreme_30 (by decide) ?_
        exact hp_iretM hx hb hr rfl hlocks hh (⟨hI, hf0, ⟨hLN, Or.inl ⟨Or.inr (Or.inr ⟨N_346, rfl, by omega, by omega, hp_348⟩), rfl⟩⟩⟩) dX11_extreme_32
    · obtain rfl : r_347 = 0 := Eq.trans hw_347 (if_neg hp_347)
      refine lv_if_eq (tgt := 30) hx hb dX11_extreme_16 (by decide) (fun _ => ?_) (fun c_0 => absurd c_0 (by decide))
      refine lv_bipush (v := (-2)) hx hb dX11_extreme_30 (by decide) ?_
      exact hp_iretM hx hb hr rfl hlocks hh (⟨hI, hf0, ⟨hLN, Or.inl ⟨Or.inr (Or.inl hp_347), rfl⟩⟩⟩) dX11_extreme_32
  · obtain rfl : r_346 = 0 := Eq.trans hw_346 (if_neg hp_346)
    refine lv_if_eq (tgt := 30) hx hb dX11_extreme_7 (by decide) (fun _ => ?_) (fun c_0 => absurd c_0 (by decide))
    refine lv_bipush (v := (-2)) hx hb dX11_extreme_30 (by decide) ?_
    exact hp_iretM hx hb hr rfl hlocks hh (⟨hI, hf0, ⟨hLN, Or.inl ⟨Or.inl hp_346, rfl⟩⟩⟩) dX11_extreme_32
theorem kw_X11_extreme {R : Room} {s : State} {args : Array Value} {own : String} {idx : Nat} (hts : ∀ w ∈ TB, w.before args s = true) (hl : Cond.methodLink own idx yX11_extreme ∈ TB) (hR : 22 + 1 ≤ R.frames ∧ 8 + (5 + 11) + 40 * 22 ≤ R.locals) : CallW R s args own RX11 idx yX11_extreme cX11_extreme 5 (some .int) (Cond.code yX11_extreme cX11_extreme 5 (some .int) :: TB) (rmN 22) 0 0 3 := cwV 3 hts (TB_V hl tw_542 tw_543 tw_1 tw_544) rfl rfl rfl (by decide +kernel) hR
set_option maxHeartbeats 4000000 in
set_option maxRecDepth 100000 in
/-- X11_ring -/
theorem c_X11_ring (l : Launch) (D : va_G) (cy : Nat → ClassId) (sz : Nat) (cs : List Nat) (ad : Nat → Nat) (en : Nat → va_E) (hI : SX cy cs ad en) (n i : Int32) (hLN : LNX en)   : Met l yX11_ring (Cond.code yX11_ring cX11_ring 4 (some .int) :: TB) (rmN 22) (va_Pc [.ref (ad 0), .int n, .int i] (Pre D cy cs ad en sz)) (va_Qi (S := Nat → va_E) (fun r en1 => SX cy cs ad en1 ∧ (∀ c, (c < 12 ∨ 70 ≤ c) → en1 c = en c) ∧ (LNX en1 ∧ XRI n i r en)) (PostM D cs ad) (Af cs ad sz)) 0 0 (Af cs ad sz) := by
  refine Met.ofW (cc := cX11_ring) (maxL := 4) (ret := (some .int)) (by decide) rfl ?_
  intro p e s m args below meth c s₁ B hml hv
  obtain ⟨rfl, hsz, hP, hK, hD0⟩ := hv
  have hx := B.exec
  have hb := B.bytes
  have hr := B.returns
  have hts : ∀ w ∈ TB, w.before _ s = true := fun w h => atoms_spec (ws := _ :: TB) B.pre w (List.mem_cons_of_mem _ h)
  have hown : s.vm.findClass RX11 = some m.cls := findClass_of_methodNamed B.named
  have hlocks := B.notSynchronized
  have hh : Hp D (Af cs ad sz) (Af cs ad sz) s.heap s.heap [] cs ad en := ⟨hP, Af_self hD0, va_S.rf⟩
  have hA : ∀ q : Nat, s.heap.size ≤ q → Af cs ad sz q := fun q h => Or.inr (by rw [hsz] at h; exact h)
  have hl := lv_entry ([.ref (ad 0), .int n, .int i]) (n := 4) (Nat.le_of_ble_eq_true rfl)
  rw [lg_entry_eq]
  generalize (lg_sl ([.ref (ad 0), .int n, .int i]) ++ List.replicate (4 - (lg_sl ([.ref (ad 0), .int n, .int i])).length) Slot.unset).toArray = ls at hl ⊢
  have hl : lv_has ls 4 [(0, .ref (ad 0)), (1, .int n), (2, .int i)] := hl
  have hf0 : ∀ c, (c < 12 ∨ 70 ≤ c) → en c = en c := fun _ _ => rfl
  obtain ⟨wc_363, lf_363, es363, p0_363⟩ := get_A hI
  obtain ⟨cnt, d, mm, es364, hcnt, hd2, hd3, hmm⟩ := get_T hI
  obtain ⟨f10, es365, hb10⟩ := get_alw hI
  have hk9 : kX en = cnt := by unfold kX; rw [show rdI (en 1) 4 = nI cnt from by rw [es364]; rfl]; exact nI_clamp (by omega)
  have ha9 : aX en = (alX f10) := by unfold aX; rw [show rdF (en 10) = f10 from by rw [es365]; rfl]
  refine lv_iload_n hx hb dX11_ring_0 rfl (lv_at hl 1 rfl) ?_
  refine lv_iconst (v := 1) hx hb dX11_ring_1 (by decide) ?_
  refine lv_bipush (v := 8) hx hb dX11_ring_2 (by decide) ?_
  refine hp_callRi (va_runS (As := [.int n, .int 1, .int 8]) (rest := []) ⟨hx, hb, hml, hown, hts⟩ (c_X11_isWithin l D cy _ cs ad en n 1 8) (kw_X11_isWithin hts tw_274 ⟨by show _ ≤ 22; omega, by show _ ≤ 40 * 22; omega⟩) (preS_of hh hK) rfl rfl hl.1 rfl (lv_room (Nat.le_of_ble_eq_true rfl)) dX11_ring_4 ⟨Nat.le_of_ble_eq_true rfl, Nat.le_of_ble_eq_true rfl⟩) hh hA (fun r_366 H locs hw_366 hh => ?_)
  rcases Decidable.em (wi n 1 8) with hp_366 | hp_366
  · obtain rfl : r_366 = 1 := Eq.trans hw_366 (if_pos hp_366)
    obtain ⟨N_366, rfl, hA_366, hB_366⟩ := wi_natB hp_366 1 8 (by decide) (by decide)
    refine lv_if_eq (tgt := 21) hx hb dX11_ring_7 (by decide) (fun c_0 => absurd c_0 (by decide)) (fun _ => ?_)
    refine lv_iload_n hx hb dX11_ring_10 rfl (lv_at hl 2 rfl) ?_
    refine lv_iconst (v := 0) hx hb dX11_ring_11 (by decide) ?_
    refine lv_iload_n hx hb dX11_ring_12 rfl (lv_at hl 1 rfl) ?_
    refine lv_iconst (v := 1) hx hb dX11_ring_13 (by decide) ?_
    refine lv_isub hx hb dX11_ring_14 ?_
    rw [show (1 : Int32) = nI 1 from rfl, pk_sub (a := N_366) (b := 1) (by omega)]
    refine hp_callRi (va_runS (As := [.int i, .int 0, .int (nI (N_366 - 1))]) (rest := []) ⟨hx, hb, hml, hown, hts⟩ (c_X11_isWithin l D cy _ cs ad en i 0 (nI (N_366 - 1))) (kw_X11_isWithin hts tw_274 ⟨by show _ ≤ 22; omega, by show _ ≤ 40 * 22; omega⟩) (preS_of hh hK) rfl rfl hl.1 rfl (lv_room (Nat.le_of_ble_eq_true rfl)) dX11_ring_15 ⟨Nat.le_of_ble_eq_true rfl, Nat.le_of_ble_eq_true rfl⟩) hh hA (fun r_367 H locs hw_367 hh => ?_)
    rcases Decidable.em (wi i 0 (nI (N_366 - 1))) with hp_367 | hp_367
    · obtain rfl : r_367 = 1 := Eq.trans hw_367 (if_pos hp_367)
      obtain ⟨N_367, rfl, hA_367, hB_367⟩ := wi_natB hp_367 0 ((N_366 - 1)) (by decide) (nI_toInt (by omega))
      refine lv_if_ne (tgt := 24) hx hb dX11_ring_18 (by decide) (fun _ => ?_) (fun c_0 => absurd c_0 (by decide))
      refine lv_aload_n hx hb dX11_ring_24 rfl (lv_at hl 0 rfl) ?_
      refine hp_get hx hb hts ix11 hown hK hh (q := 0) rfl (hI.1 _ (by decide)) es363 rfl 1 (by decide) (hts _ tw_246) (fun _ h9 => h9) rfl dX11_ring_25 ?_
      refine lv_iload_n hx hb dX11_ring_28 rfl (lv_at hl 1 rfl) ?_
      obtain ⟨hw_368, es368, p0_368⟩ := get_L hI
      refine hp_callMi (va_runV (As := [.int (nI N_366)]) (rest := []) ⟨hx, hb, hml, hown, hts⟩ (c_X2_isSpent l D cy _ cs ad en hI N_366 (by omega) (by omega) (hLN).1) (kw_X2_isSpent hts tw_445 ⟨by show _ ≤ 22; omega, by show _ ≤ 40 * 22; omega⟩) (preV_of hh hK (hI.1 _ (by decide)) es368 rfl) rfl rfl hl.1 rfl (lv_room (Nat.le_of_ble_eq_true rfl)) dX11_ring_29 ⟨Nat.le_of_ble_eq_true rfl, Nat.le_of_ble_eq_true rfl⟩) hh hA (fun r_369 H locs en_369 hw_369 hh => ?_)
      obtain ⟨hI_369, hu_369, hx_369⟩ := hw_369
      have hf_369 : ∀ c, (c < 12 ∨ 70 ≤ c) → en_369 c = en c := fun c hc => (hu_369 c (by omega)).trans (hf0 c hc)
      have hln_369 : LNX en_369 := LNX_w hLN hx_369.2.1 hu_369
      have hw_369 := hx_369.1
      rcases hw_369 with ⟨hb_369, hy_369⟩ | ⟨hb_369, hy_369⟩
      · obtain rfl : r_369 = 1 := hb_369
        refine lv_if_eq (tgt := 38) hx hb dX11_ring_32 (by decide) (fun c_0 => absurd c_0 (by decide)) (fun _ => ?_)
        refine lv_bipush (v := (-6)) hx hb dX11_ring_35 (by decide) ?_
        exact hp_iretM hx hb hr rfl hlocks hh (⟨hI_369, hf_369, ⟨hln_369, Or.inr ⟨N_366, N_367, rfl, rfl, by omega, by omega, by omega, Or.inl ⟨hy_369, rfl⟩⟩⟩⟩) dX11_ring_37
      · obtain rfl : r_369 = 0 := hb_369
        refine lv_if_eq (tgt := 38) hx hb dX11_ring_32 (by decide) (fun _ => ?_) (fun c_0 => absurd c_0 (by decide))
        refine lv_aload_n hx hb dX11_ring_38 rfl (lv_at hl 0 rfl) ?_
        have es363_370 : en_369 0 = .inr (10, [.ref (ad 1), .ref (ad 12), .ref (ad 70), .ref (ad 74), .ref (ad 75), .ref (ad 76), .int (nI wc_363), .int lf_363]) := (hf_369 0 (by omega)).trans es363
        refine hp_get hx hb hts ix11 hown hK hh (q := 0) rfl (hI.1 _ (by decide)) es363_370 rfl 1 (by decide) (hts _ tw_246) (fun _ h9 => h9) rfl dX11_ring_39 ?_
        refine lv_iload_n hx hb dX11_ring_42 rfl (lv_at hl 1 rfl) ?_
        obtain ⟨hw_371, es371, p0_371⟩ := get_L hI_369
        refine hp_callMq (va_runV (As := [.int (nI N_366)]) (rest := []) ⟨hx, hb, hml, hown, hts⟩ (c_X2_surveyOf l D cy _ cs ad en_369 hI_369 N_366 (by omega) (by omega) hln_369) (kw_X2_surveyOf hts tw_467 ⟨by show _ ≤ 22; omega, by show _ ≤ 40 * 22; omega⟩) (preV_of hh hK (hI.1 _ (by decide)) es371 rfl) rfl rfl hl.1 rfl (lv_room (Nat.le_of_ble_eq_true rfl)) dX11_ring_43 ⟨Nat.le_of_ble_eq_true rfl, Nat.le_of_ble_eq_true rfl⟩) hh hA (fun r_372 H locs en_372 hw_372 hh => ?_)
        obtain ⟨hI_372, hu_372, hx_372⟩ := hw_372
        have hf_372 : ∀ c, (c < 12 ∨ 70 ≤ c) → en_372 c = en c := fun c hc => (hu_372 c (by omega)).trans (hf_369 c hc)
        obtain rfl : r_372 = some (ad (34 + 4 * N_366)) := hx_372.1
        refine W.eq (g2 := F0 m 46 ls [.ref (ad (34 + 4 * N_366))]) rfl ?_
        refine lv_astore_n (lv' := [(3, .ref (ad (34 + 4 * N_366))), (0, .ref (ad 0)), (1, .int (nI N_366)), (2, .int (nI N_367))]) hx hb dX11_ring_46 rfl hl (by decide) rfl (fun ls hl => ?_)
        refine lv_aload_n hx hb dX11_ring_47 rfl (lv_at hl 0 rfl) ?_
        obtain ⟨dn_373, no_373, rc_373, gr_373, le_373, rt_373, tt_373, es373, p0_373⟩ := get_sv hI_372 (j := N_366) (by omega)
        refine hp_get hx hb hts ix6 hown hK hh (q := (34 + 4 * N_366)) rfl (hI.1 _ (by omega)) es373 rfl 5 (by decide) (hts _ tw_90) (fun _ h9 => h9) rfl dX11_ring_48 ?_
        refine lv_if_ne (tgt := 59) hx hb dX11_ring_51 (by decide) (fun c_374 => ?_) (fun c_374 => ?_)
        · refine lv_aload_n hx hb dX11_ring_59 rfl (lv_at hl 0 rfl) ?_
          refine hp_get hx hb hts ix6 hown hK hh (q := (34 + 4 * N_366)) rfl (hI.1 _ (by omega)) es373 rfl 2 (by decide) (hts _ tw_84) (fun _ h9 => h9) rfl dX11_ring_60 ?_
          refine lv_iload_n hx hb dX11_ring_63 rfl (lv_at hl 3 rfl) ?_
          obtain ⟨f_375, es375⟩ := get_svc hI_372 (j := N_366) (by omega)
          refine hp_iald hx hb hK hh (q := (37 + 4 * N_366)) rfl (hI.1 _ (by omega)) es375 (vp_in_nI (n := N_367) (by omega) (by decide)) dX11_ring_64 ?_
          rw [nI_clamp (n := N_367) (by omega)]
          exact hp_iretM hx hb hr rfl hlocks hh (⟨hI_372, hf_372, ⟨hx_372.2.1, Or.inr ⟨N_366, N_367, rfl, rfl, by omega, by omega, by omega, Or.inr ⟨hy_369, fun Q hQ => by obtain ⟨f, hf⟩ := hx_372.2.2.2.2 Q (by rw [hf_372 10 (by omega)]; exact hQ); exact ⟨f, by unfold pickS; rw [← RF9_c (a := en) (b := en_372) hf_372, show RF9 en_372 N_366 Q f = svR en_372 N_366 from hf.symm, if_neg (fun q => c_374 ((show (svR en_372 N_366).1 = _ from by show rdI (en_372 (34 + 4 * N_366)) 5 = _; rw [es373]; rfl).symm.trans q))]; show _ = rdF (en_372 (37 + 4 * N_366)) N_367; rw [es375]; rfl⟩⟩⟩⟩⟩) dX11_ring_65
        · refine lv_bipush (v := (-9)) hx hb dX11_ring_54 (by decide) ?_
          refine lv_goto (tgt := 65) hx hb dX11_ring_56 (by decide) ?_
          exact hp_iretM hx hb hr rfl hlocks hh (⟨hI_372, hf_372, ⟨hx_372.2.1, Or.inr ⟨N_366, N_367, rfl, rfl, by omega, by omega, by omega, Or.inr ⟨hy_369, fun Q hQ => by obtain ⟨f, hf⟩ := hx_372.2.2.2.2 Q (by rw [hf_372 10 (by omega)]; exact hQ); exact ⟨f, by unfold pickS; rw [← RF9_c (a := en) (b := en_372) hf_372, show RF9 en_372 N_366 Q f = svR en_372 N_366 from hf.symm, if_pos ((show (svR en_372 N_366).1 = _ from by show rdI (en_372 (34 + 4 * N_366)) 5 = _; rw [es373]; rfl).trans c_374)]⟩⟩⟩⟩⟩) dX11_ring_65
    · obtain rfl : r_367 = 0 := Eq.trans hw_367 (if_neg hp_367)
      refine lv_if_ne (tgt := 24) hx hb dX11_ring_18 (by decide) (fun c_0 => absurd c_0 (by decide)) (fun _ => ?_)
      refine lv_bipush (v := (-2)) hx hb dX11_ring_21 (by decide) ?_
      exact hp_iretM hx hb hr rfl hlocks hh (⟨hI, hf0, ⟨hLN, Or.inl ⟨Or.inr ⟨N_366, rfl, by omega, by omega, hp_367⟩, rfl⟩⟩⟩) dX11_ring_23
  · obtain rfl : r_366 = 0 := Eq.trans hw_366 (if_neg hp_366)
    refine lv_if_eq (tgt := 21) hx hb dX11_ring_7 (by decide) (fun _ => ?_) (fun c_0 => absurd c_0 (by decide))
    refine lv_bipush (v := (-2)) hx hb dX11_ring_21 (by decide) ?_
    exact hp_iretM hx hb hr rfl hlocks hh (⟨hI, hf0, ⟨hLN, Or.inl ⟨Or.inl hp_366, rfl⟩⟩⟩) dX11_ring_23
theorem kw_X11_ring {R : Room} {s : State} {args : Array Value} {own : String} {idx : Nat} (hts : ∀ w ∈ TB, w.before args s = true) (hl : Cond.methodLink own idx yX11_ring ∈ TB) (hR : 22 + 1 ≤ R.frames ∧ 8 + (4 + 11) + 40 * 22 ≤ R.locals) : CallW R s args own RX11 idx yX11_ring cX11_ring 4 (some .int) (Cond.code yX11_ring cX11_ring 4 (some .int) :: TB) (rmN 22) 0 0 2 := cwV 2 hts (TB_V hl tw_554 tw_555 tw_1 tw_556) rfl rfl rfl (by decide +kernel) hR
set_option maxHeartbeats 4000000 in
set_option maxRecDepth 100000 in
/-- X11_growth -/
theorem c_X11_growth (l : Launch) (D : va_G) (cy : Nat → ClassId) (sz : Nat) (cs : List Nat) (ad : Nat → Nat) (en : Nat → va_E) (hI : SX cy cs ad en) (a b n : Int32) (hLN : LNX en)   : Met l yX11_growth (Cond.code yX11_growth cX11_growth 5 (some .int) :: TB) (rmN 22) (va_Pc [.ref (ad 0), .int a, .int b, .int n] (Pre D cy cs ad en sz)) (va_Qi (S := Nat → va_E) (fun r en1 => SX cy cs ad en1 ∧ (∀ c, (c < 12 ∨ 70 ≤ c) → en1 c = en c) ∧ (LNX en1 ∧ XGW a b n r en)) (PostM D cs ad) (Af cs ad sz)) 0 0 (Af cs ad sz) := by
  refine Met.ofW (cc := cX11_growth) (maxL := 5) (ret := (some .int)) (by decide) rfl ?_
  intro p e s m args below meth c s₁ B hml hv
  obtain ⟨rfl, hsz, hP, hK, hD0⟩ := hv
  have hx := B.exec
  have hb := B.bytes
  have hr := B.returns
  have hts : ∀ w ∈ TB, w.before _ s = true := fun w h => atoms_spec (ws := _ :: TB) B.pre w (List.mem_cons_of_mem _ h)
  have hown : s.vm.findClass RX11 = some m.cls := findClass_of_methodNamed B.named
  have hlocks := B.notSynchronized
  have hh : Hp D (Af cs ad sz) (Af cs ad sz) s.heap s.heap [] cs ad en := ⟨hP, Af_self hD0, va_S.rf⟩
  have hA : ∀ q : Nat, s.heap.size ≤ q → Af cs ad sz q := fun q h => Or.inr (by rw [hsz] at h; exact h)
  have hl := lv_entry ([.ref (ad 0), .int a, .int b, .int n]) (n := 5) (Nat.le_of_ble_eq_true rfl)
  rw [lg_entry_eq]
  generalize (lg_sl ([.ref (ad 0), .int a, .int b, .int n]) ++ List.replicate (5 - (lg_sl ([.ref (ad 0), .int a, .int b, .int n])).length) Slot.unset).toArray = ls at hl ⊢
  have hl : lv_has ls 5 [(0, .ref (ad 0)), (1, .int a), (2, .int b), (3, .int n)] := hl
  have hf0 : ∀ c, (c < 12 ∨ 70 ≤ c) → en c = en c := fun _ _ => rfl
  obtain ⟨wc_376, lf_376, es376, p0_376⟩ := get_A hI
  obtain ⟨cnt, d, mm, es377, hcnt, hd2, hd3, hmm⟩ := get_T hI
  obtain ⟨f10, es378, hb10⟩ := get_alw hI
  have hk9 : kX en = cnt := by unfold kX; rw [show rdI (en 1) 4 = nI cnt from by rw [es377]; rfl]; exact nI_clamp (by omega)
  have ha9 : aX en = (alX f10) := by unfold aX; rw [show rdF (en 10) = f10 from by rw [es378]; rfl]
  refine lv_iload_n hx hb dX11_growth_0 rfl (lv_at hl 1 rfl) ?_
  refine lv_iconst (v := 1) hx hb dX11_growth_1 (by decide) ?_
  refine lv_bipush (v := 9) hx hb dX11_growth_2 (by decide) ?_
  refine hp_callRi (va_runS (As := [.int a, .int 1, .int 9]) (rest := []) ⟨hx, hb, hml, hown, hts⟩ (c_X11_isWithin l D cy _ cs ad en a 1 9) (kw_X11_isWithin hts tw_274 ⟨by show _ ≤ 22; omega, by show _ ≤ 40 * 22; omega⟩) (preS_of hh hK) rfl rfl hl.1 rfl (lv_room (Nat.le_of_ble_eq_true rfl)) dX11_growth_4 ⟨Nat.le_of_ble_eq_true rfl, Nat.le_of_ble_eq_true rfl⟩) hh hA (fun r_379 H locs hw_379 hh => ?_)
  rcases Decidable.em (wi a 1 9) with hp_379 | hp_379
  · obtain rfl : r_379 = 1 := Eq.trans hw_379 (if_pos hp_379)
    obtain ⟨N_379, rfl, hA_379, hB_379⟩ := wi_natB hp_379 1 9 (by decide) (by decide)
    refine lv_if_eq (tgt := 30) hx hb dX11_growth_7 (by decide) (fun c_0 => absurd c_0 (by decide)) (fun _ => ?_)
    refine lv_iload_n hx hb dX11_growth_10 rfl (lv_at hl 2 rfl) ?_
    refine lv_iconst (v := 1) hx hb dX11_growth_11 (by decide) ?_
    refine lv_bipush (v := 9) hx hb dX11_growth_12 (by decide) ?_
    refine hp_callRi (va_runS (As := [.int b, .int 1, .int 9]) (rest := []) ⟨hx, hb, hml, hown, hts⟩ (c_X11_isWithin l D cy _ cs ad en b 1 9) (kw_X11_isWithin hts tw_274 ⟨by show _ ≤ 22; omega, by show _ ≤ 40 * 22; omega⟩) (preS_of hh hK) rfl rfl hl.1 rfl (lv_room (Nat.le_of_ble_eq_true rfl)) dX11_growth_14 ⟨Nat.le_of_ble_eq_true rfl, Nat.le_of_ble_eq_true rfl⟩) hh hA (fun r_380 H locs hw_380 hh => ?_)
    rcases Decidable.em (wi b 1 9) with hp_380 | hp_380
    · obtain rfl : r_380 = 1 := Eq.trans hw_380 (if_pos hp_380)
      obtain ⟨N_380, rfl, hA_380, hB_380⟩ := wi_natB hp_380 1 9 (by decide) (by decide)
      refine lv_if_eq (tgt := 30) hx hb dX11_growth_17 (by decide) (fun c_0 => absurd c_0 (by decide)) (fun _ => ?_)
      refine lv_iload_n hx hb dX11_growth_20 rfl (lv_at hl 3 rfl) ?_
      refine lv_iconst (v := 1) hx hb dX11_growth_21 (by decide) ?_
      refine lv_bipush (v := 7) hx hb dX11_growth_22 (by decide) ?_
      refine hp_callRi (va_runS (As := [.int n, .int 1, .int 7]) (rest := []) ⟨hx, hb, hml, hown, hts⟩ (c_X11_isWithin l D cy _ cs ad en n 1 7) (kw_X11_isWithin hts tw_274 ⟨by show _ ≤ 22; omega, by show _ ≤ 40 * 22; omega⟩) (preS_of hh hK) rfl rfl hl.1 rfl (lv_room (Nat.le_of_ble_eq_true rfl)) dX11_growth_24 ⟨Nat.le_of_ble_eq_true rfl, Nat.le_of_ble_eq_true rfl⟩) hh hA (fun r_381 H locs hw_381 hh => ?_)
      rcases Decidable.em (wi n 1 7) with hp_381 | hp_381
      · obtain rfl : r_381 = 1 := Eq.trans hw_381 (if_pos hp_381)
        obtain ⟨N_381, rfl, hA_381, hB_381⟩ := wi_natB hp_381 1 7 (by decide) (by decide)
        refine lv_if_ne (tgt := 33) hx hb dX11_growth_27 (by decide) (fun _ => ?_) (fun c_0 => absurd c_0 (by decide))
        refine lv_aload_n hx hb dX11_growth_33 rfl (lv_at hl 0 rfl) ?_
        refine hp_get hx hb hts ix11 hown hK hh (q := 0) rfl (hI.1 _ (by decide)) es376 rfl 0 (by decide) (hts _ tw_245) (fun _ h9 => h9) rfl dX11_growth_34 ?_
        refine hp_callRi (va_runV (As := []) (rest := []) ⟨hx, hb, hml, hown, hts⟩ (c_X8_modulus l D cy _ cs ad en (hI.1 _ (by decide)) cnt d mm hcnt hd2 hd3 hmm  es377) (kw_X8_modulus hts tw_561 ⟨by show _ ≤ 22; omega, by show _ ≤ 40 * 22; omega⟩) (preV_of hh hK (hI.1 _ (by decide)) es377 rfl) rfl rfl hl.1 rfl (lv_room (Nat.le_of_ble_eq_true rfl)) dX11_growth_37 ⟨Nat.le_of_ble_eq_true rfl, Nat.le_of_ble_eq_true rfl⟩) hh hA (fun r_382 H locs hw_382 hh => ?_)
        obtain rfl : r_382 = (nI mm) := hw_382
        refine lv_if_gt (tgt := 53) hx hb dX11_growth_40 (by decide) (fun c_383 => ?_) (fun c_383 => ?_)
        · have n_383 : 0 < mm := n_lt (a := 0) (b := mm) c_383 (by decide) (by omega)
          refine lv_bipush (v := (-3)) hx hb dX11_growth_53 (by decide) ?_
          exact hp_iretM hx hb hr rfl hlocks hh (⟨hI, hf0, ⟨hLN, Or.inr ⟨N_379, N_380, N_381, rfl, rfl, rfl, by omega, by omega, by omega, by omega, by omega, by omega, Or.inl ⟨Or.inl (by rw [show rdI (en 1) 6 = nI mm from by rw [es377]; rfl, nI_toInt (n := mm) (by omega)]; omega), rfl⟩⟩⟩⟩) dX11_growth_55
        · have n_383 : mm ≤ 0 := n_nlt (a := 0) (b := mm) c_383 (by decide) (by omega)
          refine lv_aload_n hx hb dX11_growth_43 rfl (lv_at hl 0 rfl) ?_
          refine hp_get hx hb hts ix11 hown hK hh (q := 0) rfl (hI.1 _ (by decide)) es376 rfl 0 (by decide) (hts _ tw_245) (fun _ h9 => h9) rfl dX11_growth_44 ?_
          refine hp_callRi (va_runV (As := []) (rest := []) ⟨hx, hb, hml, hown, hts⟩ (c_X8_count l D cy _ cs ad en (hI.1 _ (by decide)) cnt d mm hcnt hd2 hd3 hmm  es377) (kw_X8_count hts tw_318 ⟨by show _ ≤ 22; omega, by show _ ≤ 40 * 22; omega⟩) (preV_of hh hK (hI.1 _ (by decide)) es377 rfl) rfl rfl hl.1 rfl (lv_room (Nat.le_of_ble_eq_true rfl)) dX11_growth_47 ⟨Nat.le_of_ble_eq_true rfl, Nat.le_of_ble_eq_true rfl⟩) hh hA (fun r_384 H locs hw_384 hh => ?_)
          obtain rfl : r_384 = (nI cnt) := hw_384
          refine lv_if_ne (tgt := 56) hx hb dX11_growth_50 (by decide) (fun c_385 => ?_) (fun c_385 => ?_)
          · have n_385 : cnt ≠ 0 := n_neq (a := cnt) (b := 0) c_385 (by omega) (by decide)
            refine lv_iconst (v := 1) hx hb dX11_growth_56 (by decide) ?_
            refine lv_istore (lv' := [(4, .int 1), (0, .ref (ad 0)), (1, .int (nI N_379)), (2, .int (nI N_380)), (3, .int (nI N_381))]) hx hb dX11_growth_57 hl (by decide) rfl (fun ls hl => ?_)
            have loop_386 : ∀ (fu j386 : Nat)  (en_386 : Nat → va_E) (ls : Array Slot) (H : Heap) (locs : List Loc), 1 ≤ j386 → j386 ≤ (N_381 + 1) → (N_381 + 1) < j386 + fu → SX cy cs ad en_386 → (∀ c, (c < 12 ∨ 70 ≤ c) → en_386 c = en c) → (∀ q, 1 ≤ q → q < j386 → ¬ 20000 < CNX en q) → (LNX en_386) → lv_has ls 5 [(4, .int (nI j386)), (0, .ref (ad 0)), (1, .int (nI N_379)), (2, .int (nI N_380)), (3, .int (nI N_381))] → Hp D (Af cs ad sz) (Af cs ad sz) s.heap H locs cs ad en_386 → W p l e (headSpec (Cond.code yX11_growth cX11_growth 5 (some .int) :: TB) (rmN 22)).room s m ([.ref (ad 0), .int (nI N_379), .int (nI N_380), .int (nI N_381)] : List Value).toArray below meth c H locs 0 0 (MQ below (va_Qi (S := Nat → va_E) (fun r en1 => SX cy cs ad en1 ∧ (∀ c, (c < 12 ∨ 70 ≤ c) → en1 c = en c) ∧ (LNX en1 ∧ XGW (nI N_379) (nI N_380) (nI N_381) r en)) (PostM D cs ad) (Af cs ad sz)) ([.ref (ad 0), .int (nI N_379), .int (nI N_380), .int (nI N_381)] : List Value).toArray s 0 0 (Af cs ad sz)) (F0 m 59 ls []) := by
              intro fu
              induction fu with
              | zero => intro j386  en_386 ls H locs h0 h1 h2; exact absurd h2 (by omega)
              | succ fu ih_386 =>
                intro j386  en_386 ls H locs hj0_386 hj_386 hfu_386 hI_386 hf_386 i0_386 i1_386 hl hh
                refine lv_iload hx hb dX11_growth_59 (lv_at hl 0 rfl) ?_
                refine lv_iload_n hx hb dX11_growth_61 rfl (lv_at hl 4 rfl) ?_
                refine lv_icmp_gt (tgt := 86) hx hb dX11_growth_62 (by decide) (fun c_387 => ?_) (fun c_387 => ?_)
                · have n_387 : N_381 < j386 := n_lt (a := N_381) (b := j386) c_387 (by omega) (by omega)
                  refine lv_aload_n hx hb dX11_growth_86 rfl (lv_at hl 1 rfl) ?_
                  have es376_388 : en_386 0 = .inr (10, [.ref (ad 1), .ref (ad 12), .ref (ad 70), .ref (ad 74), .ref (ad 75), .ref (ad 76), .int (nI wc_376), .int lf_376]) := (hf_386 0 (by omega)).trans es376
                  refine hp_get hx hb hts ix11 hown hK hh (q := 0) rfl (hI.1 _ (by decide)) es376_388 rfl 1 (by decide) (hts _ tw_246) (fun _ h9 => h9) rfl dX11_growth_87 ?_
                  refine lv_iload_n hx hb dX11_growth_90 rfl (lv_at hl 2 rfl) ?_
                  refine lv_iload_n hx hb dX11_growth_91 rfl (lv_at hl 3 rfl) ?_
                  refine lv_iload_n hx hb dX11_growth_92 rfl (lv_at hl 4 rfl) ?_
                  obtain ⟨hw_389, es389, p0_389⟩ := get_L hI_386
                  refine hp_callMi (va_runV (As := [.int (nI N_379), .int (nI N_380), .int (nI N_381)]) (rest := []) ⟨hx, hb, hml, hown, hts⟩ (c_X2_compareGrowth l D cy _ cs ad en_386 hI_386 (nI N_379) (nI N_380) N_381 (by omega) (by omega) i1_386) (kw_X2_compareGrowth hts tw_565 ⟨by show _ ≤ 22; omega, by show _ ≤ 40 * 22; omega⟩) (preV_of hh hK (hI.1 _ (by decide)) es389 rfl) rfl rfl hl.1 rfl (lv_room (Nat.le_of_ble_eq_true rfl)) dX11_growth_93 ⟨Nat.le_of_ble_eq_true rfl, Nat.le_of_ble_eq_true rfl⟩) hh hA (fun r_390 H locs en_390 hw_390 hh => ?_)
                  obtain ⟨hI_390, hu_390, hx_390⟩ := hw_390
                  have hf_390 : ∀ c, (c < 12 ∨ 70 ≤ c) → en_390 c = en c := fun c hc => (hu_390 c (by omega)).trans (hf_386 c hc)
                  exact hp_iretM hx hb hr rfl hlocks hh (⟨hI_390, hf_390, ⟨hx_390.1, Or.inr ⟨N_379, N_380, N_381, rfl, rfl, rfl, by omega, by omega, by omega, by omega, by omega, by omega, Or.inr ⟨⟨by rw [show rdI (en 1) 6 = nI mm from by rw [es377]; rfl, nI_toInt (n := mm) (by omega)]; omega, fun q => n_385 (n_eq (b := 0) ((show rdI (en 1) 4 = nI cnt from by rw [es377]; rfl).symm.trans q) (by omega) (by decide))⟩, Or.inr ⟨fun q h1 h2 => i0_386 q h1 (by omega), XGR_c (a := en) (b := en_386) hf_386 hx_390.2⟩⟩⟩⟩⟩) dX11_growth_96
                · have n_387 : j386 ≤ N_381 := n_nlt (a := N_381) (b := j386) c_387 (by omega) (by omega)
                  refine lv_aload_n hx hb dX11_growth_65 rfl (lv_at hl 1 rfl) ?_
                  have es376_391 : en_386 0 = .inr (10, [.ref (ad 1), .ref (ad 12), .ref (ad 70), .ref (ad 74), .ref (ad 75), .ref (ad 76), .int (nI wc_376), .int lf_376]) := (hf_386 0 (by omega)).trans es376
                  refine hp_get hx hb hts ix11 hown hK hh (q := 0) rfl (hI.1 _ (by decide)) es376_391 rfl 1 (by decide) (hts _ tw_246) (fun _ h9 => h9) rfl dX11_growth_66 ?_
                  refine lv_iload hx hb dX11_growth_69 (lv_at hl 0 rfl) ?_
                  obtain ⟨hw_392, es392, p0_392⟩ := get_L hI_386
                  refine hp_callMi (va_runV (As := [.int (nI j386)]) (rest := []) ⟨hx, hb, hml, hown, hts⟩ (c_X2_isSpent l D cy _ cs ad en_386 hI_386 j386 (by omega) (by omega) (i1_386).1) (kw_X2_isSpent hts tw_445 ⟨by show _ ≤ 22; omega, by show _ ≤ 40 * 22; omega⟩) (preV_of hh hK (hI.1 _ (by decide)) es392 rfl) rfl rfl hl.1 rfl (lv_room (Nat.le_of_ble_eq_true rfl)) dX11_growth_71 ⟨Nat.le_of_ble_eq_true rfl, Nat.le_of_ble_eq_true rfl⟩) hh hA (fun r_393 H locs en_393 hw_393 hh => ?_)
                  obtain ⟨hI_393, hu_393, hx_393⟩ := hw_393
                  have hf_393 : ∀ c, (c < 12 ∨ 70 ≤ c) → en_393 c = en c := fun c hc => (hu_393 c (by omega)).trans (hf_386 c hc)
                  rw [CNX_c (a := en) (b := en_386) (hf_386 1 (by omega)) (hf_386 10 (by omega))] at hx_393
                  have hln_393 : LNX en_393 := LNX_w i1_386 hx_393.2.1 hu_393
                  have hw_393 := hx_393.1
                  rcases hw_393 with ⟨hb_393, hy_393⟩ | ⟨hb_393, hy_393⟩
                  · obtain rfl : r_393 = 1 := hb_393
                    refine lv_if_eq (tgt := 80) hx hb dX11_growth_74 (by decide) (fun c_0 => absurd c_0 (by decide)) (fun _ => ?_)
                    refine lv_bipush (v := (-6)) hx hb dX11_growth_77 (by decide) ?_
                    exact hp_iretM hx hb hr rfl hlocks hh (⟨hI_393, hf_393, ⟨hln_393, Or.inr ⟨N_379, N_380, N_381, rfl, rfl, rfl, by omega, by omega, by omega, by omega, by omega, by omega, Or.inr ⟨⟨by rw [show rdI (en 1) 6 = nI mm from by rw [es377]; rfl, nI_toInt (n := mm) (by omega)]; omega, fun q => n_385 (n_eq (b := 0) ((show rdI (en 1) 4 = nI cnt from by rw [es377]; rfl).symm.trans q) (by omega) (by decide))⟩, Or.inl ⟨⟨j386, by omega, by omega, hy_393⟩, rfl⟩⟩⟩⟩⟩) dX11_growth_79
                  · obtain rfl : r_393 = 0 := hb_393
                    refine lv_if_eq (tgt := 80) hx hb dX11_growth_74 (by decide) (fun _ => ?_) (fun c_0 => absurd c_0 (by decide))
                    refine lv_iinc (v := (nI (j386 + 1))) (lv' := [(4, .int (nI (j386 + 1))), (0, .ref (ad 0)), (1, .int (nI N_379)), (2, .int (nI N_380)), (3, .int (nI N_381))]) hx hb dX11_growth_80 hl (k := 0) rfl (nI_1 _) (by decide) rfl (fun ls hl => ?_)
                    refine lv_goto (tgt := 59) hx hb dX11_growth_83 (by decide) ?_
                    exact ih_386 ((j386 + 1))  en_393 ls H locs (by omega) (by omega) (by omega) hI_393 hf_393 (fun q h1 h2 => (Nat.lt_or_ge q j386).elim (fun h => i0_386 q h1 h) (fun h => by have e : q = j386 := (by omega); rw [e]; exact hy_393)) (hln_393) (lv_sub hl [0, 1, 2, 3, 4] rfl) hh
            exact loop_386 ((N_381 + 1) + 1) 1  en ls _ _ (Nat.le_refl _) (by omega) (by omega) hI hf0 (fun q h1 h2 => absurd h2 (by omega)) (hLN) (lv_sub hl [0, 1, 2, 3, 4] rfl) hh
          · have n_385 : cnt = 0 := n_eq (a := cnt) (b := 0) c_385 (by omega) (by decide)
            refine lv_bipush (v := (-3)) hx hb dX11_growth_53 (by decide) ?_
            exact hp_iretM hx hb hr rfl hlocks hh (⟨hI, hf0, ⟨hLN, Or.inr ⟨N_379, N_380, N_381, rfl, rfl, rfl, by omega, by omega, by omega, by omega, by omega, by omega, Or.inl ⟨Or.inr (by rw [show rdI (en 1) 4 = nI cnt from by rw [es377]; rfl, n_385]; rfl), rfl⟩⟩⟩⟩) dX11_growth_55
      · obtain rfl : r_381 = 0 := Eq.trans hw_381 (if_neg hp_381)
        refine lv_if_ne (tgt := 33) hx hb dX11_growth_27 (by decide) (fun c_0 => absurd c_0 (by decide)) (fun _ => ?_)
        refine lv_bipush (v := (-2)) hx hb dX11_growth_30 (by decide) ?_
        exact hp_iretM hx hb hr rfl hlocks hh (⟨hI, hf0, ⟨hLN, Or.inl ⟨Or.inr (Or.inr hp_381), rfl⟩⟩⟩) dX11_growth_32
    · obtain rfl : r_380 = 0 := Eq.trans hw_380 (if_neg hp_380)
      refine lv_if_eq (tgt := 30) hx hb dX11_growth_17 (by decide) (fun _ => ?_) (fun c_0 => absurd c_0 (by decide))
      refine lv_bipush (v := (-2)) hx hb dX11_growth_30 (by decide) ?_
      exact hp_iretM hx hb hr rfl hlocks hh (⟨hI, hf0, ⟨hLN, Or.inl ⟨Or.inr (Or.inl hp_380), rfl⟩⟩⟩) dX11_growth_32
  · obtain rfl : r_379 = 0 := Eq.trans hw_379 (if_neg hp_379)
    refine lv_if_eq (tgt := 30) hx hb dX11_growth_7 (by decide) (fun _ => ?_) (fun c_0 => absurd c_0 (by decide))
    refine lv_bipush (v := (-2)) hx hb dX11_growth_30 (by decide) ?_
    exact hp_iretM hx hb hr rfl hlocks hh (⟨hI, hf0, ⟨hLN, Or.inl ⟨Or.inl hp_379, rfl⟩⟩⟩) dX11_growth_32
theorem kw_X11_growth {R : Room} {s : State} {args : Array Value} {own : String} {idx : Nat} (hts : ∀ w ∈ TB, w.before args s = true) (hl : Cond.methodLink own idx yX11_growth ∈ TB) (hR : 22 + 1 ≤ R.frames ∧ 8 + (5 + 11) + 40 * 22 ≤ R.locals) : CallW R s args own RX11 idx yX11_growth cX11_growth 5 (some .int) (Cond.code yX11_growth cX11_growth 5 (some .int) :: TB) (rmN 22) 0 0 3 := cwV 3 hts (TB_V hl tw_558 tw_559 tw_1 tw_560) rfl rfl rfl (by decide +kernel) hR
