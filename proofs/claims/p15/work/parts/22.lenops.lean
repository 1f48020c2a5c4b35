set_option maxHeartbeats 4000000 in
set_option maxRecDepth 100000 in
/-- X11_length -/
theorem c_X11_length (l : Launch) (D : va_G) (cy : Nat → ClassId) (sz : Nat) (cs : List Nat) (ad : Nat → Nat) (en : Nat → va_E) (hI : SX cy cs ad en) (n w : Int32)   : Met l yX11_length (Cond.code yX11_length cX11_length 4 (some .long) :: TB) (rmN 22) (va_Pc [.ref (ad 0), .int n, .int w] (Pre D cy cs ad en sz)) (va_Ql (S := Nat → va_E) (fun r en1 => SX cy cs ad en1 ∧ (∀ c, (c < 12 ∨ 70 ≤ c) → en1 c = en c)) (PostM D cs ad) (Af cs ad sz)) 0 0 (Af cs ad sz) := by
  refine Met.ofW (cc := cX11_length) (maxL := 4) (ret := (some .long)) (by decide) rfl ?_
  intro p e s m args below meth c s₁ B hml hv
  obtain ⟨rfl, hsz, hP, hK, hD0⟩ := hv
  have hx := B.exec
  have hb := B.bytes
  have hr := B.returns
  have hts : ∀ w ∈ TB, w.before _ s = true := fun w h => atoms_spec (ws := _ :: TB) B.pre w (List.mem_cons_of_mem _ h)
  have hown : s.vm.findClass RX11 = some m.cls := findClass_of_methodNamed B.named
  have hlocks := B.notSynchronized
  have hh : Hp D (Af cs ad sz) (Af cs ad sz) s.heap s.heap [] cs ad en := ⟨hP, Af_self hD0, va_S.rf⟩
  have hA : ∀ q : Nat, s.heap.size ≤ q → Af cs ad sz q := fun q h => Or.inr (by rw [hsz] at h; exact h)
  have hl := lv_entry ([.ref (ad 0), .int n, .int w]) (n := 4) (Nat.le_of_ble_eq_true rfl)
  rw [lg_entry_eq]
  generalize (lg_sl ([.ref (ad 0), .int n, .int w]) ++ List.replicate (4 - (lg_sl ([.ref (ad 0), .int n, .int w])).length) Slot.unset).toArray = ls at hl ⊢
  have hl : lv_has ls 4 [(0, .ref (ad 0)), (1, .int n), (2, .int w)] := hl
  have hf0 : ∀ c, (c < 12 ∨ 70 ≤ c) → en c = en c := fun _ _ => rfl
  obtain ⟨wc_296, lf_296, es296, p0_296⟩ := get_A hI
  obtain ⟨cnt, d, mm, es297, hcnt, hd2, hd3, hmm⟩ := get_T hI
  obtain ⟨f10, es298, hb10⟩ := get_alw hI
  refine lv_iload_n hx hb dX11_length_0 rfl (lv_at hl 1 rfl) ?_
  refine lv_iconst (v := 1) hx hb dX11_length_1 (by decide) ?_
  refine lv_bipush (v := 8) hx hb dX11_length_2 (by decide) ?_
  refine hp_callRi (va_runS (As := [.int n, .int 1, .int 8]) (rest := []) ⟨hx, hb, hml, hown, hts⟩ (c_X11_isWithin l D cy _ cs ad en n 1 8) (kw_X11_isWithin hts tw_274 ⟨by show _ ≤ 22; omega, by show _ ≤ 40 * 22; omega⟩) (preS_of hh hK) rfl rfl hl.1 rfl (lv_room (Nat.le_of_ble_eq_true rfl)) dX11_length_4 ⟨Nat.le_of_ble_eq_true rfl, Nat.le_of_ble_eq_true rfl⟩) hh hA (fun r_299 H locs hw_299 hh => ?_)
  rcases Decidable.em (wi n 1 8) with hp_299 | hp_299
  · obtain rfl : r_299 = 1 := Eq.trans hw_299 (if_pos hp_299)
    obtain ⟨N_299, rfl, hA_299, hB_299⟩ := wi_natB hp_299 1 8 (by decide) (by decide)
    refine lv_if_eq (tgt := 19) hx hb dX11_length_7 (by decide) (fun c_0 => absurd c_0 (by decide)) (fun _ => ?_)
    refine lv_iload_n hx hb dX11_length_10 rfl (lv_at hl 2 rfl) ?_
    refine lv_iconst (v := 0) hx hb dX11_length_11 (by decide) ?_
    refine lv_iconst (v := 3) hx hb dX11_length_12 (by decide) ?_
    refine hp_callRi (va_runS (As := [.int w, .int 0, .int 3]) (rest := []) ⟨hx, hb, hml, hown, hts⟩ (c_X11_isWithin l D cy _ cs ad en w 0 3) (kw_X11_isWithin hts tw_274 ⟨by show _ ≤ 22; omega, by show _ ≤ 40 * 22; omega⟩) (preS_of hh hK) rfl rfl hl.1 rfl (lv_room (Nat.le_of_ble_eq_true rfl)) dX11_length_13 ⟨Nat.le_of_ble_eq_true rfl, Nat.le_of_ble_eq_true rfl⟩) hh hA (fun r_300 H locs hw_300 hh => ?_)
    rcases Decidable.em (wi w 0 3) with hp_300 | hp_300
    · obtain rfl : r_300 = 1 := Eq.trans hw_300 (if_pos hp_300)
      obtain ⟨N_300, rfl, hA_300, hB_300⟩ := wi_natB hp_300 0 3 (by decide) (by decide)
      refine lv_if_ne (tgt := 23) hx hb dX11_length_16 (by decide) (fun _ => ?_) (fun c_0 => absurd c_0 (by decide))
      refine lv_aload_n hx hb dX11_length_23 rfl (lv_at hl 0 rfl) ?_
      refine hp_get hx hb hts ix11 hown hK hh (q := 0) rfl (hI.1 _ (by decide)) es296 rfl 1 (by decide) (hts _ tw_246) (fun _ h9 => h9) rfl dX11_length_24 ?_
      refine lv_iload_n hx hb dX11_length_27 rfl (lv_at hl 1 rfl) ?_
      obtain ⟨hw_301, es301, p0_301⟩ := get_L hI
      refine hp_callMi (va_runV (As := [.int (nI N_299)]) (rest := []) ⟨hx, hb, hml, hown, hts⟩ (c_X2_isSpent l D cy _ cs ad en hI N_299 (by omega)) (kw_X2_isSpent hts tw_445 ⟨by show _ ≤ 22; omega, by show _ ≤ 40 * 22; omega⟩) (preV_of hh hK (hI.1 _ (by decide)) es301 rfl) rfl rfl hl.1 rfl (lv_room (Nat.le_of_ble_eq_true rfl)) dX11_length_28 ⟨Nat.le_of_ble_eq_true rfl, Nat.le_of_ble_eq_true rfl⟩) hh hA (fun r_302 H locs en_302 hw_302 hh => ?_)
      obtain ⟨hI_302, hu_302, hx_302⟩ := hw_302
      have hf_302 : ∀ c, (c < 12 ∨ 70 ≤ c) → en_302 c = en c := fun c hc => (hu_302 c (by omega)).trans (hf0 c hc)
      have hw_302 := hx_302
      rcases hw_302 with hb_302 | hb_302
      · obtain rfl : r_302 = 0 := hb_302
        refine lv_if_eq (tgt := 38) hx hb dX11_length_31 (by decide) (fun _ => ?_) (fun c_0 => absurd c_0 (by decide))
        refine lv_aload_n hx hb dX11_length_38 rfl (lv_at hl 0 rfl) ?_
        have es296_303 : en_302 0 = .inr (10, [.ref (ad 1), .ref (ad 12), .ref (ad 70), .ref (ad 74), .ref (ad 75), .ref (ad 76), .int (nI wc_296), .int lf_296]) := (hf_302 0 (by omega)).trans es296
        refine hp_get hx hb hts ix11 hown hK hh (q := 0) rfl (hI.1 _ (by decide)) es296_303 rfl 1 (by decide) (hts _ tw_246) (fun _ h9 => h9) rfl dX11_length_39 ?_
        refine lv_iload_n hx hb dX11_length_42 rfl (lv_at hl 1 rfl) ?_
        obtain ⟨hw_304, es304, p0_304⟩ := get_L hI_302
        refine hp_callMi (va_runV (As := [.int (nI N_299)]) (rest := []) ⟨hx, hb, hml, hown, hts⟩ (c_X2_countOf l D cy _ cs ad en_302 hI_302 N_299 (by omega)) (kw_X2_countOf hts tw_466 ⟨by show _ ≤ 22; omega, by show _ ≤ 40 * 22; omega⟩) (preV_of hh hK (hI.1 _ (by decide)) es304 rfl) rfl rfl hl.1 rfl (lv_room (Nat.le_of_ble_eq_true rfl)) dX11_length_43 ⟨Nat.le_of_ble_eq_true rfl, Nat.le_of_ble_eq_true rfl⟩) hh hA (fun r_305 H locs en_305 hw_305 hh => ?_)
        obtain ⟨hI_305, hu_305⟩ := hw_305
        have hf_305 : ∀ c, (c < 12 ∨ 70 ≤ c) → en_305 c = en c := fun c hc => (hu_305 c (by omega)).trans (hf_302 c hc)
        refine lv_if_ne (tgt := 53) hx hb dX11_length_46 (by decide) (fun c_306 => ?_) (fun c_306 => ?_)
        · refine lv_iconst (v := 0) hx hb dX11_length_53 (by decide) ?_
          refine lv_istore_n (lv' := [(3, .int 0), (0, .ref (ad 0)), (1, .int (nI N_299)), (2, .int (nI N_300))]) hx hb dX11_length_54 rfl hl (by decide) rfl (fun ls hl => ?_)
          refine lv_iload_n hx hb dX11_length_55 rfl (lv_at hl 3 rfl) ?_
          by_cases q_307_0 : (nI N_300) = 0
          · refine lv_tableIn (off := 28) (tgt := 84) hx hb dX11_length_56 (by rw [q_307_0]; decide) (by rw [q_307_0]; decide) (by rw [q_307_0]; decide) (by decide) ?_
            refine lv_aload_n hx hb dX11_length_84 rfl (lv_at hl 1 rfl) ?_
            have es296_308 : en_305 0 = .inr (10, [.ref (ad 1), .ref (ad 12), .ref (ad 70), .ref (ad 74), .ref (ad 75), .ref (ad 76), .int (nI wc_296), .int lf_296]) := (hf_305 0 (by omega)).trans es296
            refine hp_get hx hb hts ix11 hown hK hh (q := 0) rfl (hI.1 _ (by decide)) es296_308 rfl 1 (by decide) (hts _ tw_246) (fun _ h9 => h9) rfl dX11_length_85 ?_
            refine lv_iload_n hx hb dX11_length_88 rfl (lv_at hl 2 rfl) ?_
            obtain ⟨hw_309, es309, p0_309⟩ := get_L hI_305
            refine hp_callMi (va_runV (As := [.int (nI N_299)]) (rest := []) ⟨hx, hb, hml, hown, hts⟩ (c_X2_countOf l D cy _ cs ad en_305 hI_305 N_299 (by omega)) (kw_X2_countOf hts tw_466 ⟨by show _ ≤ 22; omega, by show _ ≤ 40 * 22; omega⟩) (preV_of hh hK (hI.1 _ (by decide)) es309 rfl) rfl rfl hl.1 rfl (lv_room (Nat.le_of_ble_eq_true rfl)) dX11_length_89 ⟨Nat.le_of_ble_eq_true rfl, Nat.le_of_ble_eq_true rfl⟩) hh hA (fun r_310 H locs en_310 hw_310 hh => ?_)
            obtain ⟨hI_310, hu_310⟩ := hw_310
            have hf_310 : ∀ c, (c < 12 ∨ 70 ≤ c) → en_310 c = en c := fun c hc => (hu_310 c (by omega)).trans (hf_305 c hc)
            refine lv_i2l hx hb dX11_length_92 rfl ?_
            exact hp_lretM hx hb hr hlocks hh (⟨hI_310, hf_310⟩) dX11_length_93
          by_cases q_307_1 : (nI N_300) = 1
          · refine lv_tableIn (off := 38) (tgt := 94) hx hb dX11_length_56 (by rw [q_307_1]; decide) (by rw [q_307_1]; decide) (by rw [q_307_1]; decide) (by decide) ?_
            refine lv_iload_n hx hb dX11_length_94 rfl (lv_at hl 0 rfl) ?_
            refine lv_if_eq (tgt := 104) hx hb dX11_length_95 (by decide) (fun _ => ?_) (fun c_0 => absurd c_0 (by decide))
            refine lv_aload_n hx hb dX11_length_104 rfl (lv_at hl 1 rfl) ?_
            have es296_311 : en_305 0 = .inr (10, [.ref (ad 1), .ref (ad 12), .ref (ad 70), .ref (ad 74), .ref (ad 75), .ref (ad 76), .int (nI wc_296), .int lf_296]) := (hf_305 0 (by omega)).trans es296
            refine hp_get hx hb hts ix11 hown hK hh (q := 0) rfl (hI.1 _ (by decide)) es296_311 rfl 1 (by decide) (hts _ tw_246) (fun _ h9 => h9) rfl dX11_length_105 ?_
            refine lv_iload_n hx hb dX11_length_108 rfl (lv_at hl 2 rfl) ?_
            obtain ⟨hw_312, es312, p0_312⟩ := get_L hI_305
            refine hp_callMq (va_runV (As := [.int (nI N_299)]) (rest := []) ⟨hx, hb, hml, hown, hts⟩ (c_X2_surveyOf l D cy _ cs ad en_305 hI_305 N_299 (by omega) (by omega)) (kw_X2_surveyOf hts tw_467 ⟨by show _ ≤ 22; omega, by show _ ≤ 40 * 22; omega⟩) (preV_of hh hK (hI.1 _ (by decide)) es312 rfl) rfl rfl hl.1 rfl (lv_room (Nat.le_of_ble_eq_true rfl)) dX11_length_109 ⟨Nat.le_of_ble_eq_true rfl, Nat.le_of_ble_eq_true rfl⟩) hh hA (fun r_313 H locs en_313 hw_313 hh => ?_)
            obtain ⟨hI_313, hu_313, hx_313⟩ := hw_313
            have hf_313 : ∀ c, (c < 12 ∨ 70 ≤ c) → en_313 c = en c := fun c hc => (hu_313 c (by omega)).trans (hf_305 c hc)
            obtain rfl : r_313 = some (ad (34 + 4 * N_299)) := hx_313
            refine W.eq (g2 := F0 m 112 ls [.ref (ad (34 + 4 * N_299))]) rfl ?_
            obtain ⟨dn_314, no_314, rc_314, gr_314, le_314, rt_314, tt_314, es314, p0_314⟩ := get_sv hI_313 (j := N_299) (by omega)
            refine hp_get hx hb hts ix6 hown hK hh (q := (34 + 4 * N_299)) rfl (hI.1 _ (by omega)) es314 rfl 6 (by decide) (hts _ tw_92) (fun _ h9 => h9) rfl dX11_length_112 ?_
            exact hp_lretM hx hb hr hlocks hh (⟨hI_313, hf_313⟩) dX11_length_115
          by_cases q_307_2 : (nI N_300) = 2
          · refine lv_tableIn (off := 60) (tgt := 116) hx hb dX11_length_56 (by rw [q_307_2]; decide) (by rw [q_307_2]; decide) (by rw [q_307_2]; decide) (by decide) ?_
            refine lv_iload_n hx hb dX11_length_116 rfl (lv_at hl 0 rfl) ?_
            refine lv_if_eq (tgt := 126) hx hb dX11_length_117 (by decide) (fun _ => ?_) (fun c_0 => absurd c_0 (by decide))
            refine lv_aload_n hx hb dX11_length_126 rfl (lv_at hl 1 rfl) ?_
            have es296_315 : en_305 0 = .inr (10, [.ref (ad 1), .ref (ad 12), .ref (ad 70), .ref (ad 74), .ref (ad 75), .ref (ad 76), .int (nI wc_296), .int lf_296]) := (hf_305 0 (by omega)).trans es296
            refine hp_get hx hb hts ix11 hown hK hh (q := 0) rfl (hI.1 _ (by decide)) es296_315 rfl 1 (by decide) (hts _ tw_246) (fun _ h9 => h9) rfl dX11_length_127 ?_
            refine lv_iload_n hx hb dX11_length_130 rfl (lv_at hl 2 rfl) ?_
            obtain ⟨hw_316, es316, p0_316⟩ := get_L hI_305
            refine hp_callMq (va_runV (As := [.int (nI N_299)]) (rest := []) ⟨hx, hb, hml, hown, hts⟩ (c_X2_surveyOf l D cy _ cs ad en_305 hI_305 N_299 (by omega) (by omega)) (kw_X2_surveyOf hts tw_467 ⟨by show _ ≤ 22; omega, by show _ ≤ 40 * 22; omega⟩) (preV_of hh hK (hI.1 _ (by decide)) es316 rfl) rfl rfl hl.1 rfl (lv_room (Nat.le_of_ble_eq_true rfl)) dX11_length_131 ⟨Nat.le_of_ble_eq_true rfl, Nat.le_of_ble_eq_true rfl⟩) hh hA (fun r_317 H locs en_317 hw_317 hh => ?_)
            obtain ⟨hI_317, hu_317, hx_317⟩ := hw_317
            have hf_317 : ∀ c, (c < 12 ∨ 70 ≤ c) → en_317 c = en c := fun c hc => (hu_317 c (by omega)).trans (hf_305 c hc)
            obtain rfl : r_317 = some (ad (34 + 4 * N_299)) := hx_317
            refine W.eq (g2 := F0 m 134 ls [.ref (ad (34 + 4 * N_299))]) rfl ?_
            obtain ⟨dn_318, no_318, rc_318, gr_318, le_318, rt_318, tt_318, es318, p0_318⟩ := get_sv hI_317 (j := N_299) (by omega)
            refine hp_get hx hb hts ix6 hown hK hh (q := (34 + 4 * N_299)) rfl (hI.1 _ (by omega)) es318 rfl 7 (by decide) (hts _ tw_95) (fun _ h9 => h9) rfl dX11_length_134 ?_
            exact hp_lretM hx hb hr hlocks hh (⟨hI_317, hf_317⟩) dX11_length_137
          refine lv_tableOut (tgt := 138) hx hb dX11_length_56 (tb_out 3 (by decide) (by decide) (fun j hj => by rcases (show j = 0 ∨ j = 1 ∨ j = 2 by omega) with rfl | rfl | rfl <;> first | exact lv_neT q_307_0 (by decide) | exact lv_neT q_307_1 (by decide) | exact lv_neT q_307_2 (by decide))) (by decide) ?_
          refine lv_aload_n hx hb dX11_length_138 rfl (lv_at hl 1 rfl) ?_
          have es296_319 : en_305 0 = .inr (10, [.ref (ad 1), .ref (ad 12), .ref (ad 70), .ref (ad 74), .ref (ad 75), .ref (ad 76), .int (nI wc_296), .int lf_296]) := (hf_305 0 (by omega)).trans es296
          refine hp_get hx hb hts ix11 hown hK hh (q := 0) rfl (hI.1 _ (by decide)) es296_319 rfl 1 (by decide) (hts _ tw_246) (fun _ h9 => h9) rfl dX11_length_139 ?_
          refine lv_iload_n hx hb dX11_length_142 rfl (lv_at hl 2 rfl) ?_
          obtain ⟨hw_320, es320, p0_320⟩ := get_L hI_305
          refine hp_callMq (va_runV (As := [.int (nI N_299)]) (rest := []) ⟨hx, hb, hml, hown, hts⟩ (c_X2_surveyOf l D cy _ cs ad en_305 hI_305 N_299 (by omega) (by omega)) (kw_X2_surveyOf hts tw_467 ⟨by show _ ≤ 22; omega, by show _ ≤ 40 * 22; omega⟩) (preV_of hh hK (hI.1 _ (by decide)) es320 rfl) rfl rfl hl.1 rfl (lv_room (Nat.le_of_ble_eq_true rfl)) dX11_length_143 ⟨Nat.le_of_ble_eq_true rfl, Nat.le_of_ble_eq_true rfl⟩) hh hA (fun r_321 H locs en_321 hw_321 hh => ?_)
          obtain ⟨hI_321, hu_321, hx_321⟩ := hw_321
          have hf_321 : ∀ c, (c < 12 ∨ 70 ≤ c) → en_321 c = en c := fun c hc => (hu_321 c (by omega)).trans (hf_305 c hc)
          obtain rfl : r_321 = some (ad (34 + 4 * N_299)) := hx_321
          refine W.eq (g2 := F0 m 146 ls [.ref (ad (34 + 4 * N_299))]) rfl ?_
          obtain ⟨dn_322, no_322, rc_322, gr_322, le_322, rt_322, tt_322, es322, p0_322⟩ := get_sv hI_321 (j := N_299) (by omega)
          refine hp_get hx hb hts ix6 hown hK hh (q := (34 + 4 * N_299)) rfl (hI.1 _ (by omega)) es322 rfl 4 (by decide) (hts _ tw_88) (fun _ h9 => h9) rfl dX11_length_146 ?_
          refine lv_i2l hx hb dX11_length_149 rfl ?_
          exact hp_lretM hx hb hr hlocks hh (⟨hI_321, hf_321⟩) dX11_length_150
        · refine lv_iconst (v := 1) hx hb dX11_length_49 (by decide) ?_
          refine lv_goto (tgt := 54) hx hb dX11_length_50 (by decide) ?_
          refine lv_istore_n (lv' := [(3, .int 1), (0, .ref (ad 0)), (1, .int (nI N_299)), (2, .int (nI N_300))]) hx hb dX11_length_54 rfl hl (by decide) rfl (fun ls hl => ?_)
          refine lv_iload_n hx hb dX11_length_55 rfl (lv_at hl 3 rfl) ?_
          by_cases q_323_0 : (nI N_300) = 0
          · refine lv_tableIn (off := 28) (tgt := 84) hx hb dX11_length_56 (by rw [q_323_0]; decide) (by rw [q_323_0]; decide) (by rw [q_323_0]; decide) (by decide) ?_
            refine lv_aload_n hx hb dX11_length_84 rfl (lv_at hl 1 rfl) ?_
            have es296_324 : en_305 0 = .inr (10, [.ref (ad 1), .ref (ad 12), .ref (ad 70), .ref (ad 74), .ref (ad 75), .ref (ad 76), .int (nI wc_296), .int lf_296]) := (hf_305 0 (by omega)).trans es296
            refine hp_get hx hb hts ix11 hown hK hh (q := 0) rfl (hI.1 _ (by decide)) es296_324 rfl 1 (by decide) (hts _ tw_246) (fun _ h9 => h9) rfl dX11_length_85 ?_
            refine lv_iload_n hx hb dX11_length_88 rfl (lv_at hl 2 rfl) ?_
            obtain ⟨hw_325, es325, p0_325⟩ := get_L hI_305
            refine hp_callMi (va_runV (As := [.int (nI N_299)]) (rest := []) ⟨hx, hb, hml, hown, hts⟩ (c_X2_countOf l D cy _ cs ad en_305 hI_305 N_299 (by omega)) (kw_X2_countOf hts tw_466 ⟨by show _ ≤ 22; omega, by show _ ≤ 40 * 22; omega⟩) (preV_of hh hK (hI.1 _ (by decide)) es325 rfl) rfl rfl hl.1 rfl (lv_room (Nat.le_of_ble_eq_true rfl)) dX11_length_89 ⟨Nat.le_of_ble_eq_true rfl, Nat.le_of_ble_eq_true rfl⟩) hh hA (fun r_326 H locs en_326 hw_326 hh => ?_)
            obtain ⟨hI_326, hu_326⟩ := hw_326
            have hf_326 : ∀ c, (c < 12 ∨ 70 ≤ c) → en_326 c = en c := fun c hc => (hu_326 c (by omega)).trans (hf_305 c hc)
            refine lv_i2l hx hb dX11_length_92 rfl ?_
            exact hp_lretM hx hb hr hlocks hh (⟨hI_326, hf_326⟩) dX11_length_93
          by_cases q_323_1 : (nI N_300) = 1
          · refine lv_tableIn (off := 38) (tgt := 94) hx hb dX11_length_56 (by rw [q_323_1]; decide) (by rw [q_323_1]; decide) (by rw [q_323_1]; decide) (by decide) ?_
            refine lv_iload_n hx hb dX11_length_94 rfl (lv_at hl 0 rfl) ?_
            refine lv_if_eq (tgt := 104) hx hb dX11_length_95 (by decide) (fun c_0 => absurd c_0 (by decide)) (fun _ => ?_)
            refine lv_ldc2 hx hb hown (hts _ tw_420) dX11_length_98 ?_
            refine lv_goto (tgt := 115) hx hb dX11_length_101 (by decide) ?_
            exact hp_lretM hx hb hr hlocks hh (⟨hI_305, hf_305⟩) dX11_length_115
          by_cases q_323_2 : (nI N_300) = 2
          · refine lv_tableIn (off := 60) (tgt := 116) hx hb dX11_length_56 (by rw [q_323_2]; decide) (by rw [q_323_2]; decide) (by rw [q_323_2]; decide) (by decide) ?_
            refine lv_iload_n hx hb dX11_length_116 rfl (lv_at hl 0 rfl) ?_
            refine lv_if_eq (tgt := 126) hx hb dX11_length_117 (by decide) (fun c_0 => absurd c_0 (by decide)) (fun _ => ?_)
            refine lv_ldc2 hx hb hown (hts _ tw_420) dX11_length_120 ?_
            refine lv_goto (tgt := 137) hx hb dX11_length_123 (by decide) ?_
            exact hp_lretM hx hb hr hlocks hh (⟨hI_305, hf_305⟩) dX11_length_137
          refine lv_tableOut (tgt := 138) hx hb dX11_length_56 (tb_out 3 (by decide) (by decide) (fun j hj => by rcases (show j = 0 ∨ j = 1 ∨ j = 2 by omega) with rfl | rfl | rfl <;> first | exact lv_neT q_323_0 (by decide) | exact lv_neT q_323_1 (by decide) | exact lv_neT q_323_2 (by decide))) (by decide) ?_
          refine lv_aload_n hx hb dX11_length_138 rfl (lv_at hl 1 rfl) ?_
          have es296_327 : en_305 0 = .inr (10, [.ref (ad 1), .ref (ad 12), .ref (ad 70), .ref (ad 74), .ref (ad 75), .ref (ad 76), .int (nI wc_296), .int lf_296]) := (hf_305 0 (by omega)).trans es296
          refine hp_get hx hb hts ix11 hown hK hh (q := 0) rfl (hI.1 _ (by decide)) es296_327 rfl 1 (by decide) (hts _ tw_246) (fun _ h9 => h9) rfl dX11_length_139 ?_
          refine lv_iload_n hx hb dX11_length_142 rfl (lv_at hl 2 rfl) ?_
          obtain ⟨hw_328, es328, p0_328⟩ := get_L hI_305
          refine hp_callMq (va_runV (As := [.int (nI N_299)]) (rest := []) ⟨hx, hb, hml, hown, hts⟩ (c_X2_surveyOf l D cy _ cs ad en_305 hI_305 N_299 (by omega) (by omega)) (kw_X2_surveyOf hts tw_467 ⟨by show _ ≤ 22; omega, by show _ ≤ 40 * 22; omega⟩) (preV_of hh hK (hI.1 _ (by decide)) es328 rfl) rfl rfl hl.1 rfl (lv_room (Nat.le_of_ble_eq_true rfl)) dX11_length_143 ⟨Nat.le_of_ble_eq_true rfl, Nat.le_of_ble_eq_true rfl⟩) hh hA (fun r_329 H locs en_329 hw_329 hh => ?_)
          obtain ⟨hI_329, hu_329, hx_329⟩ := hw_329
          have hf_329 : ∀ c, (c < 12 ∨ 70 ≤ c) → en_329 c = en c := fun c hc => (hu_329 c (by omega)).trans (hf_305 c hc)
          obtain rfl : r_329 = some (ad (34 + 4 * N_299)) := hx_329
          refine W.eq (g2 := F0 m 146 ls [.ref (ad (34 + 4 * N_299))]) rfl ?_
          obtain ⟨dn_330, no_330, rc_330, gr_330, le_330, rt_330, tt_330, es330, p0_330⟩ := get_sv hI_329 (j := N_299) (by omega)
          refine hp_get hx hb hts ix6 hown hK hh (q := (34 + 4 * N_299)) rfl (hI.1 _ (by omega)) es330 rfl 4 (by decide) (hts _ tw_88) (fun _ h9 => h9) rfl dX11_length_146 ?_
          refine lv_i2l hx hb dX11_length_149 rfl ?_
          exact hp_lretM hx hb hr hlocks hh (⟨hI_329, hf_329⟩) dX11_length_150
      · obtain rfl : r_302 = 1 := hb_302
        refine lv_if_eq (tgt := 38) hx hb dX11_length_31 (by decide) (fun c_0 => absurd c_0 (by decide)) (fun _ => ?_)
        refine lv_ldc2 hx hb hown (hts _ tw_420) dX11_length_34 ?_
        exact hp_lretM hx hb hr hlocks hh (⟨hI_302, hf_302⟩) dX11_length_37
    · obtain rfl : r_300 = 0 := Eq.trans hw_300 (if_neg hp_300)
      refine lv_if_ne (tgt := 23) hx hb dX11_length_16 (by decide) (fun c_0 => absurd c_0 (by decide)) (fun _ => ?_)
      refine lv_ldc2 hx hb hown (hts _ tw_420) dX11_length_19 ?_
      exact hp_lretM hx hb hr hlocks hh (⟨hI, hf0⟩) dX11_length_22
  · obtain rfl : r_299 = 0 := Eq.trans hw_299 (if_neg hp_299)
    refine lv_if_eq (tgt := 19) hx hb dX11_length_7 (by decide) (fun _ => ?_) (fun c_0 => absurd c_0 (by decide))
    refine lv_ldc2 hx hb hown (hts _ tw_420) dX11_length_19 ?_
    exact hp_lretM hx hb hr hlocks hh (⟨hI, hf0⟩) dX11_length_22
theorem kw_X11_length {R : Room} {s : State} {args : Array Value} {own : String} {idx : Nat} (hts : ∀ w ∈ TB, w.before args s = true) (hl : Cond.methodLink own idx yX11_length ∈ TB) (hR : 22 + 1 ≤ R.frames ∧ 8 + (4 + 11) + 40 * 22 ≤ R.locals) : CallW R s args own RX11 idx yX11_length cX11_length 4 (some .long) (Cond.code yX11_length cX11_length 4 (some .long) :: TB) (rmN 22) 0 0 2 := cwV 2 hts (TB_V hl tw_442 tw_443 tw_1 tw_444) rfl rfl rfl (by decide +kernel) hR
set_option maxHeartbeats 4000000 in
set_option maxRecDepth 100000 in
/-- X11_rings -/
theorem c_X11_rings (l : Launch) (D : va_G) (cy : Nat → ClassId) (sz : Nat) (cs : List Nat) (ad : Nat → Nat) (en : Nat → va_E) (hI : SX cy cs ad en) (n : Int32)   : Met l yX11_rings (Cond.code yX11_rings cX11_rings 2 (some .int) :: TB) (rmN 22) (va_Pc [.ref (ad 0), .int n] (Pre D cy cs ad en sz)) (va_Qi (S := Nat → va_E) (fun r en1 => SX cy cs ad en1 ∧ (∀ c, (c < 12 ∨ 70 ≤ c) → en1 c = en c)) (PostM D cs ad) (Af cs ad sz)) 0 0 (Af cs ad sz) := by
  refine Met.ofW (cc := cX11_rings) (maxL := 2) (ret := (some .int)) (by decide) rfl ?_
  intro p e s m args below meth c s₁ B hml hv
  obtain ⟨rfl, hsz, hP, hK, hD0⟩ := hv
  have hx := B.exec
  have hb := B.bytes
  have hr := B.returns
  have hts : ∀ w ∈ TB, w.before _ s = true := fun w h => atoms_spec (ws := _ :: TB) B.pre w (List.mem_cons_of_mem _ h)
  have hown : s.vm.findClass RX11 = some m.cls := findClass_of_methodNamed B.named
  have hlocks := B.notSynchronized
  have hh : Hp D (Af cs ad sz) (Af cs ad sz) s.heap s.heap [] cs ad en := ⟨hP, Af_self hD0, va_S.rf⟩
  have hA : ∀ q : Nat, s.heap.size ≤ q → Af cs ad sz q := fun q h => Or.inr (by rw [hsz] at h; exact h)
  have hl := lv_entry ([.ref (ad 0), .int n]) (n := 2) (Nat.le_of_ble_eq_true rfl)
  rw [lg_entry_eq]
  generalize (lg_sl ([.ref (ad 0), .int n]) ++ List.replicate (2 - (lg_sl ([.ref (ad 0), .int n])).length) Slot.unset).toArray = ls at hl ⊢
  have hl : lv_has ls 2 [(0, .ref (ad 0)), (1, .int n)] := hl
  have hf0 : ∀ c, (c < 12 ∨ 70 ≤ c) → en c = en c := fun _ _ => rfl
  obtain ⟨wc_331, lf_331, es331, p0_331⟩ := get_A hI
  obtain ⟨cnt, d, mm, es332, hcnt, hd2, hd3, hmm⟩ := get_T hI
  obtain ⟨f10, es333, hb10⟩ := get_alw hI
  refine lv_iload_n hx hb dX11_rings_0 rfl (lv_at hl 1 rfl) ?_
  refine lv_iconst (v := 1) hx hb dX11_rings_1 (by decide) ?_
  refine lv_bipush (v := 8) hx hb dX11_rings_2 (by decide) ?_
  refine hp_callRi (va_runS (As := [.int n, .int 1, .int 8]) (rest := []) ⟨hx, hb, hml, hown, hts⟩ (c_X11_isWithin l D cy _ cs ad en n 1 8) (kw_X11_isWithin hts tw_274 ⟨by show _ ≤ 22; omega, by show _ ≤ 40 * 22; omega⟩) (preS_of hh hK) rfl rfl hl.1 rfl (lv_room (Nat.le_of_ble_eq_true rfl)) dX11_rings_4 ⟨Nat.le_of_ble_eq_true rfl, Nat.le_of_ble_eq_true rfl⟩) hh hA (fun r_334 H locs hw_334 hh => ?_)
  rcases Decidable.em (wi n 1 8) with hp_334 | hp_334
  · obtain rfl : r_334 = 1 := Eq.trans hw_334 (if_pos hp_334)
    obtain ⟨N_334, rfl, hA_334, hB_334⟩ := wi_natB hp_334 1 8 (by decide) (by decide)
    refine lv_if_ne (tgt := 13) hx hb dX11_rings_7 (by decide) (fun _ => ?_) (fun c_0 => absurd c_0 (by decide))
    refine lv_aload_n hx hb dX11_rings_13 rfl (lv_at hl 0 rfl) ?_
    refine hp_get hx hb hts ix11 hown hK hh (q := 0) rfl (hI.1 _ (by decide)) es331 rfl 1 (by decide) (hts _ tw_246) (fun _ h9 => h9) rfl dX11_rings_14 ?_
    refine lv_iload_n hx hb dX11_rings_17 rfl (lv_at hl 1 rfl) ?_
    obtain ⟨hw_335, es335, p0_335⟩ := get_L hI
    refine hp_callMi (va_runV (As := [.int (nI N_334)]) (rest := []) ⟨hx, hb, hml, hown, hts⟩ (c_X2_isSpent l D cy _ cs ad en hI N_334 (by omega)) (kw_X2_isSpent hts tw_445 ⟨by show _ ≤ 22; omega, by show _ ≤ 40 * 22; omega⟩) (preV_of hh hK (hI.1 _ (by decide)) es335 rfl) rfl rfl hl.1 rfl (lv_room (Nat.le_of_ble_eq_true rfl)) dX11_rings_18 ⟨Nat.le_of_ble_eq_true rfl, Nat.le_of_ble_eq_true rfl⟩) hh hA (fun r_336 H locs en_336 hw_336 hh => ?_)
    obtain ⟨hI_336, hu_336, hx_336⟩ := hw_336
    have hf_336 : ∀ c, (c < 12 ∨ 70 ≤ c) → en_336 c = en c := fun c hc => (hu_336 c (by omega)).trans (hf0 c hc)
    have hw_336 := hx_336
    rcases hw_336 with hb_336 | hb_336
    · obtain rfl : r_336 = 0 := hb_336
      refine lv_if_eq (tgt := 29) hx hb dX11_rings_21 (by decide) (fun _ => ?_) (fun c_0 => absurd c_0 (by decide))
      refine lv_aload_n hx hb dX11_rings_29 rfl (lv_at hl 0 rfl) ?_
      have es331_337 : en_336 0 = .inr (10, [.ref (ad 1), .ref (ad 12), .ref (ad 70), .ref (ad 74), .ref (ad 75), .ref (ad 76), .int (nI wc_331), .int lf_331]) := (hf_336 0 (by omega)).trans es331
      refine hp_get hx hb hts ix11 hown hK hh (q := 0) rfl (hI.1 _ (by decide)) es331_337 rfl 1 (by decide) (hts _ tw_246) (fun _ h9 => h9) rfl dX11_rings_30 ?_
      refine lv_iload_n hx hb dX11_rings_33 rfl (lv_at hl 1 rfl) ?_
      obtain ⟨hw_338, es338, p0_338⟩ := get_L hI_336
      refine hp_callMq (va_runV (As := [.int (nI N_334)]) (rest := []) ⟨hx, hb, hml, hown, hts⟩ (c_X2_surveyOf l D cy _ cs ad en_336 hI_336 N_334 (by omega) (by omega)) (kw_X2_surveyOf hts tw_467 ⟨by show _ ≤ 22; omega, by show _ ≤ 40 * 22; omega⟩) (preV_of hh hK (hI.1 _ (by decide)) es338 rfl) rfl rfl hl.1 rfl (lv_room (Nat.le_of_ble_eq_true rfl)) dX11_rings_34 ⟨Nat.le_of_ble_eq_true rfl, Nat.le_of_ble_eq_true rfl⟩) hh hA (fun r_339 H locs en_339 hw_339 hh => ?_)
      obtain ⟨hI_339, hu_339, hx_339⟩ := hw_339
      have hf_339 : ∀ c, (c < 12 ∨ 70 ≤ c) → en_339 c = en c := fun c hc => (hu_339 c (by omega)).trans (hf_336 c hc)
      obtain rfl : r_339 = some (ad (34 + 4 * N_334)) := hx_339
      refine W.eq (g2 := F0 m 37 ls [.ref (ad (34 + 4 * N_334))]) rfl ?_
      obtain ⟨dn_340, no_340, rc_340, gr_340, le_340, rt_340, tt_340, es340, p0_340⟩ := get_sv hI_339 (j := N_334) (by omega)
      refine hp_get hx hb hts ix6 hown hK hh (q := (34 + 4 * N_334)) rfl (hI.1 _ (by omega)) es340 rfl 5 (by decide) (hts _ tw_90) (fun _ h9 => h9) rfl dX11_rings_37 ?_
      exact hp_iretM hx hb hr rfl hlocks hh (⟨hI_339, hf_339⟩) dX11_rings_40
    · obtain rfl : r_336 = 1 := hb_336
      refine lv_if_eq (tgt := 29) hx hb dX11_rings_21 (by decide) (fun c_0 => absurd c_0 (by decide)) (fun _ => ?_)
      refine lv_bipush (v := (-6)) hx hb dX11_rings_24 (by decide) ?_
      refine lv_goto (tgt := 40) hx hb dX11_rings_26 (by decide) ?_
      exact hp_iretM hx hb hr rfl hlocks hh (⟨hI_336, hf_336⟩) dX11_rings_40
  · obtain rfl : r_334 = 0 := Eq.trans hw_334 (if_neg hp_334)
    refine lv_if_ne (tgt := 13) hx hb dX11_rings_7 (by decide) (fun c_0 => absurd c_0 (by decide)) (fun _ => ?_)
    refine lv_bipush (v := (-2)) hx hb dX11_rings_10 (by decide) ?_
    exact hp_iretM hx hb hr rfl hlocks hh (⟨hI, hf0⟩) dX11_rings_12
theorem kw_X11_rings {R : Room} {s : State} {args : Array Value} {own : String} {idx : Nat} (hts : ∀ w ∈ TB, w.before args s = true) (hl : Cond.methodLink own idx yX11_rings ∈ TB) (hR : 22 + 1 ≤ R.frames ∧ 8 + (2 + 11) + 40 * 22 ≤ R.locals) : CallW R s args own RX11 idx yX11_rings cX11_rings 2 (some .int) (Cond.code yX11_rings cX11_rings 2 (some .int) :: TB) (rmN 22) 0 0 1 := cwV 1 hts (TB_V hl tw_546 tw_547 tw_1 tw_548) rfl rfl rfl (by decide +kernel) hR
set_option maxHeartbeats 4000000 in
set_option maxRecDepth 100000 in
/-- X11_ringTrack -/
theorem c_X11_ringTrack (l : Launch) (D : va_G) (cy : Nat → ClassId) (sz : Nat) (cs : List Nat) (ad : Nat → Nat) (en : Nat → va_E) (hI : SX cy cs ad en) (n : Int32)   : Met l yX11_ringTrack (Cond.code yX11_ringTrack cX11_ringTrack 3 (some .long) :: TB) (rmN 22) (va_Pc [.ref (ad 0), .int n] (Pre D cy cs ad en sz)) (va_Ql (S := Nat → va_E) (fun r en1 => SX cy cs ad en1 ∧ (∀ c, (c < 12 ∨ 70 ≤ c) → en1 c = en c)) (PostM D cs ad) (Af cs ad sz)) 0 0 (Af cs ad sz) := by
  refine Met.ofW (cc := cX11_ringTrack) (maxL := 3) (ret := (some .long)) (by decide) rfl ?_
  intro p e s m args below meth c s₁ B hml hv
  obtain ⟨rfl, hsz, hP, hK, hD0⟩ := hv
  have hx := B.exec
  have hb := B.bytes
  have hr := B.returns
  have hts : ∀ w ∈ TB, w.before _ s = true := fun w h => atoms_spec (ws := _ :: TB) B.pre w (List.mem_cons_of_mem _ h)
  have hown : s.vm.findClass RX11 = some m.cls := findClass_of_methodNamed B.named
  have hlocks := B.notSynchronized
  have hh : Hp D (Af cs ad sz) (Af cs ad sz) s.heap s.heap [] cs ad en := ⟨hP, Af_self hD0, va_S.rf⟩
  have hA : ∀ q : Nat, s.heap.size ≤ q → Af cs ad sz q := fun q h => Or.inr (by rw [hsz] at h; exact h)
  have hl := lv_entry ([.ref (ad 0), .int n]) (n := 3) (Nat.le_of_ble_eq_true rfl)
  rw [lg_entry_eq]
  generalize (lg_sl ([.ref (ad 0), .int n]) ++ List.replicate (3 - (lg_sl ([.ref (ad 0), .int n])).length) Slot.unset).toArray = ls at hl ⊢
  have hl : lv_has ls 3 [(0, .ref (ad 0)), (1, .int n)] := hl
  have hf0 : ∀ c, (c < 12 ∨ 70 ≤ c) → en c = en c := fun _ _ => rfl
  obtain ⟨wc_341, lf_341, es341, p0_341⟩ := get_A hI
  obtain ⟨cnt, d, mm, es342, hcnt, hd2, hd3, hmm⟩ := get_T hI
  obtain ⟨f10, es343, hb10⟩ := get_alw hI
  refine lv_iload_n hx hb dX11_ringTrack_0 rfl (lv_at hl 1 rfl) ?_
  refine lv_iconst (v := 1) hx hb dX11_ringTrack_1 (by decide) ?_
  refine lv_bipush (v := 8) hx hb dX11_ringTrack_2 (by decide) ?_
  refine hp_callRi (va_runS (As := [.int n, .int 1, .int 8]) (rest := []) ⟨hx, hb, hml, hown, hts⟩ (c_X11_isWithin l D cy _ cs ad en n 1 8) (kw_X11_isWithin hts tw_274 ⟨by show _ ≤ 22; omega, by show _ ≤ 40 * 22; omega⟩) (preS_of hh hK) rfl rfl hl.1 rfl (lv_room (Nat.le_of_ble_eq_true rfl)) dX11_ringTrack_4 ⟨Nat.le_of_ble_eq_true rfl, Nat.le_of_ble_eq_true rfl⟩) hh hA (fun r_344 H locs hw_344 hh => ?_)
  rcases Decidable.em (wi n 1 8) with hp_344 | hp_344
  · obtain rfl : r_344 = 1 := Eq.trans hw_344 (if_pos hp_344)
    obtain ⟨N_344, rfl, hA_344, hB_344⟩ := wi_natB hp_344 1 8 (by decide) (by decide)
    refine lv_if_eq (tgt := 21) hx hb dX11_ringTrack_7 (by decide) (fun c_0 => absurd c_0 (by decide)) (fun _ => ?_)
    refine lv_aload_n hx hb dX11_ringTrack_10 rfl (lv_at hl 0 rfl) ?_
    refine hp_get hx hb hts ix11 hown hK hh (q := 0) rfl (hI.1 _ (by decide)) es341 rfl 1 (by decide) (hts _ tw_246) (fun _ h9 => h9) rfl dX11_ringTrack_11 ?_
    refine lv_iload_n hx hb dX11_ringTrack_14 rfl (lv_at hl 1 rfl) ?_
    obtain ⟨hw_345, es345, p0_345⟩ := get_L hI
    refine hp_callMi (va_runV (As := [.int (nI N_344)]) (rest := []) ⟨hx, hb, hml, hown, hts⟩ (c_X2_isSpent l D cy _ cs ad en hI N_344 (by omega)) (kw_X2_isSpent hts tw_445 ⟨by show _ ≤ 22; omega, by show _ ≤ 40 * 22; omega⟩) (preV_of hh hK (hI.1 _ (by decide)) es345 rfl) rfl rfl hl.1 rfl (lv_room (Nat.le_of_ble_eq_true rfl)) dX11_ringTrack_15 ⟨Nat.le_of_ble_eq_true rfl, Nat.le_of_ble_eq_true rfl⟩) hh hA (fun r_346 H locs en_346 hw_346 hh => ?_)
    obtain ⟨hI_346, hu_346, hx_346⟩ := hw_346
    have hf_346 : ∀ c, (c < 12 ∨ 70 ≤ c) → en_346 c = en c := fun c hc => (hu_346 c (by omega)).trans (hf0 c hc)
    have hw_346 := hx_346
    rcases hw_346 with hb_346 | hb_346
    · obtain rfl : r_346 = 0 := hb_346
      refine lv_if_eq (tgt := 25) hx hb dX11_ringTrack_18 (by decide) (fun _ => ?_) (fun c_0 => absurd c_0 (by decide))
      refine lv_aload_n hx hb dX11_ringTrack_25 rfl (lv_at hl 0 rfl) ?_
      have es341_347 : en_346 0 = .inr (10, [.ref (ad 1), .ref (ad 12), .ref (ad 70), .ref (ad 74), .ref (ad 75), .ref (ad 76), .int (nI wc_341), .int lf_341]) := (hf_346 0 (by omega)).trans es341
      refine hp_get hx hb hts ix11 hown hK hh (q := 0) rfl (hI.1 _ (by decide)) es341_347 rfl 1 (by decide) (hts _ tw_246) (fun _ h9 => h9) rfl dX11_ringTrack_26 ?_
      refine lv_iload_n hx hb dX11_ringTrack_29 rfl (lv_at hl 1 rfl) ?_
      obtain ⟨hw_348, es348, p0_348⟩ := get_L hI_346
      refine hp_callMq (va_runV (As := [.int (nI N_344)]) (rest := []) ⟨hx, hb, hml, hown, hts⟩ (c_X2_surveyOf l D cy _ cs ad en_346 hI_346 N_344 (by omega) (by omega)) (kw_X2_surveyOf hts tw_467 ⟨by show _ ≤ 22; omega, by show _ ≤ 40 * 22; omega⟩) (preV_of hh hK (hI.1 _ (by decide)) es348 rfl) rfl rfl hl.1 rfl (lv_room (Nat.le_of_ble_eq_true rfl)) dX11_ringTrack_30 ⟨Nat.le_of_ble_eq_true rfl, Nat.le_of_ble_eq_true rfl⟩) hh hA (fun r_349 H locs en_349 hw_349 hh => ?_)
      obtain ⟨hI_349, hu_349, hx_349⟩ := hw_349
      have hf_349 : ∀ c, (c < 12 ∨ 70 ≤ c) → en_349 c = en c := fun c hc => (hu_349 c (by omega)).trans (hf_346 c hc)
      obtain rfl : r_349 = some (ad (34 + 4 * N_344)) := hx_349
      refine W.eq (g2 := F0 m 33 ls [.ref (ad (34 + 4 * N_344))]) rfl ?_
      refine lv_astore_n (lv' := [(2, .ref (ad (34 + 4 * N_344))), (0, .ref (ad 0)), (1, .int (nI N_344))]) hx hb dX11_ringTrack_33 rfl hl (by decide) rfl (fun ls hl => ?_)
      refine lv_aload_n hx hb dX11_ringTrack_34 rfl (lv_at hl 0 rfl) ?_
      obtain ⟨dn_350, no_350, rc_350, gr_350, le_350, rt_350, tt_350, es350, p0_350⟩ := get_sv hI_349 (j := N_344) (by omega)
      refine hp_get hx hb hts ix6 hown hK hh (q := (34 + 4 * N_344)) rfl (hI.1 _ (by omega)) es350 rfl 5 (by decide) (hts _ tw_90) (fun _ h9 => h9) rfl dX11_ringTrack_35 ?_
      refine lv_if_ne (tgt := 47) hx hb dX11_ringTrack_38 (by decide) (fun c_351 => ?_) (fun c_351 => ?_)
      · refine lv_aload_n hx hb dX11_ringTrack_47 rfl (lv_at hl 0 rfl) ?_
        refine hp_get hx hb hts ix6 hown hK hh (q := (34 + 4 * N_344)) rfl (hI.1 _ (by omega)) es350 rfl 8 (by decide) (hts _ tw_97) (fun _ h9 => h9) rfl dX11_ringTrack_48 ?_
        exact hp_lretM hx hb hr hlocks hh (⟨hI_349, hf_349⟩) dX11_ringTrack_51
      · refine lv_ldc2 hx hb hown (hts _ tw_420) dX11_ringTrack_41 ?_
        refine lv_goto (tgt := 51) hx hb dX11_ringTrack_44 (by decide) ?_
        exact hp_lretM hx hb hr hlocks hh (⟨hI_349, hf_349⟩) dX11_ringTrack_51
    · obtain rfl : r_346 = 1 := hb_346
      refine lv_if_eq (tgt := 25) hx hb dX11_ringTrack_18 (by decide) (fun c_0 => absurd c_0 (by decide)) (fun _ => ?_)
      refine lv_ldc2 hx hb hown (hts _ tw_420) dX11_ringTrack_21 ?_
      exact hp_lretM hx hb hr hlocks hh (⟨hI_346, hf_346⟩) dX11_ringTrack_24
  · obtain rfl : r_344 = 0 := Eq.trans hw_344 (if_neg hp_344)
    refine lv_if_eq (tgt := 21) hx hb dX11_ringTrack_7 (by decide) (fun _ => ?_) (fun c_0 => absurd c_0 (by decide))
    refine lv_ldc2 hx hb hown (hts _ tw_420) dX11_ringTrack_21 ?_
    exact hp_lretM hx hb hr hlocks hh (⟨hI, hf0⟩) dX11_ringTrack_24
theorem kw_X11_ringTrack {R : Room} {s : State} {args : Array Value} {own : String} {idx : Nat} (hts : ∀ w ∈ TB, w.before args s = true) (hl : Cond.methodLink own idx yX11_ringTrack ∈ TB) (hR : 22 + 1 ≤ R.frames ∧ 8 + (3 + 11) + 40 * 22 ≤ R.locals) : CallW R s args own RX11 idx yX11_ringTrack cX11_ringTrack 3 (some .long) (Cond.code yX11_ringTrack cX11_ringTrack 3 (some .long) :: TB) (rmN 22) 0 0 1 := cwV 1 hts (TB_V hl tw_550 tw_551 tw_1 tw_552) rfl rfl rfl (by decide +kernel) hR
set_option maxHeartbeats 4000000 in
set_option maxRecDepth 100000 in
/-- X11_extreme -/
theorem c_X11_extreme (l : Launch) (D : va_G) (cy : Nat → ClassId) (sz : Nat) (cs : List Nat) (ad : Nat → Nat) (en : Nat → va_E) (hI : SX cy cs ad en) (n z i : Int32)   : Met l yX11_extreme (Cond.code yX11_extreme cX11_extreme 5 (some .int) :: TB) (rmN 22) (va_Pc [.ref (ad 0), .int n, .int z, .int i] (Pre D cy cs ad en sz)) (va_Qi (S := Nat → va_E) (fun r en1 => SX cy cs ad en1 ∧ (∀ c, (c < 12 ∨ 70 ≤ c) → en1 c = en c)) (PostM D cs ad) (Af cs ad sz)) 0 0 (Af cs ad sz) := by
  refine Met.ofW (cc := cX11_extreme) (maxL := 5) (ret := (some .int)) (by decide) rfl ?_
  intro p e s m args below meth c s₁ B hml hv
  obtain ⟨rfl, hsz, hP, hK, hD0⟩ := hv
  have hx := B.exec
  have hb := B.bytes
  have hr := B.returns
  have hts : ∀ w ∈ TB, w.before _ s = true := fun w h => atoms_spec (ws := _ :: TB) B.pre w (List.mem_cons_of_mem _ h)
  have hown : s.vm.findClass RX11 = some m.cls := findClass_of_methodNamed B.named
  have hlocks := B.notSynchronized
  have hh : Hp D (Af cs ad sz) (Af cs ad sz) s.heap s.heap [] cs ad en := ⟨hP, Af_self hD0, va_S.rf⟩
  have hA : ∀ q : Nat, s.heap.size ≤ q → Af cs ad sz q := fun q h => Or.inr (by rw [hsz] at h; exact h)
  have hl := lv_entry ([.ref (ad 0), .int n, .int z, .int i]) (n := 5) (Nat.le_of_ble_eq_true rfl)
  rw [lg_entry_eq]
  generalize (lg_sl ([.ref (ad 0), .int n, .int z, .int i]) ++ List.replicate (5 - (lg_sl ([.ref (ad 0), .int n, .int z, .int i])).length) Slot.unset).toArray = ls at hl ⊢
  have hl : lv_has ls 5 [(0, .ref (ad 0)), (1, .int n), (2, .int z), (3, .int i)] := hl
  have hf0 : ∀ c, (c < 12 ∨ 70 ≤ c) → en c = en c := fun _ _ => rfl
  obtain ⟨wc_352, lf_352, es352, p0_352⟩ := get_A hI
  obtain ⟨cnt, d, mm, es353, hcnt, hd2, hd3, hmm⟩ := get_T hI
  obtain ⟨f10, es354, hb10⟩ := get_alw hI
  refine lv_iload_n hx hb dX11_extreme_0 rfl (lv_at hl 1 rfl) ?_
  refine lv_iconst (v := 1) hx hb dX11_extreme_1 (by decide) ?_
  refine lv_bipush (v := 8) hx hb dX11_extreme_2 (by decide) ?_
  refine hp_callRi (va_runS (As := [.int n, .int 1, .int 8]) (rest := []) ⟨hx, hb, hml, hown, hts⟩ (c_X11_isWithin l D cy _ cs ad en n 1 8) (kw_X11_isWithin hts tw_274 ⟨by show _ ≤ 22; omega, by show _ ≤ 40 * 22; omega⟩) (preS_of hh hK) rfl rfl hl.1 rfl (lv_room (Nat.le_of_ble_eq_true rfl)) dX11_extreme_4 ⟨Nat.le_of_ble_eq_true rfl, Nat.le_of_ble_eq_true rfl⟩) hh hA (fun r_355 H locs hw_355 hh => ?_)
  rcases Decidable.em (wi n 1 8) with hp_355 | hp_355
  · obtain rfl : r_355 = 1 := Eq.trans hw_355 (if_pos hp_355)
    obtain ⟨N_355, rfl, hA_355, hB_355⟩ := wi_natB hp_355 1 8 (by decide) (by decide)
    refine lv_if_eq (tgt := 30) hx hb dX11_extreme_7 (by decide) (fun c_0 => absurd c_0 (by decide)) (fun _ => ?_)
    refine lv_iload_n hx hb dX11_extreme_10 rfl (lv_at hl 2 rfl) ?_
    refine lv_iconst (v := 0) hx hb dX11_extreme_11 (by decide) ?_
    refine lv_iconst (v := 1) hx hb dX11_extreme_12 (by decide) ?_
    refine hp_callRi (va_runS (As := [.int z, .int 0, .int 1]) (rest := []) ⟨hx, hb, hml, hown, hts⟩ (c_X11_isWithin l D cy _ cs ad en z 0 1) (kw_X11_isWithin hts tw_274 ⟨by show _ ≤ 22; omega, by show _ ≤ 40 * 22; omega⟩) (preS_of hh hK) rfl rfl hl.1 rfl (lv_room (Nat.le_of_ble_eq_true rfl)) dX11_extreme_13 ⟨Nat.le_of_ble_eq_true rfl, Nat.le_of_ble_eq_true rfl⟩) hh hA (fun r_356 H locs hw_356 hh => ?_)
    rcases Decidable.em (wi z 0 1) with hp_356 | hp_356
    · obtain rfl : r_356 = 1 := Eq.trans hw_356 (if_pos hp_356)
      obtain ⟨N_356, rfl, hA_356, hB_356⟩ := wi_natB hp_356 0 1 (by decide) (by decide)
      refine lv_if_eq (tgt := 30) hx hb dX11_extreme_16 (by decide) (fun c_0 => absurd c_0 (by decide)) (fun _ => ?_)
      refine lv_iload_n hx hb dX11_extreme_19 rfl (lv_at hl 3 rfl) ?_
      refine lv_iconst (v := 0) hx hb dX11_extreme_20 (by decide) ?_
      refine lv_iload_n hx hb dX11_extreme_21 rfl (lv_at hl 1 rfl) ?_
      refine lv_iconst (v := 1) hx hb dX11_extreme_22 (by decide) ?_
      refine lv_isub hx hb dX11_extreme_23 ?_
      rw [show (1 : Int32) = nI 1 from rfl, pk_sub (a := N_355) (b := 1) (by omega)]
      refine hp_callRi (va_runS (As := [.int i, .int 0, .int (nI (N_355 - 1))]) (rest := []) ⟨hx, hb, hml, hown, hts⟩ (c_X11_isWithin l D cy _ cs ad en i 0 (nI (N_355 - 1))) (kw_X11_isWithin hts tw_274 ⟨by show _ ≤ 22; omega, by show _ ≤ 40 * 22; omega⟩) (preS_of hh hK) rfl rfl hl.1 rfl (lv_room (Nat.le_of_ble_eq_true rfl)) dX11_extreme_24 ⟨Nat.le_of_ble_eq_true rfl, Nat.le_of_ble_eq_true rfl⟩) hh hA (fun r_357 H locs hw_357 hh => ?_)
      rcases Decidable.em (wi i 0 (nI (N_355 - 1))) with hp_357 | hp_357
      · obtain rfl : r_357 = 1 := Eq.trans hw_357 (if_pos hp_357)
        obtain ⟨N_357, rfl, hA_357, hB_357⟩ := wi_natB hp_357 0 ((N_355 - 1)) (by decide) (nI_toInt (by omega))
        refine lv_if_ne (tgt := 33) hx hb dX11_extreme_27 (by decide) (fun _ => ?_) (fun c_0 => absurd c_0 (by decide))
        refine lv_aload_n hx hb dX11_extreme_33 rfl (lv_at hl 0 rfl) ?_
        refine hp_get hx hb hts ix11 hown hK hh (q := 0) rfl (hI.1 _ (by decide)) es352 rfl 1 (by decide) (hts _ tw_246) (fun _ h9 => h9) rfl dX11_extreme_34 ?_
        refine lv_iload_n hx hb dX11_extreme_37 rfl (lv_at hl 1 rfl) ?_
        obtain ⟨hw_358, es358, p0_358⟩ := get_L hI
        refine hp_callMi (va_runV (As := [.int (nI N_355)]) (rest := []) ⟨hx, hb, hml, hown, hts⟩ (c_X2_isSpent l D cy _ cs ad en hI N_355 (by omega)) (kw_X2_isSpent hts tw_445 ⟨by show _ ≤ 22; omega, by show _ ≤ 40 * 22; omega⟩) (preV_of hh hK (hI.1 _ (by decide)) es358 rfl) rfl rfl hl.1 rfl (lv_room (Nat.le_of_ble_eq_true rfl)) dX11_extreme_38 ⟨Nat.le_of_ble_eq_true rfl, Nat.le_of_ble_eq_true rfl⟩) hh hA (fun r_359 H locs en_359 hw_359 hh => ?_)
        obtain ⟨hI_359, hu_359, hx_359⟩ := hw_359
        have hf_359 : ∀ c, (c < 12 ∨ 70 ≤ c) → en_359 c = en c := fun c hc => (hu_359 c (by omega)).trans (hf0 c hc)
        have hw_359 := hx_359
        rcases hw_359 with hb_359 | hb_359
        · obtain rfl : r_359 = 0 := hb_359
          refine lv_if_eq (tgt := 47) hx hb dX11_extreme_41 (by decide) (fun _ => ?_) (fun c_0 => absurd c_0 (by decide))
          refine lv_aload_n hx hb dX11_extreme_47 rfl (lv_at hl 0 rfl) ?_
          have es352_360 : en_359 0 = .inr (10, [.ref (ad 1), .ref (ad 12), .ref (ad 70), .ref (ad 74), .ref (ad 75), .ref (ad 76), .int (nI wc_352), .int lf_352]) := (hf_359 0 (by omega)).trans es352
          refine hp_get hx hb hts ix11 hown hK hh (q := 0) rfl (hI.1 _ (by decide)) es352_360 rfl 1 (by decide) (hts _ tw_246) (fun _ h9 => h9) rfl dX11_extreme_48 ?_
          refine lv_iload_n hx hb dX11_extreme_51 rfl (lv_at hl 1 rfl) ?_
          obtain ⟨hw_361, es361, p0_361⟩ := get_L hI_359
          refine hp_callMi (va_runV (As := [.int (nI N_355)]) (rest := []) ⟨hx, hb, hml, hown, hts⟩ (c_X2_countOf l D cy _ cs ad en_359 hI_359 N_355 (by omega)) (kw_X2_countOf hts tw_466 ⟨by show _ ≤ 22; omega, by show _ ≤ 40 * 22; omega⟩) (preV_of hh hK (hI.1 _ (by decide)) es361 rfl) rfl rfl hl.1 rfl (lv_room (Nat.le_of_ble_eq_true rfl)) dX11_extreme_52 ⟨Nat.le_of_ble_eq_true rfl, Nat.le_of_ble_eq_true rfl⟩) hh hA (fun r_362 H locs en_362 hw_362 hh => ?_)
          obtain ⟨hI_362, hu_362⟩ := hw_362
          have hf_362 : ∀ c, (c < 12 ∨ 70 ≤ c) → en_362 c = en c := fun c hc => (hu_362 c (by omega)).trans (hf_359 c hc)
          refine lv_if_ne (tgt := 61) hx hb dX11_extreme_55 (by decide) (fun c_363 => ?_) (fun c_363 => ?_)
          · refine lv_aload_n hx hb dX11_extreme_61 rfl (lv_at hl 0 rfl) ?_
            have es352_364 : en_362 0 = .inr (10, [.ref (ad 1), .ref (ad 12), .ref (ad 70), .ref (ad 74), .ref (ad 75), .ref (ad 76), .int (nI wc_352), .int lf_352]) := (hf_362 0 (by omega)).trans es352
            refine hp_get hx hb hts ix11 hown hK hh (q := 0) rfl (hI.1 _ (by decide)) es352_364 rfl 1 (by decide) (hts _ tw_246) (fun _ h9 => h9) rfl dX11_extreme_62 ?_
            refine lv_iload_n hx hb dX11_extreme_65 rfl (lv_at hl 1 rfl) ?_
            obtain ⟨hw_365, es365, p0_365⟩ := get_L hI_362
            refine hp_callMq (va_runV (As := [.int (nI N_355)]) (rest := []) ⟨hx, hb, hml, hown, hts⟩ (c_X2_surveyOf l D cy _ cs ad en_362 hI_362 N_355 (by omega) (by omega)) (kw_X2_surveyOf hts tw_467 ⟨by show _ ≤ 22; omega, by show _ ≤ 40 * 22; omega⟩) (preV_of hh hK (hI.1 _ (by decide)) es365 rfl) rfl rfl hl.1 rfl (lv_room (Nat.le_of_ble_eq_true rfl)) dX11_extreme_66 ⟨Nat.le_of_ble_eq_true rfl, Nat.le_of_ble_eq_true rfl⟩) hh hA (fun r_366 H locs en_366 hw_366 hh => ?_)
            obtain ⟨hI_366, hu_366, hx_366⟩ := hw_366
            have hf_366 : ∀ c, (c < 12 ∨ 70 ≤ c) → en_366 c = en c := fun c hc => (hu_366 c (by omega)).trans (hf_362 c hc)
            obtain rfl : r_366 = some (ad (34 + 4 * N_355)) := hx_366
            refine W.eq (g2 := F0 m 69 ls [.ref (ad (34 + 4 * N_355))]) rfl ?_
            refine lv_astore (lv' := [(4, .ref (ad (34 + 4 * N_355))), (0, .ref (ad 0)), (1, .int (nI N_355)), (2, .int (nI N_356)), (3, .int (nI N_357))]) hx hb dX11_extreme_69 hl (by decide) rfl (fun ls hl => ?_)
            refine lv_iload_n hx hb dX11_extreme_71 rfl (lv_at hl 3 rfl) ?_
            refine lv_if_ne (tgt := 85) hx hb dX11_extreme_72 (by decide) (fun c_367 => ?_) (fun c_367 => ?_)
            · have n_367 : N_356 ≠ 0 := n_neq (a := N_356) (b := 0) c_367 (by omega) (by decide)
              refine lv_aload hx hb dX11_extreme_85 (lv_at hl 0 rfl) ?_
              obtain ⟨dn_368, no_368, rc_368, gr_368, le_368, rt_368, tt_368, es368, p0_368⟩ := get_sv hI_366 (j := N_355) (by omega)
              refine hp_get hx hb hts ix6 hown hK hh (q := (34 + 4 * N_355)) rfl (hI.1 _ (by omega)) es368 rfl 1 (by decide) (hts _ tw_82) (fun _ h9 => h9) rfl dX11_extreme_87 ?_
              refine lv_iload_n hx hb dX11_extreme_90 rfl (lv_at hl 4 rfl) ?_
              obtain ⟨f_369, es369⟩ := get_svb hI_366 (j := N_355) (by omega)
              refine hp_iald hx hb hK hh (q := (36 + 4 * N_355)) rfl (hI.1 _ (by omega)) es369 (vp_in_nI (n := N_357) (by omega) (by decide)) dX11_extreme_91 ?_
              rw [nI_clamp (n := N_357) (by omega)]
              exact hp_iretM hx hb hr rfl hlocks hh (⟨hI_366, hf_366⟩) dX11_extreme_92
            · have n_367 : N_356 = 0 := n_eq (a := N_356) (b := 0) c_367 (by omega) (by decide)
              refine lv_aload hx hb dX11_extreme_75 (lv_at hl 0 rfl) ?_
              obtain ⟨dn_370, no_370, rc_370, gr_370, le_370, rt_370, tt_370, es370, p0_370⟩ := get_sv hI_366 (j := N_355) (by omega)
              refine hp_get hx hb hts ix6 hown hK hh (q := (34 + 4 * N_355)) rfl (hI.1 _ (by omega)) es370 rfl 0 (by decide) (hts _ tw_80) (fun _ h9 => h9) rfl dX11_extreme_77 ?_
              refine lv_iload_n hx hb dX11_extreme_80 rfl (lv_at hl 4 rfl) ?_
              obtain ⟨f_371, es371⟩ := get_sva hI_366 (j := N_355) (by omega)
              refine hp_iald hx hb hK hh (q := (35 + 4 * N_355)) rfl (hI.1 _ (by omega)) es371 (vp_in_nI (n := N_357) (by omega) (by decide)) dX11_extreme_81 ?_
              rw [nI_clamp (n := N_357) (by omega)]
              refine lv_goto (tgt := 92) hx hb dX11_extreme_82 (by decide) ?_
              exact hp_iretM hx hb hr rfl hlocks hh (⟨hI_366, hf_366⟩) dX11_extreme_92
          · refine lv_bipush (v := (-9)) hx hb dX11_extreme_58 (by decide) ?_
            exact hp_iretM hx hb hr rfl hlocks hh (⟨hI_362, hf_362⟩) dX11_extreme_60
        · obtain rfl : r_359 = 1 := hb_359
          refine lv_if_eq (tgt := 47) hx hb dX11_extreme_41 (by decide) (fun c_0 => absurd c_0 (by decide)) (fun _ => ?_)
          refine lv_bipush (v := (-6)) hx hb dX11_extreme_44 (by decide) ?_
          exact hp_iretM hx hb hr rfl hlocks hh (⟨hI_359, hf_359⟩) dX11_extreme_46
      · obtain rfl : r_357 = 0 := Eq.trans hw_357 (if_neg hp_357)
        refine lv_if_ne (tgt := 33) hx hb dX11_extreme_27 (by decide) (fun c_0 => absurd c_0 (by decide)) (fun _ => ?_)
        refine lv_bipush (v := (-2)) hx hb dX11_extreme_30 (by decide) ?_
        exact hp_iretM hx hb hr rfl hlocks hh (⟨hI, hf0⟩) dX11_extreme_32
    · obtain rfl : r_356 = 0 := Eq.trans hw_356 (if_neg hp_356)
      refine lv_if_eq (tgt := 30) hx hb dX11_extreme_16 (by decide) (fun _ => ?_) (fun c_0 => absurd c_0 (by decide))
      refine lv_bipush (v := (-2)) hx hb dX11_extreme_30 (by decide) ?_
      exact hp_iretM hx hb hr rfl hlocks hh (⟨hI, hf0⟩) dX11_extreme_32
  · obtain rfl : r_355 = 0 := Eq.trans hw_355 (if_neg hp_355)
    refine lv_if_eq (tgt := 30) hx hb dX11_extreme_7 (by decide) (fun _ => ?_) (fun c_0 => absurd c_0 (by decide))
    refine lv_bipush (v := (-2)) hx hb dX11_extreme_30 (by decide) ?_
    exact hp_iretM hx hb hr rfl hlocks hh (⟨hI, hf0⟩) dX11_extreme_32
theorem kw_X11_extreme {R : Room} {s : State} {args : Array Value} {own : String} {idx : Nat} (hts : ∀ w ∈ TB, w.before args s = true) (hl : Cond.methodLink own idx yX11_extreme ∈ TB) (hR : 22 + 1 ≤ R.frames ∧ 8 + (5 + 11) + 40 * 22 ≤ R.locals) : CallW R s args own RX11 idx yX11_extreme cX11_extreme 5 (some .int) (Cond.code yX11_extreme cX11_extreme 5 (some .int) :: TB) (rmN 22) 0 0 3 := cwV 3 hts (TB_V hl tw_542 tw_543 tw_1 tw_544) rfl rfl rfl (by decide +kernel) hR
set_option maxHeartbeats 4000000 in
set_option maxRecDepth 100000 in
/-- X11_ring -/
theorem c_X11_ring (l : Launch) (D : va_G) (cy : Nat → ClassId) (sz : Nat) (cs : List Nat) (ad : Nat → Nat) (en : Nat → va_E) (hI : SX cy cs ad en) (n i : Int32)   : Met l yX11_ring (Cond.code yX11_ring cX11_ring 4 (some .int) :: TB) (rmN 22) (va_Pc [.ref (ad 0), .int n, .int i] (Pre D cy cs ad en sz)) (va_Qi (S := Nat → va_E) (fun r en1 => SX cy cs ad en1 ∧ (∀ c, (c < 12 ∨ 70 ≤ c) → en1 c = en c)) (PostM D cs ad) (Af cs ad sz)) 0 0 (Af cs ad sz) := by
  refine Met.ofW (cc := cX11_ring) (maxL := 4) (ret := (some .int)) (by decide) rfl ?_
  intro p e s m args below meth c s₁ B hml hv
  obtain ⟨rfl, hsz, hP, hK, hD0⟩ := hv
  have hx := B.exec
  have hb := B.bytes
  have hr := B.returns
  have hts : ∀ w ∈ TB, w.before _ s = true := fun w h => atoms_spec (ws := _ :: TB) B.pre w (List.mem_cons_of_mem _ h)
  have hown : s.vm.findClass RX11 = some m.cls := findClass_of_methodNamed B.named
  have hlocks := B.notSynchronized
  have hh : Hp D (Af cs ad sz) (Af cs ad sz) s.heap s.heap [] cs ad en := ⟨hP, Af_self hD0, va_S.rf⟩
  have hA : ∀ q : Nat, s.heap.size ≤ q → Af cs ad sz q := fun q h => Or.inr (by rw [hsz] at h; exact h)
  have hl := lv_entry ([.ref (ad 0), .int n, .int i]) (n := 4) (Nat.le_of_ble_eq_true rfl)
  rw [lg_entry_eq]
  generalize (lg_sl ([.ref (ad 0), .int n, .int i]) ++ List.replicate (4 - (lg_sl ([.ref (ad 0), .int n, .int i])).length) Slot.unset).toArray = ls at hl ⊢
  have hl : lv_has ls 4 [(0, .ref (ad 0)), (1, .int n), (2, .int i)] := hl
  have hf0 : ∀ c, (c < 12 ∨ 70 ≤ c) → en c = en c := fun _ _ => rfl
  obtain ⟨wc_372, lf_372, es372, p0_372⟩ := get_A hI
  obtain ⟨cnt, d, mm, es373, hcnt, hd2, hd3, hmm⟩ := get_T hI
  obtain ⟨f10, es374, hb10⟩ := get_alw hI
  refine lv_iload_n hx hb dX11_ring_0 rfl (lv_at hl 1 rfl) ?_
  refine lv_iconst (v := 1) hx hb dX11_ring_1 (by decide) ?_
  refine lv_bipush (v := 8) hx hb dX11_ring_2 (by decide) ?_
  refine hp_callRi (va_runS (As := [.int n, .int 1, .int 8]) (rest := []) ⟨hx, hb, hml, hown, hts⟩ (c_X11_isWithin l D cy _ cs ad en n 1 8) (kw_X11_isWithin hts tw_274 ⟨by show _ ≤ 22; omega, by show _ ≤ 40 * 22; omega⟩) (preS_of hh hK) rfl rfl hl.1 rfl (lv_room (Nat.le_of_ble_eq_true rfl)) dX11_ring_4 ⟨Nat.le_of_ble_eq_true rfl, Nat.le_of_ble_eq_true rfl⟩) hh hA (fun r_375 H locs hw_375 hh => ?_)
  rcases Decidable.em (wi n 1 8) with hp_375 | hp_375
  · obtain rfl : r_375 = 1 := Eq.trans hw_375 (if_pos hp_375)
    obtain ⟨N_375, rfl, hA_375, hB_375⟩ := wi_natB hp_375 1 8 (by decide) (by decide)
    refine lv_if_eq (tgt := 21) hx hb dX11_ring_7 (by decide) (fun c_0 => absurd c_0 (by decide)) (fun _ => ?_)
    refine lv_iload_n hx hb dX11_ring_10 rfl (lv_at hl 2 rfl) ?_
    refine lv_iconst (v := 0) hx hb dX11_ring_11 (by decide) ?_
    refine lv_iload_n hx hb dX11_ring_12 rfl (lv_at hl 1 rfl) ?_
    refine lv_iconst (v := 1) hx hb dX11_ring_13 (by decide) ?_
    refine lv_isub hx hb dX11_ring_14 ?_
    rw [show (1 : Int32) = nI 1 from rfl, pk_sub (a := N_375) (b := 1) (by omega)]
    refine hp_callRi (va_runS (As := [.int i, .int 0, .int (nI (N_375 - 1))]) (rest := []) ⟨hx, hb, hml, hown, hts⟩ (c_X11_isWithin l D cy _ cs ad en i 0 (nI (N_375 - 1))) (kw_X11_isWithin hts tw_274 ⟨by show _ ≤ 22; omega, by show _ ≤ 40 * 22; omega⟩) (preS_of hh hK) rfl rfl hl.1 rfl (lv_room (Nat.le_of_ble_eq_true rfl)) dX11_ring_15 ⟨Nat.le_of_ble_eq_true rfl, Nat.le_of_ble_eq_true rfl⟩) hh hA (fun r_376 H locs hw_376 hh => ?_)
    rcases Decidable.em (wi i 0 (nI (N_375 - 1))) with hp_376 | hp_376
    · obtain rfl : r_376 = 1 := Eq.trans hw_376 (if_pos hp_376)
      obtain ⟨N_376, rfl, hA_376, hB_376⟩ := wi_natB hp_376 0 ((N_375 - 1)) (by decide) (nI_toInt (by omega))
      refine lv_if_ne (tgt := 24) hx hb dX11_ring_18 (by decide) (fun _ => ?_) (fun c_0 => absurd c_0 (by decide))
      refine lv_aload_n hx hb dX11_ring_24 rfl (lv_at hl 0 rfl) ?_
      refine hp_get hx hb hts ix11 hown hK hh (q := 0) rfl (hI.1 _ (by decide)) es372 rfl 1 (by decide) (hts _ tw_246) (fun _ h9 => h9) rfl dX11_ring_25 ?_
      refine lv_iload_n hx hb dX11_ring_28 rfl (lv_at hl 1 rfl) ?_
      obtain ⟨hw_377, es377, p0_377⟩ := get_L hI
      refine hp_callMi (va_runV (As := [.int (nI N_375)]) (rest := []) ⟨hx, hb, hml, hown, hts⟩ (c_X2_isSpent l D cy _ cs ad en hI N_375 (by omega)) (kw_X2_isSpent hts tw_445 ⟨by show _ ≤ 22; omega, by show _ ≤ 40 * 22; omega⟩) (preV_of hh hK (hI.1 _ (by decide)) es377 rfl) rfl rfl hl.1 rfl (lv_room (Nat.le_of_ble_eq_true rfl)) dX11_ring_29 ⟨Nat.le_of_ble_eq_true rfl, Nat.le_of_ble_eq_true rfl⟩) hh hA (fun r_378 H locs en_378 hw_378 hh => ?_)
      obtain ⟨hI_378, hu_378, hx_378⟩ := hw_378
      have hf_378 : ∀ c, (c < 12 ∨ 70 ≤ c) → en_378 c = en c := fun c hc => (hu_378 c (by omega)).trans (hf0 c hc)
      have hw_378 := hx_378
      rcases hw_378 with hb_378 | hb_378
      · obtain rfl : r_378 = 0 := hb_378
        refine lv_if_eq (tgt := 38) hx hb dX11_ring_32 (by decide) (fun _ => ?_) (fun c_0 => absurd c_0 (by decide))
        refine lv_aload_n hx hb dX11_ring_38 rfl (lv_at hl 0 rfl) ?_
        have es372_379 : en_378 0 = .inr (10, [.ref (ad 1), .ref (ad 12), .ref (ad 70), .ref (ad 74), .ref (ad 75), .ref (ad 76), .int (nI wc_372), .int lf_372]) := (hf_378 0 (by omega)).trans es372
        refine hp_get hx hb hts ix11 hown hK hh (q := 0) rfl (hI.1 _ (by decide)) es372_379 rfl 1 (by decide) (hts _ tw_246) (fun _ h9 => h9) rfl dX11_ring_39 ?_
        refine lv_iload_n hx hb dX11_ring_42 rfl (lv_at hl 1 rfl) ?_
        obtain ⟨hw_380, es380, p0_380⟩ := get_L hI_378
        refine hp_callMq (va_runV (As := [.int (nI N_375)]) (rest := []) ⟨hx, hb, hml, hown, hts⟩ (c_X2_surveyOf l D cy _ cs ad en_378 hI_378 N_375 (by omega) (by omega)) (kw_X2_surveyOf hts tw_467 ⟨by show _ ≤ 22; omega, by show _ ≤ 40 * 22; omega⟩) (preV_of hh hK (hI.1 _ (by decide)) es380 rfl) rfl rfl hl.1 rfl (lv_room (Nat.le_of_ble_eq_true rfl)) dX11_ring_43 ⟨Nat.le_of_ble_eq_true rfl, Nat.le_of_ble_eq_true rfl⟩) hh hA (fun r_381 H locs en_381 hw_381 hh => ?_)
        obtain ⟨hI_381, hu_381, hx_381⟩ := hw_381
        have hf_381 : ∀ c, (c < 12 ∨ 70 ≤ c) → en_381 c = en c := fun c hc => (hu_381 c (by omega)).trans (hf_378 c hc)
        obtain rfl : r_381 = some (ad (34 + 4 * N_375)) := hx_381
        refine W.eq (g2 := F0 m 46 ls [.ref (ad (34 + 4 * N_375))]) rfl ?_
        refine lv_astore_n (lv' := [(3, .ref (ad (34 + 4 * N_375))), (0, .ref (ad 0)), (1, .int (nI N_375)), (2, .int (nI N_376))]) hx hb dX11_ring_46 rfl hl (by decide) rfl (fun ls hl => ?_)
        refine lv_aload_n hx hb dX11_ring_47 rfl (lv_at hl 0 rfl) ?_
        obtain ⟨dn_382, no_382, rc_382, gr_382, le_382, rt_382, tt_382, es382, p0_382⟩ := get_sv hI_381 (j := N_375) (by omega)
        refine hp_get hx hb hts ix6 hown hK hh (q := (34 + 4 * N_375)) rfl (hI.1 _ (by omega)) es382 rfl 5 (by decide) (hts _ tw_90) (fun _ h9 => h9) rfl dX11_ring_48 ?_
        refine lv_if_ne (tgt := 59) hx hb dX11_ring_51 (by decide) (fun c_383 => ?_) (fun c_383 => ?_)
        · refine lv_aload_n hx hb dX11_ring_59 rfl (lv_at hl 0 rfl) ?_
          refine hp_get hx hb hts ix6 hown hK hh (q := (34 + 4 * N_375)) rfl (hI.1 _ (by omega)) es382 rfl 2 (by decide) (hts _ tw_84) (fun _ h9 => h9) rfl dX11_ring_60 ?_
          refine lv_iload_n hx hb dX11_ring_63 rfl (lv_at hl 3 rfl) ?_
          obtain ⟨f_384, es384⟩ := get_svc hI_381 (j := N_375) (by omega)
          refine hp_iald hx hb hK hh (q := (37 + 4 * N_375)) rfl (hI.1 _ (by omega)) es384 (vp_in_nI (n := N_376) (by omega) (by decide)) dX11_ring_64 ?_
          rw [nI_clamp (n := N_376) (by omega)]
          exact hp_iretM hx hb hr rfl hlocks hh (⟨hI_381, hf_381⟩) dX11_ring_65
        · refine lv_bipush (v := (-9)) hx hb dX11_ring_54 (by decide) ?_
          refine lv_goto (tgt := 65) hx hb dX11_ring_56 (by decide) ?_
          exact hp_iretM hx hb hr rfl hlocks hh (⟨hI_381, hf_381⟩) dX11_ring_65
      · obtain rfl : r_378 = 1 := hb_378
        refine lv_if_eq (tgt := 38) hx hb dX11_ring_32 (by decide) (fun c_0 => absurd c_0 (by decide)) (fun _ => ?_)
        refine lv_bipush (v := (-6)) hx hb dX11_ring_35 (by decide) ?_
        exact hp_iretM hx hb hr rfl hlocks hh (⟨hI_378, hf_378⟩) dX11_ring_37
    · obtain rfl : r_376 = 0 := Eq.trans hw_376 (if_neg hp_376)
      refine lv_if_ne (tgt := 24) hx hb dX11_ring_18 (by decide) (fun c_0 => absurd c_0 (by decide)) (fun _ => ?_)
      refine lv_bipush (v := (-2)) hx hb dX11_ring_21 (by decide) ?_
      exact hp_iretM hx hb hr rfl hlocks hh (⟨hI, hf0⟩) dX11_ring_23
  · obtain rfl : r_375 = 0 := Eq.trans hw_375 (if_neg hp_375)
    refine lv_if_eq (tgt := 21) hx hb dX11_ring_7 (by decide) (fun _ => ?_) (fun c_0 => absurd c_0 (by decide))
    refine lv_bipush (v := (-2)) hx hb dX11_ring_21 (by decide) ?_
    exact hp_iretM hx hb hr rfl hlocks hh (⟨hI, hf0⟩) dX11_ring_23
theorem kw_X11_ring {R : Room} {s : State} {args : Array Value} {own : String} {idx : Nat} (hts : ∀ w ∈ TB, w.before args s = true) (hl : Cond.methodLink own idx yX11_ring ∈ TB) (hR : 22 + 1 ≤ R.frames ∧ 8 + (4 + 11) + 40 * 22 ≤ R.locals) : CallW R s args own RX11 idx yX11_ring cX11_ring 4 (some .int) (Cond.code yX11_ring cX11_ring 4 (some .int) :: TB) (rmN 22) 0 0 2 := cwV 2 hts (TB_V hl tw_554 tw_555 tw_1 tw_556) rfl rfl rfl (by decide +kernel) hR
set_option maxHeartbeats 4000000 in
set_option maxRecDepth 100000 in
/-- X11_growth -/
theorem c_X11_growth (l : Launch) (D : va_G) (cy : Nat → ClassId) (sz : Nat) (cs : List Nat) (ad : Nat → Nat) (en : Nat → va_E) (hI : SX cy cs ad en) (a b n : Int32)   : Met l yX11_growth (Cond.code yX11_growth cX11_growth 5 (some .int) :: TB) (rmN 22) (va_Pc [.ref (ad 0), .int a, .int b, .int n] (Pre D cy cs ad en sz)) (va_Qi (S := Nat → va_E) (fun r en1 => SX cy cs ad en1 ∧ (∀ c, (c < 12 ∨ 70 ≤ c) → en1 c = en c)) (PostM D cs ad) (Af cs ad sz)) 0 0 (Af cs ad sz) := by
  refine Met.ofW (cc := cX11_growth) (maxL := 5) (ret := (some .int)) (by decide) rfl ?_
  intro p e s m args below meth c s₁ B hml hv
  obtain ⟨rfl, hsz, hP, hK, hD0⟩ := hv
  have hx := B.exec
  have hb := B.bytes
  have hr := B.returns
  have hts : ∀ w ∈ TB, w.before _ s = true := fun w h => atoms_spec (ws := _ :: TB) B.pre w (List.mem_cons_of_mem _ h)
  have hown : s.vm.findClass RX11 = some m.cls := findClass_of_methodNamed B.named
  have hlocks := B.notSynchronized
  have hh : Hp D (Af cs ad sz) (Af cs ad sz) s.heap s.heap [] cs ad en := ⟨hP, Af_self hD0, va_S.rf⟩
  have hA : ∀ q : Nat, s.heap.size ≤ q → Af cs ad sz q := fun q h => Or.inr (by rw [hsz] at h; exact h)
  have hl := lv_entry ([.ref (ad 0), .int a, .int b, .int n]) (n := 5) (Nat.le_of_ble_eq_true rfl)
  rw [lg_entry_eq]
  generalize (lg_sl ([.ref (ad 0), .int a, .int b, .int n]) ++ List.replicate (5 - (lg_sl ([.ref (ad 0), .int a, .int b, .int n])).length) Slot.unset).toArray = ls at hl ⊢
  have hl : lv_has ls 5 [(0, .ref (ad 0)), (1, .int a), (2, .int b), (3, .int n)] := hl
  have hf0 : ∀ c, (c < 12 ∨ 70 ≤ c) → en c = en c := fun _ _ => rfl
  obtain ⟨wc_385, lf_385, es385, p0_385⟩ := get_A hI
  obtain ⟨cnt, d, mm, es386, hcnt, hd2, hd3, hmm⟩ := get_T hI
  obtain ⟨f10, es387, hb10⟩ := get_alw hI
  refine lv_iload_n hx hb dX11_growth_0 rfl (lv_at hl 1 rfl) ?_
  refine lv_iconst (v := 1) hx hb dX11_growth_1 (by decide) ?_
  refine lv_bipush (v := 9) hx hb dX11_growth_2 (by decide) ?_
  refine hp_callRi (va_runS (As := [.int a, .int 1, .int 9]) (rest := []) ⟨hx, hb, hml, hown, hts⟩ (c_X11_isWithin l D cy _ cs ad en a 1 9) (kw_X11_isWithin hts tw_274 ⟨by show _ ≤ 22; omega, by show _ ≤ 40 * 22; omega⟩) (preS_of hh hK) rfl rfl hl.1 rfl (lv_room (Nat.le_of_ble_eq_true rfl)) dX11_growth_4 ⟨Nat.le_of_ble_eq_true rfl, Nat.le_of_ble_eq_true rfl⟩) hh hA (fun r_388 H locs hw_388 hh => ?_)
  rcases Decidable.em (wi a 1 9) with hp_388 | hp_388
  · obtain rfl : r_388 = 1 := Eq.trans hw_388 (if_pos hp_388)
    obtain ⟨N_388, rfl, hA_388, hB_388⟩ := wi_natB hp_388 1 9 (by decide) (by decide)
    refine lv_if_eq (tgt := 30) hx hb dX11_growth_7 (by decide) (fun c_0 => absurd c_0 (by decide)) (fun _ => ?_)
    refine lv_iload_n hx hb dX11_growth_10 rfl (lv_at hl 2 rfl) ?_
    refine lv_iconst (v := 1) hx hb dX11_growth_11 (by decide) ?_
    refine lv_bipush (v := 9) hx hb dX11_growth_12 (by decide) ?_
    refine hp_callRi (va_runS (As := [.int b, .int 1, .int 9]) (rest := []) ⟨hx, hb, hml, hown, hts⟩ (c_X11_isWithin l D cy _ cs ad en b 1 9) (kw_X11_isWithin hts tw_274 ⟨by show _ ≤ 22; omega, by show _ ≤ 40 * 22; omega⟩) (preS_of hh hK) rfl rfl hl.1 rfl (lv_room (Nat.le_of_ble_eq_true rfl)) dX11_growth_14 ⟨Nat.le_of_ble_eq_true rfl, Nat.le_of_ble_eq_true rfl⟩) hh hA (fun r_389 H locs hw_389 hh => ?_)
    rcases Decidable.em (wi b 1 9) with hp_389 | hp_389
    · obtain rfl : r_389 = 1 := Eq.trans hw_389 (if_pos hp_389)
      obtain ⟨N_389, rfl, hA_389, hB_389⟩ := wi_natB hp_389 1 9 (by decide) (by decide)
      refine lv_if_eq (tgt := 30) hx hb dX11_growth_17 (by decide) (fun c_0 => absurd c_0 (by decide)) (fun _ => ?_)
      refine lv_iload_n hx hb dX11_growth_20 rfl (lv_at hl 3 rfl) ?_
      refine lv_iconst (v := 1) hx hb dX11_growth_21 (by decide) ?_
      refine lv_bipush (v := 7) hx hb dX11_growth_22 (by decide) ?_
      refine hp_callRi (va_runS (As := [.int n, .int 1, .int 7]) (rest := []) ⟨hx, hb, hml, hown, hts⟩ (c_X11_isWithin l D cy _ cs ad en n 1 7) (kw_X11_isWithin hts tw_274 ⟨by show _ ≤ 22; omega, by show _ ≤ 40 * 22; omega⟩) (preS_of hh hK) rfl rfl hl.1 rfl (lv_room (Nat.le_of_ble_eq_true rfl)) dX11_growth_24 ⟨Nat.le_of_ble_eq_true rfl, Nat.le_of_ble_eq_true rfl⟩) hh hA (fun r_390 H locs hw_390 hh => ?_)
      rcases Decidable.em (wi n 1 7) with hp_390 | hp_390
      · obtain rfl : r_390 = 1 := Eq.trans hw_390 (if_pos hp_390)
        obtain ⟨N_390, rfl, hA_390, hB_390⟩ := wi_natB hp_390 1 7 (by decide) (by decide)
        refine lv_if_ne (tgt := 33) hx hb dX11_growth_27 (by decide) (fun _ => ?_) (fun c_0 => absurd c_0 (by decide))
        refine lv_aload_n hx hb dX11_growth_33 rfl (lv_at hl 0 rfl) ?_
        refine hp_get hx hb hts ix11 hown hK hh (q := 0) rfl (hI.1 _ (by decide)) es385 rfl 0 (by decide) (hts _ tw_245) (fun _ h9 => h9) rfl dX11_growth_34 ?_
        refine hp_callRi (va_runV (As := []) (rest := []) ⟨hx, hb, hml, hown, hts⟩ (c_X8_modulus l D cy _ cs ad en (hI.1 _ (by decide)) cnt d mm hcnt hd2 hd3 hmm  es386) (kw_X8_modulus hts tw_561 ⟨by show _ ≤ 22; omega, by show _ ≤ 40 * 22; omega⟩) (preV_of hh hK (hI.1 _ (by decide)) es386 rfl) rfl rfl hl.1 rfl (lv_room (Nat.le_of_ble_eq_true rfl)) dX11_growth_37 ⟨Nat.le_of_ble_eq_true rfl, Nat.le_of_ble_eq_true rfl⟩) hh hA (fun r_391 H locs hw_391 hh => ?_)
        obtain rfl : r_391 = (nI mm) := hw_391
        refine lv_if_gt (tgt := 53) hx hb dX11_growth_40 (by decide) (fun c_392 => ?_) (fun c_392 => ?_)
        · have n_392 : 0 < mm := n_lt (a := 0) (b := mm) c_392 (by decide) (by omega)
          refine lv_bipush (v := (-3)) hx hb dX11_growth_53 (by decide) ?_
          exact hp_iretM hx hb hr rfl hlocks hh (⟨hI, hf0⟩) dX11_growth_55
        · have n_392 : mm ≤ 0 := n_nlt (a := 0) (b := mm) c_392 (by decide) (by omega)
          refine lv_aload_n hx hb dX11_growth_43 rfl (lv_at hl 0 rfl) ?_
          refine hp_get hx hb hts ix11 hown hK hh (q := 0) rfl (hI.1 _ (by decide)) es385 rfl 0 (by decide) (hts _ tw_245) (fun _ h9 => h9) rfl dX11_growth_44 ?_
          refine hp_callRi (va_runV (As := []) (rest := []) ⟨hx, hb, hml, hown, hts⟩ (c_X8_count l D cy _ cs ad en (hI.1 _ (by decide)) cnt d mm hcnt hd2 hd3 hmm  es386) (kw_X8_count hts tw_318 ⟨by show _ ≤ 22; omega, by show _ ≤ 40 * 22; omega⟩) (preV_of hh hK (hI.1 _ (by decide)) es386 rfl) rfl rfl hl.1 rfl (lv_room (Nat.le_of_ble_eq_true rfl)) dX11_growth_47 ⟨Nat.le_of_ble_eq_true rfl, Nat.le_of_ble_eq_true rfl⟩) hh hA (fun r_393 H locs hw_393 hh => ?_)
          obtain rfl : r_393 = (nI cnt) := hw_393
          refine lv_if_ne (tgt := 56) hx hb dX11_growth_50 (by decide) (fun c_394 => ?_) (fun c_394 => ?_)
          · have n_394 : cnt ≠ 0 := n_neq (a := cnt) (b := 0) c_394 (by omega) (by decide)
            refine lv_iconst (v := 1) hx hb dX11_growth_56 (by decide) ?_
            refine lv_istore (lv' := [(4, .int 1), (0, .ref (ad 0)), (1, .int (nI N_388)), (2, .int (nI N_389)), (3, .int (nI N_390))]) hx hb dX11_growth_57 hl (by decide) rfl (fun ls hl => ?_)
            have loop_395 : ∀ (fu j395 : Nat)  (en_395 : Nat → va_E) (ls : Array Slot) (H : Heap) (locs : List Loc), 1 ≤ j395 → j395 ≤ (N_390 + 1) → (N_390 + 1) < j395 + fu → SX cy cs ad en_395 → (∀ c, (c < 12 ∨ 70 ≤ c) → en_395 c = en c) →  lv_has ls 5 [(4, .int (nI j395)), (0, .ref (ad 0)), (1, .int (nI N_388)), (2, .int (nI N_389)), (3, .int (nI N_390))] → Hp D (Af cs ad sz) (Af cs ad sz) s.heap H locs cs ad en_395 → W p l e (headSpec (Cond.code yX11_growth cX11_growth 5 (some .int) :: TB) (rmN 22)).room s m ([.ref (ad 0), .int (nI N_388), .int (nI N_389), .int (nI N_390)] : List Value).toArray below meth c H locs 0 0 (MQ below (va_Qi (S := Nat → va_E) (fun r en1 => SX cy cs ad en1 ∧ (∀ c, (c < 12 ∨ 70 ≤ c) → en1 c = en c)) (PostM D cs ad) (Af cs ad sz)) ([.ref (ad 0), .int (nI N_388), .int (nI N_389), .int (nI N_390)] : List Value).toArray s 0 0 (Af cs ad sz)) (F0 m 59 ls []) := by
              intro fu
              induction fu with
              | zero => intro j395  en_395 ls H locs h0 h1 h2; exact absurd h2 (by omega)
              | succ fu ih_395 =>
                intro j395  en_395 ls H locs hj0_395 hj_395 hfu_395 hI_395 hf_395  hl hh
                refine lv_iload hx hb dX11_growth_59 (lv_at hl 0 rfl) ?_
                refine lv_iload_n hx hb dX11_growth_61 rfl (lv_at hl 4 rfl) ?_
                refine lv_icmp_gt (tgt := 86) hx hb dX11_growth_62 (by decide) (fun c_396 => ?_) (fun c_396 => ?_)
                · have n_396 : N_390 < j395 := n_lt (a := N_390) (b := j395) c_396 (by omega) (by omega)
                  refine lv_aload_n hx hb dX11_growth_86 rfl (lv_at hl 1 rfl) ?_
                  have es385_397 : en_395 0 = .inr (10, [.ref (ad 1), .ref (ad 12), .ref (ad 70), .ref (ad 74), .ref (ad 75), .ref (ad 76), .int (nI wc_385), .int lf_385]) := (hf_395 0 (by omega)).trans es385
                  refine hp_get hx hb hts ix11 hown hK hh (q := 0) rfl (hI.1 _ (by decide)) es385_397 rfl 1 (by decide) (hts _ tw_246) (fun _ h9 => h9) rfl dX11_growth_87 ?_
                  refine lv_iload_n hx hb dX11_growth_90 rfl (lv_at hl 2 rfl) ?_
                  refine lv_iload_n hx hb dX11_growth_91 rfl (lv_at hl 3 rfl) ?_
                  refine lv_iload_n hx hb dX11_growth_92 rfl (lv_at hl 4 rfl) ?_
                  obtain ⟨hw_398, es398, p0_398⟩ := get_L hI_395
                  refine hp_callMi (va_runV (As := [.int (nI N_388), .int (nI N_389), .int (nI N_390)]) (rest := []) ⟨hx, hb, hml, hown, hts⟩ (c_X2_compareGrowth l D cy _ cs ad en_395 hI_395 (nI N_388) (nI N_389) N_390 (by omega) (by omega)) (kw_X2_compareGrowth hts tw_565 ⟨by show _ ≤ 22; omega, by show _ ≤ 40 * 22; omega⟩) (preV_of hh hK (hI.1 _ (by decide)) es398 rfl) rfl rfl hl.1 rfl (lv_room (Nat.le_of_ble_eq_true rfl)) dX11_growth_93 ⟨Nat.le_of_ble_eq_true rfl, Nat.le_of_ble_eq_true rfl⟩) hh hA (fun r_399 H locs en_399 hw_399 hh => ?_)
                  obtain ⟨hI_399, hu_399⟩ := hw_399
                  have hf_399 : ∀ c, (c < 12 ∨ 70 ≤ c) → en_399 c = en c := fun c hc => (hu_399 c (by omega)).trans (hf_395 c hc)
                  exact hp_iretM hx hb hr rfl hlocks hh (⟨hI_399, hf_399⟩) dX11_growth_96
                · have n_396 : j395 ≤ N_390 := n_nlt (a := N_390) (b := j395) c_396 (by omega) (by omega)
                  refine lv_aload_n hx hb dX11_growth_65 rfl (lv_at hl 1 rfl) ?_
                  have es385_400 : en_395 0 = .inr (10, [.ref (ad 1), .ref (ad 12), .ref (ad 70), .ref (ad 74), .ref (ad 75), .ref (ad 76), .int (nI wc_385), .int lf_385]) := (hf_395 0 (by omega)).trans es385
                  refine hp_get hx hb hts ix11 hown hK hh (q := 0) rfl (hI.1 _ (by decide)) es385_400 rfl 1 (by decide) (hts _ tw_246) (fun _ h9 => h9) rfl dX11_growth_66 ?_
                  refine lv_iload hx hb dX11_growth_69 (lv_at hl 0 rfl) ?_
                  obtain ⟨hw_401, es401, p0_401⟩ := get_L hI_395
                  refine hp_callMi (va_runV (As := [.int (nI j395)]) (rest := []) ⟨hx, hb, hml, hown, hts⟩ (c_X2_isSpent l D cy _ cs ad en_395 hI_395 j395 (by omega)) (kw_X2_isSpent hts tw_445 ⟨by show _ ≤ 22; omega, by show _ ≤ 40 * 22; omega⟩) (preV_of hh hK (hI.1 _ (by decide)) es401 rfl) rfl rfl hl.1 rfl (lv_room (Nat.le_of_ble_eq_true rfl)) dX11_growth_71 ⟨Nat.le_of_ble_eq_true rfl, Nat.le_of_ble_eq_true rfl⟩) hh hA (fun r_402 H locs en_402 hw_402 hh => ?_)
                  obtain ⟨hI_402, hu_402, hx_402⟩ := hw_402
                  have hf_402 : ∀ c, (c < 12 ∨ 70 ≤ c) → en_402 c = en c := fun c hc => (hu_402 c (by omega)).trans (hf_395 c hc)
                  have hw_402 := hx_402
                  rcases hw_402 with hb_402 | hb_402
                  · obtain rfl : r_402 = 0 := hb_402
                    refine lv_if_eq (tgt := 80) hx hb dX11_growth_74 (by decide) (fun _ => ?_) (fun c_0 => absurd c_0 (by decide))
                    refine lv_iinc (v := (nI (j395 + 1))) (lv' := [(4, .int (nI (j395 + 1))), (0, .ref (ad 0)), (1, .int (nI N_388)), (2, .int (nI N_389)), (3, .int (nI N_390))]) hx hb dX11_growth_80 hl (k := 0) rfl (nI_1 _) (by decide) rfl (fun ls hl => ?_)
                    refine lv_goto (tgt := 59) hx hb dX11_growth_83 (by decide) ?_
                    exact ih_395 ((j395 + 1))  en_402 ls H locs (by omega) (by omega) (by omega) hI_402 hf_402  (lv_sub hl [0, 1, 2, 3, 4] rfl) hh
                  · obtain rfl : r_402 = 1 := hb_402
                    refine lv_if_eq (tgt := 80) hx hb dX11_growth_74 (by decide) (fun c_0 => absurd c_0 (by decide)) (fun _ => ?_)
                    refine lv_bipush (v := (-6)) hx hb dX11_growth_77 (by decide) ?_
                    exact hp_iretM hx hb hr rfl hlocks hh (⟨hI_402, hf_402⟩) dX11_growth_79
            exact loop_395 ((N_390 + 1) + 1) 1  en ls _ _ (Nat.le_refl _) (by omega) (by omega) hI hf0  (lv_sub hl [0, 1, 2, 3, 4] rfl) hh
          · have n_394 : cnt = 0 := n_eq (a := cnt) (b := 0) c_394 (by omega) (by decide)
            refine lv_bipush (v := (-3)) hx hb dX11_growth_53 (by decide) ?_
            exact hp_iretM hx hb hr rfl hlocks hh (⟨hI, hf0⟩) dX11_growth_55
      · obtain rfl : r_390 = 0 := Eq.trans hw_390 (if_neg hp_390)
        refine lv_if_ne (tgt := 33) hx hb dX11_growth_27 (by decide) (fun c_0 => absurd c_0 (by decide)) (fun _ => ?_)
        refine lv_bipush (v := (-2)) hx hb dX11_growth_30 (by decide) ?_
        exact hp_iretM hx hb hr rfl hlocks hh (⟨hI, hf0⟩) dX11_growth_32
    · obtain rfl : r_389 = 0 := Eq.trans hw_389 (if_neg hp_389)
      refine lv_if_eq (tgt := 30) hx hb dX11_growth_17 (by decide) (fun _ => ?_) (fun c_0 => absurd c_0 (by decide))
      refine lv_bipush (v := (-2)) hx hb dX11_growth_30 (by decide) ?_
      exact hp_iretM hx hb hr rfl hlocks hh (⟨hI, hf0⟩) dX11_growth_32
  · obtain rfl : r_388 = 0 := Eq.trans hw_388 (if_neg hp_388)
    refine lv_if_eq (tgt := 30) hx hb dX11_growth_7 (by decide) (fun _ => ?_) (fun c_0 => absurd c_0 (by decide))
    refine lv_bipush (v := (-2)) hx hb dX11_growth_30 (by decide) ?_
    exact hp_iretM hx hb hr rfl hlocks hh (⟨hI, hf0⟩) dX11_growth_32
theorem kw_X11_growth {R : Room} {s : State} {args : Array Value} {own : String} {idx : Nat} (hts : ∀ w ∈ TB, w.before args s = true) (hl : Cond.methodLink own idx yX11_growth ∈ TB) (hR : 22 + 1 ≤ R.frames ∧ 8 + (5 + 11) + 40 * 22 ≤ R.locals) : CallW R s args own RX11 idx yX11_growth cX11_growth 5 (some .int) (Cond.code yX11_growth cX11_growth 5 (some .int) :: TB) (rmN 22) 0 0 3 := cwV 3 hts (TB_V hl tw_558 tw_559 tw_1 tw_560) rfl rfl rfl (by decide +kernel) hR
