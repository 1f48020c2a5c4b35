set_option maxHeartbeats 4000000 in
set_option maxRecDepth 100000 in
/-- keepWord -/
theorem c_X11_keepWord (l : Launch) (D : va_G) (cy : Nat → ClassId) (sz : Nat) (cs : List Nat) (ad : Nat → Nat) (en : Nat → va_E) (hI : SX cy cs ad en) (k la i n : Int32)   : Met l yX11_keepWord (Cond.code yX11_keepWord cX11_keepWord 9 (some .int) :: TB) (rmN 4) (va_Pc [.ref (ad 0), .int k, .int la, .int i, .int n] (Pre D cy cs ad en sz)) (va_Qi (S := Nat → va_E) (fun r en1 => SX cy cs ad en1 ∧ (∀ c, (0 < c ∧ c ≠ 11 ∧ (c < 77 ∨ 107 ≤ c)) → en1 c = en c) ∧ (en1 = en ∨ ∃ (wc N : Nat) (g : Nat → Int32), r = nI wc ∧ rdI (en 0) 6 = nI wc ∧ wc < 10 ∧ 1 ≤ N ∧ N ≤ 12 ∧ KW en en1 wc N g)) (PostM D cs ad) (Af cs ad sz)) 0 0 (Af cs ad sz) := by
  refine Met.ofW (cc := cX11_keepWord) (maxL := 9) (ret := (some .int)) (by decide) rfl ?_
  intro p e s m args below meth c s₁ B hml hv
  obtain ⟨rfl, hsz, hP, hK, hD0⟩ := hv
  have hx := B.exec
  have hb := B.bytes
  have hr := B.returns
  have hts : ∀ w ∈ TB, w.before _ s = true := fun w h => atoms_spec (ws := _ :: TB) B.pre w (List.mem_cons_of_mem _ h)
  have hown : s.vm.findClass RX11 = some m.cls := findClass_of_methodNamed B.named
  have hlocks := B.notSynchronized
  have hh : Hp D (Af cs ad sz) (Af cs ad sz) s.heap s.heap [] cs ad en := ⟨hP, Af_self hD0, va_S.rf⟩
  have hA : ∀ q : Nat, s.heap.size ≤ q → Af cs ad sz q := fun q h => Or.inr (by rw [hsz] at h; exact h)
  have hl := lv_entry ([.ref (ad 0), .int k, .int la, .int i, .int n]) (n := 9) (Nat.le_of_ble_eq_true rfl)
  rw [lg_entry_eq]
  generalize (lg_sl ([.ref (ad 0), .int k, .int la, .int i, .int n]) ++ List.replicate (9 - (lg_sl ([.ref (ad 0), .int k, .int la, .int i, .int n])).length) Slot.unset).toArray = ls at hl ⊢
  have hl : lv_has ls 9 [(0, .ref (ad 0)), (1, .int k), (2, .int la), (3, .int i), (4, .int n)] := hl
  have hf0 : ∀ c, (0 < c ∧ c ≠ 11 ∧ (c < 77 ∨ 107 ≤ c)) → en c = en c := fun _ _ => rfl
  obtain ⟨wc_509, lf_509, es509, p0_509⟩ := get_A hI
  obtain ⟨cnt, d, mm, es510, hcnt, hd2, hd3, hmm⟩ := get_T hI
  refine lv_aload_n hx hb dX11_keepWord_0 rfl (lv_at hl 0 rfl) ?_
  refine lv_iload_n hx hb dX11_keepWord_1 rfl (lv_at hl 1 rfl) ?_
  refine lv_iload_n hx hb dX11_keepWord_2 rfl (lv_at hl 2 rfl) ?_
  refine lv_iload_n hx hb dX11_keepWord_3 rfl (lv_at hl 3 rfl) ?_
  refine lv_iload hx hb dX11_keepWord_4 (lv_at hl 4 rfl) ?_
  refine hp_callRi (va_runV (As := [.int k, .int la, .int i, .int n]) (rest := []) ⟨hx, hb, hml, hown, hts⟩ (c_X11_lookAtCells l D cy _ cs ad en hI k la i n) (kw_X11_lookAtCells hts tw_301 ⟨by decide, by decide⟩) (preV_of hh hK (hI.1 _ (by decide)) es509 rfl) rfl rfl hl.1 rfl (lv_room (Nat.le_of_ble_eq_true rfl)) dX11_keepWord_6 ⟨Nat.le_of_ble_eq_true rfl, Nat.le_of_ble_eq_true rfl⟩) hh hA (fun r_511 H locs hw_511 hh => ?_)
  refine lv_istore (lv' := [(5, .int r_511), (0, .ref (ad 0)), (1, .int k), (2, .int la), (3, .int i), (4, .int n)]) hx hb dX11_keepWord_9 hl (by decide) rfl (fun ls hl => ?_)
  refine lv_iload hx hb dX11_keepWord_11 (lv_at hl 0 rfl) ?_
  refine lv_iconst (v := 1) hx hb dX11_keepWord_13 (by decide) ?_
  refine lv_icmp_eq (tgt := 20) hx hb dX11_keepWord_14 (by decide) (fun c_512 => ?_) (fun c_512 => ?_)
  · obtain ⟨hw1, -, -, -, hw5⟩ := lookF_1 (hw_511.symm.trans c_512)
    obtain ⟨K9, rfl, -, hK9⟩ := wi_natB hw1 0 3 (by decide) (by decide)
    refine lv_iload hx hb dX11_keepWord_20 (lv_at hl 5 rfl) ?_
    refine lv_iconst (v := 1) hx hb dX11_keepWord_22 (by decide) ?_
    refine lv_bipush (v := 12) hx hb dX11_keepWord_23 (by decide) ?_
    refine hp_callRi (va_runS (As := [.int n, .int 1, .int 12]) (rest := []) ⟨hx, hb, hml, hown, hts⟩ (c_X11_isWithin l D cy _ cs ad en n 1 12) (kw_X11_isWithin hts tw_274 ⟨by decide, by decide⟩) (preS_of hh hK) rfl rfl hl.1 rfl (lv_room (Nat.le_of_ble_eq_true rfl)) dX11_keepWord_25 ⟨Nat.le_of_ble_eq_true rfl, Nat.le_of_ble_eq_true rfl⟩) hh hA (fun r_513 H locs hw_513 hh => ?_)
    rcases Decidable.em (wi n 1 12) with hp_513 | hp_513
    · obtain rfl : r_513 = 1 := Eq.trans hw_513 (if_pos hp_513)
      obtain ⟨N_513, rfl, hA_513, hB_513⟩ := wi_natB hp_513 1 12 (by decide) (by decide)
      refine lv_if_ne (tgt := 34) hx hb dX11_keepWord_28 (by decide) (fun _ => ?_) (fun c_0 => absurd c_0 (by decide))
      obtain ⟨sc_514, sl_514, sr_514, es514, p0_514, p1_514⟩ := get_sh hI (j := K9) (by omega)
      obtain ⟨f_515, es515⟩ := get_shc hI (j := K9) (by omega)
      rw [nI_clamp (n := K9) (by omega), nI_clamp (n := N_513) (by omega), show rdI (en (107 + 2 * K9)) 1 = nI sc_514 from by rw [es514]; rfl] at hw5
      obtain ⟨I9, rfl, hI9⟩ := hcP_nat (by omega) hw5 (by omega)
      refine lv_aload_n hx hb dX11_keepWord_34 rfl (lv_at hl 1 rfl) ?_
      refine hp_get hx hb hts ix11 hown hK hh (q := 0) rfl (hI.1 _ (by decide)) es509 rfl 4 (by decide) (hts _ tw_249) (fun _ h9 => h9) rfl dX11_keepWord_35 ?_
      refine lv_iload_n hx hb dX11_keepWord_38 rfl (lv_at hl 2 rfl) ?_
      have es516 := get_shs hI
      unfold P_shs at es516
      refine hp_aald hx hb hK hh (q := 75) rfl (hI.1 _ (by decide)) 6 es516 rfl rfl (vp_in_nI (n := K9) (by omega) (by decide)) (v := .ref (ad (107 + 2 * K9))) (by rw [nI_clamp (n := K9) (by omega)]; rfl) dX11_keepWord_39 ?_
      refine hp_get hx hb hts ix3 hown hK hh (q := (107 + 2 * K9)) rfl (hI.1 _ (by omega)) es514 rfl 0 (by decide) (hts _ tw_230) (fun _ h9 => h9) rfl dX11_keepWord_40 ?_
      refine lv_astore (lv' := [(6, .ref (ad (108 + 2 * K9))), (5, .int r_511), (0, .ref (ad 0)), (1, .int (nI K9)), (2, .int la), (3, .int (nI I9)), (4, .int (nI N_513))]) hx hb dX11_keepWord_43 hl (by decide) rfl (fun ls hl => ?_)
      refine lv_iconst (v := 0) hx hb dX11_keepWord_45 (by decide) ?_
      refine lv_istore (lv' := [(7, .int 0), (6, .ref (ad (108 + 2 * K9))), (5, .int r_511), (0, .ref (ad 0)), (1, .int (nI K9)), (2, .int la), (3, .int (nI I9)), (4, .int (nI N_513))]) hx hb dX11_keepWord_46 hl (by decide) rfl (fun ls hl => ?_)
      have loop_517 : ∀ (fu j517 : Nat)   (ls : Array Slot) (H : Heap) (locs : List Loc), 0 ≤ j517 → j517 ≤ N_513 → N_513 < j517 + fu →  (∀ x, x < j517 → ∃ v, v < cnt ∧ f_515 (I9 + x) = nI v) → lv_has ls 9 [(7, .int (nI j517)), (6, .ref (ad (108 + 2 * K9))), (5, .int r_511), (0, .ref (ad 0)), (1, .int (nI K9)), (2, .int la), (3, .int (nI I9)), (4, .int (nI N_513))] → Hp D (Af cs ad sz) (Af cs ad sz) s.heap H locs cs ad en → W p l e (headSpec (Cond.code yX11_keepWord cX11_keepWord 9 (some .int) :: TB) (rmN 4)).room s m ([.ref (ad 0), .int (nI K9), .int la, .int (nI I9), .int (nI N_513)] : List Value).toArray below meth c H locs 0 0 (MQ below (va_Qi (S := Nat → va_E) (fun r en1 => SX cy cs ad en1 ∧ (∀ c, (0 < c ∧ c ≠ 11 ∧ (c < 77 ∨ 107 ≤ c)) → en1 c = en c) ∧ (en1 = en ∨ ∃ (wc N : Nat) (g : Nat → Int32), r = nI wc ∧ rdI (en 0) 6 = nI wc ∧ wc < 10 ∧ 1 ≤ N ∧ N ≤ 12 ∧ KW en en1 wc N g)) (PostM D cs ad) (Af cs ad sz)) ([.ref (ad 0), .int (nI K9), .int la, .int (nI I9), .int (nI N_513)] : List Value).toArray s 0 0 (Af cs ad sz)) (F0 m 48 ls []) := by
        intro fu
        induction fu with
        | zero => intro j517  ls H locs h0 h1 h2; exact absurd h2 (by omega)
        | succ fu ih_517 =>
          intro j517  ls H locs hj0_517 hj_517 hfu_517 i0_517 hl hh
          refine lv_iload hx hb dX11_keepWord_48 (lv_at hl 0 rfl) ?_
          refine lv_iload hx hb dX11_keepWord_50 (lv_at hl 7 rfl) ?_
          refine lv_icmp_ge (tgt := 80) hx hb dX11_keepWord_52 (by decide) (fun c_518 => ?_) (fun c_518 => ?_)
          · have n_518 : N_513 ≤ j517 := n_le (a := N_513) (b := j517) c_518 (by omega) (by omega)
            have hvv : ∀ E, I9 ≤ E ∧ E < I9 + N_513 → ∃ v, v < 6 ∧ f_515 E = nI v := fun E hE => by obtain ⟨v9, h91, h92⟩ := i0_517 (E - I9) (by omega); rw [show I9 + (E - I9) = E by omega] at h92; exact ⟨v9, by omega, h92⟩
            refine lv_aload_n hx hb dX11_keepWord_80 rfl (lv_at hl 3 rfl) ?_
            refine hp_get hx hb hts ix11 hown hK hh (q := 0) rfl (hI.1 _ (by decide)) es509 rfl 6 (by decide) (hts _ tw_251) (fun _ h9 => h9) rfl dX11_keepWord_81 ?_
            refine lv_bipush (v := 10) hx hb dX11_keepWord_84 (by decide) ?_
            refine lv_icmp_lt (tgt := 92) hx hb dX11_keepWord_86 (by decide) (fun c_519 => ?_) (fun c_519 => ?_)
            · have n_519 : wc_509 < 10 := n_lt (a := wc_509) (b := 10) c_519 (by omega) (by decide)
              refine lv_aload_n hx hb dX11_keepWord_92 rfl (lv_at hl 3 rfl) ?_
              refine hp_get hx hb hts ix11 hown hK hh (q := 0) rfl (hI.1 _ (by decide)) es509 rfl 3 (by decide) (hts _ tw_248) (fun _ h9 => h9) rfl dX11_keepWord_93 ?_
              refine lv_aload_n hx hb dX11_keepWord_96 rfl (lv_at hl 3 rfl) ?_
              refine hp_get hx hb hts ix11 hown hK hh (q := 0) rfl (hI.1 _ (by decide)) es509 rfl 6 (by decide) (hts _ tw_251) (fun _ h9 => h9) rfl dX11_keepWord_97 ?_
              have es520 := get_wos hI
              unfold P_wos at es520
              refine hp_aald hx hb hK hh (q := 74) rfl (hI.1 _ (by decide)) 5 es520 rfl rfl (vp_in_nI (n := wc_509) (by omega) (by decide)) (v := .ref (ad (77 + 3 * wc_509))) (by rw [nI_clamp (n := wc_509) (by omega)]; rfl) dX11_keepWord_100 ?_
              refine lv_astore (lv' := [(7, .ref (ad (77 + 3 * wc_509))), (6, .ref (ad (108 + 2 * K9))), (5, .int r_511), (0, .ref (ad 0)), (1, .int (nI K9)), (2, .int la), (3, .int (nI I9)), (4, .int (nI N_513))]) hx hb dX11_keepWord_101 hl (by decide) rfl (fun ls hl => ?_)
              refine lv_aload hx hb dX11_keepWord_103 (lv_at hl 0 rfl) ?_
              obtain ⟨lc_521, es521, p0_521⟩ := get_wo hI (j := wc_509) (by omega)
              refine hp_callMv (va_runV (As := []) (rest := []) ⟨hx, hb, hml, hown, hts⟩ (c_X10_clear l D cy _ cs ad en hI wc_509 (by omega)  ) (kw_X10_clear hts tw_681 ⟨by decide, by decide⟩) (preV_of hh hK (hI.1 _ (by omega)) es521 rfl) rfl rfl hl.1 rfl (lv_room (Nat.le_of_ble_eq_true rfl)) dX11_keepWord_105 ⟨Nat.le_of_ble_eq_true rfl, Nat.le_of_ble_eq_true rfl⟩) hh hA (fun H locs en_522 hw_522 hh => ?_)
              obtain ⟨hI_522, hu_522, hx_522⟩ := hw_522
              have hf_522 : ∀ c, (0 < c ∧ c ≠ 11 ∧ (c < 77 ∨ 107 ≤ c)) → en_522 c = en c := fun c hc => (hu_522 c (by omega)).trans (hf0 c hc)
              refine lv_iconst (v := 0) hx hb dX11_keepWord_108 (by decide) ?_
              refine lv_istore (lv' := [(8, .int 0), (7, .ref (ad (77 + 3 * wc_509))), (6, .ref (ad (108 + 2 * K9))), (5, .int r_511), (0, .ref (ad 0)), (1, .int (nI K9)), (2, .int la), (3, .int (nI I9)), (4, .int (nI N_513))]) hx hb dX11_keepWord_109 hl (by decide) rfl (fun ls hl => ?_)
              have loop_523 : ∀ (fu j523 : Nat)  (en_523 : Nat → va_E) (ls : Array Slot) (H : Heap) (locs : List Loc), 0 ≤ j523 → j523 ≤ N_513 → N_513 < j523 + fu → SX cy cs ad en_523 → (∀ c, (0 < c ∧ c ≠ 11 ∧ (c < 77 ∨ 107 ≤ c)) → en_523 c = en c) → ((∀ c, c ≠ 77 + 3 * wc_509 → c ≠ 78 + 3 * wc_509 → en_523 c = en_522 c) ∧ rdI (en_523 (77 + 3 * wc_509)) 2 = nI (0 + j523) ∧ (∀ x, x < j523 → rdF (en_523 (78 + 3 * wc_509)) x = rdF (en (108 + 2 * K9)) (I9 + x))) → lv_has ls 9 [(8, .int (nI j523)), (7, .ref (ad (77 + 3 * wc_509))), (6, .ref (ad (108 + 2 * K9))), (5, .int r_511), (0, .ref (ad 0)), (1, .int (nI K9)), (2, .int la), (3, .int (nI I9)), (4, .int (nI N_513))] → Hp D (Af cs ad sz) (Af cs ad sz) s.heap H locs cs ad en_523 → W p l e (headSpec (Cond.code yX11_keepWord cX11_keepWord 9 (some .int) :: TB) (rmN 4)).room s m ([.ref (ad 0), .int (nI K9), .int la, .int (nI I9), .int (nI N_513)] : List Value).toArray below meth c H locs 0 0 (MQ below (va_Qi (S := Nat → va_E) (fun r en1 => SX cy cs ad en1 ∧ (∀ c, (0 < c ∧ c ≠ 11 ∧ (c < 77 ∨ 107 ≤ c)) → en1 c = en c) ∧ (en1 = en ∨ ∃ (wc N : Nat) (g : Nat → Int32), r = nI wc ∧ rdI (en 0) 6 = nI wc ∧ wc < 10 ∧ 1 ≤ N ∧ N ≤ 12 ∧ KW en en1 wc N g)) (PostM D cs ad) (Af cs ad sz)) ([.ref (ad 0), .int (nI K9), .int la, .int (nI I9), .int (nI N_513)] : List Value).toArray s 0 0 (Af cs ad sz)) (F0 m 111 ls []) := by
                intro fu
                induction fu with
                | zero => intro j523  en_523 ls H locs h0 h1 h2; exact absurd h2 (by omega)
                | succ fu ih_523 =>
                  intro j523  en_523 ls H locs hj0_523 hj_523 hfu_523 hI_523 hf_523 i0_523 hl hh
                  have e0_523 : en_523 0 = .inr (10, [.ref (ad 1), .ref (ad 12), .ref (ad 70), .ref (ad 74), .ref (ad 75), .ref (ad 76), .int (nI wc_509), .int lf_509]) := (i0_523.1 0 (by omega) (by omega)).trans ((hu_522 0 (by omega)).trans es509)
                  refine lv_iload hx hb dX11_keepWord_111 (lv_at hl 0 rfl) ?_
                  refine lv_iload hx hb dX11_keepWord_113 (lv_at hl 8 rfl) ?_
                  refine lv_icmp_ge (tgt := 136) hx hb dX11_keepWord_115 (by decide) (fun c_524 => ?_) (fun c_524 => ?_)
                  · have n_524 : N_513 ≤ j523 := n_le (a := N_513) (b := j523) c_524 (by omega) (by omega)
                    refine lv_aload_n hx hb dX11_keepWord_136 rfl (lv_at hl 4 rfl) ?_
                    have hj9 : j523 = N_513 := by omega
                    refine hp_callMi (va_runV (As := []) (rest := []) ⟨hx, hb, hml, hown, hts⟩ (c_X11_finishWord l D cy _ cs ad en_523 hI_523 wc_509 (by omega) (by rw [e0_523]; rfl) (by rw [i0_523.2.1, nI_toInt (by omega)]; omega)) (kw_X11_finishWord hts tw_689 ⟨by decide, by decide⟩) (preV_of hh hK (hI.1 _ (by decide)) e0_523 rfl) rfl rfl hl.1 rfl (lv_room (Nat.le_of_ble_eq_true rfl)) dX11_keepWord_137 ⟨Nat.le_of_ble_eq_true rfl, Nat.le_of_ble_eq_true rfl⟩) hh hA (fun r_525 H locs en_525 hw_525 hh => ?_)
                    obtain ⟨hI_525, hu_525, hx_525⟩ := hw_525
                    have hf_525 : ∀ c, (0 < c ∧ c ≠ 11 ∧ (c < 77 ∨ 107 ≤ c)) → en_525 c = en c := fun c hc => (hu_525 c (by omega)).trans (hf_523 c hc)
                    exact hp_iretM hx hb hr rfl hlocks hh (⟨hI_525, hf_525, Or.inr ⟨wc_509, N_513, (fun x => rdF (en (108 + 2 * K9)) (I9 + x)), hx_525.1, (by rw [es509]; rfl), by omega, by omega, by omega, hx_525.2, (by rw [hu_525 _ (by omega), i0_523.2.1]; exact congrArg nI (by omega)), (fun x hx9 => by rw [hu_525 _ (by omega)]; exact i0_523.2.2 x (by omega)), (fun c h1 h2 h3 h4 h5 => (hu_525 c (by omega)).trans ((i0_523.1 c h3 h4).trans (hu_522 c (by omega))))⟩⟩) dX11_keepWord_140
                  · have n_524 : j523 < N_513 := n_nle (a := N_513) (b := j523) c_524 (by omega) (by omega)
                    refine lv_aload hx hb dX11_keepWord_118 (lv_at hl 1 rfl) ?_
                    refine lv_aload hx hb dX11_keepWord_120 (lv_at hl 2 rfl) ?_
                    refine lv_iload_n hx hb dX11_keepWord_122 rfl (lv_at hl 7 rfl) ?_
                    refine lv_iload hx hb dX11_keepWord_123 (lv_at hl 0 rfl) ?_
                    refine lv_iadd hx hb dX11_keepWord_125 ?_
                    rw [nI_add I9 j523]
                    have es515_526 : en_523 (108 + 2 * K9) = .inl (cy 0, 40, .inl f_515) := (hf_523 (108 + 2 * K9) (by omega)).trans es515
                    refine hp_iald hx hb hK hh (q := (108 + 2 * K9)) rfl (hI.1 _ (by omega)) es515_526 (vp_in_nI (n := (I9 + j523)) (by omega) (by decide)) dX11_keepWord_126 ?_
                    rw [nI_clamp (n := (I9 + j523)) (by omega)]
                    obtain ⟨v_527, hv_527, hfv_527⟩ := hvv (I9 + j523) (by omega)
                    rw [hfv_527]
                    obtain ⟨lc_528, es528, p0_528⟩ := get_wo hI_523 (j := wc_509) (by omega)
                    refine hp_callMv (va_runV (As := [.int (nI v_527)]) (rest := []) ⟨hx, hb, hml, hown, hts⟩ (c_X10_append l D cy _ cs ad en_523 hI_523 wc_509 (by omega) v_527 (0 + j523) (by omega) (by omega) i0_523.2.1) (kw_X10_append hts tw_685 ⟨by decide, by decide⟩) (preV_of hh hK (hI.1 _ (by omega)) es528 rfl) rfl rfl hl.1 rfl (lv_room (Nat.le_of_ble_eq_true rfl)) dX11_keepWord_127 ⟨Nat.le_of_ble_eq_true rfl, Nat.le_of_ble_eq_true rfl⟩) hh hA (fun H locs en_529 hw_529 hh => ?_)
                    obtain ⟨hI_529, hu_529, hx_529⟩ := hw_529
                    have hf_529 : ∀ c, (0 < c ∧ c ≠ 11 ∧ (c < 77 ∨ 107 ≤ c)) → en_529 c = en c := fun c hc => (hu_529 c (by omega)).trans (hf_523 c hc)
                    refine lv_iinc (v := (nI (j523 + 1))) (lv' := [(8, .int (nI (j523 + 1))), (7, .ref (ad (77 + 3 * wc_509))), (6, .ref (ad (108 + 2 * K9))), (5, .int r_511), (0, .ref (ad 0)), (1, .int (nI K9)), (2, .int la), (3, .int (nI I9)), (4, .int (nI N_513))]) hx hb dX11_keepWord_130 hl (k := 0) rfl (nI_1 _) (by decide) rfl (fun ls hl => ?_)
                    refine lv_goto (tgt := 111) hx hb dX11_keepWord_133 (by decide) ?_
                    exact ih_523 ((j523 + 1))  en_529 ls H locs (by omega) (by omega) (by omega) hI_529 hf_529 (⟨fun c h1 h2 => (hu_529 c ⟨h1, h2⟩).trans (i0_523.1 c h1 h2), hx_529.1, fun x hx9 => by rw [hx_529.2]; by_cases e : x = j523; rw [e, if_pos (by omega), show rdF (en (108 + 2 * K9)) = f_515 from by rw [es515]; rfl, hfv_527]; rw [if_neg (by omega)]; exact i0_523.2.2 x (by omega)⟩) (lv_sub hl [0, 1, 2, 3, 4, 5, 6, 7, 8] rfl) hh
              exact loop_523 (N_513 + 1) 0  en_522 ls _ _ (Nat.le_refl _) (by omega) (by omega) hI_522 hf_522 (⟨fun _ _ _ => rfl, hx_522, fun x h => absurd h (Nat.not_lt_zero x)⟩) (lv_sub hl [0, 1, 2, 3, 4, 5, 6, 7, 8] rfl) hh
            · have n_519 : 10 ≤ wc_509 := n_nlt (a := wc_509) (b := 10) c_519 (by omega) (by decide)
              refine lv_bipush (v := (-4)) hx hb dX11_keepWord_89 (by decide) ?_
              exact hp_iretM hx hb hr rfl hlocks hh (⟨hI, hf0, Or.inl rfl⟩) dX11_keepWord_91
          · have n_518 : j517 < N_513 := n_nle (a := N_513) (b := j517) c_518 (by omega) (by omega)
            refine lv_aload_n hx hb dX11_keepWord_55 rfl (lv_at hl 3 rfl) ?_
            refine hp_get hx hb hts ix11 hown hK hh (q := 0) rfl (hI.1 _ (by decide)) es509 rfl 0 (by decide) (hts _ tw_245) (fun _ h9 => h9) rfl dX11_keepWord_56 ?_
            refine lv_aload hx hb dX11_keepWord_59 (lv_at hl 1 rfl) ?_
            refine lv_iload_n hx hb dX11_keepWord_61 rfl (lv_at hl 6 rfl) ?_
            refine lv_iload hx hb dX11_keepWord_62 (lv_at hl 0 rfl) ?_
            refine lv_iadd hx hb dX11_keepWord_64 ?_
            rw [nI_add I9 j517]
            refine hp_iald hx hb hK hh (q := (108 + 2 * K9)) rfl (hI.1 _ (by omega)) es515 (vp_in_nI (n := (I9 + j517)) (by omega) (by decide)) dX11_keepWord_65 ?_
            rw [nI_clamp (n := (I9 + j517)) (by omega)]
            refine hp_callRi (va_runV (As := [.int (f_515 (I9 + j517))]) (rest := []) ⟨hx, hb, hml, hown, hts⟩ (c_X8_has l D cy _ cs ad en (hI.1 _ (by decide)) cnt d mm hcnt hd2 hd3 hmm (f_515 (I9 + j517)) es510) (kw_X8_has hts tw_412 ⟨by decide, by decide⟩) (preV_of hh hK (hI.1 _ (by decide)) es510 rfl) rfl rfl hl.1 rfl (lv_room (Nat.le_of_ble_eq_true rfl)) dX11_keepWord_66 ⟨Nat.le_of_ble_eq_true rfl, Nat.le_of_ble_eq_true rfl⟩) hh hA (fun r_530 H locs hw_530 hh => ?_)
            rcases Decidable.em (0 ≤ (f_515 (I9 + j517)).toInt ∧ (f_515 (I9 + j517)).toInt < (cnt : Int)) with hp_530 | hp_530
            · obtain rfl : r_530 = 1 := Eq.trans hw_530 (if_pos hp_530)
              refine lv_if_ne (tgt := 74) hx hb dX11_keepWord_69 (by decide) (fun _ => ?_) (fun c_0 => absurd c_0 (by decide))
              refine lv_iinc (v := (nI (j517 + 1))) (lv' := [(7, .int (nI (j517 + 1))), (6, .ref (ad (108 + 2 * K9))), (5, .int r_511), (0, .ref (ad 0)), (1, .int (nI K9)), (2, .int la), (3, .int (nI I9)), (4, .int (nI N_513))]) hx hb dX11_keepWord_74 hl (k := 0) rfl (nI_1 _) (by decide) rfl (fun ls hl => ?_)
              refine lv_goto (tgt := 48) hx hb dX11_keepWord_77 (by decide) ?_
              exact ih_517 ((j517 + 1))  ls H locs (by omega) (by omega) (by omega) (fun x hx9 => by by_cases e : x = j517; rw [e]; obtain ⟨v9, h91, h92⟩ := has_nat hp_530; exact ⟨v9, h92, h91⟩; exact i0_517 x (by omega)) (lv_sub hl [0, 1, 2, 3, 4, 5, 6, 7] rfl) hh
            · obtain rfl : r_530 = 0 := Eq.trans hw_530 (if_neg hp_530)
              refine lv_if_ne (tgt := 74) hx hb dX11_keepWord_69 (by decide) (fun c_0 => absurd c_0 (by decide)) (fun _ => ?_)
              refine lv_iconst (v := (-1)) hx hb dX11_keepWord_72 (by decide) ?_
              exact hp_iretM hx hb hr rfl hlocks hh (⟨hI, hf0, Or.inl rfl⟩) dX11_keepWord_73
      exact loop_517 (N_513 + 1) 0  ls _ _ (Nat.le_refl _) (by omega) (by omega) (fun x h => absurd h (Nat.not_lt_zero x)) (lv_sub hl [0, 1, 2, 3, 4, 5, 6, 7] rfl) hh
    · obtain rfl : r_513 = 0 := Eq.trans hw_513 (if_neg hp_513)
      refine lv_if_ne (tgt := 34) hx hb dX11_keepWord_28 (by decide) (fun c_0 => absurd c_0 (by decide)) (fun _ => ?_)
      refine lv_bipush (v := (-2)) hx hb dX11_keepWord_31 (by decide) ?_
      exact hp_iretM hx hb hr rfl hlocks hh (⟨hI, hf0, Or.inl rfl⟩) dX11_keepWord_33
  · refine lv_iload hx hb dX11_keepWord_17 (lv_at hl 0 rfl) ?_
    exact hp_iretM hx hb hr rfl hlocks hh (⟨hI, hf0, Or.inl rfl⟩) dX11_keepWord_19
theorem kw_X11_keepWord {R : Room} {s : State} {args : Array Value} {own : String} {idx : Nat} (hts : ∀ w ∈ TB, w.before args s = true) (hl : Cond.methodLink own idx yX11_keepWord ∈ TB) (hR : 4 + 1 ≤ R.frames ∧ 8 + (9 + 11) + 40 * 4 ≤ R.locals) : CallW R s args own RX11 idx yX11_keepWord cX11_keepWord 9 (some .int) (Cond.code yX11_keepWord cX11_keepWord 9 (some .int) :: TB) (rmN 4) 0 0 4 := cwV 4 hts (TB_V hl tw_679 ts_24 tw_1 tw_680) rfl rfl rfl (by decide +kernel) hR
