set_option maxHeartbeats 4000000 in
set_option maxRecDepth 100000 in
/-- keepWord -/
theorem c_X11_keepWord (l : Launch) (D : va_G) (cy : Nat → ClassId) (sz : Nat) (cs : List Nat) (ad : Nat → Nat) (en : Nat → va_E) (hI : SX cy cs ad en) (k la i n : Int32)   : Met l yX11_keepWord (Cond.code yX11_keepWord cX11_keepWord 9 (some .int) :: TB) (rmN 4) (va_Pc [.ref (ad 0), .int k, .int la, .int i, .int n] (Pre D cy cs ad en sz)) (va_Qi (S := Nat → va_E) (fun r en1 => SX cy cs ad en1 ∧ (∀ c, (0 < c ∧ c ≠ 11 ∧ (c < 77 ∨ 107 ≤ c)) → en1 c = en c) ∧ KWK (okW k la i n en) n.toNatClampNeg (fun x => rdF (en (108 + 2 * k.toNatClampNeg)) (i.toNatClampNeg + x)) r en en1) (PostM D cs ad) (Af cs ad sz)) 0 0 (Af cs ad sz) := by
  refine Met.ofW (cc := cX11_keepWord) (maxL := 9) (ret := (some .int)) (by decide) rfl ?_
  intro p e s m args below meth c s₁ B hml hv
  obtain ⟨rfl, hsz, hP, hK, hD0⟩ := hv
  have hx := B.exec
  have hb := B.bytes
  have hr := B.returns
  have hts : ∀ w ∈ TB, w.before _ s = true := fun w h => atoms_spec (ws := _ :: TB) B.pre w (List.mem_cons_of_mem _ h)
  have hown : s.vm.findClass RX11 = some m.cls := findClass_of_methodNamed B.named
  have hlocks := B.notSynchronized
  have hh : Hp D (Af cs ad sz) (Af cs ad sz) s.heap s.heap [] cs ad en := ⟨hP, Af_self hD0, va_S.rf⟩
  have hA : ∀ q : Nat, s.heap.size ≤ q → Af cs ad sz q := fun q h => Or.inr (by rw [hsz] at h; exact h)
  have hl := lv_entry ([.ref (ad 0), .int k, .int la, .int i, .int n]) (n := 9) (Nat.le_of_ble_eq_true rfl)
  rw [lg_entry_eq]
  generalize (lg_sl ([.ref (ad 0), .int k, .int la, .int i, .int n]) ++ List.replicate (9 - (lg_sl ([.ref (ad 0), .int k, .int la, .int i, .int n])).length) Slot.unset).toArray = ls at hl ⊢
  have hl : lv_has ls 9 [(0, .ref (ad 0)), (1, .int k), (2, .int la), (3, .int i), (4, .int n)] := hl
  have hf0 : ∀ c, (0 < c ∧ c ≠ 11 ∧ (c < 77 ∨ 107 ≤ c)) → en c = en c := fun _ _ => rfl
  obtain ⟨wc_509, lf_509, es509, p0_509⟩ := get_A hI
  obtain ⟨cnt, d, mm, es510, hcnt, hd2, hd3, hmm⟩ := get_T hI
  refine lv_aload_n hx hb dX11_keepWord_0 rfl (lv_at hl 0 rfl) ?_
  refine lv_iload_n hx hb dX11_keepWord_1 rfl (lv_at hl 1 rfl) ?_
  refine lv_iload_n hx hb dX11_keepWord_2 rfl (lv_at hl 2 rfl) ?_
  refine lv_iload_n hx hb dX11_keepWord_3 rfl (lv_at hl 3 rfl) ?_
  refine lv_iload hx hb dX11_keepWord_4 (lv_at hl 4 rfl) ?_
  refine hp_callRi (va_runV (As := [.int k, .int la, .int i, .int n]) (rest := []) ⟨hx, hb, hml, hown, hts⟩ (c_X11_lookAtCells l D cy _ cs ad en hI k la i n) (kw_X11_lookAtCells hts tw_301 ⟨by decide, by decide⟩) (preV_of hh hK (hI.1 _ (by decide)) es509 rfl) rfl rfl hl.1 rfl (lv_room (Nat.le_of_ble_eq_true rfl)) dX11_keepWord_6 ⟨Nat.le_of_ble_eq_true rfl, Nat.le_of_ble_eq_true rfl⟩) hh hA (fun r_511 H locs hw_511 hh => ?_)
  refine lv_istore (lv' := [(5, .int r_511), (0, .ref (ad 0)), (1, .int k), (2, .int la), (3, .int i), (4, .int n)]) hx hb dX11_keepWord_9 hl (by decide) rfl (fun ls hl => ?_)
  refine lv_iload hx hb dX11_keepWord_11 (lv_at hl 0 rfl) ?_
  refine lv_iconst (v := 1) hx hb dX11_keepWord_13 (by decide) ?_
  refine lv_icmp_eq (tgt := 20) hx hb dX11_keepWord_14 (by decide) (fun c_512 => ?_) (fun c_512 => ?_)
  · obtain ⟨hw1, -, -, -, hw5⟩ := lookF_1 (hw_511.symm.trans c_512)
    obtain ⟨K9, rfl, -, hK9⟩ := wi_natB hw1 0 3 (by decide) (by decide)
    refine lv_iload hx hb dX11_keepWord_20 (lv_at hl 5 rfl) ?_
    refine lv_iconst (v := 1) hx hb dX11_keepWord_22 (by decide) ?_
    refine lv_bipush (v := 12) hx hb dX11_keepWord_23 (by decide) ?_
    refine hp_callRi (va_runS (As := [.int n, .int 1, .int 12]) (rest := []) ⟨hx, hb, hml, hown, hts⟩ (c_X11_isWithin l D cy _ cs ad en n 1 12) (kw_X11_isWithin hts tw_274 ⟨by decide, by decide⟩) (preS_of hh hK) rfl rfl hl.1 rfl (lv_room (Nat.le_of_ble_eq_true rfl)) dX11_keepWord_25 ⟨Nat.le_of_ble_eq_true rfl, Nat.le_of_ble_eq_true rfl⟩) hh hA (fun r_513 H locs hw_513 hh => ?_)
    rcases Decidable.em (wi n 1 12) with hp_513 | hp_513
    · obtain rfl : r_513 = 1 := Eq.trans hw_513 (if_pos hp_513)
      obtain ⟨N_513, rfl, hA_513, hB_513⟩ := wi_natB hp_513 1 12 (by decide) (by decide)
      refine lv_if_ne (tgt := 34) hx hb dX11_keepWord_28 (by decide) (fun _ => ?_) (fun c_0 => absurd c_0 (by decide))
      obtain ⟨sc_514, sl_514, sr_514, es514, p0_514, p1_514⟩ := get_sh hI (j := K9) (by omega)
      obtain ⟨f_515, es515⟩ := get_shc hI (j := K9) (by omega)
      rw [nI_clamp (n := K9) (by omega), nI_clamp (n := N_513) (by omega), show rdI (en (107 + 2 * K9)) 1 = nI sc_514 from by rw [es514]; rfl] at hw5
      obtain ⟨I9, rfl, hI9⟩ := hcP_nat (by omega) hw5 (by omega)
      refine lv_aload_n hx hb dX11_keepWord_34 rfl (lv_at hl 1 rfl) ?_
      refine hp_get hx hb hts ix11 hown hK hh (q := 0) rfl (hI.1 _ (by decide)) es509 rfl 4 (by decide) (hts _ tw_249) (fun _ h9 => h9) rfl dX11_keepWord_35 ?_
      refine lv_iload_n hx hb dX11_keepWord_38 rfl (lv_at hl 2 rfl) ?_
      have es516 := get_shs hI
      unfold P_shs at es516
      refine hp_aald hx hb hK hh (q := 75) rfl (hI.1 _ (by decide)) 6 es516 rfl rfl (vp_in_nI (n := K9) (by omega) (by decide)) (v := .ref (ad (107 + 2 * K9))) (by rw [nI_clamp (n := K9) (by omega)]; exact rfB_v (by omega)) dX11_keepWord_39 ?_
      refine hp_get hx hb hts ix3 hown hK hh (q := (107 + 2 * K9)) rfl (hI.1 _ (by omega)) es514 rfl 0 (by decide) (hts _ tw_230) (fun _ h9 => h9) rfl dX11_keepWord_40 ?_
      refine lv_astore (lv' := [(6, .ref (ad (108 + 2 * K9))), (5, .int r_511), (0, .ref (ad 0)), (1, .int (nI K9)), (2, .int la), (3, .int (nI I9)), (4, .int (nI N_513))]) hx hb dX11_keepWord_43 hl (by decide) rfl (fun ls hl => ?_)
      refine lv_iconst (v := 0) hx hb dX11_keepWord_45 (by decide) ?_
      refine lv_istore (lv' := [(7, .int 0), (6, .ref (ad (108 + 2 * K9))), (5, .int r_511), (0, .ref (ad 0)), (1, .int (nI K9)), (2, .int la), (3, .int (nI I9)), (4, .int (nI N_513))]) hx hb dX11_keepWord_46 hl (by decide) rfl (fun ls hl => ?_)
      have loop_517 : ∀ (fu j517 : Nat)   (ls : Array Slot) (H : Heap) (locs : List Loc), 0 ≤ j517 → j517 ≤ N_513 → N_513 < j517 + fu →  (∀ x, x < j517 → ∃ v, v < cnt ∧ f_515 (I9 + x) = nI v) → lv_has ls 9 [(7, .int (nI j517)), (6, .ref (ad (108 + 2 * K9))), (5, .int r_511), (0, .ref (ad 0)), (1, .int (nI K9)), (2, .int la), (3, .int (nI I9)), (4, .int (nI N_513))] → Hp D (Af cs ad sz) (Af cs ad sz) s.heap H locs cs ad en → W p l e (headSpec (Cond.code yX11_keepWord cX11_keepWord 9 (some .int) :: TB) (rmN 4)).room s m ([.ref (ad 0), .int (nI K9), .int la, .int (nI I9), .int (nI N_513)] : List Value).toArray below meth c H locs 0 0 (MQ below (va_Qi (S := Nat → va_E) (fun r en1 => SX cy cs ad en1 ∧ (∀ c, (0 < c ∧ c ≠ 11 ∧ (c < 77 ∨ 107 ≤ c)) → en1 c = en c) ∧ KWK (okW (nI K9) la (nI I9) (nI N_513) en) (nI N_513).toNatClampNeg (fun x => rdF (en (108 + 2 * (nI K9).toNatClampNeg)) ((nI I9).toNatClampNeg + x)) r en en1) (PostM D cs ad) (Af cs ad sz)) ([.ref (ad 0), .int (nI K9), .int la, .int (nI I9), .int (nI N_513)] : List Value).toArray s 0 0 (Af cs ad sz)) (F0 m 48 ls []) := by
        intro fu
        induction fu with
        | zero => intro j517  ls H locs h0 h1 h2; exact absurd h2 (by omega)
        | succ fu ih_517 =>
          intro j517  ls H locs hj0_517 hj_517 hfu_517 i0_517 hl hh
          refine lv_iload hx hb dX11_keepWord_48 (lv_at hl 0 rfl) ?_
          refine lv_iload hx hb dX11_keepWord_50 (lv_at hl 7 rfl) ?_
          refine lv_icmp_ge (tgt := 80) hx hb dX11_keepWord_52 (by decide) (fun c_518 => ?_) (fun c_518 => ?_)
          · have n_518 : N_513 ≤ j517 := n_le (a := N_513) (b := j517) c_518 (by omega) (by omega)
            have hvv : ∀ E, I9 ≤ E ∧ E < I9 + N_513 → ∃ v, v < 6 ∧ f_515 E = nI v := fun E hE => by obtain ⟨v9, h91, h92⟩ := i0_517 (E - I9) (by omega); rw [show I9 + (E - I9) = E by omega] at h92; exact ⟨v9, by omega, h92⟩
            refine lv_aload_n hx hb dX11_keepWord_80 rfl (lv_at hl 3 rfl) ?_
            refine hp_get hx hb hts ix11 hown hK hh (q := 0) rfl (hI.1 _ (by decide)) es509 rfl 6 (by decide) (hts _ tw_251) (fun _ h9 => h9) rfl dX11_keepWord_81 ?_
            refine lv_bipush (v := 10) hx hb dX11_keepWord_84 (by decide) ?_
            refine lv_icmp_lt (tgt := 92) hx hb dX11_keepWord_86 (by decide) (fun c_519 => ?_) (fun c_519 => ?_)
            · have n_519 : wc_509 < 10 := n_lt (a := wc_509) (b := 10) c_519 (by omega) (by decide)
              refine lv_aload_n hx hb dX11_keepWord_92 rfl (lv_at hl 3 rfl) ?_
              refine hp_get hx hb hts ix11 hown hK hh (q := 0) rfl (hI.1 _ (by decide)) es509 rfl 3 (by decide) (hts _ tw_248) (fun _ h9 => h9) rfl dX11_keepWord_93 ?_
              refine lv_aload_n hx hb dX11_keepWord_96 rfl (lv_at hl 3 rfl) ?_
              refine hp_get hx hb hts ix11 hown hK hh (q := 0) rfl (hI.1 _ (by decide)) es509 rfl 6 (by decide) (hts _ tw_251) (fun _ h9 => h9) rfl dX11_keepWord_97 ?_
              have es520 := get_wos hI
              unfold P_wos at es520
              refine hp_aald hx hb hK hh (q := 74) rfl (hI.1 _ (by decide)) 5 es520 rfl rfl (vp_in_nI (n := wc_509) (by omega) (by decide)) (v := .ref (ad (77 + 3 * wc_509))) (by rw [nI_clamp (n := wc_509) (by omega)]; exact rfB_v (by omega)) dX11_keepWord_100 ?_
              refine lv_astore (lv' := [(7, .ref (ad (77 + 3 * wc_509))), (6, .ref (ad (108 + 2 * K9))), (5, .int r_511), (0, .ref (ad 0)), (1, .int (nI K9)), (2, .int la), (3, .int (nI I9)), (4, .int (nI N_513))]) hx hb dX11_keepWord_101 hl (by decide) rfl (fun ls hl => ?_)
              refine lv_aload hx hb dX11_keepWord_103 (lv_at hl 0 rfl) ?_
              obtain ⟨lc_521, es521, p0_521⟩ := get_wo hI (j := wc_509) (by omega)
              refine hp_callMv (va_runV (As := []) (rest := []) ⟨hx, hb, hml, hown, hts⟩ (c_X10_clear l D cy _ cs ad en hI wc_509 (by omega)  ) (kw_X10_clear hts tw_681 ⟨by decide, by decide⟩) (preV_of hh hK (hI.1 _ (by omega)) es521 rfl) rfl rfl hl.1 rfl (lv_room (Nat.le_of_ble_eq_true rfl)) dX11_keepWord_105 ⟨Nat.le_of_ble_eq_true rfl, Nat.le_of_ble_eq_true rfl⟩) hh hA (fun H locs en_522 hw_522 hh => ?_)
              obtain ⟨hI_522, hu_522, hx_522⟩ := hw_522
              have hf_522 : ∀ c, (0 < c ∧ c ≠ 11 ∧ (c < 77 ∨ 107 ≤ c)) → en_522 c = en c := fun c hc => (hu_522 c (by omega)).trans (hf0 c hc)
              refine lv_iconst (v := 0) hx hb dX11_keepWord_108 (by decide) ?_
              refine lv_istore (lv' := [(8, .int 0), (7, .ref (ad (77 + 3 * wc_509))), (6, .ref (ad (108 + 2 * K9))), (5, .int r_511), (0, .ref (ad 0)), (1, .int (nI K9)), (2, .int la), (3, .int (nI I9)), (4, .int (nI N_513))]) hx hb dX11_keepWord_109 hl (by decide) rfl (fun ls hl => ?_)
              have loop_523 : ∀ (fu j523 : Nat)  (en_523 : Nat → va_E) (ls : Array Slot) (H : Heap) (locs : List Loc), 0 ≤ j523 → j523 ≤ N_513 → N_513 < j523 + fu → SX cy cs ad en_523 → (∀ c, (0 < c ∧ c ≠ 11 ∧ (c < 77 ∨ 107 ≤ c)) → en_523 c = en c) → ((∀ c, c ≠ 77 + 3 * wc_509 → c ≠ 78 + 3 * wc_509 → en_523 c = en_522 c) ∧ rdI (en_523 (77 + 3 * wc_509)) 2 = nI (0 + j523) ∧ (∀ x, x < j523 → rdF (en_523 (78 + 3 * wc_509)) x = rdF (en (108 + 2 * K9)) (I9 + x))) → lv_has ls 9 [(8, .int (nI j523)), (7, .ref (ad (77 + 3 * wc_509))), (6, .ref (ad (108 + 2 * K9))), (5, .int r_511), (0, .ref (ad 0)), (1, .int (nI K9)), (2, .int la), (3, .int (nI I9)), (4, .int (nI N_513))] → Hp D (Af cs ad sz) (Af cs ad sz) s.heap H locs cs ad en_523 → W p l e (headSpec (Cond.code yX11_keepWord cX11_keepWord 9 (some .int) :: TB) (rmN 4)).room s m ([.ref (ad 0), .int (nI K9), .int la, .int (nI I9), .int (nI N_513)] : List Value).toArray below meth c H locs 0 0 (MQ below (va_Qi (S := Nat → va_E) (fun r en1 => SX cy cs ad en1 ∧ (∀ c, (0 < c ∧ c ≠ 11 ∧ (c < 77 ∨ 107 ≤ c)) → en1 c = en c) ∧ KWK (okW (nI K9) la (nI I9) (nI N_513) en) (nI N_513).toNatClampNeg (fun x => rdF (en (108 + 2 * (nI K9).toNatClampNeg)) ((nI I9).toNatClampNeg + x)) r en en1) (PostM D cs ad) (Af cs ad sz)) ([.ref (ad 0), .int (nI K9), .int la, .int (nI I9), .int (nI N_513)] : List Value).toArray s 0 0 (Af cs ad sz)) (F0 m 111 ls []) := by
                intro fu
                induction fu with
                | zero => intro j523  en_523 ls H locs h0 h1 h2; exact absurd h2 (by omega)
                | succ fu ih_523 =>
                  intro j523  en_523 ls H locs hj0_523 hj_523 hfu_523 hI_523 hf_523 i0_523 hl hh
                  have e0_523 : en_523 0 = .inr (10, [.ref (ad 1), .ref (ad 12), .ref (ad 70), .ref (ad 74), .ref (ad 75), .ref (ad 76), .int (nI wc_509), .int lf_509]) := (i0_523.1 0 (by omega) (by omega)).trans ((hu_522 0 (by omega)).trans es509)
                  refine lv_iload hx hb dX11_keepWord_111 (lv_at hl 0 rfl) ?_
                  refine lv_iload hx hb dX11_keepWord_113 (lv_at hl 8 rfl) ?_
                  refine lv_icmp_ge (tgt := 136) hx hb dX11_keepWord_115 (by decide) (fun c_524 => ?_) (fun c_524 => ?_)
                  · have n_524 : N_513 ≤ j523 := n_le (a := N_513) (b := j523) c_524 (by omega) (by omega)
                    refine lv_aload_n hx hb dX11_keepWord_136 rfl (lv_at hl 4 rfl) ?_
                    have hj9 : j523 = N_513 := by omega
                    refine hp_callMi (va_runV (As := []) (rest := []) ⟨hx, hb, hml, hown, hts⟩ (c_X11_finishWord l D cy _ cs ad en_523 hI_523 wc_509 (by omega) (by rw [e0_523]; rfl) (by rw [i0_523.2.1, nI_toInt (by omega)]; omega)) (kw_X11_finishWord hts tw_689 ⟨by decide, by decide⟩) (preV_of hh hK (hI.1 _ (by decide)) e0_523 rfl) rfl rfl hl.1 rfl (lv_room (Nat.le_of_ble_eq_true rfl)) dX11_keepWord_137 ⟨Nat.le_of_ble_eq_true rfl, Nat.le_of_ble_eq_true rfl⟩) hh hA (fun r_525 H locs en_525 hw_525 hh => ?_)
                    obtain ⟨hI_525, hu_525, hx_525⟩ := hw_525
                    have hf_525 : ∀ c, (0 < c ∧ c ≠ 11 ∧ (c < 77 ∨ 107 ≤ c)) → en_525 c = en c := fun c hc => (hu_525 c (by omega)).trans (hf_523 c hc)
                    have hc4 : (rdI (en 1) 4).toInt = (cnt : Int) := by rw [show rdI (en 1) 4 = nI cnt from by rw [es510]; rfl]; exact nI_toInt (by omega)
                    have hc6 : (rdI (en 0) 6).toInt = (wc_509 : Int) := by rw [show rdI (en 0) 6 = nI wc_509 from by rw [es509]; rfl]; exact nI_toInt (by omega)
                    exact hp_iretM hx hb hr rfl hlocks hh (⟨hI_525, hf_525, Or.inr ⟨⟨hw_511.symm.trans c_512, by rw [nI_toInt (n := N_513) (by omega)]; omega, by rw [nI_toInt (n := N_513) (by omega)]; omega, (fun x hx9 => by rw [nI_clamp (n := N_513) (by omega)] at hx9; rw [nI_clamp (n := K9) (by omega), nI_clamp (n := I9) (by omega), show rdF (en (108 + 2 * K9)) = f_515 from by rw [es515]; rfl]; obtain ⟨v9, h91, h92⟩ := i0_517 x (by omega); rw [h92]; exact ⟨by rw [nI_toInt (n := v9) (by omega)]; omega, by rw [nI_toInt (n := v9) (by omega), hc4]; omega⟩), by rw [hc6]; omega⟩, (by rw [nI_clamp (n := K9) (by omega), nI_clamp (n := I9) (by omega), nI_clamp (n := N_513) (by omega)]; exact ⟨wc_509, hx_525.1, (by rw [es509]; rfl), by omega, by omega, by omega, ⟨hx_525.2.1, (by rw [hu_525 _ (by omega), i0_523.2.1]; exact congrArg nI (by omega)), (fun x hx9 => by rw [hu_525 _ (by omega)]; exact i0_523.2.2 x (by omega)), (fun c h1 h2 h3 h4 h5 => (hu_525 c (by omega)).trans ((i0_523.1 c h3 h4).trans (hu_522 c (by omega))))⟩, KWP_of hx_525.2.2 ((i0_523.1 1 (by omega) (by omega)).trans (hu_522 1 (by omega))) (fun j hj => (i0_523.1 _ (by omega) (by omega)).trans (hu_522 _ (by omega))) (by rw [i0_523.2.1]; exact congrArg nI (by omega)) (by omega) (by omega) (fun x hx9 => i0_523.2.2 x (by omega)) (fun x hx9 => by obtain ⟨v9, h91, h92⟩ := i0_517 x (by omega); exact ⟨v9, by omega, by rw [show rdF (en (108 + 2 * K9)) = f_515 from by rw [es515]; rfl]; exact h92⟩)⟩)⟩⟩) dX11_keepWord_140
                  · have n_524 : j523 < N_513 := n_nle (a := N_513) (b := j523) c_524 (by omega) (by omega)
                    refine lv_aload hx hb dX11_keepWord_118 (lv_at hl 1 rfl) ?_
                    refine lv_aload hx hb dX11_keepWord_120 (lv_at hl 2 rfl) ?_
                    refine lv_iload_n hx hb dX11_keepWord_122 rfl (lv_at hl 7 rfl) ?_
                    refine lv_iload hx hb dX11_keepWord_123 (lv_at hl 0 rfl) ?_
                    refine lv_iadd hx hb dX11_keepWord_125 ?_
                    rw [nI_add I9 j523]
                    have es515_526 : en_523 (108 + 2 * K9) = .inl (cy 0, 40, .inl f_515) := (hf_523 (108 + 2 * K9) (by omega)).trans es515
                    refine hp_iald hx hb hK hh (q := (108 + 2 * K9)) rfl (hI.1 _ (by omega)) es515_526 (vp_in_nI (n := (I9 + j523)) (by omega) (by decide)) dX11_keepWord_126 ?_
                    rw [nI_clamp (n := (I9 + j523)) (by omega)]
                    obtain ⟨v_527, hv_527, hfv_527⟩ := hvv (I9 + j523) (by omega)
                    rw [hfv_527]
                    obtain ⟨lc_528, es528, p0_528⟩ := get_wo hI_523 (j := wc_509) (by omega)
                    refine hp_callMv (va_runV (As := [.int (nI v_527)]) (rest := []) ⟨hx, hb, hml, hown, hts⟩ (c_X10_append l D cy _ cs ad en_523 hI_523 wc_509 (by omega) v_527 (0 + j523) (by omega) (by omega) i0_523.2.1) (kw_X10_append hts tw_685 ⟨by decide, by decide⟩) (preV_of hh hK (hI.1 _ (by omega)) es528 rfl) rfl rfl hl.1 rfl (lv_room (Nat.le_of_ble_eq_true rfl)) dX11_keepWord_127 ⟨Nat.le_of_ble_eq_true rfl, Nat.le_of_ble_eq_true rfl⟩) hh hA (fun H locs en_529 hw_529 hh => ?_)
                    obtain ⟨hI_529, hu_529, hx_529⟩ := hw_529
                    have hf_529 : ∀ c, (0 < c ∧ c ≠ 11 ∧ (c < 77 ∨ 107 ≤ c)) → en_529 c = en c := fun c hc => (hu_529 c (by omega)).trans (hf_523 c hc)
                    refine lv_iinc (v := (nI (j523 + 1))) (lv' := [(8, .int (nI (j523 + 1))), (7, .ref (ad (77 + 3 * wc_509))), (6, .ref (ad (108 + 2 * K9))), (5, .int r_511), (0, .ref (ad 0)), (1, .int (nI K9)), (2, .int la), (3, .int (nI I9)), (4, .int (nI N_513))]) hx hb dX11_keepWord_130 hl (k := 0) rfl (nI_1 _) (by decide) rfl (fun ls hl => ?_)
                    refine lv_goto (tgt := 111) hx hb dX11_keepWord_133 (by decide) ?_
                    exact ih_523 ((j523 + 1))  en_529 ls H locs (by omega) (by omega) (by omega) hI_529 hf_529 (⟨fun c h1 h2 => (hu_529 c ⟨h1, h2⟩).trans (i0_523.1 c h1 h2), hx_529.1, fun x hx9 => by rw [hx_529.2]; by_cases e : x = j523; rw [e, if_pos (by omega), show rdF (en (108 + 2 * K9)) = f_515 from by rw [es515]; rfl, hfv_527]; rw [if_neg (by omega)]; exact i0_523.2.2 x (by omega)⟩) (lv_sub hl [0, 1, 2, 3, 4, 5, 6, 7, 8] rfl) hh
              exact loop_523 (N_513 + 1) 0  en_522 ls _ _ (Nat.le_refl _) (by omega) (by omega) hI_522 hf_522 (⟨fun _ _ _ => rfl, hx_522, fun x h => absurd h (Nat.not_lt_zero x)⟩) (lv_sub hl [0, 1, 2, 3, 4, 5, 6, 7, 8] rfl) hh
            · have n_519 : 10 ≤ wc_509 := n_nlt (a := wc_509) (b := 10) c_519 (by omega) (by decide)
              refine lv_bipush (v := (-4)) hx hb dX11_keepWord_89 (by decide) ?_
              have hc4 : (rdI (en 1) 4).toInt = (cnt : Int) := by rw [show rdI (en 1) 4 = nI cnt from by rw [es510]; rfl]; exact nI_toInt (by omega)
              have hc6 : (rdI (en 0) 6).toInt = (wc_509 : Int) := by rw [show rdI (en 0) 6 = nI wc_509 from by rw [es509]; rfl]; exact nI_toInt (by omega)
              exact hp_iretM hx hb hr rfl hlocks hh (⟨hI, hf0, Or.inl ⟨fun q => absurd q.2.2.2.2 (by rw [hc6]; omega), rfl⟩⟩) dX11_keepWord_91
          · have n_518 : j517 < N_513 := n_nle (a := N_513) (b := j517) c_518 (by omega) (by omega)
            refine lv_aload_n hx hb dX11_keepWord_55 rfl (lv_at hl 3 rfl) ?_
            refine hp_get hx hb hts ix11 hown hK hh (q := 0) rfl (hI.1 _ (by decide)) es509 rfl 0 (by decide) (hts _ tw_245) (fun _ h9 => h9) rfl dX11_keepWord_56 ?_
            refine lv_aload hx hb dX11_keepWord_59 (lv_at hl 1 rfl) ?_
            refine lv_iload_n hx hb dX11_keepWord_61 rfl (lv_at hl 6 rfl) ?_
            refine lv_iload hx hb dX11_keepWord_62 (lv_at hl 0 rfl) ?_
            refine lv_iadd hx hb dX11_keepWord_64 ?_
            rw [nI_add I9 j517]
            refine hp_iald hx hb hK hh (q := (108 + 2 * K9)) rfl (hI.1 _ (by omega)) es515 (vp_in_nI (n := (I9 + j517)) (by omega) (by decide)) dX11_keepWord_65 ?_
            rw [nI_clamp (n := (I9 + j517)) (by omega)]
            refine hp_callRi (va_runV (As := [.int (f_515 (I9 + j517))]) (rest := []) ⟨hx, hb, hml, hown, hts⟩ (c_X8_has l D cy _ cs ad en (hI.1 _ (by decide)) cnt d mm hcnt hd2 hd3 hmm (f_515 (I9 + j517)) es510) (kw_X8_has hts tw_412 ⟨by decide, by decide⟩) (preV_of hh hK (hI.1 _ (by decide)) es510 rfl) rfl rfl hl.1 rfl (lv_room (Nat.le_of_ble_eq_true rfl)) dX11_keepWord_66 ⟨Nat.le_of_ble_eq_true rfl, Nat.le_of_ble_eq_true rfl⟩) hh hA (fun r_530 H locs hw_530 hh => ?_)
            rcases Decidable.em (0 ≤ (f_515 (I9 + j517)).toInt ∧ (f_515 (I9 + j517)).toInt < (cnt : Int)) with hp_530 | hp_530
            · obtain rfl : r_530 = 1 := Eq.trans hw_530 (if_pos hp_530)
              refine lv_if_ne (tgt := 74) hx hb dX11_keepWord_69 (by decide) (fun _ => ?_) (fun c_0 => absurd c_0 (by decide))
              refine lv_iinc (v := (nI (j517 + 1))) (lv' := [(7, .int (nI (j517 + 1))), (6, .ref (ad (108 + 2 * K9))), (5, .int r_511), (0, .ref (ad 0)), (1, .int (nI K9)), (2, .int la), (3, .int (nI I9)), (4, .int (nI N_513))]) hx hb dX11_keepWord_74 hl (k := 0) rfl (nI_1 _) (by decide) rfl (fun ls hl => ?_)
              refine lv_goto (tgt := 48) hx hb dX11_keepWord_77 (by decide) ?_
              exact ih_517 ((j517 + 1))  ls H locs (by omega) (by omega) (by omega) (fun x hx9 => by by_cases e : x = j517; rw [e]; obtain ⟨v9, h91, h92⟩ := has_nat hp_530; exact ⟨v9, h92, h91⟩; exact i0_517 x (by omega)) (lv_sub hl [0, 1, 2, 3, 4, 5, 6, 7] rfl) hh
            · obtain rfl : r_530 = 0 := Eq.trans hw_530 (if_neg hp_530)
              refine lv_if_ne (tgt := 74) hx hb dX11_keepWord_69 (by decide) (fun c_0 => absurd c_0 (by decide)) (fun _ => ?_)
              refine lv_iconst (v := (-1)) hx hb dX11_keepWord_72 (by decide) ?_
              have hc4 : (rdI (en 1) 4).toInt = (cnt : Int) := by rw [show rdI (en 1) 4 = nI cnt from by rw [es510]; rfl]; exact nI_toInt (by omega)
              have hc6 : (rdI (en 0) 6).toInt = (wc_509 : Int) := by rw [show rdI (en 0) 6 = nI wc_509 from by rw [es509]; rfl]; exact nI_toInt (by omega)
              exact hp_iretM hx hb hr rfl hlocks hh (⟨hI, hf0, Or.inl ⟨fun q => hp_530 (by have h9 := q.2.2.2.1 j517 (by rw [nI_clamp (n := N_513) (by omega)]; omega); rw [nI_clamp (n := K9) (by omega), nI_clamp (n := I9) (by omega), show rdF (en (108 + 2 * K9)) = f_515 from by rw [es515]; rfl] at h9; exact ⟨h9.1, by have := h9.2; omega⟩), rfl⟩⟩) dX11_keepWord_73
      exact loop_517 (N_513 + 1) 0  ls _ _ (Nat.le_refl _) (by omega) (by omega) (fun x h => absurd h (Nat.not_lt_zero x)) (lv_sub hl [0, 1, 2, 3, 4, 5, 6, 7] rfl) hh
    · obtain rfl : r_513 = 0 := Eq.trans hw_513 (if_neg hp_513)
      refine lv_if_ne (tgt := 34) hx hb dX11_keepWord_28 (by decide) (fun c_0 => absurd c_0 (by decide)) (fun _ => ?_)
      refine lv_bipush (v := (-2)) hx hb dX11_keepWord_31 (by decide) ?_
      have hc4 : (rdI (en 1) 4).toInt = (cnt : Int) := by rw [show rdI (en 1) 4 = nI cnt from by rw [es510]; rfl]; exact nI_toInt (by omega)
      have hc6 : (rdI (en 0) 6).toInt = (wc_509 : Int) := by rw [show rdI (en 0) 6 = nI wc_509 from by rw [es509]; rfl]; exact nI_toInt (by omega)
      exact hp_iretM hx hb hr rfl hlocks hh (⟨hI, hf0, Or.inl ⟨fun q => hp_513 ⟨by have h1 : (1 : Int32).toInt = 1 := (by decide); have := q.2.1; omega, by have h1 : (12 : Int32).toInt = 12 := (by decide); have := q.2.2.1; omega⟩, rfl⟩⟩) dX11_keepWord_33
  · refine lv_iload hx hb dX11_keepWord_17 (lv_at hl 0 rfl) ?_
    have hc4 : (rdI (en 1) 4).toInt = (cnt : Int) := by rw [show rdI (en 1) 4 = nI cnt from by rw [es510]; rfl]; exact nI_toInt (by omega)
    have hc6 : (rdI (en 0) 6).toInt = (wc_509 : Int) := by rw [show rdI (en 0) 6 = nI wc_509 from by rw [es509]; rfl]; exact nI_toInt (by omega)
    exact hp_iretM hx hb hr rfl hlocks hh (⟨hI, hf0, Or.inl ⟨fun q => c_512 (hw_511.trans q.1), rfl⟩⟩) dX11_keepWord_19
theorem kw_X11_keepWord {R : Room} {s : State} {args : Array Value} {own : String} {idx : Nat} (hts : ∀ w ∈ TB, w.before args s = true) (hl : Cond.methodLink own idx yX11_keepWord ∈ TB) (hR : 4 + 1 ≤ R.frames ∧ 8 + (9 + 11) + 40 * 4 ≤ R.locals) : CallW R s args own RX11 idx yX11_keepWord cX11_keepWord 9 (some .int) (Cond.code yX11_keepWord cX11_keepWord 9 (some .int) :: TB) (rmN 4) 0 0 4 := cwV 4 hts (TB_V hl tw_679 ts_24 tw_1 tw_680) rfl rfl rfl (by decide +kernel) hR
set_option maxHeartbeats 4000000 in
set_option maxRecDepth 100000 in
/-- word -/
theorem c_X11_word (l : Launch) (D : va_G) (cy : Nat → ClassId) (sz : Nat) (cs : List Nat) (ad : Nat → Nat) (en : Nat → va_E) (hI : SX cy cs ad en) (k la i n : Int32)   : Met l yX11_word (Cond.code yX11_word cX11_word 5 (some .int) :: TB) (rmN 5) (va_Pc [.ref (ad 0), .int k, .int la, .int i, .int n] (Pre D cy cs ad en sz)) (va_Qi (S := Nat → va_E) (fun r en1 => SX cy cs ad en1 ∧ (∀ c, (0 < c ∧ c ≠ 11 ∧ (c < 77 ∨ 107 ≤ c)) → en1 c = en c) ∧ XWO k la i n r en en1) (PostM D cs ad) (Af cs ad sz)) 0 0 (Af cs ad sz) := by
  refine Met.ofW (cc := cX11_word) (maxL := 5) (ret := (some .int)) (by decide) rfl ?_
  intro p e s m args below meth c s₁ B hml hv
  obtain ⟨rfl, hsz, hP, hK, hD0⟩ := hv
  have hx := B.exec
  have hb := B.bytes
  have hr := B.returns
  have hts : ∀ w ∈ TB, w.before _ s = true := fun w h => atoms_spec (ws := _ :: TB) B.pre w (List.mem_cons_of_mem _ h)
  have hown : s.vm.findClass RX11 = some m.cls := findClass_of_methodNamed B.named
  have hlocks := B.notSynchronized
  have hh : Hp D (Af cs ad sz) (Af cs ad sz) s.heap s.heap [] cs ad en := ⟨hP, Af_self hD0, va_S.rf⟩
  have hA : ∀ q : Nat, s.heap.size ≤ q → Af cs ad sz q := fun q h => Or.inr (by rw [hsz] at h; exact h)
  have hl := lv_entry ([.ref (ad 0), .int k, .int la, .int i, .int n]) (n := 5) (Nat.le_of_ble_eq_true rfl)
  rw [lg_entry_eq]
  generalize (lg_sl ([.ref (ad 0), .int k, .int la, .int i, .int n]) ++ List.replicate (5 - (lg_sl ([.ref (ad 0), .int k, .int la, .int i, .int n])).length) Slot.unset).toArray = ls at hl ⊢
  have hl : lv_has ls 5 [(0, .ref (ad 0)), (1, .int k), (2, .int la), (3, .int i), (4, .int n)] := hl
  have hf0 : ∀ c, (0 < c ∧ c ≠ 11 ∧ (c < 77 ∨ 107 ≤ c)) → en c = en c := fun _ _ => rfl
  obtain ⟨wc_531, lf_531, es531, p0_531⟩ := get_A hI
  refine lv_aload_n hx hb dX11_word_0 rfl (lv_at hl 0 rfl) ?_
  refine lv_aload_n hx hb dX11_word_1 rfl (lv_at hl 0 rfl) ?_
  refine lv_iload_n hx hb dX11_word_2 rfl (lv_at hl 1 rfl) ?_
  refine lv_iload_n hx hb dX11_word_3 rfl (lv_at hl 2 rfl) ?_
  refine lv_iload_n hx hb dX11_word_4 rfl (lv_at hl 3 rfl) ?_
  refine lv_iload hx hb dX11_word_5 (lv_at hl 4 rfl) ?_
  refine hp_callMi (va_runV (As := [.int k, .int la, .int i, .int n]) (rest := [.ref (ad 0)]) ⟨hx, hb, hml, hown, hts⟩ (c_X11_keepWord l D cy _ cs ad en hI k la i n ) (kw_X11_keepWord hts tw_677 ⟨by decide, by decide⟩) (preV_of hh hK (hI.1 _ (by decide)) es531 rfl) rfl rfl hl.1 rfl (lv_room (Nat.le_of_ble_eq_true rfl)) dX11_word_7 ⟨Nat.le_of_ble_eq_true rfl, Nat.le_of_ble_eq_true rfl⟩) hh hA (fun r_532 H locs en_532 hw_532 hh => ?_)
  obtain ⟨hI_532, hu_532, hx_532⟩ := hw_532
  have hf_532 : ∀ c, (0 < c ∧ c ≠ 11 ∧ (c < 77 ∨ 107 ≤ c)) → en_532 c = en c := fun c hc => (hu_532 c (by omega)).trans (hf0 c hc)
  obtain ⟨wc_533, lf_533, es533, p0_533⟩ := get_A hI_532
  refine hp_callMi (va_runV (As := [.int r_532]) (rest := []) ⟨hx, hb, hml, hown, hts⟩ (c_X11_settle l D cy _ cs ad en_532 hI_532 r_532) (kw_X11_settle hts tw_404 ⟨by decide, by decide⟩) (preV_of hh hK (hI.1 _ (by decide)) es533 rfl) rfl rfl hl.1 rfl (lv_room (Nat.le_of_ble_eq_true rfl)) dX11_word_10 ⟨Nat.le_of_ble_eq_true rfl, Nat.le_of_ble_eq_true rfl⟩) hh hA (fun r_534 H locs en_534 hw_534 hh => ?_)
  obtain ⟨hI_534, hu_534, hr_534, hwc_534⟩ := hw_534
  have hf_534 : ∀ c, (0 < c ∧ c ≠ 11 ∧ (c < 77 ∨ 107 ≤ c)) → en_534 c = en c := fun c hc => (hu_534 c (by omega)).trans (hf_532 c hc)
  rw [hr_534]
  exact hp_iretM hx hb hr rfl hlocks hh (⟨hI_534, hf_534, (WKO_s hx_532 hu_534 hwc_534)⟩) dX11_word_13
theorem kw_X11_word {R : Room} {s : State} {args : Array Value} {own : String} {idx : Nat} (hts : ∀ w ∈ TB, w.before args s = true) (hl : Cond.methodLink own idx yX11_word ∈ TB) (hR : 5 + 1 ≤ R.frames ∧ 8 + (5 + 11) + 40 * 5 ≤ R.locals) : CallW R s args own RX11 idx yX11_word cX11_word 5 (some .int) (Cond.code yX11_word cX11_word 5 (some .int) :: TB) (rmN 5) 0 0 4 := cwV 4 hts (TB_V hl tw_674 tw_675 tw_1 tw_676) rfl rfl rfl (by decide +kernel) hR
set_option maxHeartbeats 4000000 in
set_option maxRecDepth 100000 in
/-- join -/
theorem c_X11_join (l : Launch) (D : va_G) (cy : Nat → ClassId) (sz : Nat) (cs : List Nat) (ad : Nat → Nat) (en : Nat → va_E) (hI : SX cy cs ad en) (a b : Int32) (hWX : WX en)   : Met l yX11_join (Cond.code yX11_join cX11_join 4 (some .int) :: TB) (rmN 4) (va_Pc [.ref (ad 0), .int a, .int b] (Pre D cy cs ad en sz)) (va_Qi (S := Nat → va_E) (fun r en1 => SX cy cs ad en1 ∧ (∀ c, (0 < c ∧ c ≠ 11 ∧ (c < 77 ∨ 107 ≤ c)) → en1 c = en c) ∧ XJO a b r en en1) (PostM D cs ad) (Af cs ad sz)) 0 0 (Af cs ad sz) := by
  refine Met.ofW (cc := cX11_join) (maxL := 4) (ret := (some .int)) (by decide) rfl ?_
  intro p e s m args below meth c s₁ B hml hv
  obtain ⟨rfl, hsz, hP, hK, hD0⟩ := hv
  have hx := B.exec
  have hb := B.bytes
  have hr := B.returns
  have hts : ∀ w ∈ TB, w.before _ s = true := fun w h => atoms_spec (ws := _ :: TB) B.pre w (List.mem_cons_of_mem _ h)
  have hown : s.vm.findClass RX11 = some m.cls := findClass_of_methodNamed B.named
  have hlocks := B.notSynchronized
  have hh : Hp D (Af cs ad sz) (Af cs ad sz) s.heap s.heap [] cs ad en := ⟨hP, Af_self hD0, va_S.rf⟩
  have hA : ∀ q : Nat, s.heap.size ≤ q → Af cs ad sz q := fun q h => Or.inr (by rw [hsz] at h; exact h)
  have hl := lv_entry ([.ref (ad 0), .int a, .int b]) (n := 4) (Nat.le_of_ble_eq_true rfl)
  rw [lg_entry_eq]
  generalize (lg_sl ([.ref (ad 0), .int a, .int b]) ++ List.replicate (4 - (lg_sl ([.ref (ad 0), .int a, .int b])).length) Slot.unset).toArray = ls at hl ⊢
  have hl : lv_has ls 4 [(0, .ref (ad 0)), (1, .int a), (2, .int b)] := hl
  have hf0 : ∀ c, (0 < c ∧ c ≠ 11 ∧ (c < 77 ∨ 107 ≤ c)) → en c = en c := fun _ _ => rfl
  obtain ⟨wc_535, lf_535, es535, p0_535⟩ := get_A hI
  obtain ⟨cnt, d, mm, es536, hcnt, hd2, hd3, hmm⟩ := get_T hI
  refine lv_aload_n hx hb dX11_join_0 rfl (lv_at hl 0 rfl) ?_
  refine lv_iload_n hx hb dX11_join_1 rfl (lv_at hl 1 rfl) ?_
  refine hp_callRi (va_runV (As := [.int a]) (rest := []) ⟨hx, hb, hml, hown, hts⟩ (c_X11_hasWord l D cy _ cs ad en hI a ) (kw_X11_hasWord hts tw_703 ⟨by decide, by decide⟩) (preV_of hh hK (hI.1 _ (by decide)) es535 rfl) rfl rfl hl.1 rfl (lv_room (Nat.le_of_ble_eq_true rfl)) dX11_join_2 ⟨Nat.le_of_ble_eq_true rfl, Nat.le_of_ble_eq_true rfl⟩) hh hA (fun r_537 H locs hw_537 hh => ?_)
  rw [show rdI (en 0) 6 = nI wc_535 from by rw [es535]; rfl] at hw_537
  rcases Decidable.em (wi a 0 (nI wc_535 - 1)) with hp_537 | hp_537
  · obtain rfl : r_537 = 1 := Eq.trans hw_537 (if_pos hp_537)
    obtain ⟨W_537, rfl, hW_537⟩ := wi_m1 hp_537 (by omega)
    refine lv_if_eq (tgt := 16) hx hb dX11_join_5 (by decide) (fun c_0 => absurd c_0 (by decide)) (fun _ => ?_)
    refine lv_aload_n hx hb dX11_join_8 rfl (lv_at hl 0 rfl) ?_
    refine lv_iload_n hx hb dX11_join_9 rfl (lv_at hl 2 rfl) ?_
    refine hp_callRi (va_runV (As := [.int b]) (rest := []) ⟨hx, hb, hml, hown, hts⟩ (c_X11_hasWord l D cy _ cs ad en hI b ) (kw_X11_hasWord hts tw_703 ⟨by decide, by decide⟩) (preV_of hh hK (hI.1 _ (by decide)) es535 rfl) rfl rfl hl.1 rfl (lv_room (Nat.le_of_ble_eq_true rfl)) dX11_join_10 ⟨Nat.le_of_ble_eq_true rfl, Nat.le_of_ble_eq_true rfl⟩) hh hA (fun r_538 H locs hw_538 hh => ?_)
    rw [show rdI (en 0) 6 = nI wc_535 from by rw [es535]; rfl] at hw_538
    rcases Decidable.em (wi b 0 (nI wc_535 - 1)) with hp_538 | hp_538
    · obtain rfl : r_538 = 1 := Eq.trans hw_538 (if_pos hp_538)
      obtain ⟨W_538, rfl, hW_538⟩ := wi_m1 hp_538 (by omega)
      refine lv_if_ne (tgt := 18) hx hb dX11_join_13 (by decide) (fun _ => ?_) (fun c_0 => absurd c_0 (by decide))
      refine lv_aload_n hx hb dX11_join_18 rfl (lv_at hl 0 rfl) ?_
      refine hp_get hx hb hts ix11 hown hK hh (q := 0) rfl (hI.1 _ (by decide)) es535 rfl 3 (by decide) (hts _ tw_248) (fun _ h9 => h9) rfl dX11_join_19 ?_
      refine lv_iload_n hx hb dX11_join_22 rfl (lv_at hl 1 rfl) ?_
      have es539 := get_wos hI
      unfold P_wos at es539
      refine hp_aald hx hb hK hh (q := 74) rfl (hI.1 _ (by decide)) 5 es539 rfl rfl (vp_in_nI (n := W_537) (by omega) (by decide)) (v := .ref (ad (77 + 3 * W_537))) (by rw [nI_clamp (n := W_537) (by omega)]; exact rfB_v (by omega)) dX11_join_23 ?_
      obtain ⟨lc_540, es540, p0_540⟩ := get_wo hI (j := W_537) (by omega)
      refine hp_get hx hb hts ix10 hown hK hh (q := (77 + 3 * W_537)) rfl (hI.1 _ (by omega)) es540 rfl 2 (by decide) (hts _ tw_216) (fun _ h9 => h9) rfl dX11_join_24 ?_
      refine lv_aload_n hx hb dX11_join_27 rfl (lv_at hl 0 rfl) ?_
      refine hp_get hx hb hts ix11 hown hK hh (q := 0) rfl (hI.1 _ (by decide)) es535 rfl 3 (by decide) (hts _ tw_248) (fun _ h9 => h9) rfl dX11_join_28 ?_
      refine lv_iload_n hx hb dX11_join_31 rfl (lv_at hl 2 rfl) ?_
      refine hp_aald hx hb hK hh (q := 74) rfl (hI.1 _ (by decide)) 5 es539 rfl rfl (vp_in_nI (n := W_538) (by omega) (by decide)) (v := .ref (ad (77 + 3 * W_538))) (by rw [nI_clamp (n := W_538) (by omega)]; exact rfB_v (by omega)) dX11_join_32 ?_
      obtain ⟨lc_541, es541, p0_541⟩ := get_wo hI (j := W_538) (by omega)
      refine hp_get hx hb hts ix10 hown hK hh (q := (77 + 3 * W_538)) rfl (hI.1 _ (by omega)) es541 rfl 2 (by decide) (hts _ tw_216) (fun _ h9 => h9) rfl dX11_join_33 ?_
      refine lv_iadd hx hb dX11_join_36 ?_
      rw [nI_add lc_540 lc_541]
      refine lv_bipush (v := 12) hx hb dX11_join_37 (by decide) ?_
      refine lv_icmp_le (tgt := 45) hx hb dX11_join_39 (by decide) (fun c_542 => ?_) (fun c_542 => ?_)
      · have n_542 : (lc_540 + lc_541) ≤ 12 := n_le (a := (lc_540 + lc_541)) (b := 12) c_542 (by omega) (by decide)
        refine lv_aload_n hx hb dX11_join_45 rfl (lv_at hl 0 rfl) ?_
        refine hp_get hx hb hts ix11 hown hK hh (q := 0) rfl (hI.1 _ (by decide)) es535 rfl 6 (by decide) (hts _ tw_251) (fun _ h9 => h9) rfl dX11_join_46 ?_
        refine lv_bipush (v := 10) hx hb dX11_join_49 (by decide) ?_
        refine lv_icmp_lt (tgt := 57) hx hb dX11_join_51 (by decide) (fun c_543 => ?_) (fun c_543 => ?_)
        · have n_543 : wc_535 < 10 := n_lt (a := wc_535) (b := 10) c_543 (by omega) (by decide)
          refine lv_aload_n hx hb dX11_join_57 rfl (lv_at hl 0 rfl) ?_
          refine hp_get hx hb hts ix11 hown hK hh (q := 0) rfl (hI.1 _ (by decide)) es535 rfl 3 (by decide) (hts _ tw_248) (fun _ h9 => h9) rfl dX11_join_58 ?_
          refine lv_aload_n hx hb dX11_join_61 rfl (lv_at hl 0 rfl) ?_
          refine hp_get hx hb hts ix11 hown hK hh (q := 0) rfl (hI.1 _ (by decide)) es535 rfl 6 (by decide) (hts _ tw_251) (fun _ h9 => h9) rfl dX11_join_62 ?_
          refine hp_aald hx hb hK hh (q := 74) rfl (hI.1 _ (by decide)) 5 es539 rfl rfl (vp_in_nI (n := wc_535) (by omega) (by decide)) (v := .ref (ad (77 + 3 * wc_535))) (by rw [nI_clamp (n := wc_535) (by omega)]; exact rfB_v (by omega)) dX11_join_65 ?_
          refine lv_astore_n (lv' := [(3, .ref (ad (77 + 3 * wc_535))), (0, .ref (ad 0)), (1, .int (nI W_537)), (2, .int (nI W_538))]) hx hb dX11_join_66 rfl hl (by decide) rfl (fun ls hl => ?_)
          refine lv_aload_n hx hb dX11_join_67 rfl (lv_at hl 0 rfl) ?_
          obtain ⟨lc_544, es544, p0_544⟩ := get_wo hI (j := wc_535) (by omega)
          refine hp_callMv (va_runV (As := []) (rest := []) ⟨hx, hb, hml, hown, hts⟩ (c_X10_clear l D cy _ cs ad en hI wc_535 (by omega)  ) (kw_X10_clear hts tw_681 ⟨by decide, by decide⟩) (preV_of hh hK (hI.1 _ (by omega)) es544 rfl) rfl rfl hl.1 rfl (lv_room (Nat.le_of_ble_eq_true rfl)) dX11_join_68 ⟨Nat.le_of_ble_eq_true rfl, Nat.le_of_ble_eq_true rfl⟩) hh hA (fun H locs en_545 hw_545 hh => ?_)
          obtain ⟨hI_545, hu_545, hx_545⟩ := hw_545
          have hf_545 : ∀ c, (0 < c ∧ c ≠ 11 ∧ (c < 77 ∨ 107 ≤ c)) → en_545 c = en c := fun c hc => (hu_545 c (by omega)).trans (hf0 c hc)
          refine lv_aload_n hx hb dX11_join_71 rfl (lv_at hl 0 rfl) ?_
          refine lv_aload_n hx hb dX11_join_72 rfl (lv_at hl 1 rfl) ?_
          obtain ⟨wc_546, lf_546, es546, p0_546⟩ := get_A hI_545
          refine hp_get hx hb hts ix11 hown hK hh (q := 0) rfl (hI.1 _ (by decide)) es546 rfl 3 (by decide) (hts _ tw_248) (fun _ h9 => h9) rfl dX11_join_73 ?_
          refine lv_iload_n hx hb dX11_join_76 rfl (lv_at hl 2 rfl) ?_
          have es539_547 : en_545 74 = .inl (cy 5, 10, .inr (.inr (.inr (.inr (rfB ad 10 77 3))))) := (hf_545 74 (by omega)).trans es539
          refine hp_aald hx hb hK hh (q := 74) rfl (hI.1 _ (by decide)) 5 es539_547 rfl rfl (vp_in_nI (n := W_537) (by omega) (by decide)) (v := .ref (ad (77 + 3 * W_537))) (by rw [nI_clamp (n := W_537) (by omega)]; exact rfB_v (by omega)) dX11_join_77 ?_
          obtain ⟨lc_548, es548, p0_548⟩ := get_wo hI_545 (j := W_537) (by omega)
          obtain ⟨lc_549, es549, p0_549⟩ := get_wo hI_545 (j := wc_535) (by omega)
          refine hp_callMv (va_runV (As := [.ref (ad (77 + 3 * W_537))]) (rest := []) ⟨hx, hb, hml, hown, hts⟩ (c_X10_appendAll l D cy _ cs ad en_545 hI_545 wc_535 (by omega) W_537 0 lc_540 (by omega) (by omega) (by omega) hx_545 (by rw [hu_545 _ (by omega), es540]; rfl)) (kw_X10_appendAll hts tw_707 ⟨by decide, by decide⟩) (preV_of hh hK (hI.1 _ (by omega)) es549 rfl) rfl rfl hl.1 rfl (lv_room (Nat.le_of_ble_eq_true rfl)) dX11_join_78 ⟨Nat.le_of_ble_eq_true rfl, Nat.le_of_ble_eq_true rfl⟩) hh hA (fun H locs en_550 hw_550 hh => ?_)
          obtain ⟨hI_550, hu_550, hx_550⟩ := hw_550
          have hf_550 : ∀ c, (0 < c ∧ c ≠ 11 ∧ (c < 77 ∨ 107 ≤ c)) → en_550 c = en c := fun c hc => (hu_550 c (by omega)).trans (hf_545 c hc)
          refine lv_aload_n hx hb dX11_join_81 rfl (lv_at hl 0 rfl) ?_
          refine lv_aload_n hx hb dX11_join_82 rfl (lv_at hl 1 rfl) ?_
          obtain ⟨wc_551, lf_551, es551, p0_551⟩ := get_A hI_550
          refine hp_get hx hb hts ix11 hown hK hh (q := 0) rfl (hI.1 _ (by decide)) es551 rfl 3 (by decide) (hts _ tw_248) (fun _ h9 => h9) rfl dX11_join_83 ?_
          refine lv_iload_n hx hb dX11_join_86 rfl (lv_at hl 3 rfl) ?_
          have es539_552 : en_550 74 = .inl (cy 5, 10, .inr (.inr (.inr (.inr (rfB ad 10 77 3))))) := (hf_550 74 (by omega)).trans es539
          refine hp_aald hx hb hK hh (q := 74) rfl (hI.1 _ (by decide)) 5 es539_552 rfl rfl (vp_in_nI (n := W_538) (by omega) (by decide)) (v := .ref (ad (77 + 3 * W_538))) (by rw [nI_clamp (n := W_538) (by omega)]; exact rfB_v (by omega)) dX11_join_87 ?_
          obtain ⟨lc_553, es553, p0_553⟩ := get_wo hI_550 (j := W_538) (by omega)
          obtain ⟨lc_554, es554, p0_554⟩ := get_wo hI_550 (j := wc_535) (by omega)
          refine hp_callMv (va_runV (As := [.ref (ad (77 + 3 * W_538))]) (rest := []) ⟨hx, hb, hml, hown, hts⟩ (c_X10_appendAll l D cy _ cs ad en_550 hI_550 wc_535 (by omega) W_538 (0 + lc_540) lc_541 (by omega) (by omega) (by omega) hx_550.1 (by rw [hu_550 _ (by omega), hu_545 _ (by omega), es541]; rfl)) (kw_X10_appendAll hts tw_707 ⟨by decide, by decide⟩) (preV_of hh hK (hI.1 _ (by omega)) es554 rfl) rfl rfl hl.1 rfl (lv_room (Nat.le_of_ble_eq_true rfl)) dX11_join_88 ⟨Nat.le_of_ble_eq_true rfl, Nat.le_of_ble_eq_true rfl⟩) hh hA (fun H locs en_555 hw_555 hh => ?_)
          obtain ⟨hI_555, hu_555, hx_555⟩ := hw_555
          have hf_555 : ∀ c, (0 < c ∧ c ≠ 11 ∧ (c < 77 ∨ 107 ≤ c)) → en_555 c = en c := fun c hc => (hu_555 c (by omega)).trans (hf_550 c hc)
          refine lv_aload_n hx hb dX11_join_91 rfl (lv_at hl 1 rfl) ?_
          have hlA9 : 1 ≤ lc_540 := WX_lc hWX (show rdI (en 0) 6 = nI wc_535 from by rw [es535]; rfl) (by omega) (show rdI (en (77 + 3 * W_537)) 2 = nI lc_540 from by rw [es540]; rfl) (by omega) (by omega)
          obtain ⟨wc_556, lf_556, es556, p0_556⟩ := get_A hI_555
          refine hp_callMi (va_runV (As := []) (rest := []) ⟨hx, hb, hml, hown, hts⟩ (c_X11_finishWord l D cy _ cs ad en_555 hI_555 wc_535 (by omega) (by rw [hu_555 _ (by omega), hu_550 _ (by omega), hu_545 _ (by omega), es535]; rfl) (by rw [hx_555.1, nI_toInt (by omega)]; omega)) (kw_X11_finishWord hts tw_689 ⟨by decide, by decide⟩) (preV_of hh hK (hI.1 _ (by decide)) es556 rfl) rfl rfl hl.1 rfl (lv_room (Nat.le_of_ble_eq_true rfl)) dX11_join_92 ⟨Nat.le_of_ble_eq_true rfl, Nat.le_of_ble_eq_true rfl⟩) hh hA (fun r_557 H locs en_557 hw_557 hh => ?_)
          obtain ⟨hI_557, hu_557, hx_557⟩ := hw_557
          have hf_557 : ∀ c, (0 < c ∧ c ≠ 11 ∧ (c < 77 ∨ 107 ≤ c)) → en_557 c = en c := fun c hc => (hu_557 c (by omega)).trans (hf_555 c hc)
          have hc6 : (rdI (en 0) 6).toInt = (wc_535 : Int) := by rw [show rdI (en 0) 6 = nI wc_535 from by rw [es535]; rfl]; exact nI_toInt (by omega)
          have hqa : hasQ (nI W_537) (rdI (en 0) 6) := ⟨by rw [nI_toInt (n := W_537) (by omega)]; omega, by rw [nI_toInt (n := W_537) (by omega), hc6]; omega⟩
          have hqb : hasQ (nI W_538) (rdI (en 0) 6) := ⟨by rw [nI_toInt (n := W_538) (by omega)]; omega, by rw [nI_toInt (n := W_538) (by omega), hc6]; omega⟩
          have hla : rdI (en (77 + 3 * (nI W_537).toNatClampNeg)) 2 = nI lc_540 := by rw [nI_clamp (n := W_537) (by omega), es540]; rfl
          have hlb : rdI (en (77 + 3 * (nI W_538).toNatClampNeg)) 2 = nI lc_541 := by rw [nI_clamp (n := W_538) (by omega), es541]; rfl
          have hs9 : (nI lc_540).toInt + (nI lc_541).toInt = ((lc_540 + lc_541 : Nat) : Int) := by rw [nI_toInt (n := lc_540) (by omega), nI_toInt (n := lc_541) (by omega)]; omega
          have hok : jOK (rdI (en 0) 6) (nI lc_540) (nI lc_541) (nI W_537) (nI W_538) := ⟨hqa, hqb, by omega, by omega⟩
          exact hp_iretM hx hb hr rfl hlocks hh (⟨hI_557, hf_557, (by unfold XJO; rw [hla, hlb]; exact ⟨Or.inr (Or.inr (Or.inr ⟨hok, hx_557.1.trans (by rw [es535]; rfl)⟩)), Or.inr ⟨hok, (by rw [nI_clamp (n := lc_540) (by omega), nI_clamp (n := lc_541) (by omega)]; exact ⟨wc_535, hx_557.1, (by rw [es535]; rfl), by omega, by omega, by omega, ⟨hx_557.2.1, (by rw [hu_557 _ (by omega), hx_555.1]; exact congrArg nI (by omega)), (fun x hx9 => by rw [hu_557 _ (by omega)]; unfold jG; rw [hla, nI_clamp (n := W_537) (by omega), nI_clamp (n := W_538) (by omega), nI_clamp (n := lc_540) (by omega)]; by_cases e : x < lc_540; rw [if_pos e, hx_555.2.1 x (by omega)]; have h9 := hx_550.2.2 x e; rw [Nat.zero_add] at h9; rw [h9, hu_545 _ (by omega)]; rw [if_neg e]; have h9 := hx_555.2.2 (x - lc_540) (by omega); rw [show 0 + lc_540 + (x - lc_540) = x by omega] at h9; rw [h9, hu_550 _ (by omega), hu_545 _ (by omega)]), (fun c h1 h2 h3 h4 h5 => (hu_557 c (by omega)).trans ((hu_555 c (by omega)).trans ((hu_550 c (by omega)).trans (hu_545 c (by omega)))))⟩, KWP_of hx_557.2.2 ((hu_555 1 (by omega)).trans ((hu_550 1 (by omega)).trans (hu_545 1 (by omega)))) (fun j hj => ((hu_555 _ (by omega)).trans ((hu_550 _ (by omega)).trans (hu_545 _ (by omega))))) (by rw [hx_555.1]; exact congrArg nI (by omega)) (by omega) (by omega) (fun x hx9 => by unfold jG; rw [hla, nI_clamp (n := W_537) (by omega), nI_clamp (n := W_538) (by omega), nI_clamp (n := lc_540) (by omega)]; by_cases e : x < lc_540; rw [if_pos e, hx_555.2.1 x (by omega)]; have h9 := hx_550.2.2 x e; rw [Nat.zero_add] at h9; rw [h9, hu_545 _ (by omega)]; rw [if_neg e]; have h9 := hx_555.2.2 (x - lc_540) (by omega); rw [show 0 + lc_540 + (x - lc_540) = x by omega] at h9; rw [h9, hu_550 _ (by omega), hu_545 _ (by omega)]) (fun x hx9 => jG_6 hI (by omega) (by omega) (by omega))⟩)⟩⟩)⟩) dX11_join_95
        · have n_543 : 10 ≤ wc_535 := n_nlt (a := wc_535) (b := 10) c_543 (by omega) (by decide)
          refine lv_bipush (v := (-4)) hx hb dX11_join_54 (by decide) ?_
          have hc6 : (rdI (en 0) 6).toInt = (wc_535 : Int) := by rw [show rdI (en 0) 6 = nI wc_535 from by rw [es535]; rfl]; exact nI_toInt (by omega)
          have hqa : hasQ (nI W_537) (rdI (en 0) 6) := ⟨by rw [nI_toInt (n := W_537) (by omega)]; omega, by rw [nI_toInt (n := W_537) (by omega), hc6]; omega⟩
          have hqb : hasQ (nI W_538) (rdI (en 0) 6) := ⟨by rw [nI_toInt (n := W_538) (by omega)]; omega, by rw [nI_toInt (n := W_538) (by omega), hc6]; omega⟩
          have hla : rdI (en (77 + 3 * (nI W_537).toNatClampNeg)) 2 = nI lc_540 := by rw [nI_clamp (n := W_537) (by omega), es540]; rfl
          have hlb : rdI (en (77 + 3 * (nI W_538).toNatClampNeg)) 2 = nI lc_541 := by rw [nI_clamp (n := W_538) (by omega), es541]; rfl
          have hs9 : (nI lc_540).toInt + (nI lc_541).toInt = ((lc_540 + lc_541 : Nat) : Int) := by rw [nI_toInt (n := lc_540) (by omega), nI_toInt (n := lc_541) (by omega)]; omega
          exact hp_iretM hx hb hr rfl hlocks hh (⟨hI, hf0, (by unfold XJO; rw [hla, hlb]; exact ⟨Or.inr (Or.inr (Or.inl ⟨⟨hqa, hqb⟩, by omega, by omega, rfl⟩)), Or.inl ⟨fun q => absurd q.2.2.2 (by omega), fun _ _ => rfl, rfl⟩⟩)⟩) dX11_join_56
      · have n_542 : 12 < (lc_540 + lc_541) := n_nle (a := (lc_540 + lc_541)) (b := 12) c_542 (by omega) (by decide)
        refine lv_bipush (v := (-2)) hx hb dX11_join_42 (by decide) ?_
        have hc6 : (rdI (en 0) 6).toInt = (wc_535 : Int) := by rw [show rdI (en 0) 6 = nI wc_535 from by rw [es535]; rfl]; exact nI_toInt (by omega)
        have hqa : hasQ (nI W_537) (rdI (en 0) 6) := ⟨by rw [nI_toInt (n := W_537) (by omega)]; omega, by rw [nI_toInt (n := W_537) (by omega), hc6]; omega⟩
        have hqb : hasQ (nI W_538) (rdI (en 0) 6) := ⟨by rw [nI_toInt (n := W_538) (by omega)]; omega, by rw [nI_toInt (n := W_538) (by omega), hc6]; omega⟩
        have hla : rdI (en (77 + 3 * (nI W_537).toNatClampNeg)) 2 = nI lc_540 := by rw [nI_clamp (n := W_537) (by omega), es540]; rfl
        have hlb : rdI (en (77 + 3 * (nI W_538).toNatClampNeg)) 2 = nI lc_541 := by rw [nI_clamp (n := W_538) (by omega), es541]; rfl
        have hs9 : (nI lc_540).toInt + (nI lc_541).toInt = ((lc_540 + lc_541 : Nat) : Int) := by rw [nI_toInt (n := lc_540) (by omega), nI_toInt (n := lc_541) (by omega)]; omega
        exact hp_iretM hx hb hr rfl hlocks hh (⟨hI, hf0, (by unfold XJO; rw [hla, hlb]; exact ⟨Or.inr (Or.inl ⟨⟨hqa, hqb⟩, by omega, rfl⟩), Or.inl ⟨fun q => absurd q.2.2.1 (by omega), fun _ _ => rfl, rfl⟩⟩)⟩) dX11_join_44
    · obtain rfl : r_538 = 0 := Eq.trans hw_538 (if_neg hp_538)
      refine lv_if_ne (tgt := 18) hx hb dX11_join_13 (by decide) (fun c_0 => absurd c_0 (by decide)) (fun _ => ?_)
      refine lv_iconst (v := (-1)) hx hb dX11_join_16 (by decide) ?_
      have hc6 : (rdI (en 0) 6).toInt = (wc_535 : Int) := by rw [show rdI (en 0) 6 = nI wc_535 from by rw [es535]; rfl]; exact nI_toInt (by omega)
      have hnq : ¬ (hasQ (nI W_537) (rdI (en 0) 6) ∧ hasQ b (rdI (en 0) 6)) := fun q => hp_538 (wi_of1 (by omega) q.2.1 (by have := q.2.2; omega))
      exact hp_iretM hx hb hr rfl hlocks hh (⟨hI, hf0, ⟨Or.inl ⟨hnq, rfl⟩, Or.inl ⟨fun q => hnq ⟨q.1, q.2.1⟩, fun _ _ => rfl, rfl⟩⟩⟩) dX11_join_17
  · obtain rfl : r_537 = 0 := Eq.trans hw_537 (if_neg hp_537)
    refine lv_if_eq (tgt := 16) hx hb dX11_join_5 (by decide) (fun _ => ?_) (fun c_0 => absurd c_0 (by decide))
    refine lv_iconst (v := (-1)) hx hb dX11_join_16 (by decide) ?_
    have hc6 : (rdI (en 0) 6).toInt = (wc_535 : Int) := by rw [show rdI (en 0) 6 = nI wc_535 from by rw [es535]; rfl]; exact nI_toInt (by omega)
    have hnq : ¬ (hasQ a (rdI (en 0) 6) ∧ hasQ b (rdI (en 0) 6)) := fun q => hp_537 (wi_of1 (by omega) q.1.1 (by have := q.1.2; omega))
    exact hp_iretM hx hb hr rfl hlocks hh (⟨hI, hf0, ⟨Or.inl ⟨hnq, rfl⟩, Or.inl ⟨fun q => hnq ⟨q.1, q.2.1⟩, fun _ _ => rfl, rfl⟩⟩⟩) dX11_join_17
theorem kw_X11_join {R : Room} {s : State} {args : Array Value} {own : String} {idx : Nat} (hts : ∀ w ∈ TB, w.before args s = true) (hl : Cond.methodLink own idx yX11_join ∈ TB) (hR : 4 + 1 ≤ R.frames ∧ 8 + (4 + 11) + 40 * 4 ≤ R.locals) : CallW R s args own RX11 idx yX11_join cX11_join 4 (some .int) (Cond.code yX11_join cX11_join 4 (some .int) :: TB) (rmN 4) 0 0 2 := cwV 2 hts (TB_V hl tw_700 tw_701 tw_1 tw_702) rfl rfl rfl (by decide +kernel) hR
set_option maxHeartbeats 4000000 in
set_option maxRecDepth 100000 in
/-- letter -/
theorem c_X11_letter (l : Launch) (D : va_G) (cy : Nat → ClassId) (sz : Nat) (cs : List Nat) (ad : Nat → Nat) (en : Nat → va_E) (hI : SX cy cs ad en) (w i : Int32)   : Met l yX11_letter (Cond.code yX11_letter cX11_letter 3 (some .int) :: TB) (rmN 2) (va_Pc [.ref (ad 0), .int w, .int i] (Pre D cy cs ad en sz)) (va_Qi (S := Unit) (fun r _ => XLE w i r en) (fun _ _ => True) (Nf sz)) 0 0 (Nf sz) := by
  refine Met.ofW (cc := cX11_letter) (maxL := 3) (ret := (some .int)) (by decide) rfl ?_
  intro p e s m args below meth c s₁ B hml hv
  obtain ⟨rfl, hsz, hP, hK, hD0⟩ := hv
  have hx := B.exec
  have hb := B.bytes
  have hr := B.returns
  have hts : ∀ w ∈ TB, w.before _ s = true := fun w h => atoms_spec (ws := _ :: TB) B.pre w (List.mem_cons_of_mem _ h)
  have hown : s.vm.findClass RX11 = some m.cls := findClass_of_methodNamed B.named
  have hlocks := B.notSynchronized
  have hh : Hp D (Nf sz) (fun _ => True) s.heap s.heap [] cs ad en := ⟨hP, hD0, va_S.rf⟩
  have hA : ∀ q : Nat, s.heap.size ≤ q → Nf sz q := fun q h => by rw [hsz] at h; exact h
  have hl := lv_entry ([.ref (ad 0), .int w, .int i]) (n := 3) (Nat.le_of_ble_eq_true rfl)
  rw [lg_entry_eq]
  generalize (lg_sl ([.ref (ad 0), .int w, .int i]) ++ List.replicate (3 - (lg_sl ([.ref (ad 0), .int w, .int i])).length) Slot.unset).toArray = ls at hl ⊢
  have hl : lv_has ls 3 [(0, .ref (ad 0)), (1, .int w), (2, .int i)] := hl
  obtain ⟨wc_558, lf_558, es558, p0_558⟩ := get_A hI
  obtain ⟨cnt, d, mm, es559, hcnt, hd2, hd3, hmm⟩ := get_T hI
  refine lv_aload_n hx hb dX11_letter_0 rfl (lv_at hl 0 rfl) ?_
  refine lv_iload_n hx hb dX11_letter_1 rfl (lv_at hl 1 rfl) ?_
  refine hp_callRi (va_runV (As := [.int w]) (rest := []) ⟨hx, hb, hml, hown, hts⟩ (c_X11_hasWord l D cy _ cs ad en hI w ) (kw_X11_hasWord hts tw_703 ⟨by decide, by decide⟩) (preV_of hh hK (hI.1 _ (by decide)) es558 rfl) rfl rfl hl.1 rfl (lv_room (Nat.le_of_ble_eq_true rfl)) dX11_letter_2 ⟨Nat.le_of_ble_eq_true rfl, Nat.le_of_ble_eq_true rfl⟩) hh hA (fun r_560 H locs hw_560 hh => ?_)
  rw [show rdI (en 0) 6 = nI wc_558 from by rw [es558]; rfl] at hw_560
  rcases Decidable.em (wi w 0 (nI wc_558 - 1)) with hp_560 | hp_560
  · obtain rfl : r_560 = 1 := Eq.trans hw_560 (if_pos hp_560)
    obtain ⟨W_560, rfl, hW_560⟩ := wi_m1 hp_560 (by omega)
    refine lv_if_eq (tgt := 27) hx hb dX11_letter_5 (by decide) (fun c_0 => absurd c_0 (by decide)) (fun _ => ?_)
    refine lv_iload_n hx hb dX11_letter_8 rfl (lv_at hl 2 rfl) ?_
    refine lv_iconst (v := 0) hx hb dX11_letter_9 (by decide) ?_
    refine lv_aload_n hx hb dX11_letter_10 rfl (lv_at hl 0 rfl) ?_
    refine hp_get hx hb hts ix11 hown hK hh (q := 0) rfl (hI.1 _ (by decide)) es558 rfl 3 (by decide) (hts _ tw_248) (fun _ h9 => h9) rfl dX11_letter_11 ?_
    refine lv_iload_n hx hb dX11_letter_14 rfl (lv_at hl 1 rfl) ?_
    have es561 := get_wos hI
    unfold P_wos at es561
    refine hp_aald hx hb hK hh (q := 74) rfl (hI.1 _ (by decide)) 5 es561 rfl rfl (vp_in_nI (n := W_560) (by omega) (by decide)) (v := .ref (ad (77 + 3 * W_560))) (by rw [nI_clamp (n := W_560) (by omega)]; exact rfB_v (by omega)) dX11_letter_15 ?_
    obtain ⟨lc_562, es562, p0_562⟩ := get_wo hI (j := W_560) (by omega)
    refine hp_get hx hb hts ix10 hown hK hh (q := (77 + 3 * W_560)) rfl (hI.1 _ (by omega)) es562 rfl 2 (by decide) (hts _ tw_216) (fun _ h9 => h9) rfl dX11_letter_16 ?_
    refine lv_iconst (v := 1) hx hb dX11_letter_19 (by decide) ?_
    refine lv_isub hx hb dX11_letter_20 ?_
    refine hp_callRi (va_runS (As := [.int i, .int 0, .int ((nI lc_562) - 1)]) (rest := []) ⟨hx, hb, hml, hown, hts⟩ (c_X11_isWithin l D cy _ cs ad en i 0 ((nI lc_562) - 1)) (kw_X11_isWithin hts tw_274 ⟨by decide, by decide⟩) (preS_of hh hK) rfl rfl hl.1 rfl (lv_room (Nat.le_of_ble_eq_true rfl)) dX11_letter_21 ⟨Nat.le_of_ble_eq_true rfl, Nat.le_of_ble_eq_true rfl⟩) hh hA (fun r_563 H locs hw_563 hh => ?_)
    rcases Decidable.em (wi i 0 ((nI lc_562) - 1)) with hp_563 | hp_563
    · obtain rfl : r_563 = 1 := Eq.trans hw_563 (if_pos hp_563)
      obtain ⟨N_563, rfl, hB_563⟩ := wi_m1 hp_563 (by omega)
      refine lv_if_ne (tgt := 29) hx hb dX11_letter_24 (by decide) (fun _ => ?_) (fun c_0 => absurd c_0 (by decide))
      refine lv_aload_n hx hb dX11_letter_29 rfl (lv_at hl 0 rfl) ?_
      refine hp_get hx hb hts ix11 hown hK hh (q := 0) rfl (hI.1 _ (by decide)) es558 rfl 3 (by decide) (hts _ tw_248) (fun _ h9 => h9) rfl dX11_letter_30 ?_
      refine lv_iload_n hx hb dX11_letter_33 rfl (lv_at hl 1 rfl) ?_
      refine hp_aald hx hb hK hh (q := 74) rfl (hI.1 _ (by decide)) 5 es561 rfl rfl (vp_in_nI (n := W_560) (by omega) (by decide)) (v := .ref (ad (77 + 3 * W_560))) (by rw [nI_clamp (n := W_560) (by omega)]; exact rfB_v (by omega)) dX11_letter_34 ?_
      refine hp_get hx hb hts ix10 hown hK hh (q := (77 + 3 * W_560)) rfl (hI.1 _ (by omega)) es562 rfl 0 (by decide) (hts _ tw_212) (fun _ h9 => h9) rfl dX11_letter_35 ?_
      refine lv_iload_n hx hb dX11_letter_38 rfl (lv_at hl 2 rfl) ?_
      obtain ⟨f_564, es564, p0_564⟩ := get_wol hI (j := W_560) (by omega)
      refine hp_iald hx hb hK hh (q := (78 + 3 * W_560)) rfl (hI.1 _ (by omega)) es564 (vp_in_nI (n := N_563) (by omega) (by decide)) dX11_letter_39 ?_
      rw [nI_clamp (n := N_563) (by omega)]
      obtain ⟨v_565, hv_565, hfv_565⟩ := p0_564 N_563 (by omega)
      rw [hfv_565]
      have hc6 : (rdI (en 0) 6).toInt = (wc_558 : Int) := by rw [show rdI (en 0) 6 = nI wc_558 from by rw [es558]; rfl]; exact nI_toInt (by omega)
      have hc2 : (rdI (en (77 + 3 * W_560)) 2).toInt = (lc_562 : Int) := by rw [show rdI (en (77 + 3 * W_560)) 2 = nI lc_562 from by rw [es562]; rfl]; exact nI_toInt (by omega)
      exact hp_iretR hx hb hr rfl hlocks hsz hh (Or.inr ⟨W_560, rfl, by omega, ⟨by rw [nI_toInt (n := W_560) (by omega)]; omega, by rw [nI_toInt (n := W_560) (by omega), hc6]; omega⟩, Or.inl ⟨⟨by rw [nI_toInt (n := N_563) (by omega)]; omega, by rw [nI_toInt (n := N_563) (by omega), hc2]; omega⟩, (by rw [nI_clamp (n := N_563) (by omega), es564]; exact hfv_565.symm)⟩⟩) dX11_letter_40
    · obtain rfl : r_563 = 0 := Eq.trans hw_563 (if_neg hp_563)
      refine lv_if_ne (tgt := 29) hx hb dX11_letter_24 (by decide) (fun c_0 => absurd c_0 (by decide)) (fun _ => ?_)
      refine lv_iconst (v := (-1)) hx hb dX11_letter_27 (by decide) ?_
      have hc6 : (rdI (en 0) 6).toInt = (wc_558 : Int) := by rw [show rdI (en 0) 6 = nI wc_558 from by rw [es558]; rfl]; exact nI_toInt (by omega)
      have hc2 : (rdI (en (77 + 3 * W_560)) 2).toInt = (lc_562 : Int) := by rw [show rdI (en (77 + 3 * W_560)) 2 = nI lc_562 from by rw [es562]; rfl]; exact nI_toInt (by omega)
      exact hp_iretR hx hb hr rfl hlocks hsz hh (Or.inr ⟨W_560, rfl, by omega, ⟨by rw [nI_toInt (n := W_560) (by omega)]; omega, by rw [nI_toInt (n := W_560) (by omega), hc6]; omega⟩, Or.inr ⟨fun q => hp_563 (wi_of1 (by omega) q.1 (by have := q.2; omega)), rfl⟩⟩) dX11_letter_28
  · obtain rfl : r_560 = 0 := Eq.trans hw_560 (if_neg hp_560)
    refine lv_if_eq (tgt := 27) hx hb dX11_letter_5 (by decide) (fun _ => ?_) (fun c_0 => absurd c_0 (by decide))
    refine lv_iconst (v := (-1)) hx hb dX11_letter_27 (by decide) ?_
    have hc6 : (rdI (en 0) 6).toInt = (wc_558 : Int) := by rw [show rdI (en 0) 6 = nI wc_558 from by rw [es558]; rfl]; exact nI_toInt (by omega)
    exact hp_iretR hx hb hr rfl hlocks hsz hh (Or.inl ⟨fun q => hp_560 (wi_of1 (by omega) q.1 (by have := q.2; omega)), rfl⟩) dX11_letter_28
theorem kw_X11_letter {R : Room} {s : State} {args : Array Value} {own : String} {idx : Nat} (hts : ∀ w ∈ TB, w.before args s = true) (hl : Cond.methodLink own idx yX11_letter ∈ TB) (hR : 2 + 1 ≤ R.frames ∧ 8 + (3 + 11) + 40 * 2 ≤ R.locals) : CallW R s args own RX11 idx yX11_letter cX11_letter 3 (some .int) (Cond.code yX11_letter cX11_letter 3 (some .int) :: TB) (rmN 2) 0 0 2 := cwV 2 hts (TB_V hl tw_713 tw_714 tw_1 tw_715) rfl rfl rfl (by decide +kernel) hR
set_option maxHeartbeats 4000000 in
set_option maxRecDepth 100000 in
/-- isRing -/
theorem c_X11_isRing (l : Launch) (D : va_G) (cy : Nat → ClassId) (sz : Nat) (cs : List Nat) (ad : Nat → Nat) (en : Nat → va_E) (hI : SX cy cs ad en) (J : Nat) (hJ : J < 10) (hlc : 1 ≤ (rdI (en (77 + 3 * J)) 2).toInt)   : Met l yX11_isRing (Cond.code yX11_isRing cX11_isRing 2 (some .boolean) :: TB) (rmN 3) (va_Pc [.ref (ad 0), .ref (ad (77 + 3 * J))] (Pre D cy cs ad en sz)) (va_Qi (S := Unit) (fun r _ => bI r (rgP (rdF (en 10)) (rdF (en (78 + 3 * J))) (rdI (en (77 + 3 * J)) 2).toNatClampNeg)) (fun _ _ => True) (Nf sz)) 0 0 (Nf sz) := by
  refine Met.ofW (cc := cX11_isRing) (maxL := 2) (ret := (some .boolean)) (by decide) rfl ?_
  intro p e s m args below meth c s₁ B hml hv
  obtain ⟨rfl, hsz, hP, hK, hD0⟩ := hv
  have hx := B.exec
  have hb := B.bytes
  have hr := B.returns
  have hts : ∀ w ∈ TB, w.before _ s = true := fun w h => atoms_spec (ws := _ :: TB) B.pre w (List.mem_cons_of_mem _ h)
  have hown : s.vm.findClass RX11 = some m.cls := findClass_of_methodNamed B.named
  have hlocks := B.notSynchronized
  have hh : Hp D (Nf sz) (fun _ => True) s.heap s.heap [] cs ad en := ⟨hP, hD0, va_S.rf⟩
  have hA : ∀ q : Nat, s.heap.size ≤ q → Nf sz q := fun q h => by rw [hsz] at h; exact h
  have hl := lv_entry ([.ref (ad 0), .ref (ad (77 + 3 * J))]) (n := 2) (Nat.le_of_ble_eq_true rfl)
  rw [lg_entry_eq]
  generalize (lg_sl ([.ref (ad 0), .ref (ad (77 + 3 * J))]) ++ List.replicate (2 - (lg_sl ([.ref (ad 0), .ref (ad (77 + 3 * J))])).length) Slot.unset).toArray = ls at hl ⊢
  have hl : lv_has ls 2 [(0, .ref (ad 0)), (1, .ref (ad (77 + 3 * J)))] := hl
  obtain ⟨wc_566, lf_566, es566, p0_566⟩ := get_A hI
  obtain ⟨cnt, d, mm, es567, hcnt, hd2, hd3, hmm⟩ := get_T hI
  obtain ⟨f10, es568, hb10⟩ := get_alw hI
  obtain ⟨lc_569, es569, p0_569⟩ := get_wo hI (j := J) (by omega)
  have hlp9 : 1 ≤ lc_569 := by rw [show rdI (en (77 + 3 * J)) 2 = nI lc_569 from by rw [es569]; rfl, nI_toInt (by omega)] at hlc; omega
  refine lv_aload_n hx hb dX11_isRing_0 rfl (lv_at hl 0 rfl) ?_
  refine hp_get hx hb hts ix11 hown hK hh (q := 0) rfl (hI.1 _ (by decide)) es566 rfl 0 (by decide) (hts _ tw_245) (fun _ h9 => h9) rfl dX11_isRing_1 ?_
  refine lv_aload_n hx hb dX11_isRing_4 rfl (lv_at hl 1 rfl) ?_
  refine hp_get hx hb hts ix10 hown hK hh (q := (77 + 3 * J)) rfl (hI.1 _ (by omega)) es569 rfl 0 (by decide) (hts _ tw_212) (fun _ h9 => h9) rfl dX11_isRing_5 ?_
  refine lv_aload_n hx hb dX11_isRing_8 rfl (lv_at hl 1 rfl) ?_
  refine hp_get hx hb hts ix10 hown hK hh (q := (77 + 3 * J)) rfl (hI.1 _ (by omega)) es569 rfl 2 (by decide) (hts _ tw_216) (fun _ h9 => h9) rfl dX11_isRing_9 ?_
  obtain ⟨f_570, es570, p0_570⟩ := get_wol hI (j := J) (by omega)
  refine hp_callRi (va_runV (As := [.ref (ad (78 + 3 * J)), .int (nI lc_569)]) (rest := []) ⟨hx, hb, hml, hown, hts⟩ (c_X8_isAllowed l D cy _ cs ad en (hI.1 _ (by decide)) cnt d mm hcnt hd2 hd3 hmm (hI.1 _ (by decide)) f10 hb10 (78 + 3 * J) 12 lc_569 (hI.1 _ (by omega)) (by decide) f_570 p0_570 (by omega) (by omega) es567 es568 es570) (kw_X8_isAllowed hts tw_720 ⟨by decide, by decide⟩) (preV_of hh hK (hI.1 _ (by decide)) es567 rfl) rfl rfl hl.1 rfl (lv_room (Nat.le_of_ble_eq_true rfl)) dX11_isRing_12 ⟨Nat.le_of_ble_eq_true rfl, Nat.le_of_ble_eq_true rfl⟩) hh hA (fun r_571 H locs hw_571 hh => ?_)
  rcases hw_571 with ⟨hb_571, hy_571⟩ | ⟨hb_571, hy_571⟩
  · obtain rfl : r_571 = 1 := hb_571
    refine lv_if_eq (tgt := 54) hx hb dX11_isRing_15 (by decide) (fun c_0 => absurd c_0 (by decide)) (fun _ => ?_)
    refine lv_aload_n hx hb dX11_isRing_18 rfl (lv_at hl 0 rfl) ?_
    refine hp_get hx hb hts ix11 hown hK hh (q := 0) rfl (hI.1 _ (by decide)) es566 rfl 0 (by decide) (hts _ tw_245) (fun _ h9 => h9) rfl dX11_isRing_19 ?_
    refine lv_aload_n hx hb dX11_isRing_22 rfl (lv_at hl 1 rfl) ?_
    refine hp_get hx hb hts ix10 hown hK hh (q := (77 + 3 * J)) rfl (hI.1 _ (by omega)) es569 rfl 0 (by decide) (hts _ tw_212) (fun _ h9 => h9) rfl dX11_isRing_23 ?_
    refine lv_aload_n hx hb dX11_isRing_26 rfl (lv_at hl 1 rfl) ?_
    refine hp_get hx hb hts ix10 hown hK hh (q := (77 + 3 * J)) rfl (hI.1 _ (by omega)) es569 rfl 2 (by decide) (hts _ tw_216) (fun _ h9 => h9) rfl dX11_isRing_27 ?_
    refine hp_callRi (va_runV (As := [.ref (ad (78 + 3 * J)), .int (nI lc_569)]) (rest := []) ⟨hx, hb, hml, hown, hts⟩ (c_X8_isTurnable l D cy _ cs ad en (hI.1 _ (by decide)) cnt d mm hcnt hd2 hd3 hmm (hI.1 _ (by decide)) f10 hb10 (78 + 3 * J) 12 lc_569 (hI.1 _ (by omega)) (by decide) f_570 p0_570 (by omega) (by omega) es567 es568 es570) (kw_X8_isTurnable hts tw_728 ⟨by decide, by decide⟩) (preV_of hh hK (hI.1 _ (by decide)) es567 rfl) rfl rfl hl.1 rfl (lv_room (Nat.le_of_ble_eq_true rfl)) dX11_isRing_30 ⟨Nat.le_of_ble_eq_true rfl, Nat.le_of_ble_eq_true rfl⟩) hh hA (fun r_572 H locs hw_572 hh => ?_)
    rcases hw_572 with ⟨hb_572, hy_572⟩ | ⟨hb_572, hy_572⟩
    · obtain rfl : r_572 = 1 := hb_572
      refine lv_if_eq (tgt := 54) hx hb dX11_isRing_33 (by decide) (fun c_0 => absurd c_0 (by decide)) (fun _ => ?_)
      refine lv_aload_n hx hb dX11_isRing_36 rfl (lv_at hl 1 rfl) ?_
      refine hp_get hx hb hts ix10 hown hK hh (q := (77 + 3 * J)) rfl (hI.1 _ (by omega)) es569 rfl 0 (by decide) (hts _ tw_212) (fun _ h9 => h9) rfl dX11_isRing_37 ?_
      refine lv_aload_n hx hb dX11_isRing_40 rfl (lv_at hl 1 rfl) ?_
      refine hp_get hx hb hts ix10 hown hK hh (q := (77 + 3 * J)) rfl (hI.1 _ (by omega)) es569 rfl 2 (by decide) (hts _ tw_216) (fun _ h9 => h9) rfl dX11_isRing_41 ?_
      refine hp_callRi (va_runS (As := [.ref (ad (78 + 3 * J)), .int (nI lc_569)]) (rest := []) ⟨hx, hb, hml, hown, hts⟩ (c_X5_isAheadOfItsTurns l D cy _ cs ad en (78 + 3 * J) 12 (hI.1 _ (by omega)) (by decide) f_570 lc_569 (by omega) (by omega) (by omega) es570) (kw_X5_isAheadOfItsTurns hts tw_729 ⟨by decide, by decide⟩) (preS_of hh hK) rfl rfl hl.1 rfl (lv_room (Nat.le_of_ble_eq_true rfl)) dX11_isRing_44 ⟨Nat.le_of_ble_eq_true rfl, Nat.le_of_ble_eq_true rfl⟩) hh hA (fun r_573 H locs hw_573 hh => ?_)
      rcases hw_573 with ⟨hb_573, hy_573⟩ | ⟨hb_573, hy_573⟩
      · obtain rfl : r_573 = 1 := hb_573
        refine lv_if_eq (tgt := 54) hx hb dX11_isRing_47 (by decide) (fun c_0 => absurd c_0 (by decide)) (fun _ => ?_)
        refine lv_iconst (v := 1) hx hb dX11_isRing_50 (by decide) ?_
        refine lv_goto (tgt := 55) hx hb dX11_isRing_51 (by decide) ?_
        have hn9 : (rdI (en (77 + 3 * J)) 2).toNatClampNeg = lc_569 := by rw [show rdI (en (77 + 3 * J)) 2 = nI lc_569 from by rw [es569]; rfl]; exact nI_clamp (by omega)
        have hf9 : rdF (en (78 + 3 * J)) = f_570 := by rw [es570]; rfl
        have hg9 : rdF (en 10) = f10 := by rw [es568]; rfl
        exact hp_iretR hx hb hr rfl hlocks hsz hh (by rw [hn9, hf9, hg9]; exact Or.inl ⟨rfl, hy_571, hy_572, hy_573⟩) dX11_isRing_55
      · obtain rfl : r_573 = 0 := hb_573
        refine lv_if_eq (tgt := 54) hx hb dX11_isRing_47 (by decide) (fun _ => ?_) (fun c_0 => absurd c_0 (by decide))
        refine lv_iconst (v := 0) hx hb dX11_isRing_54 (by decide) ?_
        have hn9 : (rdI (en (77 + 3 * J)) 2).toNatClampNeg = lc_569 := by rw [show rdI (en (77 + 3 * J)) 2 = nI lc_569 from by rw [es569]; rfl]; exact nI_clamp (by omega)
        have hf9 : rdF (en (78 + 3 * J)) = f_570 := by rw [es570]; rfl
        have hg9 : rdF (en 10) = f10 := by rw [es568]; rfl
        exact hp_iretR hx hb hr rfl hlocks hsz hh (by rw [hn9, hf9, hg9]; exact Or.inr ⟨rfl, fun q => hy_573 q.2.2⟩) dX11_isRing_55
    · obtain rfl : r_572 = 0 := hb_572
      refine lv_if_eq (tgt := 54) hx hb dX11_isRing_33 (by decide) (fun _ => ?_) (fun c_0 => absurd c_0 (by decide))
      refine lv_iconst (v := 0) hx hb dX11_isRing_54 (by decide) ?_
      have hn9 : (rdI (en (77 + 3 * J)) 2).toNatClampNeg = lc_569 := by rw [show rdI (en (77 + 3 * J)) 2 = nI lc_569 from by rw [es569]; rfl]; exact nI_clamp (by omega)
      have hf9 : rdF (en (78 + 3 * J)) = f_570 := by rw [es570]; rfl
      have hg9 : rdF (en 10) = f10 := by rw [es568]; rfl
      exact hp_iretR hx hb hr rfl hlocks hsz hh (by rw [hn9, hf9, hg9]; exact Or.inr ⟨rfl, fun q => hy_572 q.2.1⟩) dX11_isRing_55
  · obtain rfl : r_571 = 0 := hb_571
    refine lv_if_eq (tgt := 54) hx hb dX11_isRing_15 (by decide) (fun _ => ?_) (fun c_0 => absurd c_0 (by decide))
    refine lv_iconst (v := 0) hx hb dX11_isRing_54 (by decide) ?_
    have hn9 : (rdI (en (77 + 3 * J)) 2).toNatClampNeg = lc_569 := by rw [show rdI (en (77 + 3 * J)) 2 = nI lc_569 from by rw [es569]; rfl]; exact nI_clamp (by omega)
    have hf9 : rdF (en (78 + 3 * J)) = f_570 := by rw [es570]; rfl
    have hg9 : rdF (en 10) = f10 := by rw [es568]; rfl
    exact hp_iretR hx hb hr rfl hlocks hsz hh (by rw [hn9, hf9, hg9]; exact Or.inr ⟨rfl, fun q => hy_571 q.1⟩) dX11_isRing_55
theorem kw_X11_isRing {R : Room} {s : State} {args : Array Value} {own : String} {idx : Nat} (hts : ∀ w ∈ TB, w.before args s = true) (hl : Cond.methodLink own idx yX11_isRing ∈ TB) (hR : 3 + 1 ≤ R.frames ∧ 8 + (2 + 11) + 40 * 3 ≤ R.locals) : CallW R s args own RX11 idx yX11_isRing cX11_isRing 2 (some .boolean) (Cond.code yX11_isRing cX11_isRing 2 (some .boolean) :: TB) (rmN 3) 0 0 1 := cwV 1 hts (TB_V hl tw_726 ts_27 tw_1 tw_727) rfl rfl rfl (by decide +kernel) hR
set_option maxHeartbeats 4000000 in
set_option maxRecDepth 100000 in
/-- about -/
theorem c_X11_about (l : Launch) (D : va_G) (cy : Nat → ClassId) (sz : Nat) (cs : List Nat) (ad : Nat → Nat) (en : Nat → va_E) (hI : SX cy cs ad en) (w z : Int32) (hWX : WX en)   : Met l yX11_about (Cond.code yX11_about cX11_about 4 (some .int) :: TB) (rmN 4) (va_Pc [.ref (ad 0), .int w, .int z] (Pre D cy cs ad en sz)) (va_Qi (S := Unit) (fun r _ => XAB w z r en) (fun _ _ => True) (Nf sz)) 0 0 (Nf sz) := by
  refine Met.ofW (cc := cX11_about) (maxL := 4) (ret := (some .int)) (by decide) rfl ?_
  intro p e s m args below meth c s₁ B hml hv
  obtain ⟨rfl, hsz, hP, hK, hD0⟩ := hv
  have hx := B.exec
  have hb := B.bytes
  have hr := B.returns
  have hts : ∀ w ∈ TB, w.before _ s = true := fun w h => atoms_spec (ws := _ :: TB) B.pre w (List.mem_cons_of_mem _ h)
  have hown : s.vm.findClass RX11 = some m.cls := findClass_of_methodNamed B.named
  have hlocks := B.notSynchronized
  have hh : Hp D (Nf sz) (fun _ => True) s.heap s.heap [] cs ad en := ⟨hP, hD0, va_S.rf⟩
  have hA : ∀ q : Nat, s.heap.size ≤ q → Nf sz q := fun q h => by rw [hsz] at h; exact h
  have hl := lv_entry ([.ref (ad 0), .int w, .int z]) (n := 4) (Nat.le_of_ble_eq_true rfl)
  rw [lg_entry_eq]
  generalize (lg_sl ([.ref (ad 0), .int w, .int z]) ++ List.replicate (4 - (lg_sl ([.ref (ad 0), .int w, .int z])).length) Slot.unset).toArray = ls at hl ⊢
  have hl : lv_has ls 4 [(0, .ref (ad 0)), (1, .int w), (2, .int z)] := hl
  obtain ⟨wc_574, lf_574, es574, p0_574⟩ := get_A hI
  obtain ⟨cnt, d, mm, es575, hcnt, hd2, hd3, hmm⟩ := get_T hI
  obtain ⟨f10, es576, hb10⟩ := get_alw hI
  refine lv_aload_n hx hb dX11_about_0 rfl (lv_at hl 0 rfl) ?_
  refine lv_iload_n hx hb dX11_about_1 rfl (lv_at hl 1 rfl) ?_
  refine hp_callRi (va_runV (As := [.int w]) (rest := []) ⟨hx, hb, hml, hown, hts⟩ (c_X11_hasWord l D cy _ cs ad en hI w ) (kw_X11_hasWord hts tw_703 ⟨by decide, by decide⟩) (preV_of hh hK (hI.1 _ (by decide)) es574 rfl) rfl rfl hl.1 rfl (lv_room (Nat.le_of_ble_eq_true rfl)) dX11_about_2 ⟨Nat.le_of_ble_eq_true rfl, Nat.le_of_ble_eq_true rfl⟩) hh hA (fun r_577 H locs hw_577 hh => ?_)
  rw [show rdI (en 0) 6 = nI wc_574 from by rw [es574]; rfl] at hw_577
  rcases Decidable.em (wi w 0 (nI wc_574 - 1)) with hp_577 | hp_577
  · obtain rfl : r_577 = 1 := Eq.trans hw_577 (if_pos hp_577)
    obtain ⟨W_577, rfl, hW_577⟩ := wi_m1 hp_577 (by omega)
    refine lv_if_ne (tgt := 10) hx hb dX11_about_5 (by decide) (fun _ => ?_) (fun c_0 => absurd c_0 (by decide))
    refine lv_aload_n hx hb dX11_about_10 rfl (lv_at hl 0 rfl) ?_
    refine hp_get hx hb hts ix11 hown hK hh (q := 0) rfl (hI.1 _ (by decide)) es574 rfl 3 (by decide) (hts _ tw_248) (fun _ h9 => h9) rfl dX11_about_11 ?_
    refine lv_iload_n hx hb dX11_about_14 rfl (lv_at hl 1 rfl) ?_
    have es578 := get_wos hI
    unfold P_wos at es578
    refine hp_aald hx hb hK hh (q := 74) rfl (hI.1 _ (by decide)) 5 es578 rfl rfl (vp_in_nI (n := W_577) (by omega) (by decide)) (v := .ref (ad (77 + 3 * W_577))) (by rw [nI_clamp (n := W_577) (by omega)]; exact rfB_v (by omega)) dX11_about_15 ?_
    refine lv_astore_n (lv' := [(3, .ref (ad (77 + 3 * W_577))), (0, .ref (ad 0)), (1, .int (nI W_577)), (2, .int z)]) hx hb dX11_about_16 rfl hl (by decide) rfl (fun ls hl => ?_)
    obtain ⟨lc_579, es579, p0_579⟩ := get_wo hI (j := W_577) (by omega)
    have hlp9 : 1 ≤ lc_579 := WX_lc hWX (show rdI (en 0) 6 = nI wc_574 from by rw [es574]; rfl) (by omega) (show rdI (en (77 + 3 * W_577)) 2 = nI lc_579 from by rw [es579]; rfl) (by omega) (by omega)
    refine lv_iload_n hx hb dX11_about_17 rfl (lv_at hl 3 rfl) ?_
    by_cases q_580_0 : z = 0
    · refine lv_tableIn (off := 30) (tgt := 48) hx hb dX11_about_18 (by rw [q_580_0]; decide) (by rw [q_580_0]; decide) (by rw [q_580_0]; decide) (by decide) ?_
      refine lv_aload_n hx hb dX11_about_48 rfl (lv_at hl 0 rfl) ?_
      refine hp_get hx hb hts ix10 hown hK hh (q := (77 + 3 * W_577)) rfl (hI.1 _ (by omega)) es579 rfl 2 (by decide) (hts _ tw_216) (fun _ h9 => h9) rfl dX11_about_49 ?_
      have hc6 : (rdI (en 0) 6).toInt = (wc_574 : Int) := by rw [show rdI (en 0) 6 = nI wc_574 from by rw [es574]; rfl]; exact nI_toInt (by omega)
      exact hp_iretR hx hb hr rfl hlocks hsz hh (Or.inr ⟨W_577, lc_579, rfl, by omega, ⟨by rw [nI_toInt (n := W_577) (by omega)]; omega, by rw [nI_toInt (n := W_577) (by omega), hc6]; omega⟩, (by rw [es579]; rfl), hlp9, by omega, Or.inl ⟨q_580_0, rfl⟩⟩) dX11_about_52
    by_cases q_580_1 : z = 1
    · refine lv_tableIn (off := 35) (tgt := 53) hx hb dX11_about_18 (by rw [q_580_1]; decide) (by rw [q_580_1]; decide) (by rw [q_580_1]; decide) (by decide) ?_
      refine lv_aload_n hx hb dX11_about_53 rfl (lv_at hl 1 rfl) ?_
      refine hp_get hx hb hts ix11 hown hK hh (q := 0) rfl (hI.1 _ (by decide)) es574 rfl 0 (by decide) (hts _ tw_245) (fun _ h9 => h9) rfl dX11_about_54 ?_
      refine lv_aload_n hx hb dX11_about_57 rfl (lv_at hl 0 rfl) ?_
      refine hp_get hx hb hts ix10 hown hK hh (q := (77 + 3 * W_577)) rfl (hI.1 _ (by omega)) es579 rfl 0 (by decide) (hts _ tw_212) (fun _ h9 => h9) rfl dX11_about_58 ?_
      refine lv_aload_n hx hb dX11_about_61 rfl (lv_at hl 0 rfl) ?_
      refine hp_get hx hb hts ix10 hown hK hh (q := (77 + 3 * W_577)) rfl (hI.1 _ (by omega)) es579 rfl 2 (by decide) (hts _ tw_216) (fun _ h9 => h9) rfl dX11_about_62 ?_
      obtain ⟨f_581, es581, p0_581⟩ := get_wol hI (j := W_577) (by omega)
      refine hp_callRi (va_runV (As := [.ref (ad (78 + 3 * W_577)), .int (nI lc_579)]) (rest := []) ⟨hx, hb, hml, hown, hts⟩ (c_X8_isAllowed l D cy _ cs ad en (hI.1 _ (by decide)) cnt d mm hcnt hd2 hd3 hmm (hI.1 _ (by decide)) f10 hb10 (78 + 3 * W_577) 12 lc_579 (hI.1 _ (by omega)) (by decide) f_581 p0_581 (by omega) (by omega) es575 es576 es581) (kw_X8_isAllowed hts tw_720 ⟨by decide, by decide⟩) (preV_of hh hK (hI.1 _ (by decide)) es575 rfl) rfl rfl hl.1 rfl (lv_room (Nat.le_of_ble_eq_true rfl)) dX11_about_65 ⟨Nat.le_of_ble_eq_true rfl, Nat.le_of_ble_eq_true rfl⟩) hh hA (fun r_582 H locs hw_582 hh => ?_)
      rcases hw_582 with ⟨hb_582, hy_582⟩ | ⟨hb_582, hy_582⟩
      · obtain rfl : r_582 = 1 := hb_582
        refine lv_if_eq (tgt := 75) hx hb dX11_about_68 (by decide) (fun c_0 => absurd c_0 (by decide)) (fun _ => ?_)
        refine lv_iconst (v := 1) hx hb dX11_about_71 (by decide) ?_
        refine lv_goto (tgt := 76) hx hb dX11_about_72 (by decide) ?_
        have hc6 : (rdI (en 0) 6).toInt = (wc_574 : Int) := by rw [show rdI (en 0) 6 = nI wc_574 from by rw [es574]; rfl]; exact nI_toInt (by omega)
        have hg9 : rdF (en 10) = f10 := by rw [es576]; rfl
        have hf9 : rdF (en (78 + 3 * W_577)) = f_581 := by rw [es581]; rfl
        exact hp_iretR hx hb hr rfl hlocks hsz hh (Or.inr ⟨W_577, lc_579, rfl, by omega, ⟨by rw [nI_toInt (n := W_577) (by omega)]; omega, by rw [nI_toInt (n := W_577) (by omega), hc6]; omega⟩, (by rw [es579]; rfl), hlp9, by omega, Or.inr (Or.inl ⟨q_580_1, by rw [hf9, hg9]; exact Or.inl ⟨rfl, hy_582⟩⟩)⟩) dX11_about_76
      · obtain rfl : r_582 = 0 := hb_582
        refine lv_if_eq (tgt := 75) hx hb dX11_about_68 (by decide) (fun _ => ?_) (fun c_0 => absurd c_0 (by decide))
        refine lv_iconst (v := 0) hx hb dX11_about_75 (by decide) ?_
        have hc6 : (rdI (en 0) 6).toInt = (wc_574 : Int) := by rw [show rdI (en 0) 6 = nI wc_574 from by rw [es574]; rfl]; exact nI_toInt (by omega)
        have hg9 : rdF (en 10) = f10 := by rw [es576]; rfl
        have hf9 : rdF (en (78 + 3 * W_577)) = f_581 := by rw [es581]; rfl
        exact hp_iretR hx hb hr rfl hlocks hsz hh (Or.inr ⟨W_577, lc_579, rfl, by omega, ⟨by rw [nI_toInt (n := W_577) (by omega)]; omega, by rw [nI_toInt (n := W_577) (by omega), hc6]; omega⟩, (by rw [es579]; rfl), hlp9, by omega, Or.inr (Or.inl ⟨q_580_1, by rw [hf9, hg9]; exact Or.inr ⟨rfl, hy_582⟩⟩)⟩) dX11_about_76
    by_cases q_580_2 : z = 2
    · refine lv_tableIn (off := 59) (tgt := 77) hx hb dX11_about_18 (by rw [q_580_2]; decide) (by rw [q_580_2]; decide) (by rw [q_580_2]; decide) (by decide) ?_
      refine lv_aload_n hx hb dX11_about_77 rfl (lv_at hl 1 rfl) ?_
      refine lv_aload_n hx hb dX11_about_78 rfl (lv_at hl 0 rfl) ?_
      refine hp_callRi (va_runV (As := [.ref (ad (77 + 3 * W_577))]) (rest := []) ⟨hx, hb, hml, hown, hts⟩ (c_X11_isRing l D cy _ cs ad en hI W_577 (by omega) (by rw [show rdI (en (77 + 3 * W_577)) 2 = nI lc_579 from by rw [es579]; rfl, nI_toInt (by omega)]; omega)) (kw_X11_isRing hts tw_724 ⟨by decide, by decide⟩) (preV_of hh hK (hI.1 _ (by decide)) es574 rfl) rfl rfl hl.1 rfl (lv_room (Nat.le_of_ble_eq_true rfl)) dX11_about_79 ⟨Nat.le_of_ble_eq_true rfl, Nat.le_of_ble_eq_true rfl⟩) hh hA (fun r_583 H locs hw_583 hh => ?_)
      rcases hw_583 with ⟨hb_583, hy_583⟩ | ⟨hb_583, hy_583⟩
      · obtain rfl : r_583 = 1 := hb_583
        refine lv_if_eq (tgt := 89) hx hb dX11_about_82 (by decide) (fun c_0 => absurd c_0 (by decide)) (fun _ => ?_)
        refine lv_iconst (v := 1) hx hb dX11_about_85 (by decide) ?_
        refine lv_goto (tgt := 90) hx hb dX11_about_86 (by decide) ?_
        have hc6 : (rdI (en 0) 6).toInt = (wc_574 : Int) := by rw [show rdI (en 0) 6 = nI wc_574 from by rw [es574]; rfl]; exact nI_toInt (by omega)
        have hg9 : rdF (en 10) = f10 := by rw [es576]; rfl
        have hn9 : (rdI (en (77 + 3 * W_577)) 2).toNatClampNeg = lc_579 := by rw [show rdI (en (77 + 3 * W_577)) 2 = nI lc_579 from by rw [es579]; rfl]; exact nI_clamp (by omega)
        rw [hn9] at hy_583
        exact hp_iretR hx hb hr rfl hlocks hsz hh (Or.inr ⟨W_577, lc_579, rfl, by omega, ⟨by rw [nI_toInt (n := W_577) (by omega)]; omega, by rw [nI_toInt (n := W_577) (by omega), hc6]; omega⟩, (by rw [es579]; rfl), hlp9, by omega, Or.inr (Or.inr (Or.inl ⟨q_580_2, Or.inl ⟨rfl, hy_583⟩⟩))⟩) dX11_about_90
      · obtain rfl : r_583 = 0 := hb_583
        refine lv_if_eq (tgt := 89) hx hb dX11_about_82 (by decide) (fun _ => ?_) (fun c_0 => absurd c_0 (by decide))
        refine lv_iconst (v := 0) hx hb dX11_about_89 (by decide) ?_
        have hc6 : (rdI (en 0) 6).toInt = (wc_574 : Int) := by rw [show rdI (en 0) 6 = nI wc_574 from by rw [es574]; rfl]; exact nI_toInt (by omega)
        have hg9 : rdF (en 10) = f10 := by rw [es576]; rfl
        have hn9 : (rdI (en (77 + 3 * W_577)) 2).toNatClampNeg = lc_579 := by rw [show rdI (en (77 + 3 * W_577)) 2 = nI lc_579 from by rw [es579]; rfl]; exact nI_clamp (by omega)
        rw [hn9] at hy_583
        exact hp_iretR hx hb hr rfl hlocks hsz hh (Or.inr ⟨W_577, lc_579, rfl, by omega, ⟨by rw [nI_toInt (n := W_577) (by omega)]; omega, by rw [nI_toInt (n := W_577) (by omega), hc6]; omega⟩, (by rw [es579]; rfl), hlp9, by omega, Or.inr (Or.inr (Or.inl ⟨q_580_2, Or.inr ⟨rfl, hy_583⟩⟩))⟩) dX11_about_90
    by_cases q_580_3 : z = 3
    · refine lv_tableIn (off := 73) (tgt := 91) hx hb dX11_about_18 (by rw [q_580_3]; decide) (by rw [q_580_3]; decide) (by rw [q_580_3]; decide) (by decide) ?_
      refine lv_aload_n hx hb dX11_about_91 rfl (lv_at hl 0 rfl) ?_
      refine hp_get hx hb hts ix10 hown hK hh (q := (77 + 3 * W_577)) rfl (hI.1 _ (by omega)) es579 rfl 0 (by decide) (hts _ tw_212) (fun _ h9 => h9) rfl dX11_about_92 ?_
      refine lv_aload_n hx hb dX11_about_95 rfl (lv_at hl 0 rfl) ?_
      refine hp_get hx hb hts ix10 hown hK hh (q := (77 + 3 * W_577)) rfl (hI.1 _ (by omega)) es579 rfl 2 (by decide) (hts _ tw_216) (fun _ h9 => h9) rfl dX11_about_96 ?_
      obtain ⟨f_584, es584, p0_584⟩ := get_wol hI (j := W_577) (by omega)
      refine hp_callRi (va_runS (As := [.ref (ad (78 + 3 * W_577)), .int (nI lc_579)]) (rest := []) ⟨hx, hb, hml, hown, hts⟩ (c_X5_repeats l D cy _ cs ad en (78 + 3 * W_577) 12 (hI.1 _ (by omega)) (by decide) f_584 lc_579 (by omega) (by omega) es584) (kw_X5_repeats hts tw_730 ⟨by decide, by decide⟩) (preS_of hh hK) rfl rfl hl.1 rfl (lv_room (Nat.le_of_ble_eq_true rfl)) dX11_about_99 ⟨Nat.le_of_ble_eq_true rfl, Nat.le_of_ble_eq_true rfl⟩) hh hA (fun r_585 H locs hw_585 hh => ?_)
      have hc6 : (rdI (en 0) 6).toInt = (wc_574 : Int) := by rw [show rdI (en 0) 6 = nI wc_574 from by rw [es574]; rfl]; exact nI_toInt (by omega)
      have hg9 : rdF (en 10) = f10 := by rw [es576]; rfl
      have hf9 : rdF (en (78 + 3 * W_577)) = f_584 := by rw [es584]; rfl
      exact hp_iretR hx hb hr rfl hlocks hsz hh (Or.inr ⟨W_577, lc_579, rfl, by omega, ⟨by rw [nI_toInt (n := W_577) (by omega)]; omega, by rw [nI_toInt (n := W_577) (by omega), hc6]; omega⟩, (by rw [es579]; rfl), hlp9, by omega, Or.inr (Or.inr (Or.inr (Or.inl ⟨q_580_3, by rw [hf9]; exact hw_585⟩)))⟩) dX11_about_102
    refine lv_tableOut (tgt := 103) hx hb dX11_about_18 (tb_out 4 (by decide) (by decide) (fun j hj => by rcases (show j = 0 ∨ j = 1 ∨ j = 2 ∨ j = 3 by omega) with rfl | rfl | rfl | rfl <;> first | exact lv_neT q_580_0 (by decide) | exact lv_neT q_580_1 (by decide) | exact lv_neT q_580_2 (by decide) | exact lv_neT q_580_3 (by decide))) (by decide) ?_
    refine lv_bipush (v := (-2)) hx hb dX11_about_103 (by decide) ?_
    have hc6 : (rdI (en 0) 6).toInt = (wc_574 : Int) := by rw [show rdI (en 0) 6 = nI wc_574 from by rw [es574]; rfl]; exact nI_toInt (by omega)
    exact hp_iretR hx hb hr rfl hlocks hsz hh (Or.inr ⟨W_577, lc_579, rfl, by omega, ⟨by rw [nI_toInt (n := W_577) (by omega)]; omega, by rw [nI_toInt (n := W_577) (by omega), hc6]; omega⟩, (by rw [es579]; rfl), hlp9, by omega, Or.inr (Or.inr (Or.inr (Or.inr ⟨q_580_0, q_580_1, q_580_2, q_580_3, rfl⟩)))⟩) dX11_about_105
  · obtain rfl : r_577 = 0 := Eq.trans hw_577 (if_neg hp_577)
    refine lv_if_ne (tgt := 10) hx hb dX11_about_5 (by decide) (fun c_0 => absurd c_0 (by decide)) (fun _ => ?_)
    refine lv_iconst (v := (-1)) hx hb dX11_about_8 (by decide) ?_
    have hc6 : (rdI (en 0) 6).toInt = (wc_574 : Int) := by rw [show rdI (en 0) 6 = nI wc_574 from by rw [es574]; rfl]; exact nI_toInt (by omega)
    exact hp_iretR hx hb hr rfl hlocks hsz hh (Or.inl ⟨fun q => hp_577 (wi_of1 (by omega) q.1 (by have := q.2; omega)), rfl⟩) dX11_about_9
theorem kw_X11_about {R : Room} {s : State} {args : Array Value} {own : String} {idx : Nat} (hts : ∀ w ∈ TB, w.before args s = true) (hl : Cond.methodLink own idx yX11_about ∈ TB) (hR : 4 + 1 ≤ R.frames ∧ 8 + (4 + 11) + 40 * 4 ≤ R.locals) : CallW R s args own RX11 idx yX11_about cX11_about 4 (some .int) (Cond.code yX11_about cX11_about 4 (some .int) :: TB) (rmN 4) 0 0 2 := cwV 2 hts (TB_V hl tw_717 tw_718 tw_1 tw_719) rfl rfl rfl (by decide +kernel) hR
set_option maxHeartbeats 4000000 in
set_option maxRecDepth 100000 in
/-- entryOf -/
theorem c_X11_entryOf (l : Launch) (D : va_G) (cy : Nat → ClassId) (sz : Nat) (cs : List Nat) (ad : Nat → Nat) (en : Nat → va_E) (hI : SX cy cs ad en) (w a b : Int32)   : Met l yX11_entryOf (Cond.code yX11_entryOf cX11_entryOf 4 (some .long) :: TB) (rmN 2) (va_Pc [.ref (ad 0), .int w, .int a, .int b] (Pre D cy cs ad en sz)) (va_Ql (S := Unit) (fun r _ => XEO w a b r en) (fun _ _ => True) (Nf sz)) 0 0 (Nf sz) := by
  refine Met.ofW (cc := cX11_entryOf) (maxL := 4) (ret := (some .long)) (by decide) rfl ?_
  intro p e s m args below meth c s₁ B hml hv
  obtain ⟨rfl, hsz, hP, hK, hD0⟩ := hv
  have hx := B.exec
  have hb := B.bytes
  have hr := B.returns
  have hts : ∀ w ∈ TB, w.before _ s = true := fun w h => atoms_spec (ws := _ :: TB) B.pre w (List.mem_cons_of_mem _ h)
  have hown : s.vm.findClass RX11 = some m.cls := findClass_of_methodNamed B.named
  have hlocks := B.notSynchronized
  have hh : Hp D (Nf sz) (fun _ => True) s.heap s.heap [] cs ad en := ⟨hP, hD0, va_S.rf⟩
  have hA : ∀ q : Nat, s.heap.size ≤ q → Nf sz q := fun q h => by rw [hsz] at h; exact h
  have hl := lv_entry ([.ref (ad 0), .int w, .int a, .int b]) (n := 4) (Nat.le_of_ble_eq_true rfl)
  rw [lg_entry_eq]
  generalize (lg_sl ([.ref (ad 0), .int w, .int a, .int b]) ++ List.replicate (4 - (lg_sl ([.ref (ad 0), .int w, .int a, .int b])).length) Slot.unset).toArray = ls at hl ⊢
  have hl : lv_has ls 4 [(0, .ref (ad 0)), (1, .int w), (2, .int a), (3, .int b)] := hl
  obtain ⟨wc_586, lf_586, es586, p0_586⟩ := get_A hI
  obtain ⟨cnt, d, mm, es587, hcnt, hd2, hd3, hmm⟩ := get_T hI
  refine lv_aload_n hx hb dX11_entryOf_0 rfl (lv_at hl 0 rfl) ?_
  refine lv_iload_n hx hb dX11_entryOf_1 rfl (lv_at hl 1 rfl) ?_
  refine hp_callRi (va_runV (As := [.int w]) (rest := []) ⟨hx, hb, hml, hown, hts⟩ (c_X11_hasWord l D cy _ cs ad en hI w ) (kw_X11_hasWord hts tw_703 ⟨by decide, by decide⟩) (preV_of hh hK (hI.1 _ (by decide)) es586 rfl) rfl rfl hl.1 rfl (lv_room (Nat.le_of_ble_eq_true rfl)) dX11_entryOf_2 ⟨Nat.le_of_ble_eq_true rfl, Nat.le_of_ble_eq_true rfl⟩) hh hA (fun r_588 H locs hw_588 hh => ?_)
  rw [show rdI (en 0) 6 = nI wc_586 from by rw [es586]; rfl] at hw_588
  rcases Decidable.em (wi w 0 (nI wc_586 - 1)) with hp_588 | hp_588
  · obtain rfl : r_588 = 1 := Eq.trans hw_588 (if_pos hp_588)
    obtain ⟨W_588, rfl, hW_588⟩ := wi_m1 hp_588 (by omega)
    refine lv_if_eq (tgt := 20) hx hb dX11_entryOf_5 (by decide) (fun c_0 => absurd c_0 (by decide)) (fun _ => ?_)
    refine lv_aload_n hx hb dX11_entryOf_8 rfl (lv_at hl 0 rfl) ?_
    refine hp_get hx hb hts ix11 hown hK hh (q := 0) rfl (hI.1 _ (by decide)) es586 rfl 0 (by decide) (hts _ tw_245) (fun _ h9 => h9) rfl dX11_entryOf_9 ?_
    refine lv_iload_n hx hb dX11_entryOf_12 rfl (lv_at hl 2 rfl) ?_
    refine lv_iload_n hx hb dX11_entryOf_13 rfl (lv_at hl 3 rfl) ?_
    refine hp_callRi (va_runV (As := [.int a, .int b]) (rest := []) ⟨hx, hb, hml, hown, hts⟩ (c_X8_isPlace l D cy _ cs ad en (hI.1 _ (by decide)) cnt d mm hcnt hd2 hd3 hmm a b es587) (kw_X8_isPlace hts tw_416 ⟨by decide, by decide⟩) (preV_of hh hK (hI.1 _ (by decide)) es587 rfl) rfl rfl hl.1 rfl (lv_room (Nat.le_of_ble_eq_true rfl)) dX11_entryOf_14 ⟨Nat.le_of_ble_eq_true rfl, Nat.le_of_ble_eq_true rfl⟩) hh hA (fun r_589 H locs hw_589 hh => ?_)
    rcases Decidable.em ((0 ≤ a.toInt ∧ a.toInt < (d : Int)) ∧ 0 ≤ b.toInt ∧ b.toInt < (d : Int)) with hp_589 | hp_589
    · obtain rfl : r_589 = 1 := Eq.trans hw_589 (if_pos hp_589)
      obtain ⟨A_589, rfl, hA_589⟩ := has_nat hp_589.1
      obtain ⟨B_589, rfl, hB_589⟩ := has_nat hp_589.2
      refine lv_if_ne (tgt := 24) hx hb dX11_entryOf_17 (by decide) (fun _ => ?_) (fun c_0 => absurd c_0 (by decide))
      refine lv_aload_n hx hb dX11_entryOf_24 rfl (lv_at hl 0 rfl) ?_
      refine hp_get hx hb hts ix11 hown hK hh (q := 0) rfl (hI.1 _ (by decide)) es586 rfl 3 (by decide) (hts _ tw_248) (fun _ h9 => h9) rfl dX11_entryOf_25 ?_
      refine lv_iload_n hx hb dX11_entryOf_28 rfl (lv_at hl 1 rfl) ?_
      have es590 := get_wos hI
      unfold P_wos at es590
      refine hp_aald hx hb hK hh (q := 74) rfl (hI.1 _ (by decide)) 5 es590 rfl rfl (vp_in_nI (n := W_588) (by omega) (by decide)) (v := .ref (ad (77 + 3 * W_588))) (by rw [nI_clamp (n := W_588) (by omega)]; exact rfB_v (by omega)) dX11_entryOf_29 ?_
      obtain ⟨lc_591, es591, p0_591⟩ := get_wo hI (j := W_588) (by omega)
      refine hp_get hx hb hts ix10 hown hK hh (q := (77 + 3 * W_588)) rfl (hI.1 _ (by omega)) es591 rfl 1 (by decide) (hts _ tw_214) (fun _ h9 => h9) rfl dX11_entryOf_30 ?_
      refine lv_aload_n hx hb dX11_entryOf_33 rfl (lv_at hl 0 rfl) ?_
      refine hp_get hx hb hts ix11 hown hK hh (q := 0) rfl (hI.1 _ (by decide)) es586 rfl 0 (by decide) (hts _ tw_245) (fun _ h9 => h9) rfl dX11_entryOf_34 ?_
      refine lv_iload_n hx hb dX11_entryOf_37 rfl (lv_at hl 2 rfl) ?_
      refine lv_iload_n hx hb dX11_entryOf_38 rfl (lv_at hl 3 rfl) ?_
      refine hp_callRi (va_runV (As := [.int (nI A_589), .int (nI B_589)]) (rest := [.ref (ad (79 + 3 * W_588))]) ⟨hx, hb, hml, hown, hts⟩ (c_X8_cellOf l D cy _ cs ad en (hI.1 _ (by decide)) cnt d mm hcnt hd2 hd3 hmm A_589 B_589 es587) (kw_X8_cellOf hts tw_425 ⟨by decide, by decide⟩) (preV_of hh hK (hI.1 _ (by decide)) es587 rfl) rfl rfl hl.1 rfl (lv_room (Nat.le_of_ble_eq_true rfl)) dX11_entryOf_39 ⟨Nat.le_of_ble_eq_true rfl, Nat.le_of_ble_eq_true rfl⟩) hh hA (fun r_592 H locs hw_592 hh => ?_)
      obtain rfl : r_592 = nI (A_589 * d + B_589) := hw_592
      have hi_593 : (A_589 * d + B_589) < 9 := md3 (by omega) (by omega) hd3
      obtain ⟨f_594, es594⟩ := get_wor hI (j := W_588) (by omega)
      refine hp_lald hx hb hK hh (q := (79 + 3 * W_588)) rfl (hI.1 _ (by omega)) es594 (vp_in_nI (n := (A_589 * d + B_589)) (by omega) (by decide)) dX11_entryOf_42 ?_
      rw [nI_clamp (n := (A_589 * d + B_589)) (by omega)]
      have hc6 : (rdI (en 0) 6).toInt = (wc_586 : Int) := by rw [show rdI (en 0) 6 = nI wc_586 from by rw [es586]; rfl]; exact nI_toInt (by omega)
      have hc5 : rdI (en 1) 5 = nI d := by rw [es587]; rfl
      have hc5i : (rdI (en 1) 5).toInt = (d : Int) := by rw [hc5]; exact nI_toInt (by omega)
      exact hp_lretR hx hb hr hlocks hsz hh (Or.inl ⟨⟨⟨by rw [nI_toInt (n := W_588) (by omega)]; omega, by rw [nI_toInt (n := W_588) (by omega), hc6]; omega⟩, by rw [hc5i]; exact hp_589⟩, by rw [hc5, nI_clamp (n := W_588) (by omega), nI_clamp (n := A_589) (by omega), nI_clamp (n := B_589) (by omega), nI_clamp (n := d) (by omega), es594]; rfl⟩) dX11_entryOf_43
    · obtain rfl : r_589 = 0 := Eq.trans hw_589 (if_neg hp_589)
      refine lv_if_ne (tgt := 24) hx hb dX11_entryOf_17 (by decide) (fun c_0 => absurd c_0 (by decide)) (fun _ => ?_)
      refine lv_ldc2 hx hb hown (hts _ tw_420) dX11_entryOf_20 ?_
      have hc6 : (rdI (en 0) 6).toInt = (wc_586 : Int) := by rw [show rdI (en 0) 6 = nI wc_586 from by rw [es586]; rfl]; exact nI_toInt (by omega)
      have hc5 : rdI (en 1) 5 = nI d := by rw [es587]; rfl
      have hc5i : (rdI (en 1) 5).toInt = (d : Int) := by rw [hc5]; exact nI_toInt (by omega)
      exact hp_lretR hx hb hr hlocks hsz hh (Or.inr ⟨fun q => hp_589 (by have h9 := q.2; rw [hc5i] at h9; exact h9), rfl⟩) dX11_entryOf_23
  · obtain rfl : r_588 = 0 := Eq.trans hw_588 (if_neg hp_588)
    refine lv_if_eq (tgt := 20) hx hb dX11_entryOf_5 (by decide) (fun _ => ?_) (fun c_0 => absurd c_0 (by decide))
    refine lv_ldc2 hx hb hown (hts _ tw_420) dX11_entryOf_20 ?_
    have hc6 : (rdI (en 0) 6).toInt = (wc_586 : Int) := by rw [show rdI (en 0) 6 = nI wc_586 from by rw [es586]; rfl]; exact nI_toInt (by omega)
    have hc5 : rdI (en 1) 5 = nI d := by rw [es587]; rfl
    have hc5i : (rdI (en 1) 5).toInt = (d : Int) := by rw [hc5]; exact nI_toInt (by omega)
    exact hp_lretR hx hb hr hlocks hsz hh (Or.inr ⟨fun q => hp_588 (wi_of1 (by omega) q.1.1 (by have := q.1.2; omega)), rfl⟩) dX11_entryOf_23
theorem kw_X11_entryOf {R : Room} {s : State} {args : Array Value} {own : String} {idx : Nat} (hts : ∀ w ∈ TB, w.before args s = true) (hl : Cond.methodLink own idx yX11_entryOf ∈ TB) (hR : 2 + 1 ≤ R.frames ∧ 8 + (4 + 11) + 40 * 2 ≤ R.locals) : CallW R s args own RX11 idx yX11_entryOf cX11_entryOf 4 (some .long) (Cond.code yX11_entryOf cX11_entryOf 4 (some .long) :: TB) (rmN 2) 0 0 3 := cwV 3 hts (TB_V hl tw_737 tw_738 tw_1 tw_739) rfl rfl rfl (by decide +kernel) hR
set_option maxHeartbeats 4000000 in
set_option maxRecDepth 100000 in
/-- size -/
theorem c_X11_size (l : Launch) (D : va_G) (cy : Nat → ClassId) (sz : Nat) (cs : List Nat) (ad : Nat → Nat) (en : Nat → va_E) (hI : SX cy cs ad en) (w z : Int32)   : Met l yX11_size (Cond.code yX11_size cX11_size 3 (some .long) :: TB) (rmN 2) (va_Pc [.ref (ad 0), .int w, .int z] (Pre D cy cs ad en sz)) (va_Ql (S := Unit) (fun r _ => XSZ w z r en) (fun _ _ => True) (Nf sz)) 0 0 (Nf sz) := by
  refine Met.ofW (cc := cX11_size) (maxL := 3) (ret := (some .long)) (by decide) rfl ?_
  intro p e s m args below meth c s₁ B hml hv
  obtain ⟨rfl, hsz, hP, hK, hD0⟩ := hv
  have hx := B.exec
  have hb := B.bytes
  have hr := B.returns
  have hts : ∀ w ∈ TB, w.before _ s = true := fun w h => atoms_spec (ws := _ :: TB) B.pre w (List.mem_cons_of_mem _ h)
  have hown : s.vm.findClass RX11 = some m.cls := findClass_of_methodNamed B.named
  have hlocks := B.notSynchronized
  have hh : Hp D (Nf sz) (fun _ => True) s.heap s.heap [] cs ad en := ⟨hP, hD0, va_S.rf⟩
  have hA : ∀ q : Nat, s.heap.size ≤ q → Nf sz q := fun q h => by rw [hsz] at h; exact h
  have hl := lv_entry ([.ref (ad 0), .int w, .int z]) (n := 3) (Nat.le_of_ble_eq_true rfl)
  rw [lg_entry_eq]
  generalize (lg_sl ([.ref (ad 0), .int w, .int z]) ++ List.replicate (3 - (lg_sl ([.ref (ad 0), .int w, .int z])).length) Slot.unset).toArray = ls at hl ⊢
  have hl : lv_has ls 3 [(0, .ref (ad 0)), (1, .int w), (2, .int z)] := hl
  obtain ⟨wc_595, lf_595, es595, p0_595⟩ := get_A hI
  obtain ⟨cnt, d, mm, es596, hcnt, hd2, hd3, hmm⟩ := get_T hI
  refine lv_aload_n hx hb dX11_size_0 rfl (lv_at hl 0 rfl) ?_
  refine lv_iload_n hx hb dX11_size_1 rfl (lv_at hl 1 rfl) ?_
  refine hp_callRi (va_runV (As := [.int w]) (rest := []) ⟨hx, hb, hml, hown, hts⟩ (c_X11_hasWord l D cy _ cs ad en hI w ) (kw_X11_hasWord hts tw_703 ⟨by decide, by decide⟩) (preV_of hh hK (hI.1 _ (by decide)) es595 rfl) rfl rfl hl.1 rfl (lv_room (Nat.le_of_ble_eq_true rfl)) dX11_size_2 ⟨Nat.le_of_ble_eq_true rfl, Nat.le_of_ble_eq_true rfl⟩) hh hA (fun r_597 H locs hw_597 hh => ?_)
  rw [show rdI (en 0) 6 = nI wc_595 from by rw [es595]; rfl] at hw_597
  rcases Decidable.em (wi w 0 (nI wc_595 - 1)) with hp_597 | hp_597
  · obtain rfl : r_597 = 1 := Eq.trans hw_597 (if_pos hp_597)
    obtain ⟨W_597, rfl, hW_597⟩ := wi_m1 hp_597 (by omega)
    refine lv_if_eq (tgt := 17) hx hb dX11_size_5 (by decide) (fun c_0 => absurd c_0 (by decide)) (fun _ => ?_)
    refine lv_iload_n hx hb dX11_size_8 rfl (lv_at hl 2 rfl) ?_
    refine lv_iconst (v := 0) hx hb dX11_size_9 (by decide) ?_
    refine lv_iconst (v := 1) hx hb dX11_size_10 (by decide) ?_
    refine hp_callRi (va_runS (As := [.int z, .int 0, .int 1]) (rest := []) ⟨hx, hb, hml, hown, hts⟩ (c_X11_isWithin l D cy _ cs ad en z 0 1) (kw_X11_isWithin hts tw_274 ⟨by decide, by decide⟩) (preS_of hh hK) rfl rfl hl.1 rfl (lv_room (Nat.le_of_ble_eq_true rfl)) dX11_size_11 ⟨Nat.le_of_ble_eq_true rfl, Nat.le_of_ble_eq_true rfl⟩) hh hA (fun r_598 H locs hw_598 hh => ?_)
    rcases Decidable.em (wi z 0 1) with hp_598 | hp_598
    · obtain rfl : r_598 = 1 := Eq.trans hw_598 (if_pos hp_598)
      obtain ⟨N_598, rfl, hA_598, hB_598⟩ := wi_natB hp_598 0 1 (by decide) (by decide)
      refine lv_if_ne (tgt := 21) hx hb dX11_size_14 (by decide) (fun _ => ?_) (fun c_0 => absurd c_0 (by decide))
      refine lv_iload_n hx hb dX11_size_21 rfl (lv_at hl 2 rfl) ?_
      refine lv_if_ne (tgt := 44) hx hb dX11_size_22 (by decide) (fun c_599 => ?_) (fun c_599 => ?_)
      · have n_599 : N_598 ≠ 0 := n_neq (a := N_598) (b := 0) c_599 (by omega) (by decide)
        refine lv_aload_n hx hb dX11_size_44 rfl (lv_at hl 0 rfl) ?_
        refine hp_get hx hb hts ix11 hown hK hh (q := 0) rfl (hI.1 _ (by decide)) es595 rfl 0 (by decide) (hts _ tw_245) (fun _ h9 => h9) rfl dX11_size_45 ?_
        refine lv_aload_n hx hb dX11_size_48 rfl (lv_at hl 0 rfl) ?_
        refine hp_get hx hb hts ix11 hown hK hh (q := 0) rfl (hI.1 _ (by decide)) es595 rfl 3 (by decide) (hts _ tw_248) (fun _ h9 => h9) rfl dX11_size_49 ?_
        refine lv_iload_n hx hb dX11_size_52 rfl (lv_at hl 1 rfl) ?_
        have es600 := get_wos hI
        unfold P_wos at es600
        refine hp_aald hx hb hK hh (q := 74) rfl (hI.1 _ (by decide)) 5 es600 rfl rfl (vp_in_nI (n := W_597) (by omega) (by decide)) (v := .ref (ad (77 + 3 * W_597))) (by rw [nI_clamp (n := W_597) (by omega)]; exact rfB_v (by omega)) dX11_size_53 ?_
        obtain ⟨lc_601, es601, p0_601⟩ := get_wo hI (j := W_597) (by omega)
        refine hp_get hx hb hts ix10 hown hK hh (q := (77 + 3 * W_597)) rfl (hI.1 _ (by omega)) es601 rfl 1 (by decide) (hts _ tw_214) (fun _ h9 => h9) rfl dX11_size_54 ?_
        obtain ⟨f_602, es602⟩ := get_wor hI (j := W_597) (by omega)
        refine hp_callRl (va_runV (As := [.ref (ad (79 + 3 * W_597))]) (rest := []) ⟨hx, hb, hml, hown, hts⟩ (c_X8_track l D cy _ cs ad en (hI.1 _ (by decide)) cnt d mm hcnt hd2 hd3 hmm (79 + 3 * W_597) (hI.1 _ (by omega)) f_602 es596 es602) (kw_X8_track hts tw_745 ⟨by decide, by decide⟩) (preV_of hh hK (hI.1 _ (by decide)) es596 rfl) rfl rfl hl.1 rfl (lv_room (Nat.le_of_ble_eq_true rfl)) dX11_size_57 ⟨Nat.le_of_ble_eq_true rfl, Nat.le_of_ble_eq_true rfl⟩) hh hA (fun r_603 H locs hw_603 hh => ?_)
        have hc6 : (rdI (en 0) 6).toInt = (wc_595 : Int) := by rw [show rdI (en 0) 6 = nI wc_595 from by rw [es595]; rfl]; exact nI_toInt (by omega)
        have hc5 : rdI (en 1) 5 = nI d := by rw [es596]; rfl
        have hc5i : (rdI (en 1) 5).toInt = (d : Int) := by rw [hc5]; exact nI_toInt (by omega)
        exact hp_lretR hx hb hr hlocks hsz hh (Or.inl ⟨⟨by rw [nI_toInt (n := W_597) (by omega)]; omega, by rw [nI_toInt (n := W_597) (by omega), hc6]; omega⟩, hp_598, Or.inr ⟨(fun q => n_599 (n_eq (b := 0) q (by omega) (by omega))), by rw [hc5, nI_clamp (n := W_597) (by omega), nI_clamp (n := d) (by omega), show rdL (en (79 + 3 * W_597)) = f_602 from by rw [es602]; rfl]; exact hw_603⟩⟩) dX11_size_60
      · have n_599 : N_598 = 0 := n_eq (a := N_598) (b := 0) c_599 (by omega) (by decide)
        refine lv_aload_n hx hb dX11_size_25 rfl (lv_at hl 0 rfl) ?_
        refine hp_get hx hb hts ix11 hown hK hh (q := 0) rfl (hI.1 _ (by decide)) es595 rfl 0 (by decide) (hts _ tw_245) (fun _ h9 => h9) rfl dX11_size_26 ?_
        refine lv_aload_n hx hb dX11_size_29 rfl (lv_at hl 0 rfl) ?_
        refine hp_get hx hb hts ix11 hown hK hh (q := 0) rfl (hI.1 _ (by decide)) es595 rfl 3 (by decide) (hts _ tw_248) (fun _ h9 => h9) rfl dX11_size_30 ?_
        refine lv_iload_n hx hb dX11_size_33 rfl (lv_at hl 1 rfl) ?_
        have es604 := get_wos hI
        unfold P_wos at es604
        refine hp_aald hx hb hK hh (q := 74) rfl (hI.1 _ (by decide)) 5 es604 rfl rfl (vp_in_nI (n := W_597) (by omega) (by decide)) (v := .ref (ad (77 + 3 * W_597))) (by rw [nI_clamp (n := W_597) (by omega)]; exact rfB_v (by omega)) dX11_size_34 ?_
        obtain ⟨lc_605, es605, p0_605⟩ := get_wo hI (j := W_597) (by omega)
        refine hp_get hx hb hts ix10 hown hK hh (q := (77 + 3 * W_597)) rfl (hI.1 _ (by omega)) es605 rfl 1 (by decide) (hts _ tw_214) (fun _ h9 => h9) rfl dX11_size_35 ?_
        obtain ⟨f_606, es606⟩ := get_wor hI (j := W_597) (by omega)
        refine hp_callRl (va_runV (As := [.ref (ad (79 + 3 * W_597))]) (rest := []) ⟨hx, hb, hml, hown, hts⟩ (c_X8_norm l D cy _ cs ad en (hI.1 _ (by decide)) cnt d mm hcnt hd2 hd3 hmm (79 + 3 * W_597) (hI.1 _ (by omega)) f_606 es596 es606) (kw_X8_norm hts tw_744 ⟨by decide, by decide⟩) (preV_of hh hK (hI.1 _ (by decide)) es596 rfl) rfl rfl hl.1 rfl (lv_room (Nat.le_of_ble_eq_true rfl)) dX11_size_38 ⟨Nat.le_of_ble_eq_true rfl, Nat.le_of_ble_eq_true rfl⟩) hh hA (fun r_607 H locs hw_607 hh => ?_)
        obtain rfl : r_607 = (normT d f_606 d) := hw_607
        refine lv_goto (tgt := 60) hx hb dX11_size_41 (by decide) ?_
        have hc6 : (rdI (en 0) 6).toInt = (wc_595 : Int) := by rw [show rdI (en 0) 6 = nI wc_595 from by rw [es595]; rfl]; exact nI_toInt (by omega)
        have hc5 : rdI (en 1) 5 = nI d := by rw [es596]; rfl
        have hc5i : (rdI (en 1) 5).toInt = (d : Int) := by rw [hc5]; exact nI_toInt (by omega)
        exact hp_lretR hx hb hr hlocks hsz hh (Or.inl ⟨⟨by rw [nI_toInt (n := W_597) (by omega)]; omega, by rw [nI_toInt (n := W_597) (by omega), hc6]; omega⟩, hp_598, Or.inl ⟨(by rw [n_599]; rfl), by rw [hc5, nI_clamp (n := W_597) (by omega), nI_clamp (n := d) (by omega), show rdL (en (79 + 3 * W_597)) = f_606 from by rw [es606]; rfl]⟩⟩) dX11_size_60
    · obtain rfl : r_598 = 0 := Eq.trans hw_598 (if_neg hp_598)
      refine lv_if_ne (tgt := 21) hx hb dX11_size_14 (by decide) (fun c_0 => absurd c_0 (by decide)) (fun _ => ?_)
      refine lv_ldc2 hx hb hown (hts _ tw_420) dX11_size_17 ?_
      have hc6 : (rdI (en 0) 6).toInt = (wc_595 : Int) := by rw [show rdI (en 0) 6 = nI wc_595 from by rw [es595]; rfl]; exact nI_toInt (by omega)
      have hc5 : rdI (en 1) 5 = nI d := by rw [es596]; rfl
      have hc5i : (rdI (en 1) 5).toInt = (d : Int) := by rw [hc5]; exact nI_toInt (by omega)
      exact hp_lretR hx hb hr hlocks hsz hh (Or.inr ⟨fun q => hp_598 q.2, rfl⟩) dX11_size_20
  · obtain rfl : r_597 = 0 := Eq.trans hw_597 (if_neg hp_597)
    refine lv_if_eq (tgt := 17) hx hb dX11_size_5 (by decide) (fun _ => ?_) (fun c_0 => absurd c_0 (by decide))
    refine lv_ldc2 hx hb hown (hts _ tw_420) dX11_size_17 ?_
    have hc6 : (rdI (en 0) 6).toInt = (wc_595 : Int) := by rw [show rdI (en 0) 6 = nI wc_595 from by rw [es595]; rfl]; exact nI_toInt (by omega)
    have hc5 : rdI (en 1) 5 = nI d := by rw [es596]; rfl
    have hc5i : (rdI (en 1) 5).toInt = (d : Int) := by rw [hc5]; exact nI_toInt (by omega)
    exact hp_lretR hx hb hr hlocks hsz hh (Or.inr ⟨fun q => hp_597 (wi_of1 (by omega) q.1.1 (by have := q.1.2; omega)), rfl⟩) dX11_size_20
theorem kw_X11_size {R : Room} {s : State} {args : Array Value} {own : String} {idx : Nat} (hts : ∀ w ∈ TB, w.before args s = true) (hl : Cond.methodLink own idx yX11_size ∈ TB) (hR : 2 + 1 ≤ R.frames ∧ 8 + (3 + 11) + 40 * 2 ≤ R.locals) : CallW R s args own RX11 idx yX11_size cX11_size 3 (some .long) (Cond.code yX11_size cX11_size 3 (some .long) :: TB) (rmN 2) 0 0 2 := cwV 2 hts (TB_V hl tw_741 tw_742 tw_1 tw_743) rfl rfl rfl (by decide +kernel) hR
set_option maxHeartbeats 4000000 in
set_option maxRecDepth 100000 in
/-- may -/
theorem c_X11_may (l : Launch) (D : va_G) (cy : Nat → ClassId) (sz : Nat) (cs : List Nat) (ad : Nat → Nat) (en : Nat → va_E) (hI : SX cy cs ad en) (a b z : Int32) (hz : z = 0 ∨ z = 1)   : Met l yX11_may (Cond.code yX11_may cX11_may 4 (some .int) :: TB) (rmN 2) (va_Pc [.ref (ad 0), .int a, .int b, .int z] (Pre D cy cs ad en sz)) (va_Qi (S := Nat → va_E) (fun r en1 => SX cy cs ad en1 ∧ (∀ c, (c ≠ 10 ∧ (c < 12 ∨ 70 ≤ c)) → en1 c = en c) ∧ XMA a b z r en en1) (PostM D cs ad) (Af cs ad sz)) 0 0 (Af cs ad sz) := by
  refine Met.ofW (cc := cX11_may) (maxL := 4) (ret := (some .int)) (by decide) rfl ?_
  intro p e s m args below meth c s₁ B hml hv
  obtain ⟨rfl, hsz, hP, hK, hD0⟩ := hv
  have hx := B.exec
  have hb := B.bytes
  have hr := B.returns
  have hts : ∀ w ∈ TB, w.before _ s = true := fun w h => atoms_spec (ws := _ :: TB) B.pre w (List.mem_cons_of_mem _ h)
  have hown : s.vm.findClass RX11 = some m.cls := findClass_of_methodNamed B.named
  have hlocks := B.notSynchronized
  have hh : Hp D (Af cs ad sz) (Af cs ad sz) s.heap s.heap [] cs ad en := ⟨hP, Af_self hD0, va_S.rf⟩
  have hA : ∀ q : Nat, s.heap.size ≤ q → Af cs ad sz q := fun q h => Or.inr (by rw [hsz] at h; exact h)
  have hl := lv_entry ([.ref (ad 0), .int a, .int b, .int z]) (n := 4) (Nat.le_of_ble_eq_true rfl)
  rw [lg_entry_eq]
  generalize (lg_sl ([.ref (ad 0), .int a, .int b, .int z]) ++ List.replicate (4 - (lg_sl ([.ref (ad 0), .int a, .int b, .int z])).length) Slot.unset).toArray = ls at hl ⊢
  have hl : lv_has ls 4 [(0, .ref (ad 0)), (1, .int a), (2, .int b), (3, .int z)] := hl
  have hf0 : ∀ c, (c ≠ 10 ∧ (c < 12 ∨ 70 ≤ c)) → en c = en c := fun _ _ => rfl
  obtain ⟨wc_608, lf_608, es608, p0_608⟩ := get_A hI
  obtain ⟨cnt, d, mm, es609, hcnt, hd2, hd3, hmm⟩ := get_T hI
  obtain ⟨f10, es610, hb10⟩ := get_alw hI
  refine lv_aload_n hx hb dX11_may_0 rfl (lv_at hl 0 rfl) ?_
  refine hp_get hx hb hts ix11 hown hK hh (q := 0) rfl (hI.1 _ (by decide)) es608 rfl 0 (by decide) (hts _ tw_245) (fun _ h9 => h9) rfl dX11_may_1 ?_
  refine lv_iload_n hx hb dX11_may_4 rfl (lv_at hl 1 rfl) ?_
  refine hp_callRi (va_runV (As := [.int a]) (rest := []) ⟨hx, hb, hml, hown, hts⟩ (c_X8_has l D cy _ cs ad en (hI.1 _ (by decide)) cnt d mm hcnt hd2 hd3 hmm a es609) (kw_X8_has hts tw_412 ⟨by decide, by decide⟩) (preV_of hh hK (hI.1 _ (by decide)) es609 rfl) rfl rfl hl.1 rfl (lv_room (Nat.le_of_ble_eq_true rfl)) dX11_may_5 ⟨Nat.le_of_ble_eq_true rfl, Nat.le_of_ble_eq_true rfl⟩) hh hA (fun r_611 H locs hw_611 hh => ?_)
  rcases Decidable.em (0 ≤ a.toInt ∧ a.toInt < (cnt : Int)) with hp_611 | hp_611
  · obtain rfl : r_611 = 1 := Eq.trans hw_611 (if_pos hp_611)
    obtain ⟨T_611, rfl, hT_611⟩ := has_nat hp_611
    refine lv_if_eq (tgt := 22) hx hb dX11_may_8 (by decide) (fun c_0 => absurd c_0 (by decide)) (fun _ => ?_)
    refine lv_aload_n hx hb dX11_may_11 rfl (lv_at hl 0 rfl) ?_
    refine hp_get hx hb hts ix11 hown hK hh (q := 0) rfl (hI.1 _ (by decide)) es608 rfl 0 (by decide) (hts _ tw_245) (fun _ h9 => h9) rfl dX11_may_12 ?_
    refine lv_iload_n hx hb dX11_may_15 rfl (lv_at hl 2 rfl) ?_
    refine hp_callRi (va_runV (As := [.int b]) (rest := []) ⟨hx, hb, hml, hown, hts⟩ (c_X8_has l D cy _ cs ad en (hI.1 _ (by decide)) cnt d mm hcnt hd2 hd3 hmm b es609) (kw_X8_has hts tw_412 ⟨by decide, by decide⟩) (preV_of hh hK (hI.1 _ (by decide)) es609 rfl) rfl rfl hl.1 rfl (lv_room (Nat.le_of_ble_eq_true rfl)) dX11_may_16 ⟨Nat.le_of_ble_eq_true rfl, Nat.le_of_ble_eq_true rfl⟩) hh hA (fun r_612 H locs hw_612 hh => ?_)
    rcases Decidable.em (0 ≤ b.toInt ∧ b.toInt < (cnt : Int)) with hp_612 | hp_612
    · obtain rfl : r_612 = 1 := Eq.trans hw_612 (if_pos hp_612)
      obtain ⟨T_612, rfl, hT_612⟩ := has_nat hp_612
      refine lv_if_ne (tgt := 24) hx hb dX11_may_19 (by decide) (fun _ => ?_) (fun c_0 => absurd c_0 (by decide))
      refine lv_aload_n hx hb dX11_may_24 rfl (lv_at hl 0 rfl) ?_
      refine hp_get hx hb hts ix11 hown hK hh (q := 0) rfl (hI.1 _ (by decide)) es608 rfl 0 (by decide) (hts _ tw_245) (fun _ h9 => h9) rfl dX11_may_25 ?_
      refine lv_iload_n hx hb dX11_may_28 rfl (lv_at hl 1 rfl) ?_
      refine lv_iload_n hx hb dX11_may_29 rfl (lv_at hl 2 rfl) ?_
      refine hp_callRi (va_runV (As := [.int (nI T_611), .int (nI T_612)]) (rest := []) ⟨hx, hb, hml, hown, hts⟩ (c_X8_mayFollow l D cy _ cs ad en (hI.1 _ (by decide)) cnt d mm hcnt hd2 hd3 hmm (hI.1 _ (by decide)) f10 hb10 T_611 T_612 (by omega) (by omega) es609 es610) (kw_X8_mayFollow hts tw_433 ⟨by decide, by decide⟩) (preV_of hh hK (hI.1 _ (by decide)) es609 rfl) rfl rfl hl.1 rfl (lv_room (Nat.le_of_ble_eq_true rfl)) dX11_may_30 ⟨Nat.le_of_ble_eq_true rfl, Nat.le_of_ble_eq_true rfl⟩) hh hA (fun r_613 H locs hw_613 hh => ?_)
      rcases hb10 (T_611 * 6 + T_612) (a6 (by omega) (by omega)) with hz_613 | hz_613
      · obtain rfl : r_613 = 0 := Eq.trans hw_613 hz_613
        refine lv_iload_n hx hb dX11_may_33 rfl (lv_at hl 3 rfl) ?_
        refine lv_icmp_ne (tgt := 39) hx hb dX11_may_34 (by decide) (fun c_614 => ?_) (fun c_614 => ?_)
        · refine lv_aload_n hx hb dX11_may_39 rfl (lv_at hl 0 rfl) ?_
          refine hp_get hx hb hts ix11 hown hK hh (q := 0) rfl (hI.1 _ (by decide)) es608 rfl 0 (by decide) (hts _ tw_245) (fun _ h9 => h9) rfl dX11_may_40 ?_
          refine lv_iload_n hx hb dX11_may_43 rfl (lv_at hl 1 rfl) ?_
          refine lv_iload_n hx hb dX11_may_44 rfl (lv_at hl 2 rfl) ?_
          refine lv_iload_n hx hb dX11_may_45 rfl (lv_at hl 3 rfl) ?_
          refine hp_callMv (va_runV (As := [.int (nI T_611), .int (nI T_612), .int z]) (rest := []) ⟨hx, hb, hml, hown, hts⟩ (c_X8_allow l D cy _ cs ad en (hI.1 _ (by decide)) cnt d mm hcnt hd2 hd3 hmm (hI.1 _ (by decide)) f10 hb10 T_611 T_612 z (by omega) (by omega) hz es609 es610) (kw_X8_allow hts tw_437 ⟨by decide, by decide⟩) (preV_of hh hK (hI.1 _ (by decide)) es609 rfl) rfl rfl hl.1 rfl (lv_room (Nat.le_of_ble_eq_true rfl)) dX11_may_46 ⟨Nat.le_of_ble_eq_true rfl, Nat.le_of_ble_eq_true rfl⟩) hh hA (fun H locs en_615 hw_615 hh => ?_)
          have hen_615 := hw_615
          have es608_615 : en_615 0 = .inr (10, [.ref (ad 1), .ref (ad 12), .ref (ad 70), .ref (ad 74), .ref (ad 75), .ref (ad 76), .int (nI wc_608), .int lf_608]) := by rw [hen_615, va_up_ne _ _ (by decide)]; exact es608
          have es609_615 : en_615 1 = .inr (7, [.ref (ad 2), .ref (ad 3), .ref (ad 10), .ref (ad 11), .int (nI cnt), .int (nI d), .int (nI mm)]) := by rw [hen_615, va_up_ne _ _ (by decide)]; exact es609
          have es610_615 : en_615 10 = .inl (cy 2, 36, .inl (upd f10 (T_611 * 6 + T_612) z)) := by rw [hen_615]; exact va_up_self _ _ _
          have hI_615 : SX cy cs ad en_615 := by rw [hen_615]; exact up_alw hI ⟨(upd f10 (T_611 * 6 + T_612) z), rfl, (bits_upd hb10 hz)⟩
          have hf_615 : ∀ c, (c ≠ 10 ∧ (c < 12 ∨ 70 ≤ c)) → en_615 c = en c := fun c hc => Eq.trans (show en_615 c = en c from by rw [hen_615, va_up_ne _ _ (by omega)]) (hf0 c hc)
          refine lv_aload_n hx hb dX11_may_49 rfl (lv_at hl 0 rfl) ?_
          refine hp_get hx hb hts ix11 hown hK hh (q := 0) rfl (hI.1 _ (by decide)) es608_615 rfl 1 (by decide) (hts _ tw_246) (fun _ h9 => h9) rfl dX11_may_50 ?_
          obtain ⟨hw_616, es616, p0_616⟩ := get_L hI_615
          refine hp_callMv (va_runV (As := []) (rest := []) ⟨hx, hb, hml, hown, hts⟩ (c_X2_forget l D cy _ cs ad en_615 hI_615  ) (kw_X2_forget hts tw_281 ⟨by decide, by decide⟩) (preV_of hh hK (hI.1 _ (by decide)) es616 rfl) rfl rfl hl.1 rfl (lv_room (Nat.le_of_ble_eq_true rfl)) dX11_may_53 ⟨Nat.le_of_ble_eq_true rfl, Nat.le_of_ble_eq_true rfl⟩) hh hA (fun H locs en_617 hw_617 hh => ?_)
          obtain ⟨hI_617, hu_617⟩ := hw_617
          have hf_617 : ∀ c, (c ≠ 10 ∧ (c < 12 ∨ 70 ≤ c)) → en_617 c = en c := fun c hc => (hu_617 c (by omega)).trans (hf_615 c hc)
          refine lv_iconst (v := 1) hx hb dX11_may_56 (by decide) ?_
          have hc4 : (rdI (en 1) 4).toInt = (cnt : Int) := by rw [show rdI (en 1) 4 = nI cnt from by rw [es609]; rfl]; exact nI_toInt (by omega)
          exact hp_iretM hx hb hr rfl hlocks hh (⟨hI_617, hf_617, Or.inr ⟨T_611, T_612, rfl, rfl, by omega, by omega, ⟨hp_611.1, by have := hp_611.2; omega⟩, ⟨hp_612.1, by have := hp_612.2; omega⟩, Or.inr ⟨fun q => c_614 (((show rdF (en 10) (T_611 * 6 + T_612) = f10 (T_611 * 6 + T_612) from by rw [es610]; rfl).trans hz_613).symm.trans q), rfl, (by rw [hu_617 10 (by omega), es610_615, es610]; rfl)⟩⟩⟩) dX11_may_57
        · refine lv_iconst (v := 0) hx hb dX11_may_37 (by decide) ?_
          have hc4 : (rdI (en 1) 4).toInt = (cnt : Int) := by rw [show rdI (en 1) 4 = nI cnt from by rw [es609]; rfl]; exact nI_toInt (by omega)
          exact hp_iretM hx hb hr rfl hlocks hh (⟨hI, hf0, Or.inr ⟨T_611, T_612, rfl, rfl, by omega, by omega, ⟨hp_611.1, by have := hp_611.2; omega⟩, ⟨hp_612.1, by have := hp_612.2; omega⟩, Or.inl ⟨((show rdF (en 10) (T_611 * 6 + T_612) = f10 (T_611 * 6 + T_612) from by rw [es610]; rfl).trans hz_613).trans c_614, rfl, rfl⟩⟩⟩) dX11_may_38
      · obtain rfl : r_613 = 1 := Eq.trans hw_613 hz_613
        refine lv_iload_n hx hb dX11_may_33 rfl (lv_at hl 3 rfl) ?_
        refine lv_icmp_ne (tgt := 39) hx hb dX11_may_34 (by decide) (fun c_618 => ?_) (fun c_618 => ?_)
        · refine lv_aload_n hx hb dX11_may_39 rfl (lv_at hl 0 rfl) ?_
          refine hp_get hx hb hts ix11 hown hK hh (q := 0) rfl (hI.1 _ (by decide)) es608 rfl 0 (by decide) (hts _ tw_245) (fun _ h9 => h9) rfl dX11_may_40 ?_
          refine lv_iload_n hx hb dX11_may_43 rfl (lv_at hl 1 rfl) ?_
          refine lv_iload_n hx hb dX11_may_44 rfl (lv_at hl 2 rfl) ?_
          refine lv_iload_n hx hb dX11_may_45 rfl (lv_at hl 3 rfl) ?_
          refine hp_callMv (va_runV (As := [.int (nI T_611), .int (nI T_612), .int z]) (rest := []) ⟨hx, hb, hml, hown, hts⟩ (c_X8_allow l D cy _ cs ad en (hI.1 _ (by decide)) cnt d mm hcnt hd2 hd3 hmm (hI.1 _ (by decide)) f10 hb10 T_611 T_612 z (by omega) (by omega) hz es609 es610) (kw_X8_allow hts tw_437 ⟨by decide, by decide⟩) (preV_of hh hK (hI.1 _ (by decide)) es609 rfl) rfl rfl hl.1 rfl (lv_room (Nat.le_of_ble_eq_true rfl)) dX11_may_46 ⟨Nat.le_of_ble_eq_true rfl, Nat.le_of_ble_eq_true rfl⟩) hh hA (fun H locs en_619 hw_619 hh => ?_)
          have hen_619 := hw_619
          have es608_619 : en_619 0 = .inr (10, [.ref (ad 1), .ref (ad 12), .ref (ad 70), .ref (ad 74), .ref (ad 75), .ref (ad 76), .int (nI wc_608), .int lf_608]) := by rw [hen_619, va_up_ne _ _ (by decide)]; exact es608
          have es609_619 : en_619 1 = .inr (7, [.ref (ad 2), .ref (ad 3), .ref (ad 10), .ref (ad 11), .int (nI cnt), .int (nI d), .int (nI mm)]) := by rw [hen_619, va_up_ne _ _ (by decide)]; exact es609
          have es610_619 : en_619 10 = .inl (cy 2, 36, .inl (upd f10 (T_611 * 6 + T_612) z)) := by rw [hen_619]; exact va_up_self _ _ _
          have hI_619 : SX cy cs ad en_619 := by rw [hen_619]; exact up_alw hI ⟨(upd f10 (T_611 * 6 + T_612) z), rfl, (bits_upd hb10 hz)⟩
          have hf_619 : ∀ c, (c ≠ 10 ∧ (c < 12 ∨ 70 ≤ c)) → en_619 c = en c := fun c hc => Eq.trans (show en_619 c = en c from by rw [hen_619, va_up_ne _ _ (by omega)]) (hf0 c hc)
          refine lv_aload_n hx hb dX11_may_49 rfl (lv_at hl 0 rfl) ?_
          refine hp_get hx hb hts ix11 hown hK hh (q := 0) rfl (hI.1 _ (by decide)) es608_619 rfl 1 (by decide) (hts _ tw_246) (fun _ h9 => h9) rfl dX11_may_50 ?_
          obtain ⟨hw_620, es620, p0_620⟩ := get_L hI_619
          refine hp_callMv (va_runV (As := []) (rest := []) ⟨hx, hb, hml, hown, hts⟩ (c_X2_forget l D cy _ cs ad en_619 hI_619  ) (kw_X2_forget hts tw_281 ⟨by decide, by decide⟩) (preV_of hh hK (hI.1 _ (by decide)) es620 rfl) rfl rfl hl.1 rfl (lv_room (Nat.le_of_ble_eq_true rfl)) dX11_may_53 ⟨Nat.le_of_ble_eq_true rfl, Nat.le_of_ble_eq_true rfl⟩) hh hA (fun H locs en_621 hw_621 hh => ?_)
          obtain ⟨hI_621, hu_621⟩ := hw_621
          have hf_621 : ∀ c, (c ≠ 10 ∧ (c < 12 ∨ 70 ≤ c)) → en_621 c = en c := fun c hc => (hu_621 c (by omega)).trans (hf_619 c hc)
          refine lv_iconst (v := 1) hx hb dX11_may_56 (by decide) ?_
          have hc4 : (rdI (en 1) 4).toInt = (cnt : Int) := by rw [show rdI (en 1) 4 = nI cnt from by rw [es609]; rfl]; exact nI_toInt (by omega)
          exact hp_iretM hx hb hr rfl hlocks hh (⟨hI_621, hf_621, Or.inr ⟨T_611, T_612, rfl, rfl, by omega, by omega, ⟨hp_611.1, by have := hp_611.2; omega⟩, ⟨hp_612.1, by have := hp_612.2; omega⟩, Or.inr ⟨fun q => c_618 (((show rdF (en 10) (T_611 * 6 + T_612) = f10 (T_611 * 6 + T_612) from by rw [es610]; rfl).trans hz_613).symm.trans q), rfl, (by rw [hu_621 10 (by omega), es610_619, es610]; rfl)⟩⟩⟩) dX11_may_57
        · refine lv_iconst (v := 0) hx hb dX11_may_37 (by decide) ?_
          have hc4 : (rdI (en 1) 4).toInt = (cnt : Int) := by rw [show rdI (en 1) 4 = nI cnt from by rw [es609]; rfl]; exact nI_toInt (by omega)
          exact hp_iretM hx hb hr rfl hlocks hh (⟨hI, hf0, Or.inr ⟨T_611, T_612, rfl, rfl, by omega, by omega, ⟨hp_611.1, by have := hp_611.2; omega⟩, ⟨hp_612.1, by have := hp_612.2; omega⟩, Or.inl ⟨((show rdF (en 10) (T_611 * 6 + T_612) = f10 (T_611 * 6 + T_612) from by rw [es610]; rfl).trans hz_613).trans c_618, rfl, rfl⟩⟩⟩) dX11_may_38
    · obtain rfl : r_612 = 0 := Eq.trans hw_612 (if_neg hp_612)
      refine lv_if_ne (tgt := 24) hx hb dX11_may_19 (by decide) (fun c_0 => absurd c_0 (by decide)) (fun _ => ?_)
      refine lv_iconst (v := (-1)) hx hb dX11_may_22 (by decide) ?_
      have hc4 : (rdI (en 1) 4).toInt = (cnt : Int) := by rw [show rdI (en 1) 4 = nI cnt from by rw [es609]; rfl]; exact nI_toInt (by omega)
      exact hp_iretM hx hb hr rfl hlocks hh (⟨hI, hf0, Or.inl ⟨fun q => hp_612 ⟨q.2.1, by have := q.2.2; omega⟩, rfl, rfl⟩⟩) dX11_may_23
  · obtain rfl : r_611 = 0 := Eq.trans hw_611 (if_neg hp_611)
    refine lv_if_eq (tgt := 22) hx hb dX11_may_8 (by decide) (fun _ => ?_) (fun c_0 => absurd c_0 (by decide))
    refine lv_iconst (v := (-1)) hx hb dX11_may_22 (by decide) ?_
    have hc4 : (rdI (en 1) 4).toInt = (cnt : Int) := by rw [show rdI (en 1) 4 = nI cnt from by rw [es609]; rfl]; exact nI_toInt (by omega)
    exact hp_iretM hx hb hr rfl hlocks hh (⟨hI, hf0, Or.inl ⟨fun q => hp_611 ⟨q.1.1, by have := q.1.2; omega⟩, rfl, rfl⟩⟩) dX11_may_23
theorem kw_X11_may {R : Room} {s : State} {args : Array Value} {own : String} {idx : Nat} (hts : ∀ w ∈ TB, w.before args s = true) (hl : Cond.methodLink own idx yX11_may ∈ TB) (hR : 2 + 1 ≤ R.frames ∧ 8 + (4 + 11) + 40 * 2 ≤ R.locals) : CallW R s args own RX11 idx yX11_may cX11_may 4 (some .int) (Cond.code yX11_may cX11_may 4 (some .int) :: TB) (rmN 2) 0 0 3 := cwV 3 hts (TB_V hl tw_430 tw_431 tw_1 tw_432) rfl rfl rfl (by decide +kernel) hR
set_option maxHeartbeats 4000000 in
set_option maxRecDepth 100000 in
/-- told -/
theorem c_X11_told (l : Launch) (D : va_G) (cy : Nat → ClassId) (sz : Nat) (cs : List Nat) (ad : Nat → Nat) (en : Nat → va_E) (hI : SX cy cs ad en) (z : Int32)   : Met l yX11_told (Cond.code yX11_told cX11_told 2 (some .int) :: TB) (rmN 2) (va_Pc [.ref (ad 0), .int z] (Pre D cy cs ad en sz)) (va_Qi (S := Unit) (fun r _ => XTO z r en) (fun _ _ => True) (Nf sz)) 0 0 (Nf sz) := by
  refine Met.ofW (cc := cX11_told) (maxL := 2) (ret := (some .int)) (by decide) rfl ?_
  intro p e s m args below meth c s₁ B hml hv
  obtain ⟨rfl, hsz, hP, hK, hD0⟩ := hv
  have hx := B.exec
  have hb := B.bytes
  have hr := B.returns
  have hts : ∀ w ∈ TB, w.before _ s = true := fun w h => atoms_spec (ws := _ :: TB) B.pre w (List.mem_cons_of_mem _ h)
  have hown : s.vm.findClass RX11 = some m.cls := findClass_of_methodNamed B.named
  have hlocks := B.notSynchronized
  have hh : Hp D (Nf sz) (fun _ => True) s.heap s.heap [] cs ad en := ⟨hP, hD0, va_S.rf⟩
  have hA : ∀ q : Nat, s.heap.size ≤ q → Nf sz q := fun q h => by rw [hsz] at h; exact h
  have hl := lv_entry ([.ref (ad 0), .int z]) (n := 2) (Nat.le_of_ble_eq_true rfl)
  rw [lg_entry_eq]
  generalize (lg_sl ([.ref (ad 0), .int z]) ++ List.replicate (2 - (lg_sl ([.ref (ad 0), .int z])).length) Slot.unset).toArray = ls at hl ⊢
  have hl : lv_has ls 2 [(0, .ref (ad 0)), (1, .int z)] := hl
  obtain ⟨wc_622, lf_622, es622, p0_622⟩ := get_A hI
  obtain ⟨cnt, d, mm, es623, hcnt, hd2, hd3, hmm⟩ := get_T hI
  obtain ⟨f10, es624, hb10⟩ := get_alw hI
  refine lv_iload_n hx hb dX11_told_0 rfl (lv_at hl 1 rfl) ?_
  by_cases q_625_0 : z = 0
  · refine lv_tableIn (off := 35) (tgt := 36) hx hb dX11_told_1 (by rw [q_625_0]; decide) (by rw [q_625_0]; decide) (by rw [q_625_0]; decide) (by decide) ?_
    refine lv_aload_n hx hb dX11_told_36 rfl (lv_at hl 0 rfl) ?_
    refine hp_get hx hb hts ix11 hown hK hh (q := 0) rfl (hI.1 _ (by decide)) es622 rfl 0 (by decide) (hts _ tw_245) (fun _ h9 => h9) rfl dX11_told_37 ?_
    refine hp_callRi (va_runV (As := []) (rest := []) ⟨hx, hb, hml, hown, hts⟩ (c_X8_count l D cy _ cs ad en (hI.1 _ (by decide)) cnt d mm hcnt hd2 hd3 hmm  es623) (kw_X8_count hts tw_318 ⟨by decide, by decide⟩) (preV_of hh hK (hI.1 _ (by decide)) es623 rfl) rfl rfl hl.1 rfl (lv_room (Nat.le_of_ble_eq_true rfl)) dX11_told_40 ⟨Nat.le_of_ble_eq_true rfl, Nat.le_of_ble_eq_true rfl⟩) hh hA (fun r_626 H locs hw_626 hh => ?_)
    obtain rfl : r_626 = (nI cnt) := hw_626
    exact hp_iretR hx hb hr rfl hlocks hsz hh ((Or.inl ⟨q_625_0, (by rw [es623]; rfl)⟩)) dX11_told_43
  by_cases q_625_1 : z = 1
  · refine lv_tableIn (off := 43) (tgt := 44) hx hb dX11_told_1 (by rw [q_625_1]; decide) (by rw [q_625_1]; decide) (by rw [q_625_1]; decide) (by decide) ?_
    refine lv_aload_n hx hb dX11_told_44 rfl (lv_at hl 0 rfl) ?_
    refine hp_get hx hb hts ix11 hown hK hh (q := 0) rfl (hI.1 _ (by decide)) es622 rfl 0 (by decide) (hts _ tw_245) (fun _ h9 => h9) rfl dX11_told_45 ?_
    refine hp_callRi (va_runV (As := []) (rest := []) ⟨hx, hb, hml, hown, hts⟩ (c_X8_dimension l D cy _ cs ad en (hI.1 _ (by decide)) cnt d mm hcnt hd2 hd3 hmm  es623) (kw_X8_dimension hts tw_868 ⟨by decide, by decide⟩) (preV_of hh hK (hI.1 _ (by decide)) es623 rfl) rfl rfl hl.1 rfl (lv_room (Nat.le_of_ble_eq_true rfl)) dX11_told_48 ⟨Nat.le_of_ble_eq_true rfl, Nat.le_of_ble_eq_true rfl⟩) hh hA (fun r_627 H locs hw_627 hh => ?_)
    obtain rfl : r_627 = (nI d) := hw_627
    exact hp_iretR hx hb hr rfl hlocks hsz hh ((Or.inr (Or.inl ⟨q_625_1, (by rw [es623]; rfl)⟩))) dX11_told_51
  by_cases q_625_2 : z = 2
  · refine lv_tableIn (off := 51) (tgt := 52) hx hb dX11_told_1 (by rw [q_625_2]; decide) (by rw [q_625_2]; decide) (by rw [q_625_2]; decide) (by decide) ?_
    refine lv_aload_n hx hb dX11_told_52 rfl (lv_at hl 0 rfl) ?_
    refine hp_get hx hb hts ix11 hown hK hh (q := 0) rfl (hI.1 _ (by decide)) es622 rfl 0 (by decide) (hts _ tw_245) (fun _ h9 => h9) rfl dX11_told_53 ?_
    refine hp_callRi (va_runV (As := []) (rest := []) ⟨hx, hb, hml, hown, hts⟩ (c_X8_modulus l D cy _ cs ad en (hI.1 _ (by decide)) cnt d mm hcnt hd2 hd3 hmm  es623) (kw_X8_modulus hts tw_561 ⟨by decide, by decide⟩) (preV_of hh hK (hI.1 _ (by decide)) es623 rfl) rfl rfl hl.1 rfl (lv_room (Nat.le_of_ble_eq_true rfl)) dX11_told_56 ⟨Nat.le_of_ble_eq_true rfl, Nat.le_of_ble_eq_true rfl⟩) hh hA (fun r_628 H locs hw_628 hh => ?_)
    obtain rfl : r_628 = (nI mm) := hw_628
    exact hp_iretR hx hb hr rfl hlocks hsz hh ((Or.inr (Or.inr (Or.inl ⟨q_625_2, (by rw [es623]; rfl)⟩)))) dX11_told_59
  by_cases q_625_3 : z = 3
  · refine lv_tableIn (off := 59) (tgt := 60) hx hb dX11_told_1 (by rw [q_625_3]; decide) (by rw [q_625_3]; decide) (by rw [q_625_3]; decide) (by decide) ?_
    refine lv_aload_n hx hb dX11_told_60 rfl (lv_at hl 0 rfl) ?_
    refine hp_get hx hb hts ix11 hown hK hh (q := 0) rfl (hI.1 _ (by decide)) es622 rfl 6 (by decide) (hts _ tw_251) (fun _ h9 => h9) rfl dX11_told_61 ?_
    exact hp_iretR hx hb hr rfl hlocks hsz hh ((Or.inr (Or.inr (Or.inr (Or.inl ⟨q_625_3, (by rw [es622]; rfl)⟩))))) dX11_told_64
  by_cases q_625_4 : z = 4
  · refine lv_tableIn (off := 64) (tgt := 65) hx hb dX11_told_1 (by rw [q_625_4]; decide) (by rw [q_625_4]; decide) (by rw [q_625_4]; decide) (by decide) ?_
    refine lv_aload_n hx hb dX11_told_65 rfl (lv_at hl 0 rfl) ?_
    refine hp_get hx hb hts ix11 hown hK hh (q := 0) rfl (hI.1 _ (by decide)) es622 rfl 0 (by decide) (hts _ tw_245) (fun _ h9 => h9) rfl dX11_told_66 ?_
    refine hp_callRi (va_runV (As := []) (rest := []) ⟨hx, hb, hml, hown, hts⟩ (c_X8_countAllowedPairs l D cy _ cs ad en (hI.1 _ (by decide)) cnt d mm hcnt hd2 hd3 hmm (hI.1 _ (by decide)) f10 hb10 es623 es624) (kw_X8_countAllowedPairs hts tw_869 ⟨by decide, by decide⟩) (preV_of hh hK (hI.1 _ (by decide)) es623 rfl) rfl rfl hl.1 rfl (lv_room (Nat.le_of_ble_eq_true rfl)) dX11_told_69 ⟨Nat.le_of_ble_eq_true rfl, Nat.le_of_ble_eq_true rfl⟩) hh hA (fun r_629 H locs hw_629 hh => ?_)
    exact hp_iretR hx hb hr rfl hlocks hsz hh ((Or.inr (Or.inr (Or.inr (Or.inr (Or.inl ⟨q_625_4, (by rw [show rdI (en 1) 4 = nI cnt from by rw [es623]; rfl, nI_clamp (n := cnt) (by omega), show rdF (en 10) = f10 from by rw [es624]; rfl]; exact hw_629)⟩)))))) dX11_told_72
  refine lv_tableOut (tgt := 73) hx hb dX11_told_1 (tb_out 5 (by decide) (by decide) (fun j hj => by rcases (show j = 0 ∨ j = 1 ∨ j = 2 ∨ j = 3 ∨ j = 4 by omega) with rfl | rfl | rfl | rfl | rfl <;> first | exact lv_neT q_625_0 (by decide) | exact lv_neT q_625_1 (by decide) | exact lv_neT q_625_2 (by decide) | exact lv_neT q_625_3 (by decide) | exact lv_neT q_625_4 (by decide))) (by decide) ?_
  refine lv_bipush (v := (-2)) hx hb dX11_told_73 (by decide) ?_
  exact hp_iretR hx hb hr rfl hlocks hsz hh ((Or.inr (Or.inr (Or.inr (Or.inr (Or.inr (⟨q_625_0, q_625_1, q_625_2, q_625_3, q_625_4, rfl⟩))))))) dX11_told_75
theorem kw_X11_told {R : Room} {s : State} {args : Array Value} {own : String} {idx : Nat} (hts : ∀ w ∈ TB, w.before args s = true) (hl : Cond.methodLink own idx yX11_told ∈ TB) (hR : 2 + 1 ≤ R.frames ∧ 8 + (2 + 11) + 40 * 2 ≤ R.locals) : CallW R s args own RX11 idx yX11_told cX11_told 2 (some .int) (Cond.code yX11_told cX11_told 2 (some .int) :: TB) (rmN 2) 0 0 1 := cwV 1 hts (TB_V hl tw_865 tw_866 tw_1 tw_867) rfl rfl rfl (by decide +kernel) hR
set_option maxHeartbeats 4000000 in
set_option maxRecDepth 100000 in
/-- history -/
theorem c_X11_history (l : Launch) (D : va_G) (cy : Nat → ClassId) (sz : Nat) (cs : List Nat) (ad : Nat → Nat) (en : Nat → va_E) (hI : SX cy cs ad en)    : Met l yX11_history (Cond.code yX11_history cX11_history 1 (some .int) :: TB) (rmN 0) (va_Pc [.ref (ad 0)] (Pre D cy cs ad en sz)) (va_Qi (S := Unit) (fun r _ => r = rdI (en 76) 0) (fun _ _ => True) (Nf sz)) 0 0 (Nf sz) := by
  refine Met.ofW (cc := cX11_history) (maxL := 1) (ret := (some .int)) (by decide) rfl ?_
  intro p e s m args below meth c s₁ B hml hv
  obtain ⟨rfl, hsz, hP, hK, hD0⟩ := hv
  have hx := B.exec
  have hb := B.bytes
  have hr := B.returns
  have hts : ∀ w ∈ TB, w.before _ s = true := fun w h => atoms_spec (ws := _ :: TB) B.pre w (List.mem_cons_of_mem _ h)
  have hown : s.vm.findClass RX11 = some m.cls := findClass_of_methodNamed B.named
  have hlocks := B.notSynchronized
  have hh : Hp D (Nf sz) (fun _ => True) s.heap s.heap [] cs ad en := ⟨hP, hD0, va_S.rf⟩
  have hA : ∀ q : Nat, s.heap.size ≤ q → Nf sz q := fun q h => by rw [hsz] at h; exact h
  have hl := lv_entry ([.ref (ad 0)]) (n := 1) (Nat.le_of_ble_eq_true rfl)
  rw [lg_entry_eq]
  generalize (lg_sl ([.ref (ad 0)]) ++ List.replicate (1 - (lg_sl ([.ref (ad 0)])).length) Slot.unset).toArray = ls at hl ⊢
  have hl : lv_has ls 1 [(0, .ref (ad 0))] := hl
  obtain ⟨wc_630, lf_630, es630, p0_630⟩ := get_A hI
  refine lv_aload_n hx hb dX11_history_0 rfl (lv_at hl 0 rfl) ?_
  refine hp_get hx hb hts ix11 hown hK hh (q := 0) rfl (hI.1 _ (by decide)) es630 rfl 5 (by decide) (hts _ tw_250) (fun _ h9 => h9) rfl dX11_history_1 ?_
  obtain ⟨hi_631, es631⟩ := get_tr hI
  refine hp_get hx hb hts ix9 hown hK hh (q := 76) rfl (hI.1 _ (by decide)) es631 rfl 0 (by decide) (hts _ tw_202) (fun _ h9 => h9) rfl dX11_history_4 ?_
  exact hp_iretR hx hb hr rfl hlocks hsz hh (by rw [es631]; rfl) dX11_history_7
theorem kw_X11_history {R : Room} {s : State} {args : Array Value} {own : String} {idx : Nat} (hts : ∀ w ∈ TB, w.before args s = true) (hl : Cond.methodLink own idx yX11_history ∈ TB) (hR : 0 + 1 ≤ R.frames ∧ 8 + (1 + 11) + 40 * 0 ≤ R.locals) : CallW R s args own RX11 idx yX11_history cX11_history 1 (some .int) (Cond.code yX11_history cX11_history 1 (some .int) :: TB) (rmN 0) 0 0 0 := cwV 0 hts (TB_V hl tw_857 tw_858 tw_1 tw_859) rfl rfl rfl (by decide +kernel) hR
set_option maxHeartbeats 4000000 in
set_option maxRecDepth 100000 in
/-- fault -/
theorem c_X11_fault (l : Launch) (D : va_G) (cy : Nat → ClassId) (sz : Nat) (cs : List Nat) (ad : Nat → Nat) (en : Nat → va_E) (hI : SX cy cs ad en)    : Met l yX11_fault (Cond.code yX11_fault cX11_fault 1 (some .int) :: TB) (rmN 0) (va_Pc [.ref (ad 0)] (Pre D cy cs ad en sz)) (va_Qi (S := Unit) (fun _ _ => True) (fun _ _ => True) (Nf sz)) 0 0 (Nf sz) := by
  refine Met.ofW (cc := cX11_fault) (maxL := 1) (ret := (some .int)) (by decide) rfl ?_
  intro p e s m args below meth c s₁ B hml hv
  obtain ⟨rfl, hsz, hP, hK, hD0⟩ := hv
  have hx := B.exec
  have hb := B.bytes
  have hr := B.returns
  have hts : ∀ w ∈ TB, w.before _ s = true := fun w h => atoms_spec (ws := _ :: TB) B.pre w (List.mem_cons_of_mem _ h)
  have hown : s.vm.findClass RX11 = some m.cls := findClass_of_methodNamed B.named
  have hlocks := B.notSynchronized
  have hh : Hp D (Nf sz) (fun _ => True) s.heap s.heap [] cs ad en := ⟨hP, hD0, va_S.rf⟩
  have hA : ∀ q : Nat, s.heap.size ≤ q → Nf sz q := fun q h => by rw [hsz] at h; exact h
  have hl := lv_entry ([.ref (ad 0)]) (n := 1) (Nat.le_of_ble_eq_true rfl)
  rw [lg_entry_eq]
  generalize (lg_sl ([.ref (ad 0)]) ++ List.replicate (1 - (lg_sl ([.ref (ad 0)])).length) Slot.unset).toArray = ls at hl ⊢
  have hl : lv_has ls 1 [(0, .ref (ad 0))] := hl
  obtain ⟨wc_632, lf_632, es632, p0_632⟩ := get_A hI
  refine lv_aload_n hx hb dX11_fault_0 rfl (lv_at hl 0 rfl) ?_
  refine hp_get hx hb hts ix11 hown hK hh (q := 0) rfl (hI.1 _ (by decide)) es632 rfl 7 (by decide) (hts _ tw_252) (fun _ h9 => h9) rfl dX11_fault_1 ?_
  exact hp_iretR hx hb hr rfl hlocks hsz hh (trivial) dX11_fault_4
theorem kw_X11_fault {R : Room} {s : State} {args : Array Value} {own : String} {idx : Nat} (hts : ∀ w ∈ TB, w.before args s = true) (hl : Cond.methodLink own idx yX11_fault ∈ TB) (hR : 0 + 1 ≤ R.frames ∧ 8 + (1 + 11) + 40 * 0 ≤ R.locals) : CallW R s args own RX11 idx yX11_fault cX11_fault 1 (some .int) (Cond.code yX11_fault cX11_fault 1 (some .int) :: TB) (rmN 0) 0 0 0 := cwV 0 hts (TB_V hl tw_861 tw_862 tw_1 tw_863) rfl rfl rfl (by decide +kernel) hR
