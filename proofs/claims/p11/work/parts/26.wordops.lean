set_option maxHeartbeats 4000000 in
set_option maxRecDepth 100000 in
/-- keepWord -/
theorem c_X11_keepWord (l : Launch) (D : va_G) (cy : Nat → ClassId) (sz : Nat) (cs : List Nat) (ad : Nat → Nat) (en : Nat → va_E) (hI : SX cy cs ad en) (k la i n : Int32)   : Met l yX11_keepWord (Cond.code yX11_keepWord cX11_keepWord 9 (some .int) :: TB) (rmN 4) (va_Pc [.ref (ad 0), .int k, .int la, .int i, .int n] (Pre D cy cs ad en sz)) (va_Qi (S := Nat → va_E) (fun r en1 => SX cy cs ad en1 ∧ (∀ c, (0 < c ∧ c ≠ 11 ∧ (c < 77 ∨ 107 ≤ c)) → en1 c = en c) ∧ KWK (okW k la i n en) n.toNatClampNeg (fun x => rdF (en (108 + 2 * k.toNatClampNeg)) (i.toNatClampNeg + x)) r en en1) (PostM D cs ad) (Af cs ad sz)) 0 0 (Af cs ad sz) := by
  refine Met.ofW (cc := cX11_keepWord) (maxL := 9) (ret := (some .int)) (by decide) rfl ?_
  intro p e s m args below meth c s₁ B hml hv
  obtain ⟨rfl, hsz, hP, hK, hD0⟩ := hv
  have hx := B.exec
  have hb := B.bytes
  have hr := B.returns
  have hts : ∀ w ∈ TB, w.before _ s = true := fun w h => atoms_spec (ws := _ :: TB) B.pre w (List.mem_cons_of_mem _ h)
  have hown : s.vm.findClass RX11 = some m.cls := findClass_of_methodNamed B.named
  have hlocks := B.notSynchronized
  have hh : Hp D (Af cs ad sz) (Af cs ad sz) s.heap s.heap [] cs ad en := ⟨hP, Af_self hD0, va_S.rf⟩
  have hA : ∀ q : Nat, s.heap.size ≤ q → Af cs ad sz q := fun q h => Or.inr (by rw [hsz] at h; exact h)
  have hl := lv_entry ([.ref (ad 0), .int k, .int la, .int i, .int n]) (n := 9) (Nat.le_of_ble_eq_true rfl)
  rw [lg_entry_eq]
  generalize (lg_sl ([.ref (ad 0), .int k, .int la, .int i, .int n]) ++ List.replicate (9 - (lg_sl ([.ref (ad 0), .int k, .int la, .int i, .int n])).length) Slot.unset).toArray = ls at hl ⊢
  have hl : lv_has ls 9 [(0, .ref (ad 0)), (1, .int k), (2, .int la), (3, .int i), (4, .int n)] := hl
  have hf0 : ∀ c, (0 < c ∧ c ≠ 11 ∧ (c < 77 ∨ 107 ≤ c)) → en c = en c := fun _ _ => rfl
  obtain ⟨wc_500, lf_500, es500, p0_500⟩ := get_A hI
  obtain ⟨cnt, d, mm, es501, hcnt, hd2, hd3, hmm⟩ := get_T hI
  refine lv_aload_n hx hb dX11_keepWord_0 rfl (lv_at hl 0 rfl) ?_
  refine lv_iload_n hx hb dX11_keepWord_1 rfl (lv_at hl 1 rfl) ?_
  refine lv_iload_n hx hb dX11_keepWord_2 rfl (lv_at hl 2 rfl) ?_
  refine lv_iload_n hx hb dX11_keepWord_3 rfl (lv_at hl 3 rfl) ?_
  refine lv_iload hx hb dX11_keepWord_4 (lv_at hl 4 rfl) ?_
  refine hp_callRi (va_runV (As := [.int k, .int la, .int i, .int n]) (rest := []) ⟨hx, hb, hml, hown, hts⟩ (c_X11_lookAtCells l D cy _ cs ad en hI k la i n) (kw_X11_lookAtCells hts tw_301 ⟨by decide, by decide⟩) (preV_of hh hK (hI.1 _ (by decide)) es500 rfl) rfl rfl hl.1 rfl (lv_room (Nat.le_of_ble_eq_true rfl)) dX11_keepWord_6 ⟨Nat.le_of_ble_eq_true rfl, Nat.le_of_ble_eq_true rfl⟩) hh hA (fun r_502 H locs hw_502 hh => ?_)
  refine lv_istore (lv' := [(5, .int r_502), (0, .ref (ad 0)), (1, .int k), (2, .int la), (3, .int i), (4, .int n)]) hx hb dX11_keepWord_9 hl (by decide) rfl (fun ls hl => ?_)
  refine lv_iload hx hb dX11_keepWord_11 (lv_at hl 0 rfl) ?_
  refine lv_iconst (v := 1) hx hb dX11_keepWord_13 (by decide) ?_
  refine lv_icmp_eq (tgt := 20) hx hb dX11_keepWord_14 (by decide) (fun c_503 => ?_) (fun c_503 => ?_)
  · obtain ⟨hw1, -, -, -, hw5⟩ := lookF_1 (hw_502.symm.trans c_503)
    obtain ⟨K9, rfl, -, hK9⟩ := wi_natB hw1 0 3 (by decide) (by decide)
    refine lv_iload hx hb dX11_keepWord_20 (lv_at hl 5 rfl) ?_
    refine lv_iconst (v := 1) hx hb dX11_keepWord_22 (by decide) ?_
    refine lv_bipush (v := 12) hx hb dX11_keepWord_23 (by decide) ?_
    refine hp_callRi (va_runS (As := [.int n, .int 1, .int 12]) (rest := []) ⟨hx, hb, hml, hown, hts⟩ (c_X11_isWithin l D cy _ cs ad en n 1 12) (kw_X11_isWithin hts tw_274 ⟨by decide, by decide⟩) (preS_of hh hK) rfl rfl hl.1 rfl (lv_room (Nat.le_of_ble_eq_true rfl)) dX11_keepWord_25 ⟨Nat.le_of_ble_eq_true rfl, Nat.le_of_ble_eq_true rfl⟩) hh hA (fun r_504 H locs hw_504 hh => ?_)
    rcases Decidable.em (wi n 1 12) with hp_504 | hp_504
    · obtain rfl : r_504 = 1 := Eq.trans hw_504 (if_pos hp_504)
      obtain ⟨N_504, rfl, hA_504, hB_504⟩ := wi_natB hp_504 1 12 (by decide) (by decide)
      refine lv_if_ne (tgt := 34) hx hb dX11_keepWord_28 (by decide) (fun _ => ?_) (fun c_0 => absurd c_0 (by decide))
      obtain ⟨sc_505, sl_505, sr_505, es505, p0_505, p1_505⟩ := get_sh hI (j := K9) (by omega)
      obtain ⟨f_506, es506⟩ := get_shc hI (j := K9) (by omega)
      rw [nI_clamp (n := K9) (by omega), nI_clamp (n := N_504) (by omega), show rdI (en (107 + 2 * K9)) 1 = nI sc_505 from by rw [es505]; rfl] at hw5
      obtain ⟨I9, rfl, hI9⟩ := hcP_nat (by omega) hw5 (by omega)
      refine lv_aload_n hx hb dX11_keepWord_34 rfl (lv_at hl 1 rfl) ?_
      refine hp_get hx hb hts ix11 hown hK hh (q := 0) rfl (hI.1 _ (by decide)) es500 rfl 4 (by decide) (hts _ tw_249) (fun _ h9 => h9) rfl dX11_keepWord_35 ?_
      refine lv_iload_n hx hb dX11_keepWord_38 rfl (lv_at hl 2 rfl) ?_
      have es507 := get_shs hI
      unfold P_shs at es507
      refine hp_aald hx hb hK hh (q := 75) rfl (hI.1 _ (by decide)) 6 es507 rfl rfl (vp_in_nI (n := K9) (by omega) (by decide)) (v := .ref (ad (107 + 2 * K9))) (by rw [nI_clamp (n := K9) (by omega)]; exact rfB_v (by omega)) dX11_keepWord_39 ?_
      refine hp_get hx hb hts ix3 hown hK hh (q := (107 + 2 * K9)) rfl (hI.1 _ (by omega)) es505 rfl 0 (by decide) (hts _ tw_230) (fun _ h9 => h9) rfl dX11_keepWord_40 ?_
      refine lv_astore (lv' := [(6, .ref (ad (108 + 2 * K9))), (5, .int r_502), (0, .ref (ad 0)), (1, .int (nI K9)), (2, .int la), (3, .int (nI I9)), (4, .int (nI N_504))]) hx hb dX11_keepWord_43 hl (by decide) rfl (fun ls hl => ?_)
      refine lv_iconst (v := 0) hx hb dX11_keepWord_45 (by decide) ?_
      refine lv_istore (lv' := [(7, .int 0), (6, .ref (ad (108 + 2 * K9))), (5, .int r_502), (0, .ref (ad 0)), (1, .int (nI K9)), (2, .int la), (3, .int (nI I9)), (4, .int (nI N_504))]) hx hb dX11_keepWord_46 hl (by decide) rfl (fun ls hl => ?_)
      have loop_508 : ∀ (fu j508 : Nat)   (ls : Array Slot) (H : Heap) (locs : List Loc), 0 ≤ j508 → j508 ≤ N_504 → N_504 < j508 + fu →  (∀ x, x < j508 → ∃ v, v < cnt ∧ f_506 (I9 + x) = nI v) → lv_has ls 9 [(7, .int (nI j508)), (6, .ref (ad (108 + 2 * K9))), (5, .int r_502), (0, .ref (ad 0)), (1, .int (nI K9)), (2, .int la), (3, .int (nI I9)), (4, .int (nI N_504))] → Hp D (Af cs ad sz) (Af cs ad sz) s.heap H locs cs ad en → W p l e (headSpec (Cond.code yX11_keepWord cX11_keepWord 9 (some .int) :: TB) (rmN 4)).room s m ([.ref (ad 0), .int (nI K9), .int la, .int (nI I9), .int (nI N_504)] : List Value).toArray below meth c H locs 0 0 (MQ below (va_Qi (S := Nat → va_E) (fun r en1 => SX cy cs ad en1 ∧ (∀ c, (0 < c ∧ c ≠ 11 ∧ (c < 77 ∨ 107 ≤ c)) → en1 c = en c) ∧ KWK (okW (nI K9) la (nI I9) (nI N_504) en) (nI N_504).toNatClampNeg (fun x => rdF (en (108 + 2 * (nI K9).toNatClampNeg)) ((nI I9).toNatClampNeg + x)) r en en1) (PostM D cs ad) (Af cs ad sz)) ([.ref (ad 0), .int (nI K9), .int la, .int (nI I9), .int (nI N_504)] : List Value).toArray s 0 0 (Af cs ad sz)) (F0 m 48 ls []) := by
        intro fu
        induction fu with
        | zero => intro j508  ls H locs h0 h1 h2; exact absurd h2 (by omega)
        | succ fu ih_508 =>
          intro j508  ls H locs hj0_508 hj_508 hfu_508 i0_508 hl hh
          refine lv_iload hx hb dX11_keepWord_48 (lv_at hl 0 rfl) ?_
          refine lv_iload hx hb dX11_keepWord_50 (lv_at hl 7 rfl) ?_
          refine lv_icmp_ge (tgt := 80) hx hb dX11_keepWord_52 (by decide) (fun c_509 => ?_) (fun c_509 => ?_)
          · have n_509 : N_504 ≤ j508 := n_le (a := N_504) (b := j508) c_509 (by omega) (by omega)
            have hvv : ∀ E, I9 ≤ E ∧ E < I9 + N_504 → ∃ v, v < 6 ∧ f_506 E = nI v := fun E hE => by obtain ⟨v9, h91, h92⟩ := i0_508 (E - I9) (by omega); rw [show I9 + (E - I9) = E by omega] at h92; exact ⟨v9, by omega, h92⟩
            refine lv_aload_n hx hb dX11_keepWord_80 rfl (lv_at hl 3 rfl) ?_
            refine hp_get hx hb hts ix11 hown hK hh (q := 0) rfl (hI.1 _ (by decide)) es500 rfl 6 (by decide) (hts _ tw_251) (fun _ h9 => h9) rfl dX11_keepWord_81 ?_
            refine lv_bipush (v := 10) hx hb dX11_keepWord_84 (by decide) ?_
            refine lv_icmp_lt (tgt := 92) hx hb dX11_keepWord_86 (by decide) (fun c_510 => ?_) (fun c_510 => ?_)
            · have n_510 : wc_500 < 10 := n_lt (a := wc_500) (b := 10) c_510 (by omega) (by decide)
              refine lv_aload_n hx hb dX11_keepWord_92 rfl (lv_at hl 3 rfl) ?_
              refine hp_get hx hb hts ix11 hown hK hh (q := 0) rfl (hI.1 _ (by decide)) es500 rfl 3 (by decide) (hts _ tw_248) (fun _ h9 => h9) rfl dX11_keepWord_93 ?_
              refine lv_aload_n hx hb dX11_keepWord_96 rfl (lv_at hl 3 rfl) ?_
              refine hp_get hx hb hts ix11 hown hK hh (q := 0) rfl (hI.1 _ (by decide)) es500 rfl 6 (by decide) (hts _ tw_251) (fun _ h9 => h9) rfl dX11_keepWord_97 ?_
              have es511 := get_wos hI
              unfold P_wos at es511
              refine hp_aald hx hb hK hh (q := 74) rfl (hI.1 _ (by decide)) 5 es511 rfl rfl (vp_in_nI (n := wc_500) (by omega) (by decide)) (v := .ref (ad (77 + 3 * wc_500))) (by rw [nI_clamp (n := wc_500) (by omega)]; exact rfB_v (by omega)) dX11_keepWord_100 ?_
              refine lv_astore (lv' := [(7, .ref (ad (77 + 3 * wc_500))), (6, .ref (ad (108 + 2 * K9))), (5, .int r_502), (0, .ref (ad 0)), (1, .int (nI K9)), (2, .int la), (3, .int (nI I9)), (4, .int (nI N_504))]) hx hb dX11_keepWord_101 hl (by decide) rfl (fun ls hl => ?_)
              refine lv_aload hx hb dX11_keepWord_103 (lv_at hl 0 rfl) ?_
              obtain ⟨lc_512, es512, p0_512⟩ := get_wo hI (j := wc_500) (by omega)
              refine hp_callMv (va_runV (As := []) (rest := []) ⟨hx, hb, hml, hown, hts⟩ (c_X10_clear l D cy _ cs ad en hI wc_500 (by omega)  ) (kw_X10_clear hts tw_681 ⟨by decide, by decide⟩) (preV_of hh hK (hI.1 _ (by omega)) es512 rfl) rfl rfl hl.1 rfl (lv_room (Nat.le_of_ble_eq_true rfl)) dX11_keepWord_105 ⟨Nat.le_of_ble_eq_true rfl, Nat.le_of_ble_eq_true rfl⟩) hh hA (fun H locs en_513 hw_513 hh => ?_)
              obtain ⟨hI_513, hu_513, hx_513⟩ := hw_513
              have hf_513 : ∀ c, (0 < c ∧ c ≠ 11 ∧ (c < 77 ∨ 107 ≤ c)) → en_513 c = en c := fun c hc => (hu_513 c (by omega)).trans (hf0 c hc)
              refine lv_iconst (v := 0) hx hb dX11_keepWord_108 (by decide) ?_
              refine lv_istore (lv' := [(8, .int 0), (7, .ref (ad (77 + 3 * wc_500))), (6, .ref (ad (108 + 2 * K9))), (5, .int r_502), (0, .ref (ad 0)), (1, .int (nI K9)), (2, .int la), (3, .int (nI I9)), (4, .int (nI N_504))]) hx hb dX11_keepWord_109 hl (by decide) rfl (fun ls hl => ?_)
              have loop_514 : ∀ (fu j514 : Nat)  (en_514 : Nat → va_E) (ls : Array Slot) (H : Heap) (locs : List Loc), 0 ≤ j514 → j514 ≤ N_504 → N_504 < j514 + fu → SX cy cs ad en_514 → (∀ c, (0 < c ∧ c ≠ 11 ∧ (c < 77 ∨ 107 ≤ c)) → en_514 c = en c) → ((∀ c, c ≠ 77 + 3 * wc_500 → c ≠ 78 + 3 * wc_500 → en_514 c = en_513 c) ∧ rdI (en_514 (77 + 3 * wc_500)) 2 = nI (0 + j514) ∧ (∀ x, x < j514 → rdF (en_514 (78 + 3 * wc_500)) x = rdF (en (108 + 2 * K9)) (I9 + x))) → lv_has ls 9 [(8, .int (nI j514)), (7, .ref (ad (77 + 3 * wc_500))), (6, .ref (ad (108 + 2 * K9))), (5, .int r_502), (0, .ref (ad 0)), (1, .int (nI K9)), (2, .int la), (3, .int (nI I9)), (4, .int (nI N_504))] → Hp D (Af cs ad sz) (Af cs ad sz) s.heap H locs cs ad en_514 → W p l e (headSpec (Cond.code yX11_keepWord cX11_keepWord 9 (some .int) :: TB) (rmN 4)).room s m ([.ref (ad 0), .int (nI K9), .int la, .int (nI I9), .int (nI N_504)] : List Value).toArray below meth c H locs 0 0 (MQ below (va_Qi (S := Nat → va_E) (fun r en1 => SX cy cs ad en1 ∧ (∀ c, (0 < c ∧ c ≠ 11 ∧ (c < 77 ∨ 107 ≤ c)) → en1 c = en c) ∧ KWK (okW (nI K9) la (nI I9) (nI N_504) en) (nI N_504).toNatClampNeg (fun x => rdF (en (108 + 2 * (nI K9).toNatClampNeg)) ((nI I9).toNatClampNeg + x)) r en en1) (PostM D cs ad) (Af cs ad sz)) ([.ref (ad 0), .int (nI K9), .int la, .int (nI I9), .int (nI N_504)] : List Value).toArray s 0 0 (Af cs ad sz)) (F0 m 111 ls []) := by
                intro fu
                induction fu with
                | zero => intro j514  en_514 ls H locs h0 h1 h2; exact absurd h2 (by omega)
                | succ fu ih_514 =>
                  intro j514  en_514 ls H locs hj0_514 hj_514 hfu_514 hI_514 hf_514 i0_514 hl hh
                  have e0_514 : en_514 0 = .inr (10, [.ref (ad 1), .ref (ad 12), .ref (ad 70), .ref (ad 74), .ref (ad 75), .ref (ad 76), .int (nI wc_500), .int lf_500]) := (i0_514.1 0 (by omega) (by omega)).trans ((hu_513 0 (by omega)).trans es500)
                  refine lv_iload hx hb dX11_keepWord_111 (lv_at hl 0 rfl) ?_
                  refine lv_iload hx hb dX11_keepWord_113 (lv_at hl 8 rfl) ?_
                  refine lv_icmp_ge (tgt := 136) hx hb dX11_keepWord_115 (by decide) (fun c_515 => ?_) (fun c_515 => ?_)
                  · have n_515 : N_504 ≤ j514 := n_le (a := N_504) (b := j514) c_515 (by omega) (by omega)
                    refine lv_aload_n hx hb dX11_keepWord_136 rfl (lv_at hl 4 rfl) ?_
                    have hj9 : j514 = N_504 := by omega
                    refine hp_callMi (va_runV (As := []) (rest := []) ⟨hx, hb, hml, hown, hts⟩ (c_X11_finishWord l D cy _ cs ad en_514 hI_514 wc_500 (by omega) (by rw [e0_514]; rfl) (by rw [i0_514.2.1, nI_toInt (by omega)]; omega)) (kw_X11_finishWord hts tw_689 ⟨by decide, by decide⟩) (preV_of hh hK (hI.1 _ (by decide)) e0_514 rfl) rfl rfl hl.1 rfl (lv_room (Nat.le_of_ble_eq_true rfl)) dX11_keepWord_137 ⟨Nat.le_of_ble_eq_true rfl, Nat.le_of_ble_eq_true rfl⟩) hh hA (fun r_516 H locs en_516 hw_516 hh => ?_)
                    obtain ⟨hI_516, hu_516, hx_516⟩ := hw_516
                    have hf_516 : ∀ c, (0 < c ∧ c ≠ 11 ∧ (c < 77 ∨ 107 ≤ c)) → en_516 c = en c := fun c hc => (hu_516 c (by omega)).trans (hf_514 c hc)
                    have hc4 : (rdI (en 1) 4).toInt = (cnt : Int) := by rw [show rdI (en 1) 4 = nI cnt from by rw [es501]; rfl]; exact nI_toInt (by omega)
                    have hc6 : (rdI (en 0) 6).toInt = (wc_500 : Int) := by rw [show rdI (en 0) 6 = nI wc_500 from by rw [es500]; rfl]; exact nI_toInt (by omega)
                    exact hp_iretM hx hb hr rfl hlocks hh (⟨hI_516, hf_516, Or.inr ⟨⟨hw_502.symm.trans c_503, by rw [nI_toInt (n := N_504) (by omega)]; omega, by rw [nI_toInt (n := N_504) (by omega)]; omega, (fun x hx9 => by rw [nI_clamp (n := N_504) (by omega)] at hx9; rw [nI_clamp (n := K9) (by omega), nI_clamp (n := I9) (by omega), show rdF (en (108 + 2 * K9)) = f_506 from by rw [es506]; rfl]; obtain ⟨v9, h91, h92⟩ := i0_508 x (by omega); rw [h92]; exact ⟨by rw [nI_toInt (n := v9) (by omega)]; omega, by rw [nI_toInt (n := v9) (by omega), hc4]; omega⟩), by rw [hc6]; omega⟩, (by rw [nI_clamp (n := K9) (by omega), nI_clamp (n := I9) (by omega), nI_clamp (n := N_504) (by omega)]; exact ⟨wc_500, hx_516.1, (by rw [es500]; rfl), by omega, by omega, by omega, ⟨hx_516.2.1, (by rw [hu_516 _ (by omega), i0_514.2.1]; exact congrArg nI (by omega)), (fun x hx9 => by rw [hu_516 _ (by omega)]; exact i0_514.2.2 x (by omega)), (fun c h1 h2 h3 h4 h5 => (hu_516 c (by omega)).trans ((i0_514.1 c h3 h4).trans (hu_513 c (by omega))))⟩, KWP_of hx_516.2.2 ((i0_514.1 1 (by omega) (by omega)).trans (hu_513 1 (by omega))) (fun j hj => (i0_514.1 _ (by omega) (by omega)).trans (hu_513 _ (by omega))) (by rw [i0_514.2.1]; exact congrArg nI (by omega)) (by omega) (by omega) (fun x hx9 => i0_514.2.2 x (by omega)) (fun x hx9 => by obtain ⟨v9, h91, h92⟩ := i0_508 x (by omega); exact ⟨v9, by omega, by rw [show rdF (en (108 + 2 * K9)) = f_506 from by rw [es506]; rfl]; exact h92⟩)⟩)⟩⟩) dX11_keepWord_140
                  · have n_515 : j514 < N_504 := n_nle (a := N_504) (b := j514) c_515 (by omega) (by omega)
                    refine lv_aload hx hb dX11_keepWord_118 (lv_at hl 1 rfl) ?_
                    refine lv_aload hx hb dX11_keepWord_120 (lv_at hl 2 rfl) ?_
                    refine lv_iload_n hx hb dX11_keepWord_122 rfl (lv_at hl 7 rfl) ?_
                    refine lv_iload hx hb dX11_keepWord_123 (lv_at hl 0 rfl) ?_
                    refine lv_iadd hx hb dX11_keepWord_125 ?_
                    rw [nI_add I9 j514]
                    have es506_517 : en_514 (108 + 2 * K9) = .inl (cy 0, 40, .inl f_506) := (hf_514 (108 + 2 * K9) (by omega)).trans es506
                    refine hp_iald hx hb hK hh (q := (108 + 2 * K9)) rfl (hI.1 _ (by omega)) es506_517 (vp_in_nI (n := (I9 + j514)) (by omega) (by decide)) dX11_keepWord_126 ?_
                    rw [nI_clamp (n := (I9 + j514)) (by omega)]
                    obtain ⟨v_518, hv_518, hfv_518⟩ := hvv (I9 + j514) (by omega)
                    rw [hfv_518]
                    obtain ⟨lc_519, es519, p0_519⟩ := get_wo hI_514 (j := wc_500) (by omega)
                    refine hp_callMv (va_runV (As := [.int (nI v_518)]) (rest := []) ⟨hx, hb, hml, hown, hts⟩ (c_X10_append l D cy _ cs ad en_514 hI_514 wc_500 (by omega) v_518 (0 + j514) (by omega) (by omega) i0_514.2.1) (kw_X10_append hts tw_685 ⟨by decide, by decide⟩) (preV_of hh hK (hI.1 _ (by omega)) es519 rfl) rfl rfl hl.1 rfl (lv_room (Nat.le_of_ble_eq_true rfl)) dX11_keepWord_127 ⟨Nat.le_of_ble_eq_true rfl, Nat.le_of_ble_eq_true rfl⟩) hh hA (fun H locs en_520 hw_520 hh => ?_)
                    obtain ⟨hI_520, hu_520, hx_520⟩ := hw_520
                    have hf_520 : ∀ c, (0 < c ∧ c ≠ 11 ∧ (c < 77 ∨ 107 ≤ c)) → en_520 c = en c := fun c hc => (hu_520 c (by omega)).trans (hf_514 c hc)
                    refine lv_iinc (v := (nI (j514 + 1))) (lv' := [(8, .int (nI (j514 + 1))), (7, .ref (ad (77 + 3 * wc_500))), (6, .ref (ad (108 + 2 * K9))), (5, .int r_502), (0, .ref (ad 0)), (1, .int (nI K9)), (2, .int la), (3, .int (nI I9)), (4, .int (nI N_504))]) hx hb dX11_keepWord_130 hl (k := 0) rfl (nI_1 _) (by decide) rfl (fun ls hl => ?_)
                    refine lv_goto (tgt := 111) hx hb dX11_keepWord_133 (by decide) ?_
                    exact ih_514 ((j514 + 1))  en_520 ls H locs (by omega) (by omega) (by omega) hI_520 hf_520 (⟨fun c h1 h2 => (hu_520 c ⟨h1, h2⟩).trans (i0_514.1 c h1 h2), hx_520.1, fun x hx9 => by rw [hx_520.2]; by_cases e : x = j514; rw [e, if_pos (by omega), show rdF (en (108 + 2 * K9)) = f_506 from by rw [es506]; rfl, hfv_518]; rw [if_neg (by omega)]; exact i0_514.2.2 x (by omega)⟩) (lv_sub hl [0, 1, 2, 3, 4, 5, 6, 7, 8] rfl) hh
              exact loop_514 (N_504 + 1) 0  en_513 ls _ _ (Nat.le_refl _) (by omega) (by omega) hI_513 hf_513 (⟨fun _ _ _ => rfl, hx_513, fun x h => absurd h (Nat.not_lt_zero x)⟩) (lv_sub hl [0, 1, 2, 3, 4, 5, 6, 7, 8] rfl) hh
            · have n_510 : 10 ≤ wc_500 := n_nlt (a := wc_500) (b := 10) c_510 (by omega) (by decide)
              refine lv_bipush (v := (-4)) hx hb dX11_keepWord_89 (by decide) ?_
              have hc4 : (rdI (en 1) 4).toInt = (cnt : Int) := by rw [show rdI (en 1) 4 = nI cnt from by rw [es501]; rfl]; exact nI_toInt (by omega)
              have hc6 : (rdI (en 0) 6).toInt = (wc_500 : Int) := by rw [show rdI (en 0) 6 = nI wc_500 from by rw [es500]; rfl]; exact nI_toInt (by omega)
              exact hp_iretM hx hb hr rfl hlocks hh (⟨hI, hf0, Or.inl ⟨fun q => absurd q.2.2.2.2 (by rw [hc6]; omega), rfl⟩⟩) dX11_keepWord_91
          · have n_509 : j508 < N_504 := n_nle (a := N_504) (b := j508) c_509 (by omega) (by omega)
            refine lv_aload_n hx hb dX11_keepWord_55 rfl (lv_at hl 3 rfl) ?_
            refine hp_get hx hb hts ix11 hown hK hh (q := 0) rfl (hI.1 _ (by decide)) es500 rfl 0 (by decide) (hts _ tw_245) (fun _ h9 => h9) rfl dX11_keepWord_56 ?_
            refine lv_aload hx hb dX11_keepWord_59 (lv_at hl 1 rfl) ?_
            refine lv_iload_n hx hb dX11_keepWord_61 rfl (lv_at hl 6 rfl) ?_
            refine lv_iload hx hb dX11_keepWord_62 (lv_at hl 0 rfl) ?_
            refine lv_iadd hx hb dX11_keepWord_64 ?_
            rw [nI_add I9 j508]
            refine hp_iald hx hb hK hh (q := (108 + 2 * K9)) rfl (hI.1 _ (by omega)) es506 (vp_in_nI (n := (I9 + j508)) (by omega) (by decide)) dX11_keepWord_65 ?_
            rw [nI_clamp (n := (I9 + j508)) (by omega)]
            refine hp_callRi (va_runV (As := [.int (f_506 (I9 + j508))]) (rest := []) ⟨hx, hb, hml, hown, hts⟩ (c_X8_has l D cy _ cs ad en (hI.1 _ (by decide)) cnt d mm hcnt hd2 hd3 hmm (f_506 (I9 + j508)) es501) (kw_X8_has hts tw_412 ⟨by decide, by decide⟩) (preV_of hh hK (hI.1 _ (by decide)) es501 rfl) rfl rfl hl.1 rfl (lv_room (Nat.le_of_ble_eq_true rfl)) dX11_keepWord_66 ⟨Nat.le_of_ble_eq_true rfl, Nat.le_of_ble_eq_true rfl⟩) hh hA (fun r_521 H locs hw_521 hh => ?_)
            rcases Decidable.em (0 ≤ (f_506 (I9 + j508)).toInt ∧ (f_506 (I9 + j508)).toInt < (cnt : Int)) with hp_521 | hp_521
            · obtain rfl : r_521 = 1 := Eq.trans hw_521 (if_pos hp_521)
              refine lv_if_ne (tgt := 74) hx hb dX11_keepWord_69 (by decide) (fun _ => ?_) (fun c_0 => absurd c_0 (by decide))
              refine lv_iinc (v := (nI (j508 + 1))) (lv' := [(7, .int (nI (j508 + 1))), (6, .ref (ad (108 + 2 * K9))), (5, .int r_502), (0, .ref (ad 0)), (1, .int (nI K9)), (2, .int la), (3, .int (nI I9)), (4, .int (nI N_504))]) hx hb dX11_keepWord_74 hl (k := 0) rfl (nI_1 _) (by decide) rfl (fun ls hl => ?_)
              refine lv_goto (tgt := 48) hx hb dX11_keepWord_77 (by decide) ?_
              exact ih_508 ((j508 + 1))  ls H locs (by omega) (by omega) (by omega) (fun x hx9 => by by_cases e : x = j508; rw [e]; obtain ⟨v9, h91, h92⟩ := has_nat hp_521; exact ⟨v9, h92, h91⟩; exact i0_508 x (by omega)) (lv_sub hl [0, 1, 2, 3, 4, 5, 6, 7] rfl) hh
            · obtain rfl : r_521 = 0 := Eq.trans hw_521 (if_neg hp_521)
              refine lv_if_ne (tgt := 74) hx hb dX11_keepWord_69 (by decide) (fun c_0 => absurd c_0 (by decide)) (fun _ => ?_)
              refine lv_iconst (v := (-1)) hx hb dX11_keepWord_72 (by decide) ?_
              have hc4 : (rdI (en 1) 4).toInt = (cnt : Int) := by rw [show rdI (en 1) 4 = nI cnt from by rw [es501]; rfl]; exact nI_toInt (by omega)
              have hc6 : (rdI (en 0) 6).toInt = (wc_500 : Int) := by rw [show rdI (en 0) 6 = nI wc_500 from by rw [es500]; rfl]; exact nI_toInt (by omega)
              exact hp_iretM hx hb hr rfl hlocks hh (⟨hI, hf0, Or.inl ⟨fun q => hp_521 (by have h9 := q.2.2.2.1 j508 (by rw [nI_clamp (n := N_504) (by omega)]; omega); rw [nI_clamp (n := K9) (by omega), nI_clamp (n := I9) (by omega), show rdF (en (108 + 2 * K9)) = f_506 from by rw [es506]; rfl] at h9; exact ⟨h9.1, by have := h9.2; omega⟩), rfl⟩⟩) dX11_keepWord_73
      exact loop_508 (N_504 + 1) 0  ls _ _ (Nat.le_refl _) (by omega) (by omega) (fun x h => absurd h (Nat.not_lt_zero x)) (lv_sub hl [0, 1, 2, 3, 4, 5, 6, 7] rfl) hh
    · obtain rfl : r_504 = 0 := Eq.trans hw_504 (if_neg hp_504)
      refine lv_if_ne (tgt := 34) hx hb dX11_keepWord_28 (by decide) (fun c_0 => absurd c_0 (by decide)) (fun _ => ?_)
      refine lv_bipush (v := (-2)) hx hb dX11_keepWord_31 (by decide) ?_
      have hc4 : (rdI (en 1) 4).toInt = (cnt : Int) := by rw [show rdI (en 1) 4 = nI cnt from by rw [es501]; rfl]; exact nI_toInt (by omega)
      have hc6 : (rdI (en 0) 6).toInt = (wc_500 : Int) := by rw [show rdI (en 0) 6 = nI wc_500 from by rw [es500]; rfl]; exact nI_toInt (by omega)
      exact hp_iretM hx hb hr rfl hlocks hh (⟨hI, hf0, Or.inl ⟨fun q => hp_504 ⟨by have h1 : (1 : Int32).toInt = 1 := (by decide); have := q.2.1; omega, by have h1 : (12 : Int32).toInt = 12 := (by decide); have := q.2.2.1; omega⟩, rfl⟩⟩) dX11_keepWord_33
  · refine lv_iload hx hb dX11_keepWord_17 (lv_at hl 0 rfl) ?_
    have hc4 : (rdI (en 1) 4).toInt = (cnt : Int) := by rw [show rdI (en 1) 4 = nI cnt from by rw [es501]; rfl]; exact nI_toInt (by omega)
    have hc6 : (rdI (en 0) 6).toInt = (wc_500 : Int) := by rw [show rdI (en 0) 6 = nI wc_500 from by rw [es500]; rfl]; exact nI_toInt (by omega)
    exact hp_iretM hx hb hr rfl hlocks hh (⟨hI, hf0, Or.inl ⟨fun q => c_503 (hw_502.trans q.1), rfl⟩⟩) dX11_keepWord_19
theorem kw_X11_keepWord {R : Room} {s : State} {args : Array Value} {own : String} {idx : Nat} (hts : ∀ w ∈ TB, w.before args s = true) (hl : Cond.methodLink own idx yX11_keepWord ∈ TB) (hR : 4 + 1 ≤ R.frames ∧ 8 + (9 + 11) + 40 * 4 ≤ R.locals) : CallW R s args own RX11 idx yX11_keepWord cX11_keepWord 9 (some .int) (Cond.code yX11_keepWord cX11_keepWord 9 (some .int) :: TB) (rmN 4) 0 0 4 := cwV 4 hts (TB_V hl tw_679 ts_24 tw_1 tw_680) rfl rfl rfl (by decide +kernel) hR
set_option maxHeartbeats 4000000 in
set_option maxRecDepth 100000 in
/-- word -/
theorem c_X11_word (l : Launch) (D : va_G) (cy : Nat → ClassId) (sz : Nat) (cs : List Nat) (ad : Nat → Nat) (en : Nat → va_E) (hI : SX cy cs ad en) (k la i n : Int32)   : Met l yX11_word (Cond.code yX11_word cX11_word 5 (some .int) :: TB) (rmN 5) (va_Pc [.ref (ad 0), .int k, .int la, .int i, .int n] (Pre D cy cs ad en sz)) (va_Qi (S := Nat → va_E) (fun r en1 => SX cy cs ad en1 ∧ (∀ c, (0 < c ∧ c ≠ 11 ∧ (c < 77 ∨ 107 ≤ c)) → en1 c = en c) ∧ XWO k la i n r en en1) (PostM D cs ad) (Af cs ad sz)) 0 0 (Af cs ad sz) := by
  refine Met.ofW (cc := cX11_word) (maxL := 5) (ret := (some .int)) (by decide) rfl ?_
  intro p e s m args below meth c s₁ B hml hv
  obtain ⟨rfl, hsz, hP, hK, hD0⟩ := hv
  have hx := B.exec
  have hb := B.bytes
  have hr := B.returns
  have hts : ∀ w ∈ TB, w.before _ s = true := fun w h => atoms_spec (ws := _ :: TB) B.pre w (List.mem_cons_of_mem _ h)
  have hown : s.vm.findClass RX11 = some m.cls := findClass_of_methodNamed B.named
  have hlocks := B.notSynchronized
  have hh : Hp D (Af cs ad sz) (Af cs ad sz) s.heap s.heap [] cs ad en := ⟨hP, Af_self hD0, va_S.rf⟩
  have hA : ∀ q : Nat, s.heap.size ≤ q → Af cs ad sz q := fun q h => Or.inr (by rw [hsz] at h; exact h)
  have hl := lv_entry ([.ref (ad 0), .int k, .int la, .int i, .int n]) (n := 5) (Nat.le_of_ble_eq_true rfl)
  rw [lg_entry_eq]
  generalize (lg_sl ([.ref (ad 0), .int k, .int la, .int i, .int n]) ++ List.replicate (5 - (lg_sl ([.ref (ad 0), .int k, .int la, .int i, .int n])).length) Slot.unset).toArray = ls at hl ⊢
  have hl : lv_has ls 5 [(0, .ref (ad 0)), (1, .int k), (2, .int la), (3, .int i), (4, .int n)] := hl
  have hf0 : ∀ c, (0 < c ∧ c ≠ 11 ∧ (c < 77 ∨ 107 ≤ c)) → en c = en c := fun _ _ => rfl
  obtain ⟨wc_522, lf_522, es522, p0_522⟩ := get_A hI
  refine lv_aload_n hx hb dX11_word_0 rfl (lv_at hl 0 rfl) ?_
  refine lv_aload_n hx hb dX11_word_1 rfl (lv_at hl 0 rfl) ?_
  refine lv_iload_n hx hb dX11_word_2 rfl (lv_at hl 1 rfl) ?_
  refine lv_iload_n hx hb dX11_word_3 rfl (lv_at hl 2 rfl) ?_
  refine lv_iload_n hx hb dX11_word_4 rfl (lv_at hl 3 rfl) ?_
  refine lv_iload hx hb dX11_word_5 (lv_at hl 4 rfl) ?_
  refine hp_callMi (va_runV (As := [.int k, .int la, .int i, .int n]) (rest := [.ref (ad 0)]) ⟨hx, hb, hml, hown, hts⟩ (c_X11_keepWord l D cy _ cs ad en hI k la i n ) (kw_X11_keepWord hts tw_677 ⟨by decide, by decide⟩) (preV_of hh hK (hI.1 _ (by decide)) es522 rfl) rfl rfl hl.1 rfl (lv_room (Nat.le_of_ble_eq_true rfl)) dX11_word_7 ⟨Nat.le_of_ble_eq_true rfl, Nat.le_of_ble_eq_true rfl⟩) hh hA (fun r_523 H locs en_523 hw_523 hh => ?_)
  obtain ⟨hI_523, hu_523, hx_523⟩ := hw_523
  have hf_523 : ∀ c, (0 < c ∧ c ≠ 11 ∧ (c < 77 ∨ 107 ≤ c)) → en_523 c = en c := fun c hc => (hu_523 c (by omega)).trans (hf0 c hc)
  obtain ⟨wc_524, lf_524, es524, p0_524⟩ := get_A hI_523
  refine hp_callMi (va_runV (As := [.int r_523]) (rest := []) ⟨hx, hb, hml, hown, hts⟩ (c_X11_settle l D cy _ cs ad en_523 hI_523 r_523) (kw_X11_settle hts tw_404 ⟨by decide, by decide⟩) (preV_of hh hK (hI.1 _ (by decide)) es524 rfl) rfl rfl hl.1 rfl (lv_room (Nat.le_of_ble_eq_true rfl)) dX11_word_10 ⟨Nat.le_of_ble_eq_true rfl, Nat.le_of_ble_eq_true rfl⟩) hh hA (fun r_525 H locs en_525 hw_525 hh => ?_)
  obtain ⟨hI_525, hu_525, hr_525, hwc_525⟩ := hw_525
  have hf_525 : ∀ c, (0 < c ∧ c ≠ 11 ∧ (c < 77 ∨ 107 ≤ c)) → en_525 c = en c := fun c hc => (hu_525 c (by omega)).trans (hf_523 c hc)
  rw [hr_525]
  exact hp_iretM hx hb hr rfl hlocks hh (⟨hI_525, hf_525, (WKO_s hx_523 hu_525 hwc_525)⟩) dX11_word_13
theorem kw_X11_word {R : Room} {s : State} {args : Array Value} {own : String} {idx : Nat} (hts : ∀ w ∈ TB, w.before args s = true) (hl : Cond.methodLink own idx yX11_word ∈ TB) (hR : 5 + 1 ≤ R.frames ∧ 8 + (5 + 11) + 40 * 5 ≤ R.locals) : CallW R s args own RX11 idx yX11_word cX11_word 5 (some .int) (Cond.code yX11_word cX11_word 5 (some .int) :: TB) (rmN 5) 0 0 4 := cwV 4 hts (TB_V hl tw_674 tw_675 tw_1 tw_676) rfl rfl rfl (by decide +kernel) hR
set_option maxHeartbeats 4000000 in
set_option maxRecDepth 100000 in
/-- join -/
theorem c_X11_join (l : Launch) (D : va_G) (cy : Nat → ClassId) (sz : Nat) (cs : List Nat) (ad : Nat → Nat) (en : Nat → va_E) (hI : SX cy cs ad en) (a b : Int32) (hWX : WX en)   : Met l yX11_join (Cond.code yX11_join cX11_join 4 (some .int) :: TB) (rmN 4) (va_Pc [.ref (ad 0), .int a, .int b] (Pre D cy cs ad en sz)) (va_Qi (S := Nat → va_E) (fun r en1 => SX cy cs ad en1 ∧ (∀ c, (0 < c ∧ c ≠ 11 ∧ (c < 77 ∨ 107 ≤ c)) → en1 c = en c) ∧ XJO a b r en en1) (PostM D cs ad) (Af cs ad sz)) 0 0 (Af cs ad sz) := by
  refine Met.ofW (cc := cX11_join) (maxL := 4) (ret := (some .int)) (by decide) rfl ?_
  intro p e s m args below meth c s₁ B hml hv
  obtain ⟨rfl, hsz, hP, hK, hD0⟩ := hv
  have hx := B.exec
  have hb := B.bytes
  have hr := B.returns
  have hts : ∀ w ∈ TB, w.before _ s = true := fun w h => atoms_spec (ws := _ :: TB) B.pre w (List.mem_cons_of_mem _ h)
  have hown : s.vm.findClass RX11 = some m.cls := findClass_of_methodNamed B.named
  have hlocks := B.notSynchronized
  have hh : Hp D (Af cs ad sz) (Af cs ad sz) s.heap s.heap [] cs ad en := ⟨hP, Af_self hD0, va_S.rf⟩
  have hA : ∀ q : Nat, s.heap.size ≤ q → Af cs ad sz q := fun q h => Or.inr (by rw [hsz] at h; exact h)
  have hl := lv_entry ([.ref (ad 0), .int a, .int b]) (n := 4) (Nat.le_of_ble_eq_true rfl)
  rw [lg_entry_eq]
  generalize (lg_sl ([.ref (ad 0), .int a, .int b]) ++ List.replicate (4 - (lg_sl ([.ref (ad 0), .int a, .int b])).length) Slot.unset).toArray = ls at hl ⊢
  have hl : lv_has ls 4 [(0, .ref (ad 0)), (1, .int a), (2, .int b)] := hl
  have hf0 : ∀ c, (0 < c ∧ c ≠ 11 ∧ (c < 77 ∨ 107 ≤ c)) → en c = en c := fun _ _ => rfl
  obtain ⟨wc_526, lf_526, es526, p0_526⟩ := get_A hI
  obtain ⟨cnt, d, mm, es527, hcnt, hd2, hd3, hmm⟩ := get_T hI
  refine lv_aload_n hx hb dX11_join_0 rfl (lv_at hl 0 rfl) ?_
  refine lv_iload_n hx hb dX11_join_1 rfl (lv_at hl 1 rfl) ?_
  refine hp_callRi (va_runV (As := [.int a]) (rest := []) ⟨hx, hb, hml, hown, hts⟩ (c_X11_hasWord l D cy _ cs ad en hI a ) (kw_X11_hasWord hts tw_703 ⟨by decide, by decide⟩) (preV_of hh hK (hI.1 _ (by decide)) es526 rfl) rfl rfl hl.1 rfl (lv_room (Nat.le_of_ble_eq_true rfl)) dX11_join_2 ⟨Nat.le_of_ble_eq_true rfl, Nat.le_of_ble_eq_true rfl⟩) hh hA (fun r_528 H locs hw_528 hh => ?_)
  rw [show rdI (en 0) 6 = nI wc_526 from by rw [es526]; rfl] at hw_528
  rcases Decidable.em (wi a 0 (nI wc_526 - 1)) with hp_528 | hp_528
  · obtain rfl : r_528 = 1 := Eq.trans hw_528 (if_pos hp_528)
    obtain ⟨W_528, rfl, hW_528⟩ := wi_m1 hp_528 (by omega)
    refine lv_if_eq (tgt := 16) hx hb dX11_join_5 (by decide) (fun c_0 => absurd c_0 (by decide)) (fun _ => ?_)
    refine lv_aload_n hx hb dX11_join_8 rfl (lv_at hl 0 rfl) ?_
    refine lv_iload_n hx hb dX11_join_9 rfl (lv_at hl 2 rfl) ?_
    refine hp_callRi (va_runV (As := [.int b]) (rest := []) ⟨hx, hb, hml, hown, hts⟩ (c_X11_hasWord l D cy _ cs ad en hI b ) (kw_X11_hasWord hts tw_703 ⟨by decide, by decide⟩) (preV_of hh hK (hI.1 _ (by decide)) es526 rfl) rfl rfl hl.1 rfl (lv_room (Nat.le_of_ble_eq_true rfl)) dX11_join_10 ⟨Nat.le_of_ble_eq_true rfl, Nat.le_of_ble_eq_true rfl⟩) hh hA (fun r_529 H locs hw_529 hh => ?_)
    rw [show rdI (en 0) 6 = nI wc_526 from by rw [es526]; rfl] at hw_529
    rcases Decidable.em (wi b 0 (nI wc_526 - 1)) with hp_529 | hp_529
    · obtain rfl : r_529 = 1 := Eq.trans hw_529 (if_pos hp_529)
      obtain ⟨W_529, rfl, hW_529⟩ := wi_m1 hp_529 (by omega)
      refine lv_if_ne (tgt := 18) hx hb dX11_join_13 (by decide) (fun _ => ?_) (fun c_0 => absurd c_0 (by decide))
      refine lv_aload_n hx hb dX11_join_18 rfl (lv_at hl 0 rfl) ?_
      refine hp_get hx hb hts ix11 hown hK hh (q := 0) rfl (hI.1 _ (by decide)) es526 rfl 3 (by decide) (hts _ tw_248) (fun _ h9 => h9) rfl dX11_join_19 ?_
      refine lv_iload_n hx hb dX11_join_22 rfl (lv_at hl 1 rfl) ?_
      have es530 := get_wos hI
      unfold P_wos at es530
      refine hp_aald hx hb hK hh (q := 74) rfl (hI.1 _ (by decide)) 5 es530 rfl rfl (vp_in_nI (n := W_528) (by omega) (by decide)) (v := .ref (ad (77 + 3 * W_528))) (by rw [nI_clamp (n := W_528) (by omega)]; exact rfB_v (by omega)) dX11_join_23 ?_
      obtain ⟨lc_531, es531, p0_531⟩ := get_wo hI (j := W_528) (by omega)
      refine hp_get hx hb hts ix10 hown hK hh (q := (77 + 3 * W_528)) rfl (hI.1 _ (by omega)) es531 rfl 2 (by decide) (hts _ tw_216) (fun _ h9 => h9) rfl dX11_join_24 ?_
      refine lv_aload_n hx hb dX11_join_27 rfl (lv_at hl 0 rfl) ?_
      refine hp_get hx hb hts ix11 hown hK hh (q := 0) rfl (hI.1 _ (by decide)) es526 rfl 3 (by decide) (hts _ tw_248) (fun _ h9 => h9) rfl dX11_join_28 ?_
      refine lv_iload_n hx hb dX11_join_31 rfl (lv_at hl 2 rfl) ?_
      refine hp_aald hx hb hK hh (q := 74) rfl (hI.1 _ (by decide)) 5 es530 rfl rfl (vp_in_nI (n := W_529) (by omega) (by decide)) (v := .ref (ad (77 + 3 * W_529))) (by rw [nI_clamp (n := W_529) (by omega)]; exact rfB_v (by omega)) dX11_join_32 ?_
      obtain ⟨lc_532, es532, p0_532⟩ := get_wo hI (j := W_529) (by omega)
      refine hp_get hx hb hts ix10 hown hK hh (q := (77 + 3 * W_529)) rfl (hI.1 _ (by omega)) es532 rfl 2 (by decide) (hts _ tw_216) (fun _ h9 => h9) rfl dX11_join_33 ?_
      refine lv_iadd hx hb dX11_join_36 ?_
      rw [nI_add lc_531 lc_532]
      refine lv_bipush (v := 12) hx hb dX11_join_37 (by decide) ?_
      refine lv_icmp_le (tgt := 45) hx hb dX11_join_39 (by decide) (fun c_533 => ?_) (fun c_533 => ?_)
      · have n_533 : (lc_531 + lc_532) ≤ 12 := n_le (a := (lc_531 + lc_532)) (b := 12) c_533 (by omega) (by decide)
        refine lv_aload_n hx hb dX11_join_45 rfl (lv_at hl 0 rfl) ?_
        refine hp_get hx hb hts ix11 hown hK hh (q := 0) rfl (hI.1 _ (by decide)) es526 rfl 6 (by decide) (hts _ tw_251) (fun _ h9 => h9) rfl dX11_join_46 ?_
        refine lv_bipush (v := 10) hx hb dX11_join_49 (by decide) ?_
        refine lv_icmp_lt (tgt := 57) hx hb dX11_join_51 (by decide) (fun c_534 => ?_) (fun c_534 => ?_)
        · have n_534 : wc_526 < 10 := n_lt (a := wc_526) (b := 10) c_534 (by omega) (by decide)
          refine lv_aload_n hx hb dX11_join_57 rfl (lv_at hl 0 rfl) ?_
          refine hp_get hx hb hts ix11 hown hK hh (q := 0) rfl (hI.1 _ (by decide)) es526 rfl 3 (by decide) (hts _ tw_248) (fun _ h9 => h9) rfl dX11_join_58 ?_
          refine lv_aload_n hx hb dX11_join_61 rfl (lv_at hl 0 rfl) ?_
          refine hp_get hx hb hts ix11 hown hK hh (q := 0) rfl (hI.1 _ (by decide)) es526 rfl 6 (by decide) (hts _ tw_251) (fun _ h9 => h9) rfl dX11_join_62 ?_
          refine hp_aald hx hb hK hh (q := 74) rfl (hI.1 _ (by decide)) 5 es530 rfl rfl (vp_in_nI (n := wc_526) (by omega) (by decide)) (v := .ref (ad (77 + 3 * wc_526))) (by rw [nI_clamp (n := wc_526) (by omega)]; exact rfB_v (by omega)) dX11_join_65 ?_
          refine lv_astore_n (lv' := [(3, .ref (ad (77 + 3 * wc_526))), (0, .ref (ad 0)), (1, .int (nI W_528)), (2, .int (nI W_529))]) hx hb dX11_join_66 rfl hl (by decide) rfl (fun ls hl => ?_)
          refine lv_aload_n hx hb dX11_join_67 rfl (lv_at hl 0 rfl) ?_
          obtain ⟨lc_535, es535, p0_535⟩ := get_wo hI (j := wc_526) (by omega)
          refine hp_callMv (va_runV (As := []) (rest := []) ⟨hx, hb, hml, hown, hts⟩ (c_X10_clear l D cy _ cs ad en hI wc_526 (by omega)  ) (kw_X10_clear hts tw_681 ⟨by decide, by decide⟩) (preV_of hh hK (hI.1 _ (by omega)) es535 rfl) rfl rfl hl.1 rfl (lv_room (Nat.le_of_ble_eq_true rfl)) dX11_join_68 ⟨Nat.le_of_ble_eq_true rfl, Nat.le_of_ble_eq_true rfl⟩) hh hA (fun H locs en_536 hw_536 hh => ?_)
          obtain ⟨hI_536, hu_536, hx_536⟩ := hw_536
          have hf_536 : ∀ c, (0 < c ∧ c ≠ 11 ∧ (c < 77 ∨ 107 ≤ c)) → en_536 c = en c := fun c hc => (hu_536 c (by omega)).trans (hf0 c hc)
          refine lv_aload_n hx hb dX11_join_71 rfl (lv_at hl 0 rfl) ?_
          refine lv_aload_n hx hb dX11_join_72 rfl (lv_at hl 1 rfl) ?_
          obtain ⟨wc_537, lf_537, es537, p0_537⟩ := get_A hI_536
          refine hp_get hx hb hts ix11 hown hK hh (q := 0) rfl (hI.1 _ (by decide)) es537 rfl 3 (by decide) (hts _ tw_248) (fun _ h9 => h9) rfl dX11_join_73 ?_
          refine lv_iload_n hx hb dX11_join_76 rfl (lv_at hl 2 rfl) ?_
          have es530_538 : en_536 74 = .inl (cy 5, 10, .inr (.inr (.inr (.inr (rfB ad 10 77 3))))) := (hf_536 74 (by omega)).trans es530
          refine hp_aald hx hb hK hh (q := 74) rfl (hI.1 _ (by decide)) 5 es530_538 rfl rfl (vp_in_nI (n := W_528) (by omega) (by decide)) (v := .ref (ad (77 + 3 * W_528))) (by rw [nI_clamp (n := W_528) (by omega)]; exact rfB_v (by omega)) dX11_join_77 ?_
          obtain ⟨lc_539, es539, p0_539⟩ := get_wo hI_536 (j := W_528) (by omega)
          obtain ⟨lc_540, es540, p0_540⟩ := get_wo hI_536 (j := wc_526) (by omega)
          refine hp_callMv (va_runV (As := [.ref (ad (77 + 3 * W_528))]) (rest := []) ⟨hx, hb, hml, hown, hts⟩ (c_X10_appendAll l D cy _ cs ad en_536 hI_536 wc_526 (by omega) W_528 0 lc_531 (by omega) (by omega) (by omega) hx_536 (by rw [hu_536 _ (by omega), es531]; rfl)) (kw_X10_appendAll hts tw_707 ⟨by decide, by decide⟩) (preV_of hh hK (hI.1 _ (by omega)) es540 rfl) rfl rfl hl.1 rfl (lv_room (Nat.le_of_ble_eq_true rfl)) dX11_join_78 ⟨Nat.le_of_ble_eq_true rfl, Nat.le_of_ble_eq_true rfl⟩) hh hA (fun H locs en_541 hw_541 hh => ?_)
          obtain ⟨hI_541, hu_541, hx_541⟩ := hw_541
          have hf_541 : ∀ c, (0 < c ∧ c ≠ 11 ∧ (c < 77 ∨ 107 ≤ c)) → en_541 c = en c := fun c hc => (hu_541 c (by omega)).trans (hf_536 c hc)
          refine lv_aload_n hx hb dX11_join_81 rfl (lv_at hl 0 rfl) ?_
          refine lv_aload_n hx hb dX11_join_82 rfl (lv_at hl 1 rfl) ?_
          obtain ⟨wc_542, lf_542, es542, p0_542⟩ := get_A hI_541
          refine hp_get hx hb hts ix11 hown hK hh (q := 0) rfl (hI.1 _ (by decide)) es542 rfl 3 (by decide) (hts _ tw_248) (fun _ h9 => h9) rfl dX11_join_83 ?_
          refine lv_iload_n hx hb dX11_join_86 rfl (lv_at hl 3 rfl) ?_
          have es530_543 : en_541 74 = .inl (cy 5, 10, .inr (.inr (.inr (.inr (rfB ad 10 77 3))))) := (hf_541 74 (by omega)).trans es530
          refine hp_aald hx hb hK hh (q := 74) rfl (hI.1 _ (by decide)) 5 es530_543 rfl rfl (vp_in_nI (n := W_529) (by omega) (by decide)) (v := .ref (ad (77 + 3 * W_529))) (by rw [nI_clamp (n := W_529) (by omega)]; exact rfB_v (by omega)) dX11_join_87 ?_
          obtain ⟨lc_544, es544, p0_544⟩ := get_wo hI_541 (j := W_529) (by omega)
          obtain ⟨lc_545, es545, p0_545⟩ := get_wo hI_541 (j := wc_526) (by omega)
          refine hp_callMv (va_runV (As := [.ref (ad (77 + 3 * W_529))]) (rest := []) ⟨hx, hb, hml, hown, hts⟩ (c_X10_appendAll l D cy _ cs ad en_541 hI_541 wc_526 (by omega) W_529 (0 + lc_531) lc_532 (by omega) (by omega) (by omega) hx_541.1 (by rw [hu_541 _ (by omega), hu_536 _ (by omega), es532]; rfl)) (kw_X10_appendAll hts tw_707 ⟨by decide, by decide⟩) (preV_of hh hK (hI.1 _ (by omega)) es545 rfl) rfl rfl hl.1 rfl (lv_room (Nat.le_of_ble_eq_true rfl)) dX11_join_88 ⟨Nat.le_of_ble_eq_true rfl, Nat.le_of_ble_eq_true rfl⟩) hh hA (fun H locs en_546 hw_546 hh => ?_)
          obtain ⟨hI_546, hu_546, hx_546⟩ := hw_546
          have hf_546 : ∀ c, (0 < c ∧ c ≠ 11 ∧ (c < 77 ∨ 107 ≤ c)) → en_546 c = en c := fun c hc => (hu_546 c (by omega)).trans (hf_541 c hc)
          refine lv_aload_n hx hb dX11_join_91 rfl (lv_at hl 1 rfl) ?_
          have hlA9 : 1 ≤ lc_531 := WX_lc hWX (show rdI (en 0) 6 = nI wc_526 from by rw [es526]; rfl) (by omega) (show rdI (en (77 + 3 * W_528)) 2 = nI lc_531 from by rw [es531]; rfl) (by omega) (by omega)
          obtain ⟨wc_547, lf_547, es547, p0_547⟩ := get_A hI_546
          refine hp_callMi (va_runV (As := []) (rest := []) ⟨hx, hb, hml, hown, hts⟩ (c_X11_finishWord l D cy _ cs ad en_546 hI_546 wc_526 (by omega) (by rw [hu_546 _ (by omega), hu_541 _ (by omega), hu_536 _ (by omega), es526]; rfl) (by rw [hx_546.1, nI_toInt (by omega)]; omega)) (kw_X11_finishWord hts tw_689 ⟨by decide, by decide⟩) (preV_of hh hK (hI.1 _ (by decide)) es547 rfl) rfl rfl hl.1 rfl (lv_room (Nat.le_of_ble_eq_true rfl)) dX11_join_92 ⟨Nat.le_of_ble_eq_true rfl, Nat.le_of_ble_eq_true rfl⟩) hh hA (fun r_548 H locs en_548 hw_548 hh => ?_)
          obtain ⟨hI_548, hu_548, hx_548⟩ := hw_548
          have hf_548 : ∀ c, (0 < c ∧ c ≠ 11 ∧ (c < 77 ∨ 107 ≤ c)) → en_548 c = en c := fun c hc => (hu_548 c (by omega)).trans (hf_546 c hc)
          have hc6 : (rdI (en 0) 6).toInt = (wc_526 : Int) := by rw [show rdI (en 0) 6 = nI wc_526 from by rw [es526]; rfl]; exact nI_toInt (by omega)
          have hqa : hasQ (nI W_528) (rdI (en 0) 6) := ⟨by rw [nI_toInt (n := W_528) (by omega)]; omega, by rw [nI_toInt (n := W_528) (by omega), hc6]; omega⟩
          have hqb : hasQ (nI W_529) (rdI (en 0) 6) := ⟨by rw [nI_toInt (n := W_529) (by omega)]; omega, by rw [nI_toInt (n := W_529) (by omega), hc6]; omega⟩
          have hla : rdI (en (77 + 3 * (nI W_528).toNatClampNeg)) 2 = nI lc_531 := by rw [nI_clamp (n := W_528) (by omega), es531]; rfl
          have hlb : rdI (en (77 + 3 * (nI W_529).toNatClampNeg)) 2 = nI lc_532 := by rw [nI_clamp (n := W_529) (by omega), es532]; rfl
          have hs9 : (nI lc_531).toInt + (nI lc_532).toInt = ((lc_531 + lc_532 : Nat) : Int) := by rw [nI_toInt (n := lc_531) (by omega), nI_toInt (n := lc_532) (by omega)]; omega
          have hok : jOK (rdI (en 0) 6) (nI lc_531) (nI lc_532) (nI W_528) (nI W_529) := ⟨hqa, hqb, by omega, by omega⟩
          exact hp_iretM hx hb hr rfl hlocks hh (⟨hI_548, hf_548, (by unfold XJO; rw [hla, hlb]; exact ⟨Or.inr (Or.inr (Or.inr ⟨hok, hx_548.1.trans (by rw [es526]; rfl)⟩)), Or.inr ⟨hok, (by rw [nI_clamp (n := lc_531) (by omega), nI_clamp (n := lc_532) (by omega)]; exact ⟨wc_526, hx_548.1, (by rw [es526]; rfl), by omega, by omega, by omega, ⟨hx_548.2.1, (by rw [hu_548 _ (by omega), hx_546.1]; exact congrArg nI (by omega)), (fun x hx9 => by rw [hu_548 _ (by omega)]; unfold jG; rw [hla, nI_clamp (n := W_528) (by omega), nI_clamp (n := W_529) (by omega), nI_clamp (n := lc_531) (by omega)]; by_cases e : x < lc_531; rw [if_pos e, hx_546.2.1 x (by omega)]; have h9 := hx_541.2.2 x e; rw [Nat.zero_add] at h9; rw [h9, hu_536 _ (by omega)]; rw [if_neg e]; have h9 := hx_546.2.2 (x - lc_531) (by omega); rw [show 0 + lc_531 + (x - lc_531) = x by omega] at h9; rw [h9, hu_541 _ (by omega), hu_536 _ (by omega)]), (fun c h1 h2 h3 h4 h5 => (hu_548 c (by omega)).trans ((hu_546 c (by omega)).trans ((hu_541 c (by omega)).trans (hu_536 c (by omega)))))⟩, KWP_of hx_548.2.2 ((hu_546 1 (by omega)).trans ((hu_541 1 (by omega)).trans (hu_536 1 (by omega)))) (fun j hj => ((hu_546 _ (by omega)).trans ((hu_541 _ (by omega)).trans (hu_536 _ (by omega))))) (by rw [hx_546.1]; exact congrArg nI (by omega)) (by omega) (by omega) (fun x hx9 => by unfold jG; rw [hla, nI_clamp (n := W_528) (by omega), nI_clamp (n := W_529) (by omega), nI_clamp (n := lc_531) (by omega)]; by_cases e : x < lc_531; rw [if_pos e, hx_546.2.1 x (by omega)]; have h9 := hx_541.2.2 x e; rw [Nat.zero_add] at h9; rw [h9, hu_536 _ (by omega)]; rw [if_neg e]; have h9 := hx_546.2.2 (x - lc_531) (by omega); rw [show 0 + lc_531 + (x - lc_531) = x by omega] at h9; rw [h9, hu_541 _ (by omega), hu_536 _ (by omega)]) (fun x hx9 => jG_6 hI (by omega) (by omega) (by omega))⟩)⟩⟩)⟩) dX11_join_95
        · have n_534 : 10 ≤ wc_526 := n_nlt (a := wc_526) (b := 10) c_534 (by omega) (by decide)
          refine lv_bipush (v := (-4)) hx hb dX11_join_54 (by decide) ?_
          have hc6 : (rdI (en 0) 6).toInt = (wc_526 : Int) := by rw [show rdI (en 0) 6 = nI wc_526 from by rw [es526]; rfl]; exact nI_toInt (by omega)
          have hqa : hasQ (nI W_528) (rdI (en 0) 6) := ⟨by rw [nI_toInt (n := W_528) (by omega)]; omega, by rw [nI_toInt (n := W_528) (by omega), hc6]; omega⟩
          have hqb : hasQ (nI W_529) (rdI (en 0) 6) := ⟨by rw [nI_toInt (n := W_529) (by omega)]; omega, by rw [nI_toInt (n := W_529) (by omega), hc6]; omega⟩
          have hla : rdI (en (77 + 3 * (nI W_528).toNatClampNeg)) 2 = nI lc_531 := by rw [nI_clamp (n := W_528) (by omega), es531]; rfl
          have hlb : rdI (en (77 + 3 * (nI W_529).toNatClampNeg)) 2 = nI lc_532 := by rw [nI_clamp (n := W_529) (by omega), es532]; rfl
          have hs9 : (nI lc_531).toInt + (nI lc_532).toInt = ((lc_531 + lc_532 : Nat) : Int) := by rw [nI_toInt (n := lc_531) (by omega), nI_toInt (n := lc_532) (by omega)]; omega
          exact hp_iretM hx hb hr rfl hlocks hh (⟨hI, hf0, (by unfold XJO; rw [hla, hlb]; exact ⟨Or.inr (Or.inr (Or.inl ⟨⟨hqa, hqb⟩, by omega, by omega, rfl⟩)), Or.inl ⟨fun q => absurd q.2.2.2 (by omega), fun _ _ => rfl, rfl⟩⟩)⟩) dX11_join_56
      · have n_533 : 12 < (lc_531 + lc_532) := n_nle (a := (lc_531 + lc_532)) (b := 12) c_533 (by omega) (by decide)
        refine lv_bipush (v := (-2)) hx hb dX11_join_42 (by decide) ?_
        have hc6 : (rdI (en 0) 6).toInt = (wc_526 : Int) := by rw [show rdI (en 0) 6 = nI wc_526 from by rw [es526]; rfl]; exact nI_toInt (by omega)
        have hqa : hasQ (nI W_528) (rdI (en 0) 6) := ⟨by rw [nI_toInt (n := W_528) (by omega)]; omega, by rw [nI_toInt (n := W_528) (by omega), hc6]; omega⟩
        have hqb : hasQ (nI W_529) (rdI (en 0) 6) := ⟨by rw [nI_toInt (n := W_529) (by omega)]; omega, by rw [nI_toInt (n := W_529) (by omega), hc6]; omega⟩
        have hla : rdI (en (77 + 3 * (nI W_528).toNatClampNeg)) 2 = nI lc_531 := by rw [nI_clamp (n := W_528) (by omega), es531]; rfl
        have hlb : rdI (en (77 + 3 * (nI W_529).toNatClampNeg)) 2 = nI lc_532 := by rw [nI_clamp (n := W_529) (by omega), es532]; rfl
        have hs9 : (nI lc_531).toInt + (nI lc_532).toInt = ((lc_531 + lc_532 : Nat) : Int) := by rw [nI_toInt (n := lc_531) (by omega), nI_toInt (n := lc_532) (by omega)]; omega
        exact hp_iretM hx hb hr rfl hlocks hh (⟨hI, hf0, (by unfold XJO; rw [hla, hlb]; exact ⟨Or.inr (Or.inl ⟨⟨hqa, hqb⟩, by omega, rfl⟩), Or.inl ⟨fun q => absurd q.2.2.1 (by omega), fun _ _ => rfl, rfl⟩⟩)⟩) dX11_join_44
    · obtain rfl : r_529 = 0 := Eq.trans hw_529 (if_neg hp_529)
      refine lv_if_ne (tgt := 18) hx hb dX11_join_13 (by decide) (fun c_0 => absurd c_0 (by decide)) (fun _ => ?_)
      refine lv_iconst (v := (-1)) hx hb dX11_join_16 (by decide) ?_
      have hc6 : (rdI (en 0) 6).toInt = (wc_526 : Int) := by rw [show rdI (en 0) 6 = nI wc_526 from by rw [es526]; rfl]; exact nI_toInt (by omega)
      have hnq : ¬ (hasQ (nI W_528) (rdI (en 0) 6) ∧ hasQ b (rdI (en 0) 6)) := fun q => hp_529 (wi_of1 (by omega) q.2.1 (by have := q.2.2; omega))
      exact hp_iretM hx hb hr rfl hlocks hh (⟨hI, hf0, ⟨Or.inl ⟨hnq, rfl⟩, Or.inl ⟨fun q => hnq ⟨q.1, q.2.1⟩, fun _ _ => rfl, rfl⟩⟩⟩) dX11_join_17
  · obtain rfl : r_528 = 0 := Eq.trans hw_528 (if_neg hp_528)
    refine lv_if_eq (tgt := 16) hx hb dX11_join_5 (by decide) (fun _ => ?_) (fun c_0 => absurd c_0 (by decide))
    refine lv_iconst (v := (-1)) hx hb dX11_join_16 (by decide) ?_
    have hc6 : (rdI (en 0) 6).toInt = (wc_526 : Int) := by rw [show rdI (en 0) 6 = nI wc_526 from by rw [es526]; rfl]; exact nI_toInt (by omega)
    have hnq : ¬ (hasQ a (rdI (en 0) 6) ∧ hasQ b (rdI (en 0) 6)) := fun q => hp_528 (wi_of1 (by omega) q.1.1 (by have := q.1.2; omega))
    exact hp_iretM hx hb hr rfl hlocks hh (⟨hI, hf0, ⟨Or.inl ⟨hnq, rfl⟩, Or.inl ⟨fun q => hnq ⟨q.1, q.2.1⟩, fun _ _ => rfl, rfl⟩⟩⟩) dX11_join_17
theorem kw_X11_join {R : Room} {s : State} {args : Array Value} {own : String} {idx : Nat} (hts : ∀ w ∈ TB, w.before args s = true) (hl : Cond.methodLink own idx yX11_join ∈ TB) (hR : 4 + 1 ≤ R.frames ∧ 8 + (4 + 11) + 40 * 4 ≤ R.locals) : CallW R s args own RX11 idx yX11_join cX11_join 4 (some .int) (Cond.code yX11_join cX11_join 4 (some .int) :: TB) (rmN 4) 0 0 2 := cwV 2 hts (TB_V hl tw_700 tw_701 tw_1 tw_702) rfl rfl rfl (by decide +kernel) hR
set_option maxHeartbeats 4000000 in
set_option maxRecDepth 100000 in
/-- letter -/
theorem c_X11_letter (l : Launch) (D : va_G) (cy : Nat → ClassId) (sz : Nat) (cs : List Nat) (ad : Nat → Nat) (en : Nat → va_E) (hI : SX cy cs ad en) (w i : Int32)   : Met l yX11_letter (Cond.code yX11_letter cX11_letter 3 (some .int) :: TB) (rmN 2) (va_Pc [.ref (ad 0), .int w, .int i] (Pre D cy cs ad en sz)) (va_Qi (S := Unit) (fun r _ => XLE w i r en) (fun _ _ => True) (Nf sz)) 0 0 (Nf sz) := by
  refine Met.ofW (cc := cX11_letter) (maxL := 3) (ret := (some .int)) (by decide) rfl ?_
  intro p e s m args below meth c s₁ B hml hv
  obtain ⟨rfl, hsz, hP, hK, hD0⟩ := hv
  have hx := B.exec
  have hb := B.bytes
  have hr := B.returns
  have hts : ∀ w ∈ TB, w.before _ s = true := fun w h => atoms_spec (ws := _ :: TB) B.pre w (List.mem_cons_of_mem _ h)
  have hown : s.vm.findClass RX11 = some m.cls := findClass_of_methodNamed B.named
  have hlocks := B.notSynchronized
  have hh : Hp D (Nf sz) (fun _ => True) s.heap s.heap [] cs ad en := ⟨hP, hD0, va_S.rf⟩
  have hA : ∀ q : Nat, s.heap.size ≤ q → Nf sz q := fun q h => by rw [hsz] at h; exact h
  have hl := lv_entry ([.ref (ad 0), .int w, .int i]) (n := 3) (Nat.le_of_ble_eq_true rfl)
  rw [lg_entry_eq]
  generalize (lg_sl ([.ref (ad 0), .int w, .int i]) ++ List.replicate (3 - (lg_sl ([.ref (ad 0), .int w, .int i])).length) Slot.unset).toArray = ls at hl ⊢
  have hl : lv_has ls 3 [(0, .ref (ad 0)), (1, .int w), (2, .int i)] := hl
  obtain ⟨wc_549, lf_549, es549, p0_549⟩ := get_A hI
  obtain ⟨cnt, d, mm, es550, hcnt, hd2, hd3, hmm⟩ := get_T hI
  refine lv_aload_n hx hb dX11_letter_0 rfl (lv_at hl 0 rfl) ?_
  refine lv_iload_n hx hb dX11_letter_1 rfl (lv_at hl 1 rfl) ?_
  refine hp_callRi (va_runV (As := [.int w]) (rest := []) ⟨hx, hb, hml, hown, hts⟩ (c_X11_hasWord l D cy _ cs ad en hI w ) (kw_X11_hasWord hts tw_703 ⟨by decide, by decide⟩) (preV_of hh hK (hI.1 _ (by decide)) es549 rfl) rfl rfl hl.1 rfl (lv_room (Nat.le_of_ble_eq_true rfl)) dX11_letter_2 ⟨Nat.le_of_ble_eq_true rfl, Nat.le_of_ble_eq_true rfl⟩) hh hA (fun r_551 H locs hw_551 hh => ?_)
  rw [show rdI (en 0) 6 = nI wc_549 from by rw [es549]; rfl] at hw_551
  rcases Decidable.em (wi w 0 (nI wc_549 - 1)) with hp_551 | hp_551
  · obtain rfl : r_551 = 1 := Eq.trans hw_551 (if_pos hp_551)
    obtain ⟨W_551, rfl, hW_551⟩ := wi_m1 hp_551 (by omega)
    refine lv_if_eq (tgt := 27) hx hb dX11_letter_5 (by decide) (fun c_0 => absurd c_0 (by decide)) (fun _ => ?_)
    refine lv_iload_n hx hb dX11_letter_8 rfl (lv_at hl 2 rfl) ?_
    refine lv_iconst (v := 0) hx hb dX11_letter_9 (by decide) ?_
    refine lv_aload_n hx hb dX11_letter_10 rfl (lv_at hl 0 rfl) ?_
    refine hp_get hx hb hts ix11 hown hK hh (q := 0) rfl (hI.1 _ (by decide)) es549 rfl 3 (by decide) (hts _ tw_248) (fun _ h9 => h9) rfl dX11_letter_11 ?_
    refine lv_iload_n hx hb dX11_letter_14 rfl (lv_at hl 1 rfl) ?_
    have es552 := get_wos hI
    unfold P_wos at es552
    refine hp_aald hx hb hK hh (q := 74) rfl (hI.1 _ (by decide)) 5 es552 rfl rfl (vp_in_nI (n := W_551) (by omega) (by decide)) (v := .ref (ad (77 + 3 * W_551))) (by rw [nI_clamp (n := W_551) (by omega)]; exact rfB_v (by omega)) dX11_letter_15 ?_
    obtain ⟨lc_553, es553, p0_553⟩ := get_wo hI (j := W_551) (by omega)
    refine hp_get hx hb hts ix10 hown hK hh (q := (77 + 3 * W_551)) rfl (hI.1 _ (by omega)) es553 rfl 2 (by decide) (hts _ tw_216) (fun _ h9 => h9) rfl dX11_letter_16 ?_
    refine lv_iconst (v := 1) hx hb dX11_letter_19 (by decide) ?_
    refine lv_isub hx hb dX11_letter_20 ?_
    refine hp_callRi (va_runS (As := [.int i, .int 0, .int ((nI lc_553) - 1)]) (rest := []) ⟨hx, hb, hml, hown, hts⟩ (c_X11_isWithin l D cy _ cs ad en i 0 ((nI lc_553) - 1)) (kw_X11_isWithin hts tw_274 ⟨by decide, by decide⟩) (preS_of hh hK) rfl rfl hl.1 rfl (lv_room (Nat.le_of_ble_eq_true rfl)) dX11_letter_21 ⟨Nat.le_of_ble_eq_true rfl, Nat.le_of_ble_eq_true rfl⟩) hh hA (fun r_554 H locs hw_554 hh => ?_)
    rcases Decidable.em (wi i 0 ((nI lc_553) - 1)) with hp_554 | hp_554
    · obtain rfl : r_554 = 1 := Eq.trans hw_554 (if_pos hp_554)
      obtain ⟨N_554, rfl, hB_554⟩ := wi_m1 hp_554 (by omega)
      refine lv_if_ne (tgt := 29) hx hb dX11_letter_24 (by decide) (fun _ => ?_) (fun c_0 => absurd c_0 (by decide))
      refine lv_aload_n hx hb dX11_letter_29 rfl (lv_at hl 0 rfl) ?_
      refine hp_get hx hb hts ix11 hown hK hh (q := 0) rfl (hI.1 _ (by decide)) es549 rfl 3 (by decide) (hts _ tw_248) (fun _ h9 => h9) rfl dX11_letter_30 ?_
      refine lv_iload_n hx hb dX11_letter_33 rfl (lv_at hl 1 rfl) ?_
      refine hp_aald hx hb hK hh (q := 74) rfl (hI.1 _ (by decide)) 5 es552 rfl rfl (vp_in_nI (n := W_551) (by omega) (by decide)) (v := .ref (ad (77 + 3 * W_551))) (by rw [nI_clamp (n := W_551) (by omega)]; exact rfB_v (by omega)) dX11_letter_34 ?_
      refine hp_get hx hb hts ix10 hown hK hh (q := (77 + 3 * W_551)) rfl (hI.1 _ (by omega)) es553 rfl 0 (by decide) (hts _ tw_212) (fun _ h9 => h9) rfl dX11_letter_35 ?_
      refine lv_iload_n hx hb dX11_letter_38 rfl (lv_at hl 2 rfl) ?_
      obtain ⟨f_555, es555, p0_555⟩ := get_wol hI (j := W_551) (by omega)
      refine hp_iald hx hb hK hh (q := (78 + 3 * W_551)) rfl (hI.1 _ (by omega)) es555 (vp_in_nI (n := N_554) (by omega) (by decide)) dX11_letter_39 ?_
      rw [nI_clamp (n := N_554) (by omega)]
      obtain ⟨v_556, hv_556, hfv_556⟩ := p0_555 N_554 (by omega)
      rw [hfv_556]
      have hc6 : (rdI (en 0) 6).toInt = (wc_549 : Int) := by rw [show rdI (en 0) 6 = nI wc_549 from by rw [es549]; rfl]; exact nI_toInt (by omega)
      have hc2 : (rdI (en (77 + 3 * W_551)) 2).toInt = (lc_553 : Int) := by rw [show rdI (en (77 + 3 * W_551)) 2 = nI lc_553 from by rw [es553]; rfl]; exact nI_toInt (by omega)
      exact hp_iretR hx hb hr rfl hlocks hsz hh (Or.inr ⟨W_551, rfl, by omega, ⟨by rw [nI_toInt (n := W_551) (by omega)]; omega, by rw [nI_toInt (n := W_551) (by omega), hc6]; omega⟩, Or.inl ⟨⟨by rw [nI_toInt (n := N_554) (by omega)]; omega, by rw [nI_toInt (n := N_554) (by omega), hc2]; omega⟩, (by rw [nI_clamp (n := N_554) (by omega), es555]; exact hfv_556.symm)⟩⟩) dX11_letter_40
    · obtain rfl : r_554 = 0 := Eq.trans hw_554 (if_neg hp_554)
      refine lv_if_ne (tgt := 29) hx hb dX11_letter_24 (by decide) (fun c_0 => absurd c_0 (by decide)) (fun _ => ?_)
      refine lv_iconst (v := (-1)) hx hb dX11_letter_27 (by decide) ?_
      have hc6 : (rdI (en 0) 6).toInt = (wc_549 : Int) := by rw [show rdI (en 0) 6 = nI wc_549 from by rw [es549]; rfl]; exact nI_toInt (by omega)
      have hc2 : (rdI (en (77 + 3 * W_551)) 2).toInt = (lc_553 : Int) := by rw [show rdI (en (77 + 3 * W_551)) 2 = nI lc_553 from by rw [es553]; rfl]; exact nI_toInt (by omega)
      exact hp_iretR hx hb hr rfl hlocks hsz hh (Or.inr ⟨W_551, rfl, by omega, ⟨by rw [nI_toInt (n := W_551) (by omega)]; omega, by rw [nI_toInt (n := W_551) (by omega), hc6]; omega⟩, Or.inr ⟨fun q => hp_554 (wi_of1 (by omega) q.1 (by have := q.2; omega)), rfl⟩⟩) dX11_letter_28
  · obtain rfl : r_551 = 0 := Eq.trans hw_551 (if_neg hp_551)
    refine lv_if_eq (tgt := 27) hx hb dX11_letter_5 (by decide) (fun _ => ?_) (fun c_0 => absurd c_0 (by decide))
    refine lv_iconst (v := (-1)) hx hb dX11_letter_27 (by decide) ?_
    have hc6 : (rdI (en 0) 6).toInt = (wc_549 : Int) := by rw [show rdI (en 0) 6 = nI wc_549 from by rw [es549]; rfl]; exact nI_toInt (by omega)
    exact hp_iretR hx hb hr rfl hlocks hsz hh (Or.inl ⟨fun q => hp_551 (wi_of1 (by omega) q.1 (by have := q.2; omega)), rfl⟩) dX11_letter_28
theorem kw_X11_letter {R : Room} {s : State} {args : Array Value} {own : String} {idx : Nat} (hts : ∀ w ∈ TB, w.before args s = true) (hl : Cond.methodLink own idx yX11_letter ∈ TB) (hR : 2 + 1 ≤ R.frames ∧ 8 + (3 + 11) + 40 * 2 ≤ R.locals) : CallW R s args own RX11 idx yX11_letter cX11_letter 3 (some .int) (Cond.code yX11_letter cX11_letter 3 (some .int) :: TB) (rmN 2) 0 0 2 := cwV 2 hts (TB_V hl tw_713 tw_714 tw_1 tw_715) rfl rfl rfl (by decide +kernel) hR
set_option maxHeartbeats 4000000 in
set_option maxRecDepth 100000 in
/-- isRing -/
theorem c_X11_isRing (l : Launch) (D : va_G) (cy : Nat → ClassId) (sz : Nat) (cs : List Nat) (ad : Nat → Nat) (en : Nat → va_E) (hI : SX cy cs ad en) (J : Nat) (hJ : J < 10) (hlc : 1 ≤ (rdI (en (77 + 3 * J)) 2).toInt)   : Met l yX11_isRing (Cond.code yX11_isRing cX11_isRing 2 (some .boolean) :: TB) (rmN 3) (va_Pc [.ref (ad 0), .ref (ad (77 + 3 * J))] (Pre D cy cs ad en sz)) (va_Qi (S := Unit) (fun r _ => bI r (rgP (rdF (en 10)) (rdF (en (78 + 3 * J))) (rdI (en (77 + 3 * J)) 2).toNatClampNeg)) (fun _ _ => True) (Nf sz)) 0 0 (Nf sz) := by
  refine Met.ofW (cc := cX11_isRing) (maxL := 2) (ret := (some .boolean)) (by decide) rfl ?_
  intro p e s m args below meth c s₁ B hml hv
  obtain ⟨rfl, hsz, hP, hK, hD0⟩ := hv
  have hx := B.exec
  have hb := B.bytes
  have hr := B.returns
  have hts : ∀ w ∈ TB, w.before _ s = true := fun w h => atoms_spec (ws := _ :: TB) B.pre w (List.mem_cons_of_mem _ h)
  have hown : s.vm.findClass RX11 = some m.cls := findClass_of_methodNamed B.named
  have hlocks := B.notSynchronized
  have hh : Hp D (Nf sz) (fun _ => True) s.heap s.heap [] cs ad en := ⟨hP, hD0, va_S.rf⟩
  have hA : ∀ q : Nat, s.heap.size ≤ q → Nf sz q := fun q h => by rw [hsz] at h; exact h
  have hl := lv_entry ([.ref (ad 0), .ref (ad (77 + 3 * J))]) (n := 2) (Nat.le_of_ble_eq_true rfl)
  rw [lg_entry_eq]
  generalize (lg_sl ([.ref (ad 0), .ref (ad (77 + 3 * J))]) ++ List.replicate (2 - (lg_sl ([.ref (ad 0), .ref (ad (77 + 3 * J))])).length) Slot.unset).toArray = ls at hl ⊢
  have hl : lv_has ls 2 [(0, .ref (ad 0)), (1, .ref (ad (77 + 3 * J)))] := hl
  obtain ⟨wc_557, lf_557, es557, p0_557⟩ := get_A hI
  obtain ⟨cnt, d, mm, es558, hcnt, hd2, hd3, hmm⟩ := get_T hI
  obtain ⟨f10, es559, hb10⟩ := get_alw hI
  obtain ⟨lc_560, es560, p0_560⟩ := get_wo hI (j := J) (by omega)
  have hlp9 : 1 ≤ lc_560 := by rw [show rdI (en (77 + 3 * J)) 2 = nI lc_560 from by rw [es560]; rfl, nI_toInt (by omega)] at hlc; omega
  refine lv_aload_n hx hb dX11_isRing_0 rfl (lv_at hl 0 rfl) ?_
  refine hp_get hx hb hts ix11 hown hK hh (q := 0) rfl (hI.1 _ (by decide)) es557 rfl 0 (by decide) (hts _ tw_245) (fun _ h9 => h9) rfl dX11_isRing_1 ?_
  refine lv_aload_n hx hb dX11_isRing_4 rfl (lv_at hl 1 rfl) ?_
  refine hp_get hx hb hts ix10 hown hK hh (q := (77 + 3 * J)) rfl (hI.1 _ (by omega)) es560 rfl 0 (by decide) (hts _ tw_212) (fun _ h9 => h9) rfl dX11_isRing_5 ?_
  refine lv_aload_n hx hb dX11_isRing_8 rfl (lv_at hl 1 rfl) ?_
  refine hp_get hx hb hts ix10 hown hK hh (q := (77 + 3 * J)) rfl (hI.1 _ (by omega)) es560 rfl 2 (by decide) (hts _ tw_216) (fun _ h9 => h9) rfl dX11_isRing_9 ?_
  obtain ⟨f_561, es561, p0_561⟩ := get_wol hI (j := J) (by omega)
  refine hp_callRi (va_runV (As := [.ref (ad (78 + 3 * J)), .int (nI lc_560)]) (rest := []) ⟨hx, hb, hml, hown, hts⟩ (c_X8_isAllowed l D cy _ cs ad en (hI.1 _ (by decide)) cnt d mm hcnt hd2 hd3 hmm (hI.1 _ (by decide)) f10 hb10 (78 + 3 * J) 12 lc_560 (hI.1 _ (by omega)) (by decide) f_561 p0_561 (by omega) (by omega) es558 es559 es561) (kw_X8_isAllowed hts tw_720 ⟨by decide, by decide⟩) (preV_of hh hK (hI.1 _ (by decide)) es558 rfl) rfl rfl hl.1 rfl (lv_room (Nat.le_of_ble_eq_true rfl)) dX11_isRing_12 ⟨Nat.le_of_ble_eq_true rfl, Nat.le_of_ble_eq_true rfl⟩) hh hA (fun r_562 H locs hw_562 hh => ?_)
  rcases hw_562 with ⟨hb_562, hy_562⟩ | ⟨hb_562, hy_562⟩
  · obtain rfl : r_562 = 1 := hb_562
    refine lv_if_eq (tgt := 54) hx hb dX11_isRing_15 (by decide) (fun c_0 => absurd c_0 (by decide)) (fun _ => ?_)
    refine lv_aload_n hx hb dX11_isRing_18 rfl (lv_at hl 0 rfl) ?_
    refine hp_get hx hb hts ix11 hown hK hh (q := 0) rfl (hI.1 _ (by decide)) es557 rfl 0 (by decide) (hts _ tw_245) (fun _ h9 => h9) rfl dX11_isRing_19 ?_
    refine lv_aload_n hx hb dX11_isRing_22 rfl (lv_at hl 1 rfl) ?_
    refine hp_get hx hb hts ix10 hown hK hh (q := (77 + 3 * J)) rfl (hI.1 _ (by omega)) es560 rfl 0 (by decide) (hts _ tw_212) (fun _ h9 => h9) rfl dX11_isRing_23 ?_
    refine lv_aload_n hx hb dX11_isRing_26 rfl (lv_at hl 1 rfl) ?_
    refine hp_get hx hb hts ix10 hown hK hh (q := (77 + 3 * J)) rfl (hI.1 _ (by omega)) es560 rfl 2 (by decide) (hts _ tw_216) (fun _ h9 => h9) rfl dX11_isRing_27 ?_
    refine hp_callRi (va_runV (As := [.ref (ad (78 + 3 * J)), .int (nI lc_560)]) (rest := []) ⟨hx, hb, hml, hown, hts⟩ (c_X8_isTurnable l D cy _ cs ad en (hI.1 _ (by decide)) cnt d mm hcnt hd2 hd3 hmm (hI.1 _ (by decide)) f10 hb10 (78 + 3 * J) 12 lc_560 (hI.1 _ (by omega)) (by decide) f_561 p0_561 (by omega) (by omega) es558 es559 es561) (kw_X8_isTurnable hts tw_728 ⟨by decide, by decide⟩) (preV_of hh hK (hI.1 _ (by decide)) es558 rfl) rfl rfl hl.1 rfl (lv_room (Nat.le_of_ble_eq_true rfl)) dX11_isRing_30 ⟨Nat.le_of_ble_eq_true rfl, Nat.le_of_ble_eq_true rfl⟩) hh hA (fun r_563 H locs hw_563 hh => ?_)
    rcases hw_563 with ⟨hb_563, hy_563⟩ | ⟨hb_563, hy_563⟩
    · obtain rfl : r_563 = 1 := hb_563
      refine lv_if_eq (tgt := 54) hx hb dX11_isRing_33 (by decide) (fun c_0 => absurd c_0 (by decide)) (fun _ => ?_)
      refine lv_aload_n hx hb dX11_isRing_36 rfl (lv_at hl 1 rfl) ?_
      refine hp_get hx hb hts ix10 hown hK hh (q := (77 + 3 * J)) rfl (hI.1 _ (by omega)) es560 rfl 0 (by decide) (hts _ tw_212) (fun _ h9 => h9) rfl dX11_isRing_37 ?_
      refine lv_aload_n hx hb dX11_isRing_40 rfl (lv_at hl 1 rfl) ?_
      refine hp_get hx hb hts ix10 hown hK hh (q := (77 + 3 * J)) rfl (hI.1 _ (by omega)) es560 rfl 2 (by decide) (hts _ tw_216) (fun _ h9 => h9) rfl dX11_isRing_41 ?_
      refine hp_callRi (va_runS (As := [.ref (ad (78 + 3 * J)), .int (nI lc_560)]) (rest := []) ⟨hx, hb, hml, hown, hts⟩ (c_X5_isAheadOfItsTurns l D cy _ cs ad en (78 + 3 * J) 12 (hI.1 _ (by omega)) (by decide) f_561 lc_560 (by omega) (by omega) (by omega) es561) (kw_X5_isAheadOfItsTurns hts tw_729 ⟨by decide, by decide⟩) (preS_of hh hK) rfl rfl hl.1 rfl (lv_room (Nat.le_of_ble_eq_true rfl)) dX11_isRing_44 ⟨Nat.le_of_ble_eq_true rfl, Nat.le_of_ble_eq_true rfl⟩) hh hA (fun r_564 H locs hw_564 hh => ?_)
      rcases hw_564 with ⟨hb_564, hy_564⟩ | ⟨hb_564, hy_564⟩
      · obtain rfl : r_564 = 1 := hb_564
        refine lv_if_eq (tgt := 54) hx hb dX11_isRing_47 (by decide) (fun c_0 => absurd c_0 (by decide)) (fun _ => ?_)
        refine lv_iconst (v := 1) hx hb dX11_isRing_50 (by decide) ?_
        refine lv_goto (tgt := 55) hx hb dX11_isRing_51 (by decide) ?_
        have hn9 : (rdI (en (77 + 3 * J)) 2).toNatClampNeg = lc_560 := by rw [show rdI (en (77 + 3 * J)) 2 = nI lc_560 from by rw [es560]; rfl]; exact nI_clamp (by omega)
        have hf9 : rdF (en (78 + 3 * J)) = f_561 := by rw [es561]; rfl
        have hg9 : rdF (en 10) = f10 := by rw [es559]; rfl
        exact hp_iretR hx hb hr rfl hlocks hsz hh (by rw [hn9, hf9, hg9]; exact Or.inl ⟨rfl, hy_562, hy_563, hy_564⟩) dX11_isRing_55
      · obtain rfl : r_564 = 0 := hb_564
        refine lv_if_eq (tgt := 54) hx hb dX11_isRing_47 (by decide) (fun _ => ?_) (fun c_0 => absurd c_0 (by decide))
        refine lv_iconst (v := 0) hx hb dX11_isRing_54 (by decide) ?_
        have hn9 : (rdI (en (77 + 3 * J)) 2).toNatClampNeg = lc_560 := by rw [show rdI (en (77 + 3 * J)) 2 = nI lc_560 from by rw [es560]; rfl]; exact nI_clamp (by omega)
        have hf9 : rdF (en (78 + 3 * J)) = f_561 := by rw [es561]; rfl
        have hg9 : rdF (en 10) = f10 := by rw [es559]; rfl
        exact hp_iretR hx hb hr rfl hlocks hsz hh (by rw [hn9, hf9, hg9]; exact Or.inr ⟨rfl, fun q => hy_564 q.2.2⟩) dX11_isRing_55
    · obtain rfl : r_563 = 0 := hb_563
      refine lv_if_eq (tgt := 54) hx hb dX11_isRing_33 (by decide) (fun _ => ?_) (fun c_0 => absurd c_0 (by decide))
      refine lv_iconst (v := 0) hx hb dX11_isRing_54 (by decide) ?_
      have hn9 : (rdI (en (77 + 3 * J)) 2).toNatClampNeg = lc_560 := by rw [show rdI (en (77 + 3 * J)) 2 = nI lc_560 from by rw [es560]; rfl]; exact nI_clamp (by omega)
      have hf9 : rdF (en (78 + 3 * J)) = f_561 := by rw [es561]; rfl
      have hg9 : rdF (en 10) = f10 := by rw [es559]; rfl
      exact hp_iretR hx hb hr rfl hlocks hsz hh (by rw [hn9, hf9, hg9]; exact Or.inr ⟨rfl, fun q => hy_563 q.2.1⟩) dX11_isRing_55
  · obtain rfl : r_562 = 0 := hb_562
    refine lv_if_eq (tgt := 54) hx hb dX11_isRing_15 (by decide) (fun _ => ?_) (fun c_0 => absurd c_0 (by decide))
    refine lv_iconst (v := 0) hx hb dX11_isRing_54 (by decide) ?_
    have hn9 : (rdI (en (77 + 3 * J)) 2).toNatClampNeg = lc_560 := by rw [show rdI (en (77 + 3 * J)) 2 = nI lc_560 from by rw [es560]; rfl]; exact nI_clamp (by omega)
    have hf9 : rdF (en (78 + 3 * J)) = f_561 := by rw [es561]; rfl
    have hg9 : rdF (en 10) = f10 := by rw [es559]; rfl
    exact hp_iretR hx hb hr rfl hlocks hsz hh (by rw [hn9, hf9, hg9]; exact Or.inr ⟨rfl, fun q => hy_562 q.1⟩) dX11_isRing_55
theorem kw_X11_isRing {R : Room} {s : State} {args : Array Value} {own : String} {idx : Nat} (hts : ∀ w ∈ TB, w.before args s = true) (hl : Cond.methodLink own idx yX11_isRing ∈ TB) (hR : 3 + 1 ≤ R.frames ∧ 8 + (2 + 11) + 40 * 3 ≤ R.locals) : CallW R s args own RX11 idx yX11_isRing cX11_isRing 2 (some .boolean) (Cond.code yX11_isRing cX11_isRing 2 (some .boolean) :: TB) (rmN 3) 0 0 1 := cwV 1 hts (TB_V hl tw_726 ts_27 tw_1 tw_727) rfl rfl rfl (by decide +kernel) hR
set_option maxHeartbeats 4000000 in
set_option maxRecDepth 100000 in
/-- about -/
theorem c_X11_about (l : Launch) (D : va_G) (cy : Nat → ClassId) (sz : Nat) (cs : List Nat) (ad : Nat → Nat) (en : Nat → va_E) (hI : SX cy cs ad en) (w z : Int32) (hWX : WX en)   : Met l yX11_about (Cond.code yX11_about cX11_about 4 (some .int) :: TB) (rmN 4) (va_Pc [.ref (ad 0), .int w, .int z] (Pre D cy cs ad en sz)) (va_Qi (S := Unit) (fun r _ => XAB w z r en) (fun _ _ => True) (Nf sz)) 0 0 (Nf sz) := by
  refine Met.ofW (cc := cX11_about) (maxL := 4) (ret := (some .int)) (by decide) rfl ?_
  intro p e s m args below meth c s₁ B hml hv
  obtain ⟨rfl, hsz, hP, hK, hD0⟩ := hv
  have hx := B.exec
  have hb := B.bytes
  have hr := B.returns
  have hts : ∀ w ∈ TB, w.before _ s = true := fun w h => atoms_spec (ws := _ :: TB) B.pre w (List.mem_cons_of_mem _ h)
  have hown : s.vm.findClass RX11 = some m.cls := findClass_of_methodNamed B.named
  have hlocks := B.notSynchronized
  have hh : Hp D (Nf sz) (fun _ => True) s.heap s.heap [] cs ad en := ⟨hP, hD0, va_S.rf⟩
  have hA : ∀ q : Nat, s.heap.size ≤ q → Nf sz q := fun q h => by rw [hsz] at h; exact h
  have hl := lv_entry ([.ref (ad 0), .int w, .int z]) (n := 4) (Nat.le_of_ble_eq_true rfl)
  rw [lg_entry_eq]
  generalize (lg_sl ([.ref (ad 0), .int w, .int z]) ++ List.replicate (4 - (lg_sl ([.ref (ad 0), .int w, .int z])).length) Slot.unset).toArray = ls at hl ⊢
  have hl : lv_has ls 4 [(0, .ref (ad 0)), (1, .int w), (2, .int z)] := hl
  obtain ⟨wc_565, lf_565, es565, p0_565⟩ := get_A hI
  obtain ⟨cnt, d, mm, es566, hcnt, hd2, hd3, hmm⟩ := get_T hI
  obtain ⟨f10, es567, hb10⟩ := get_alw hI
  refine lv_aload_n hx hb dX11_about_0 rfl (lv_at hl 0 rfl) ?_
  refine lv_iload_n hx hb dX11_about_1 rfl (lv_at hl 1 rfl) ?_
  refine hp_callRi (va_runV (As := [.int w]) (rest := []) ⟨hx, hb, hml, hown, hts⟩ (c_X11_hasWord l D cy _ cs ad en hI w ) (kw_X11_hasWord hts tw_703 ⟨by decide, by decide⟩) (preV_of hh hK (hI.1 _ (by decide)) es565 rfl) rfl rfl hl.1 rfl (lv_room (Nat.le_of_ble_eq_true rfl)) dX11_about_2 ⟨Nat.le_of_ble_eq_true rfl, Nat.le_of_ble_eq_true rfl⟩) hh hA (fun r_568 H locs hw_568 hh => ?_)
  rw [show rdI (en 0) 6 = nI wc_565 from by rw [es565]; rfl] at hw_568
  rcases Decidable.em (wi w 0 (nI wc_565 - 1)) with hp_568 | hp_568
  · obtain rfl : r_568 = 1 := Eq.trans hw_568 (if_pos hp_568)
    obtain ⟨W_568, rfl, hW_568⟩ := wi_m1 hp_568 (by omega)
    refine lv_if_ne (tgt := 10) hx hb dX11_about_5 (by decide) (fun _ => ?_) (fun c_0 => absurd c_0 (by decide))
    refine lv_aload_n hx hb dX11_about_10 rfl (lv_at hl 0 rfl) ?_
    refine hp_get hx hb hts ix11 hown hK hh (q := 0) rfl (hI.1 _ (by decide)) es565 rfl 3 (by decide) (hts _ tw_248) (fun _ h9 => h9) rfl dX11_about_11 ?_
    refine lv_iload_n hx hb dX11_about_14 rfl (lv_at hl 1 rfl) ?_
    have es569 := get_wos hI
    unfold P_wos at es569
    refine hp_aald hx hb hK hh (q := 74) rfl (hI.1 _ (by decide)) 5 es569 rfl rfl (vp_in_nI (n := W_568) (by omega) (by decide)) (v := .ref (ad (77 + 3 * W_568))) (by rw [nI_clamp (n := W_568) (by omega)]; exact rfB_v (by omega)) dX11_about_15 ?_
    refine lv_astore_n (lv' := [(3, .ref (ad (77 + 3 * W_568))), (0, .ref (ad 0)), (1, .int (nI W_568)), (2, .int z)]) hx hb dX11_about_16 rfl hl (by decide) rfl (fun ls hl => ?_)
    obtain ⟨lc_570, es570, p0_570⟩ := get_wo hI (j := W_568) (by omega)
    have hlp9 : 1 ≤ lc_570 := WX_lc hWX (show rdI (en 0) 6 = nI wc_565 from by rw [es565]; rfl) (by omega) (show rdI (en (77 + 3 * W_568)) 2 = nI lc_570 from by rw [es570]; rfl) (by omega) (by omega)
    refine lv_iload_n hx hb dX11_about_17 rfl (lv_at hl 3 rfl) ?_
    by_cases q_571_0 : z = 0
    · refine lv_tableIn (off := 30) (tgt := 48) hx hb dX11_about_18 (by rw [q_571_0]; decide) (by rw [q_571_0]; decide) (by rw [q_571_0]; decide) (by decide) ?_
      refine lv_aload_n hx hb dX11_about_48 rfl (lv_at hl 0 rfl) ?_
      refine hp_get hx hb hts ix10 hown hK hh (q := (77 + 3 * W_568)) rfl (hI.1 _ (by omega)) es570 rfl 2 (by decide) (hts _ tw_216) (fun _ h9 => h9) rfl dX11_about_49 ?_
      have hc6 : (rdI (en 0) 6).toInt = (wc_565 : Int) := by rw [show rdI (en 0) 6 = nI wc_565 from by rw [es565]; rfl]; exact nI_toInt (by omega)
      exact hp_iretR hx hb hr rfl hlocks hsz hh (Or.inr ⟨W_568, lc_570, rfl, by omega, ⟨by rw [nI_toInt (n := W_568) (by omega)]; omega, by rw [nI_toInt (n := W_568) (by omega), hc6]; omega⟩, (by rw [es570]; rfl), hlp9, by omega, Or.inl ⟨q_571_0, rfl⟩⟩) dX11_about_52
    by_cases q_571_1 : z = 1
    · refine lv_tableIn (off := 35) (tgt := 53) hx hb dX11_about_18 (by rw [q_571_1]; decide) (by rw [q_571_1]; decide) (by rw [q_571_1]; decide) (by decide) ?_
      refine lv_aload_n hx hb dX11_about_53 rfl (lv_at hl 1 rfl) ?_
      refine hp_get hx hb hts ix11 hown hK hh (q := 0) rfl (hI.1 _ (by decide)) es565 rfl 0 (by decide) (hts _ tw_245) (fun _ h9 => h9) rfl dX11_about_54 ?_
      refine lv_aload_n hx hb dX11_about_57 rfl (lv_at hl 0 rfl) ?_
      refine hp_get hx hb hts ix10 hown hK hh (q := (77 + 3 * W_568)) rfl (hI.1 _ (by omega)) es570 rfl 0 (by decide) (hts _ tw_212) (fun _ h9 => h9) rfl dX11_about_58 ?_
      refine lv_aload_n hx hb dX11_about_61 rfl (lv_at hl 0 rfl) ?_
      refine hp_get hx hb hts ix10 hown hK hh (q := (77 + 3 * W_568)) rfl (hI.1 _ (by omega)) es570 rfl 2 (by decide) (hts _ tw_216) (fun _ h9 => h9) rfl dX11_about_62 ?_
      obtain ⟨f_572, es572, p0_572⟩ := get_wol hI (j := W_568) (by omega)
      refine hp_callRi (va_runV (As := [.ref (ad (78 + 3 * W_568)), .int (nI lc_570)]) (rest := []) ⟨hx, hb, hml, hown, hts⟩ (c_X8_isAllowed l D cy _ cs ad en (hI.1 _ (by decide)) cnt d mm hcnt hd2 hd3 hmm (hI.1 _ (by decide)) f10 hb10 (78 + 3 * W_568) 12 lc_570 (hI.1 _ (by omega)) (by decide) f_572 p0_572 (by omega) (by omega) es566 es567 es572) (kw_X8_isAllowed hts tw_720 ⟨by decide, by decide⟩) (preV_of hh hK (hI.1 _ (by decide)) es566 rfl) rfl rfl hl.1 rfl (lv_room (Nat.le_of_ble_eq_true rfl)) dX11_about_65 ⟨Nat.le_of_ble_eq_true rfl, Nat.le_of_ble_eq_true rfl⟩) hh hA (fun r_573 H locs hw_573 hh => ?_)
      rcases hw_573 with ⟨hb_573, hy_573⟩ | ⟨hb_573, hy_573⟩
      · obtain rfl : r_573 = 1 := hb_573
        refine lv_if_eq (tgt := 75) hx hb dX11_about_68 (by decide) (fun c_0 => absurd c_0 (by decide)) (fun _ => ?_)
        refine lv_iconst (v := 1) hx hb dX11_about_71 (by decide) ?_
        refine lv_goto (tgt := 76) hx hb dX11_about_72 (by decide) ?_
        have hc6 : (rdI (en 0) 6).toInt = (wc_565 : Int) := by rw [show rdI (en 0) 6 = nI wc_565 from by rw [es565]; rfl]; exact nI_toInt (by omega)
        have hg9 : rdF (en 10) = f10 := by rw [es567]; rfl
        have hf9 : rdF (en (78 + 3 * W_568)) = f_572 := by rw [es572]; rfl
        exact hp_iretR hx hb hr rfl hlocks hsz hh (Or.inr ⟨W_568, lc_570, rfl, by omega, ⟨by rw [nI_toInt (n := W_568) (by omega)]; omega, by rw [nI_toInt (n := W_568) (by omega), hc6]; omega⟩, (by rw [es570]; rfl), hlp9, by omega, Or.inr (Or.inl ⟨q_571_1, by rw [hf9, hg9]; exact Or.inl ⟨rfl, hy_573⟩⟩)⟩) dX11_about_76
      · obtain rfl : r_573 = 0 := hb_573
        refine lv_if_eq (tgt := 75) hx hb dX11_about_68 (by decide) (fun _ => ?_) (fun c_0 => absurd c_0 (by decide))
        refine lv_iconst (v := 0) hx hb dX11_about_75 (by decide) ?_
        have hc6 : (rdI (en 0) 6).toInt = (wc_565 : Int) := by rw [show rdI (en 0) 6 = nI wc_565 from by rw [es565]; rfl]; exact nI_toInt (by omega)
        have hg9 : rdF (en 10) = f10 := by rw [es567]; rfl
        have hf9 : rdF (en (78 + 3 * W_568)) = f_572 := by rw [es572]; rfl
        exact hp_iretR hx hb hr rfl hlocks hsz hh (Or.inr ⟨W_568, lc_570, rfl, by omega, ⟨by rw [nI_toInt (n := W_568) (by omega)]; omega, by rw [nI_toInt (n := W_568) (by omega), hc6]; omega⟩, (by rw [es570]; rfl), hlp9, by omega, Or.inr (Or.inl ⟨q_571_1, by rw [hf9, hg9]; exact Or.inr ⟨rfl, hy_573⟩⟩)⟩) dX11_about_76
    by_cases q_571_2 : z = 2
    · refine lv_tableIn (off := 59) (tgt := 77) hx hb dX11_about_18 (by rw [q_571_2]; decide) (by rw [q_571_2]; decide) (by rw [q_571_2]; decide) (by decide) ?_
      refine lv_aload_n hx hb dX11_about_77 rfl (lv_at hl 1 rfl) ?_
      refine lv_aload_n hx hb dX11_about_78 rfl (lv_at hl 0 rfl) ?_
      refine hp_callRi (va_runV (As := [.ref (ad (77 + 3 * W_568))]) (rest := []) ⟨hx, hb, hml, hown, hts⟩ (c_X11_isRing l D cy _ cs ad en hI W_568 (by omega) (by rw [show rdI (en (77 + 3 * W_568)) 2 = nI lc_570 from by rw [es570]; rfl, nI_toInt (by omega)]; omega)) (kw_X11_isRing hts tw_724 ⟨by decide, by decide⟩) (preV_of hh hK (hI.1 _ (by decide)) es565 rfl) rfl rfl hl.1 rfl (lv_room (Nat.le_of_ble_eq_true rfl)) dX11_about_79 ⟨Nat.le_of_ble_eq_true rfl, Nat.le_of_ble_eq_true rfl⟩) hh hA (fun r_574 H locs hw_574 hh => ?_)
      rcases hw_574 with ⟨hb_574, hy_574⟩ | ⟨hb_574, hy_574⟩
      · obtain rfl : r_574 = 1 := hb_574
        refine lv_if_eq (tgt := 89) hx hb dX11_about_82 (by decide) (fun c_0 => absurd c_0 (by decide)) (fun _ => ?_)
        refine lv_iconst (v := 1) hx hb dX11_about_85 (by decide) ?_
        refine lv_goto (tgt := 90) hx hb dX11_about_86 (by decide) ?_
        have hc6 : (rdI (en 0) 6).toInt = (wc_565 : Int) := by rw [show rdI (en 0) 6 = nI wc_565 from by rw [es565]; rfl]; exact nI_toInt (by omega)
        have hg9 : rdF (en 10) = f10 := by rw [es567]; rfl
        have hn9 : (rdI (en (77 + 3 * W_568)) 2).toNatClampNeg = lc_570 := by rw [show rdI (en (77 + 3 * W_568)) 2 = nI lc_570 from by rw [es570]; rfl]; exact nI_clamp (by omega)
        rw [hn9] at hy_574
        exact hp_iretR hx hb hr rfl hlocks hsz hh (Or.inr ⟨W_568, lc_570, rfl, by omega, ⟨by rw [nI_toInt (n := W_568) (by omega)]; omega, by rw [nI_toInt (n := W_568) (by omega), hc6]; omega⟩, (by rw [es570]; rfl), hlp9, by omega, Or.inr (Or.inr (Or.inl ⟨q_571_2, Or.inl ⟨rfl, hy_574⟩⟩))⟩) dX11_about_90
      · obtain rfl : r_574 = 0 := hb_574
        refine lv_if_eq (tgt := 89) hx hb dX11_about_82 (by decide) (fun _ => ?_) (fun c_0 => absurd c_0 (by decide))
        refine lv_iconst (v := 0) hx hb dX11_about_89 (by decide) ?_
        have hc6 : (rdI (en 0) 6).toInt = (wc_565 : Int) := by rw [show rdI (en 0) 6 = nI wc_565 from by rw [es565]; rfl]; exact nI_toInt (by omega)
        have hg9 : rdF (en 10) = f10 := by rw [es567]; rfl
        have hn9 : (rdI (en (77 + 3 * W_568)) 2).toNatClampNeg = lc_570 := by rw [show rdI (en (77 + 3 * W_568)) 2 = nI lc_570 from by rw [es570]; rfl]; exact nI_clamp (by omega)
        rw [hn9] at hy_574
        exact hp_iretR hx hb hr rfl hlocks hsz hh (Or.inr ⟨W_568, lc_570, rfl, by omega, ⟨by rw [nI_toInt (n := W_568) (by omega)]; omega, by rw [nI_toInt (n := W_568) (by omega), hc6]; omega⟩, (by rw [es570]; rfl), hlp9, by omega, Or.inr (Or.inr (Or.inl ⟨q_571_2, Or.inr ⟨rfl, hy_574⟩⟩))⟩) dX11_about_90
    by_cases q_571_3 : z = 3
    · refine lv_tableIn (off := 73) (tgt := 91) hx hb dX11_about_18 (by rw [q_571_3]; decide) (by rw [q_571_3]; decide) (by rw [q_571_3]; decide) (by decide) ?_
      refine lv_aload_n hx hb dX11_about_91 rfl (lv_at hl 0 rfl) ?_
      refine hp_get hx hb hts ix10 hown hK hh (q := (77 + 3 * W_568)) rfl (hI.1 _ (by omega)) es570 rfl 0 (by decide) (hts _ tw_212) (fun _ h9 => h9) rfl dX11_about_92 ?_
      refine lv_aload_n hx hb dX11_about_95 rfl (lv_at hl 0 rfl) ?_
      refine hp_get hx hb hts ix10 hown hK hh (q := (77 + 3 * W_568)) rfl (hI.1 _ (by omega)) es570 rfl 2 (by decide) (hts _ tw_216) (fun _ h9 => h9) rfl dX11_about_96 ?_
      obtain ⟨f_575, es575, p0_575⟩ := get_wol hI (j := W_568) (by omega)
      refine hp_callRi (va_runS (As := [.ref (ad (78 + 3 * W_568)), .int (nI lc_570)]) (rest := []) ⟨hx, hb, hml, hown, hts⟩ (c_X5_repeats l D cy _ cs ad en (78 + 3 * W_568) 12 (hI.1 _ (by omega)) (by decide) f_575 lc_570 (by omega) (by omega) es575) (kw_X5_repeats hts tw_730 ⟨by decide, by decide⟩) (preS_of hh hK) rfl rfl hl.1 rfl (lv_room (Nat.le_of_ble_eq_true rfl)) dX11_about_99 ⟨Nat.le_of_ble_eq_true rfl, Nat.le_of_ble_eq_true rfl⟩) hh hA (fun r_576 H locs hw_576 hh => ?_)
      have hc6 : (rdI (en 0) 6).toInt = (wc_565 : Int) := by rw [show rdI (en 0) 6 = nI wc_565 from by rw [es565]; rfl]; exact nI_toInt (by omega)
      have hg9 : rdF (en 10) = f10 := by rw [es567]; rfl
      have hf9 : rdF (en (78 + 3 * W_568)) = f_575 := by rw [es575]; rfl
      exact hp_iretR hx hb hr rfl hlocks hsz hh (Or.inr ⟨W_568, lc_570, rfl, by omega, ⟨by rw [nI_toInt (n := W_568) (by omega)]; omega, by rw [nI_toInt (n := W_568) (by omega), hc6]; omega⟩, (by rw [es570]; rfl), hlp9, by omega, Or.inr (Or.inr (Or.inr (Or.inl ⟨q_571_3, by rw [hf9]; exact hw_576⟩)))⟩) dX11_about_102
    refine lv_tableOut (tgt := 103) hx hb dX11_about_18 (tb_out 4 (by decide) (by decide) (fun j hj => by rcases (show j = 0 ∨ j = 1 ∨ j = 2 ∨ j = 3 by omega) with rfl | rfl | rfl | rfl <;> first | exact lv_neT q_571_0 (by decide) | exact lv_neT q_571_1 (by decide) | exact lv_neT q_571_2 (by decide) | exact lv_neT q_571_3 (by decide))) (by decide) ?_
    refine lv_bipush (v := (-2)) hx hb dX11_about_103 (by decide) ?_
    have hc6 : (rdI (en 0) 6).toInt = (wc_565 : Int) := by rw [show rdI (en 0) 6 = nI wc_565 from by rw [es565]; rfl]; exact nI_toInt (by omega)
    exact hp_iretR hx hb hr rfl hlocks hsz hh (Or.inr ⟨W_568, lc_570, rfl, by omega, ⟨by rw [nI_toInt (n := W_568) (by omega)]; omega, by rw [nI_toInt (n := W_568) (by omega), hc6]; omega⟩, (by rw [es570]; rfl), hlp9, by omega, Or.inr (Or.inr (Or.inr (Or.inr ⟨q_571_0, q_571_1, q_571_2, q_571_3, rfl⟩)))⟩) dX11_about_105
  · obtain rfl : r_568 = 0 := Eq.trans hw_568 (if_neg hp_568)
    refine lv_if_ne (tgt := 10) hx hb dX11_about_5 (by decide) (fun c_0 => absurd c_0 (by decide)) (fun _ => ?_)
    refine lv_iconst (v := (-1)) hx hb dX11_about_8 (by decide) ?_
    have hc6 : (rdI (en 0) 6).toInt = (wc_565 : Int) := by rw [show rdI (en 0) 6 = nI wc_565 from by rw [es565]; rfl]; exact nI_toInt (by omega)
    exact hp_iretR hx hb hr rfl hlocks hsz hh (Or.inl ⟨fun q => hp_568 (wi_of1 (by omega) q.1 (by have := q.2; omega)), rfl⟩) dX11_about_9
theorem kw_X11_about {R : Room} {s : State} {args : Array Value} {own : String} {idx : Nat} (hts : ∀ w ∈ TB, w.before args s = true) (hl : Cond.methodLink own idx yX11_about ∈ TB) (hR : 4 + 1 ≤ R.frames ∧ 8 + (4 + 11) + 40 * 4 ≤ R.locals) : CallW R s args own RX11 idx yX11_about cX11_about 4 (some .int) (Cond.code yX11_about cX11_about 4 (some .int) :: TB) (rmN 4) 0 0 2 := cwV 2 hts (TB_V hl tw_717 tw_718 tw_1 tw_719) rfl rfl rfl (by decide +kernel) hR
set_option maxHeartbeats 4000000 in
set_option maxRecDepth 100000 in
/-- entryOf -/
theorem c_X11_entryOf (l : Launch) (D : va_G) (cy : Nat → ClassId) (sz : Nat) (cs : List Nat) (ad : Nat → Nat) (en : Nat → va_E) (hI : SX cy cs ad en) (w a b : Int32)   : Met l yX11_entryOf (Cond.code yX11_entryOf cX11_entryOf 4 (some .long) :: TB) (rmN 2) (va_Pc [.ref (ad 0), .int w, .int a, .int b] (Pre D cy cs ad en sz)) (va_Ql (S := Unit) (fun r _ => XEO w a b r en) (fun _ _ => True) (Nf sz)) 0 0 (Nf sz) := by
  refine Met.ofW (cc := cX11_entryOf) (maxL := 4) (ret := (some .long)) (by decide) rfl ?_
  intro p e s m args below meth c s₁ B hml hv
  obtain ⟨rfl, hsz, hP, hK, hD0⟩ := hv
  have hx := B.exec
  have hb := B.bytes
  have hr := B.returns
  have hts : ∀ w ∈ TB, w.before _ s = true := fun w h => atoms_spec (ws := _ :: TB) B.pre w (List.mem_cons_of_mem _ h)
  have hown : s.vm.findClass RX11 = some m.cls := findClass_of_methodNamed B.named
  have hlocks := B.notSynchronized
  have hh : Hp D (Nf sz) (fun _ => True) s.heap s.heap [] cs ad en := ⟨hP, hD0, va_S.rf⟩
  have hA : ∀ q : Nat, s.heap.size ≤ q → Nf sz q := fun q h => by rw [hsz] at h; exact h
  have hl := lv_entry ([.ref (ad 0), .int w, .int a, .int b]) (n := 4) (Nat.le_of_ble_eq_true rfl)
  rw [lg_entry_eq]
  generalize (lg_sl ([.ref (ad 0), .int w, .int a, .int b]) ++ List.replicate (4 - (lg_sl ([.ref (ad 0), .int w, .int a, .int b])).length) Slot.unset).toArray = ls at hl ⊢
  have hl : lv_has ls 4 [(0, .ref (ad 0)), (1, .int w), (2, .int a), (3, .int b)] := hl
  obtain ⟨wc_577, lf_577, es577, p0_577⟩ := get_A hI
  obtain ⟨cnt, d, mm, es578, hcnt, hd2, hd3, hmm⟩ := get_T hI
  refine lv_aload_n hx hb dX11_entryOf_0 rfl (lv_at hl 0 rfl) ?_
  refine lv_iload_n hx hb dX11_entryOf_1 rfl (lv_at hl 1 rfl) ?_
  refine hp_callRi (va_runV (As := [.int w]) (rest := []) ⟨hx, hb, hml, hown, hts⟩ (c_X11_hasWord l D cy _ cs ad en hI w ) (kw_X11_hasWord hts tw_703 ⟨by decide, by decide⟩) (preV_of hh hK (hI.1 _ (by decide)) es577 rfl) rfl rfl hl.1 rfl (lv_room (Nat.le_of_ble_eq_true rfl)) dX11_entryOf_2 ⟨Nat.le_of_ble_eq_true rfl, Nat.le_of_ble_eq_true rfl⟩) hh hA (fun r_579 H locs hw_579 hh => ?_)
  rw [show rdI (en 0) 6 = nI wc_577 from by rw [es577]; rfl] at hw_579
  rcases Decidable.em (wi w 0 (nI wc_577 - 1)) with hp_579 | hp_579
  · obtain rfl : r_579 = 1 := Eq.trans hw_579 (if_pos hp_579)
    obtain ⟨W_579, rfl, hW_579⟩ := wi_m1 hp_579 (by omega)
    refine lv_if_eq (tgt := 20) hx hb dX11_entryOf_5 (by decide) (fun c_0 => absurd c_0 (by decide)) (fun _ => ?_)
    refine lv_aload_n hx hb dX11_entryOf_8 rfl (lv_at hl 0 rfl) ?_
    refine hp_get hx hb hts ix11 hown hK hh (q := 0) rfl (hI.1 _ (by decide)) es577 rfl 0 (by decide) (hts _ tw_245) (fun _ h9 => h9) rfl dX11_entryOf_9 ?_
    refine lv_iload_n hx hb dX11_entryOf_12 rfl (lv_at hl 2 rfl) ?_
    refine lv_iload_n hx hb dX11_entryOf_13 rfl (lv_at hl 3 rfl) ?_
    refine hp_callRi (va_runV (As := [.int a, .int b]) (rest := []) ⟨hx, hb, hml, hown, hts⟩ (c_X8_isPlace l D cy _ cs ad en (hI.1 _ (by decide)) cnt d mm hcnt hd2 hd3 hmm a b es578) (kw_X8_isPlace hts tw_416 ⟨by decide, by decide⟩) (preV_of hh hK (hI.1 _ (by decide)) es578 rfl) rfl rfl hl.1 rfl (lv_room (Nat.le_of_ble_eq_true rfl)) dX11_entryOf_14 ⟨Nat.le_of_ble_eq_true rfl, Nat.le_of_ble_eq_true rfl⟩) hh hA (fun r_580 H locs hw_580 hh => ?_)
    rcases Decidable.em ((0 ≤ a.toInt ∧ a.toInt < (d : Int)) ∧ 0 ≤ b.toInt ∧ b.toInt < (d : Int)) with hp_580 | hp_580
    · obtain rfl : r_580 = 1 := Eq.trans hw_580 (if_pos hp_580)
      obtain ⟨A_580, rfl, hA_580⟩ := has_nat hp_580.1
      obtain ⟨B_580, rfl, hB_580⟩ := has_nat hp_580.2
      refine lv_if_ne (tgt := 24) hx hb dX11_entryOf_17 (by decide) (fun _ => ?_) (fun c_0 => absurd c_0 (by decide))
      refine lv_aload_n hx hb dX11_entryOf_24 rfl (lv_at hl 0 rfl) ?_
      refine hp_get hx hb hts ix11 hown hK hh (q := 0) rfl (hI.1 _ (by decide)) es577 rfl 3 (by decide) (hts _ tw_248) (fun _ h9 => h9) rfl dX11_entryOf_25 ?_
      refine lv_iload_n hx hb dX11_entryOf_28 rfl (lv_at hl 1 rfl) ?_
      have es581 := get_wos hI
      unfold P_wos at es581
      refine hp_aald hx hb hK hh (q := 74) rfl (hI.1 _ (by decide)) 5 es581 rfl rfl (vp_in_nI (n := W_579) (by omega) (by decide)) (v := .ref (ad (77 + 3 * W_579))) (by rw [nI_clamp (n := W_579) (by omega)]; exact rfB_v (by omega)) dX11_entryOf_29 ?_
      obtain ⟨lc_582, es582, p0_582⟩ := get_wo hI (j := W_579) (by omega)
      refine hp_get hx hb hts ix10 hown hK hh (q := (77 + 3 * W_579)) rfl (hI.1 _ (by omega)) es582 rfl 1 (by decide) (hts _ tw_214) (fun _ h9 => h9) rfl dX11_entryOf_30 ?_
      refine lv_aload_n hx hb dX11_entryOf_33 rfl (lv_at hl 0 rfl) ?_
      refine hp_get hx hb hts ix11 hown hK hh (q := 0) rfl (hI.1 _ (by decide)) es577 rfl 0 (by decide) (hts _ tw_245) (fun _ h9 => h9) rfl dX11_entryOf_34 ?_
      refine lv_iload_n hx hb dX11_entryOf_37 rfl (lv_at hl 2 rfl) ?_
      refine lv_iload_n hx hb dX11_entryOf_38 rfl (lv_at hl 3 rfl) ?_
      refine hp_callRi (va_runV (As := [.int (nI A_580), .int (nI B_580)]) (rest := [.ref (ad (79 + 3 * W_579))]) ⟨hx, hb, hml, hown, hts⟩ (c_X8_cellOf l D cy _ cs ad en (hI.1 _ (by decide)) cnt d mm hcnt hd2 hd3 hmm A_580 B_580 es578) (kw_X8_cellOf hts tw_425 ⟨by decide, by decide⟩) (preV_of hh hK (hI.1 _ (by decide)) es578 rfl) rfl rfl hl.1 rfl (lv_room (Nat.le_of_ble_eq_true rfl)) dX11_entryOf_39 ⟨Nat.le_of_ble_eq_true rfl, Nat.le_of_ble_eq_true rfl⟩) hh hA (fun r_583 H locs hw_583 hh => ?_)
      obtain rfl : r_583 = nI (A_580 * d + B_580) := hw_583
      have hi_584 : (A_580 * d + B_580) < 9 := md3 (by omega) (by omega) hd3
      obtain ⟨f_585, es585⟩ := get_wor hI (j := W_579) (by omega)
      refine hp_lald hx hb hK hh (q := (79 + 3 * W_579)) rfl (hI.1 _ (by omega)) es585 (vp_in_nI (n := (A_580 * d + B_580)) (by omega) (by decide)) dX11_entryOf_42 ?_
      rw [nI_clamp (n := (A_580 * d + B_580)) (by omega)]
      have hc6 : (rdI (en 0) 6).toInt = (wc_577 : Int) := by rw [show rdI (en 0) 6 = nI wc_577 from by rw [es577]; rfl]; exact nI_toInt (by omega)
      have hc5 : rdI (en 1) 5 = nI d := by rw [es578]; rfl
      have hc5i : (rdI (en 1) 5).toInt = (d : Int) := by rw [hc5]; exact nI_toInt (by omega)
      exact hp_lretR hx hb hr hlocks hsz hh (Or.inl ⟨⟨⟨by rw [nI_toInt (n := W_579) (by omega)]; omega, by rw [nI_toInt (n := W_579) (by omega), hc6]; omega⟩, by rw [hc5i]; exact hp_580⟩, by rw [hc5, nI_clamp (n := W_579) (by omega), nI_clamp (n := A_580) (by omega), nI_clamp (n := B_580) (by omega), nI_clamp (n := d) (by omega), es585]; rfl⟩) dX11_entryOf_43
    · obtain rfl : r_580 = 0 := Eq.trans hw_580 (if_neg hp_580)
      refine lv_if_ne (tgt := 24) hx hb dX11_entryOf_17 (by decide) (fun c_0 => absurd c_0 (by decide)) (fun _ => ?_)
      refine lv_ldc2 hx hb hown (hts _ tw_420) dX11_entryOf_20 ?_
      have hc6 : (rdI (en 0) 6).toInt = (wc_577 : Int) := by rw [show rdI (en 0) 6 = nI wc_577 from by rw [es577]; rfl]; exact nI_toInt (by omega)
      have hc5 : rdI (en 1) 5 = nI d := by rw [es578]; rfl
      have hc5i : (rdI (en 1) 5).toInt = (d : Int) := by rw [hc5]; exact nI_toInt (by omega)
      exact hp_lretR hx hb hr hlocks hsz hh (Or.inr ⟨fun q => hp_580 (by have h9 := q.2; rw [hc5i] at h9; exact h9), rfl⟩) dX11_entryOf_23
  · obtain rfl : r_579 = 0 := Eq.trans hw_579 (if_neg hp_579)
    refine lv_if_eq (tgt := 20) hx hb dX11_entryOf_5 (by decide) (fun _ => ?_) (fun c_0 => absurd c_0 (by decide))
    refine lv_ldc2 hx hb hown (hts _ tw_420) dX11_entryOf_20 ?_
    have hc6 : (rdI (en 0) 6).toInt = (wc_577 : Int) := by rw [show rdI (en 0) 6 = nI wc_577 from by rw [es577]; rfl]; exact nI_toInt (by omega)
    have hc5 : rdI (en 1) 5 = nI d := by rw [es578]; rfl
    have hc5i : (rdI (en 1) 5).toInt = (d : Int) := by rw [hc5]; exact nI_toInt (by omega)
    exact hp_lretR hx hb hr hlocks hsz hh (Or.inr ⟨fun q => hp_579 (wi_of1 (by omega) q.1.1 (by have := q.1.2; omega)), rfl⟩) dX11_entryOf_23
theorem kw_X11_entryOf {R : Room} {s : State} {args : Array Value} {own : String} {idx : Nat} (hts : ∀ w ∈ TB, w.before args s = true) (hl : Cond.methodLink own idx yX11_entryOf ∈ TB) (hR : 2 + 1 ≤ R.frames ∧ 8 + (4 + 11) + 40 * 2 ≤ R.locals) : CallW R s args own RX11 idx yX11_entryOf cX11_entryOf 4 (some .long) (Cond.code yX11_entryOf cX11_entryOf 4 (some .long) :: TB) (rmN 2) 0 0 3 := cwV 3 hts (TB_V hl tw_737 tw_738 tw_1 tw_739) rfl rfl rfl (by decide +kernel) hR
set_option maxHeartbeats 4000000 in
set_option maxRecDepth 100000 in
/-- size -/
theorem c_X11_size (l : Launch) (D : va_G) (cy : Nat → ClassId) (sz : Nat) (cs : List Nat) (ad : Nat → Nat) (en : Nat → va_E) (hI : SX cy cs ad en) (w z : Int32)   : Met l yX11_size (Cond.code yX11_size cX11_size 3 (some .long) :: TB) (rmN 2) (va_Pc [.ref (ad 0), .int w, .int z] (Pre D cy cs ad en sz)) (va_Ql (S := Unit) (fun r _ => XSZ w z r en) (fun _ _ => True) (Nf sz)) 0 0 (Nf sz) := by
  refine Met.ofW (cc := cX11_size) (maxL := 3) (ret := (some .long)) (by decide) rfl ?_
  intro p e s m args below meth c s₁ B hml hv
  obtain ⟨rfl, hsz, hP, hK, hD0⟩ := hv
  have hx := B.exec
  have hb := B.bytes
  have hr := B.returns
  have hts : ∀ w ∈ TB, w.before _ s = true := fun w h => atoms_spec (ws := _ :: TB) B.pre w (List.mem_cons_of_mem _ h)
  have hown : s.vm.findClass RX11 = some m.cls := findClass_of_methodNamed B.named
  have hlocks := B.notSynchronized
  have hh : Hp D (Nf sz) (fun _ => True) s.heap s.heap [] cs ad en := ⟨hP, hD0, va_S.rf⟩
  have hA : ∀ q : Nat, s.heap.size ≤ q → Nf sz q := fun q h => by rw [hsz] at h; exact h
  have hl := lv_entry ([.ref (ad 0), .int w, .int z]) (n := 3) (Nat.le_of_ble_eq_true rfl)
  rw [lg_entry_eq]
  generalize (lg_sl ([.ref (ad 0), .int w, .int z]) ++ List.replicate (3 - (lg_sl ([.ref (ad 0), .int w, .int z])).length) Slot.unset).toArray = ls at hl ⊢
  have hl : lv_has ls 3 [(0, .ref (ad 0)), (1, .int w), (2, .int z)] := hl
  obtain ⟨wc_586, lf_586, es586, p0_586⟩ := get_A hI
  obtain ⟨cnt, d, mm, es587, hcnt, hd2, hd3, hmm⟩ := get_T hI
  refine lv_aload_n hx hb dX11_size_0 rfl (lv_at hl 0 rfl) ?_
  refine lv_iload_n hx hb dX11_size_1 rfl (lv_at hl 1 rfl) ?_
  refine hp_callRi (va_runV (As := [.int w]) (rest := []) ⟨hx, hb, hml, hown, hts⟩ (c_X11_hasWord l D cy _ cs ad en hI w ) (kw_X11_hasWord hts tw_703 ⟨by decide, by decide⟩) (preV_of hh hK (hI.1 _ (by decide)) es586 rfl) rfl rfl hl.1 rfl (lv_room (Nat.le_of_ble_eq_true rfl)) dX11_size_2 ⟨Nat.le_of_ble_eq_true rfl, Nat.le_of_ble_eq_true rfl⟩) hh hA (fun r_588 H locs hw_588 hh => ?_)
  rw [show rdI (en 0) 6 = nI wc_586 from by rw [es586]; rfl] at hw_588
  rcases Decidable.em (wi w 0 (nI wc_586 - 1)) with hp_588 | hp_588
  · obtain rfl : r_588 = 1 := Eq.trans hw_588 (if_pos hp_588)
    obtain ⟨W_588, rfl, hW_588⟩ := wi_m1 hp_588 (by omega)
    refine lv_if_eq (tgt := 17) hx hb dX11_size_5 (by decide) (fun c_0 => absurd c_0 (by decide)) (fun _ => ?_)
    refine lv_iload_n hx hb dX11_size_8 rfl (lv_at hl 2 rfl) ?_
    refine lv_iconst (v := 0) hx hb dX11_size_9 (by decide) ?_
    refine lv_iconst (v := 1) hx hb dX11_size_10 (by decide) ?_
    refine hp_callRi (va_runS (As := [.int z, .int 0, .int 1]) (rest := []) ⟨hx, hb, hml, hown, hts⟩ (c_X11_isWithin l D cy _ cs ad en z 0 1) (kw_X11_isWithin hts tw_274 ⟨by decide, by decide⟩) (preS_of hh hK) rfl rfl hl.1 rfl (lv_room (Nat.le_of_ble_eq_true rfl)) dX11_size_11 ⟨Nat.le_of_ble_eq_true rfl, Nat.le_of_ble_eq_true rfl⟩) hh hA (fun r_589 H locs hw_589 hh => ?_)
    rcases Decidable.em (wi z 0 1) with hp_589 | hp_589
    · obtain rfl : r_589 = 1 := Eq.trans hw_589 (if_pos hp_589)
      obtain ⟨N_589, rfl, hA_589, hB_589⟩ := wi_natB hp_589 0 1 (by decide) (by decide)
      refine lv_if_ne (tgt := 21) hx hb dX11_size_14 (by decide) (fun _ => ?_) (fun c_0 => absurd c_0 (by decide))
      refine lv_iload_n hx hb dX11_size_21 rfl (lv_at hl 2 rfl) ?_
      refine lv_if_ne (tgt := 44) hx hb dX11_size_22 (by decide) (fun c_590 => ?_) (fun c_590 => ?_)
      · have n_590 : N_589 ≠ 0 := n_neq (a := N_589) (b := 0) c_590 (by omega) (by decide)
        refine lv_aload_n hx hb dX11_size_44 rfl (lv_at hl 0 rfl) ?_
        refine hp_get hx hb hts ix11 hown hK hh (q := 0) rfl (hI.1 _ (by decide)) es586 rfl 0 (by decide) (hts _ tw_245) (fun _ h9 => h9) rfl dX11_size_45 ?_
        refine lv_aload_n hx hb dX11_size_48 rfl (lv_at hl 0 rfl) ?_
        refine hp_get hx hb hts ix11 hown hK hh (q := 0) rfl (hI.1 _ (by decide)) es586 rfl 3 (by decide) (hts _ tw_248) (fun _ h9 => h9) rfl dX11_size_49 ?_
        refine lv_iload_n hx hb dX11_size_52 rfl (lv_at hl 1 rfl) ?_
        have es591 := get_wos hI
        unfold P_wos at es591
        refine hp_aald hx hb hK hh (q := 74) rfl (hI.1 _ (by decide)) 5 es591 rfl rfl (vp_in_nI (n := W_588) (by omega) (by decide)) (v := .ref (ad (77 + 3 * W_588))) (by rw [nI_clamp (n := W_588) (by omega)]; exact rfB_v (by omega)) dX11_size_53 ?_
        obtain ⟨lc_592, es592, p0_592⟩ := get_wo hI (j := W_588) (by omega)
        refine hp_get hx hb hts ix10 hown hK hh (q := (77 + 3 * W_588)) rfl (hI.1 _ (by omega)) es592 rfl 1 (by decide) (hts _ tw_214) (fun _ h9 => h9) rfl dX11_size_54 ?_
        obtain ⟨f_593, es593⟩ := get_wor hI (j := W_588) (by omega)
        refine hp_callRl (va_runV (As := [.ref (ad (79 + 3 * W_588))]) (rest := []) ⟨hx, hb, hml, hown, hts⟩ (c_X8_track l D cy _ cs ad en (hI.1 _ (by decide)) cnt d mm hcnt hd2 hd3 hmm (79 + 3 * W_588) (hI.1 _ (by omega)) f_593 es587 es593) (kw_X8_track hts tw_745 ⟨by decide, by decide⟩) (preV_of hh hK (hI.1 _ (by decide)) es587 rfl) rfl rfl hl.1 rfl (lv_room (Nat.le_of_ble_eq_true rfl)) dX11_size_57 ⟨Nat.le_of_ble_eq_true rfl, Nat.le_of_ble_eq_true rfl⟩) hh hA (fun r_594 H locs hw_594 hh => ?_)
        have hc6 : (rdI (en 0) 6).toInt = (wc_586 : Int) := by rw [show rdI (en 0) 6 = nI wc_586 from by rw [es586]; rfl]; exact nI_toInt (by omega)
        have hc5 : rdI (en 1) 5 = nI d := by rw [es587]; rfl
        have hc5i : (rdI (en 1) 5).toInt = (d : Int) := by rw [hc5]; exact nI_toInt (by omega)
        exact hp_lretR hx hb hr hlocks hsz hh (Or.inl ⟨⟨by rw [nI_toInt (n := W_588) (by omega)]; omega, by rw [nI_toInt (n := W_588) (by omega), hc6]; omega⟩, hp_589, Or.inr ⟨(fun q => n_590 (n_eq (b := 0) q (by omega) (by omega))), by rw [hc5, nI_clamp (n := W_588) (by omega), nI_clamp (n := d) (by omega), show rdL (en (79 + 3 * W_588)) = f_593 from by rw [es593]; rfl]; exact hw_594⟩⟩) dX11_size_60
      · have n_590 : N_589 = 0 := n_eq (a := N_589) (b := 0) c_590 (by omega) (by decide)
        refine lv_aload_n hx hb dX11_size_25 rfl (lv_at hl 0 rfl) ?_
        refine hp_get hx hb hts ix11 hown hK hh (q := 0) rfl (hI.1 _ (by decide)) es586 rfl 0 (by decide) (hts _ tw_245) (fun _ h9 => h9) rfl dX11_size_26 ?_
        refine lv_aload_n hx hb dX11_size_29 rfl (lv_at hl 0 rfl) ?_
        refine hp_get hx hb hts ix11 hown hK hh (q := 0) rfl (hI.1 _ (by decide)) es586 rfl 3 (by decide) (hts _ tw_248) (fun _ h9 => h9) rfl dX11_size_30 ?_
        refine lv_iload_n hx hb dX11_size_33 rfl (lv_at hl 1 rfl) ?_
        have es595 := get_wos hI
        unfold P_wos at es595
        refine hp_aald hx hb hK hh (q := 74) rfl (hI.1 _ (by decide)) 5 es595 rfl rfl (vp_in_nI (n := W_588) (by omega) (by decide)) (v := .ref (ad (77 + 3 * W_588))) (by rw [nI_clamp (n := W_588) (by omega)]; exact rfB_v (by omega)) dX11_size_34 ?_
        obtain ⟨lc_596, es596, p0_596⟩ := get_wo hI (j := W_588) (by omega)
        refine hp_get hx hb hts ix10 hown hK hh (q := (77 + 3 * W_588)) rfl (hI.1 _ (by omega)) es596 rfl 1 (by decide) (hts _ tw_214) (fun _ h9 => h9) rfl dX11_size_35 ?_
        obtain ⟨f_597, es597⟩ := get_wor hI (j := W_588) (by omega)
        refine hp_callRl (va_runV (As := [.ref (ad (79 + 3 * W_588))]) (rest := []) ⟨hx, hb, hml, hown, hts⟩ (c_X8_norm l D cy _ cs ad en (hI.1 _ (by decide)) cnt d mm hcnt hd2 hd3 hmm (79 + 3 * W_588) (hI.1 _ (by omega)) f_597 es587 es597) (kw_X8_norm hts tw_744 ⟨by decide, by decide⟩) (preV_of hh hK (hI.1 _ (by decide)) es587 rfl) rfl rfl hl.1 rfl (lv_room (Nat.le_of_ble_eq_true rfl)) dX11_size_38 ⟨Nat.le_of_ble_eq_true rfl, Nat.le_of_ble_eq_true rfl⟩) hh hA (fun r_598 H locs hw_598 hh => ?_)
        obtain rfl : r_598 = (normT d f_597 d) := hw_598
        refine lv_goto (tgt := 60) hx hb dX11_size_41 (by decide) ?_
        have hc6 : (rdI (en 0) 6).toInt = (wc_586 : Int) := by rw [show rdI (en 0) 6 = nI wc_586 from by rw [es586]; rfl]; exact nI_toInt (by omega)
        have hc5 : rdI (en 1) 5 = nI d := by rw [es587]; rfl
        have hc5i : (rdI (en 1) 5).toInt = (d : Int) := by rw [hc5]; exact nI_toInt (by omega)
        exact hp_lretR hx hb hr hlocks hsz hh (Or.inl ⟨⟨by rw [nI_toInt (n := W_588) (by omega)]; omega, by rw [nI_toInt (n := W_588) (by omega), hc6]; omega⟩, hp_589, Or.inl ⟨(by rw [n_590]; rfl), by rw [hc5, nI_clamp (n := W_588) (by omega), nI_clamp (n := d) (by omega), show rdL (en (79 + 3 * W_588)) = f_597 from by rw [es597]; rfl]⟩⟩) dX11_size_60
    · obtain rfl : r_589 = 0 := Eq.trans hw_589 (if_neg hp_589)
      refine lv_if_ne (tgt := 21) hx hb dX11_size_14 (by decide) (fun c_0 => absurd c_0 (by decide)) (fun _ => ?_)
      refine lv_ldc2 hx hb hown (hts _ tw_420) dX11_size_17 ?_
      have hc6 : (rdI (en 0) 6).toInt = (wc_586 : Int) := by rw [show rdI (en 0) 6 = nI wc_586 from by rw [es586]; rfl]; exact nI_toInt (by omega)
      have hc5 : rdI (en 1) 5 = nI d := by rw [es587]; rfl
      have hc5i : (rdI (en 1) 5).toInt = (d : Int) := by rw [hc5]; exact nI_toInt (by omega)
      exact hp_lretR hx hb hr hlocks hsz hh (Or.inr ⟨fun q => hp_589 q.2, rfl⟩) dX11_size_20
  · obtain rfl : r_588 = 0 := Eq.trans hw_588 (if_neg hp_588)
    refine lv_if_eq (tgt := 17) hx hb dX11_size_5 (by decide) (fun _ => ?_) (fun c_0 => absurd c_0 (by decide))
    refine lv_ldc2 hx hb hown (hts _ tw_420) dX11_size_17 ?_
    have hc6 : (rdI (en 0) 6).toInt = (wc_586 : Int) := by rw [show rdI (en 0) 6 = nI wc_586 from by rw [es586]; rfl]; exact nI_toInt (by omega)
    have hc5 : rdI (en 1) 5 = nI d := by rw [es587]; rfl
    have hc5i : (rdI (en 1) 5).toInt = (d : Int) := by rw [hc5]; exact nI_toInt (by omega)
    exact hp_lretR hx hb hr hlocks hsz hh (Or.inr ⟨fun q => hp_588 (wi_of1 (by omega) q.1.1 (by have := q.1.2; omega)), rfl⟩) dX11_size_20
theorem kw_X11_size {R : Room} {s : State} {args : Array Value} {own : String} {idx : Nat} (hts : ∀ w ∈ TB, w.before args s = true) (hl : Cond.methodLink own idx yX11_size ∈ TB) (hR : 2 + 1 ≤ R.frames ∧ 8 + (3 + 11) + 40 * 2 ≤ R.locals) : CallW R s args own RX11 idx yX11_size cX11_size 3 (some .long) (Cond.code yX11_size cX11_size 3 (some .long) :: TB) (rmN 2) 0 0 2 := cwV 2 hts (TB_V hl tw_741 tw_742 tw_1 tw_743) rfl rfl rfl (by decide +kernel) hR
set_option maxHeartbeats 4000000 in
set_option maxRecDepth 100000 in
/-- may -/
theorem c_X11_may (l : Launch) (D : va_G) (cy : Nat → ClassId) (sz : Nat) (cs : List Nat) (ad : Nat → Nat) (en : Nat → va_E) (hI : SX cy cs ad en) (a b z : Int32) (hz : z = 0 ∨ z = 1)   : Met l yX11_may (Cond.code yX11_may cX11_may 4 (some .int) :: TB) (rmN 2) (va_Pc [.ref (ad 0), .int a, .int b, .int z] (Pre D cy cs ad en sz)) (va_Qi (S := Nat → va_E) (fun r en1 => SX cy cs ad en1 ∧ (∀ c, (c ≠ 10 ∧ (c < 12 ∨ 70 ≤ c)) → en1 c = en c) ∧ XMA a b z r en en1 ∧ (en1 = en ∨ LNX en1)) (PostM D cs ad) (Af cs ad sz)) 0 0 (Af cs ad sz) := by
  refine Met.ofW (cc := cX11_may) (maxL := 4) (ret := (some .int)) (by decide) rfl ?_
  intro p e s m args below meth c s₁ B hml hv
  obtain ⟨rfl, hsz, hP, hK, hD0⟩ := hv
  have hx := B.exec
  have hb := B.bytes
  have hr := B.returns
  have hts : ∀ w ∈ TB, w.before _ s = true := fun w h => atoms_spec (ws := _ :: TB) B.pre w (List.mem_cons_of_mem _ h)
  have hown : s.vm.findClass RX11 = some m.cls := findClass_of_methodNamed B.named
  have hlocks := B.notSynchronized
  have hh : Hp D (Af cs ad sz) (Af cs ad sz) s.heap s.heap [] cs ad en := ⟨hP, Af_self hD0, va_S.rf⟩
  have hA : ∀ q : Nat, s.heap.size ≤ q → Af cs ad sz q := fun q h => Or.inr (by rw [hsz] at h; exact h)
  have hl := lv_entry ([.ref (ad 0), .int a, .int b, .int z]) (n := 4) (Nat.le_of_ble_eq_true rfl)
  rw [lg_entry_eq]
  generalize (lg_sl ([.ref (ad 0), .int a, .int b, .int z]) ++ List.replicate (4 - (lg_sl ([.ref (ad 0), .int a, .int b, .int z])).length) Slot.unset).toArray = ls at hl ⊢
  have hl : lv_has ls 4 [(0, .ref (ad 0)), (1, .int a), (2, .int b), (3, .int z)] := hl
  have hf0 : ∀ c, (c ≠ 10 ∧ (c < 12 ∨ 70 ≤ c)) → en c = en c := fun _ _ => rfl
  obtain ⟨wc_599, lf_599, es599, p0_599⟩ := get_A hI
  obtain ⟨cnt, d, mm, es600, hcnt, hd2, hd3, hmm⟩ := get_T hI
  obtain ⟨f10, es601, hb10⟩ := get_alw hI
  refine lv_aload_n hx hb dX11_may_0 rfl (lv_at hl 0 rfl) ?_
  refine hp_get hx hb hts ix11 hown hK hh (q := 0) rfl (hI.1 _ (by decide)) es599 rfl 0 (by decide) (hts _ tw_245) (fun _ h9 => h9) rfl dX11_may_1 ?_
  refine lv_iload_n hx hb dX11_may_4 rfl (lv_at hl 1 rfl) ?_
  refine hp_callRi (va_runV (As := [.int a]) (rest := []) ⟨hx, hb, hml, hown, hts⟩ (c_X8_has l D cy _ cs ad en (hI.1 _ (by decide)) cnt d mm hcnt hd2 hd3 hmm a es600) (kw_X8_has hts tw_412 ⟨by decide, by decide⟩) (preV_of hh hK (hI.1 _ (by decide)) es600 rfl) rfl rfl hl.1 rfl (lv_room (Nat.le_of_ble_eq_true rfl)) dX11_may_5 ⟨Nat.le_of_ble_eq_true rfl, Nat.le_of_ble_eq_true rfl⟩) hh hA (fun r_602 H locs hw_602 hh => ?_)
  rcases Decidable.em (0 ≤ a.toInt ∧ a.toInt < (cnt : Int)) with hp_602 | hp_602
  · obtain rfl : r_602 = 1 := Eq.trans hw_602 (if_pos hp_602)
    obtain ⟨T_602, rfl, hT_602⟩ := has_nat hp_602
    refine lv_if_eq (tgt := 22) hx hb dX11_may_8 (by decide) (fun c_0 => absurd c_0 (by decide)) (fun _ => ?_)
    refine lv_aload_n hx hb dX11_may_11 rfl (lv_at hl 0 rfl) ?_
    refine hp_get hx hb hts ix11 hown hK hh (q := 0) rfl (hI.1 _ (by decide)) es599 rfl 0 (by decide) (hts _ tw_245) (fun _ h9 => h9) rfl dX11_may_12 ?_
    refine lv_iload_n hx hb dX11_may_15 rfl (lv_at hl 2 rfl) ?_
    refine hp_callRi (va_runV (As := [.int b]) (rest := []) ⟨hx, hb, hml, hown, hts⟩ (c_X8_has l D cy _ cs ad en (hI.1 _ (by decide)) cnt d mm hcnt hd2 hd3 hmm b es600) (kw_X8_has hts tw_412 ⟨by decide, by decide⟩) (preV_of hh hK (hI.1 _ (by decide)) es600 rfl) rfl rfl hl.1 rfl (lv_room (Nat.le_of_ble_eq_true rfl)) dX11_may_16 ⟨Nat.le_of_ble_eq_true rfl, Nat.le_of_ble_eq_true rfl⟩) hh hA (fun r_603 H locs hw_603 hh => ?_)
    rcases Decidable.em (0 ≤ b.toInt ∧ b.toInt < (cnt : Int)) with hp_603 | hp_603
    · obtain rfl : r_603 = 1 := Eq.trans hw_603 (if_pos hp_603)
      obtain ⟨T_603, rfl, hT_603⟩ := has_nat hp_603
      refine lv_if_ne (tgt := 24) hx hb dX11_may_19 (by decide) (fun _ => ?_) (fun c_0 => absurd c_0 (by decide))
      refine lv_aload_n hx hb dX11_may_24 rfl (lv_at hl 0 rfl) ?_
      refine hp_get hx hb hts ix11 hown hK hh (q := 0) rfl (hI.1 _ (by decide)) es599 rfl 0 (by decide) (hts _ tw_245) (fun _ h9 => h9) rfl dX11_may_25 ?_
      refine lv_iload_n hx hb dX11_may_28 rfl (lv_at hl 1 rfl) ?_
      refine lv_iload_n hx hb dX11_may_29 rfl (lv_at hl 2 rfl) ?_
      refine hp_callRi (va_runV (As := [.int (nI T_602), .int (nI T_603)]) (rest := []) ⟨hx, hb, hml, hown, hts⟩ (c_X8_mayFollow l D cy _ cs ad en (hI.1 _ (by decide)) cnt d mm hcnt hd2 hd3 hmm (hI.1 _ (by decide)) f10 hb10 T_602 T_603 (by omega) (by omega) es600 es601) (kw_X8_mayFollow hts tw_433 ⟨by decide, by decide⟩) (preV_of hh hK (hI.1 _ (by decide)) es600 rfl) rfl rfl hl.1 rfl (lv_room (Nat.le_of_ble_eq_true rfl)) dX11_may_30 ⟨Nat.le_of_ble_eq_true rfl, Nat.le_of_ble_eq_true rfl⟩) hh hA (fun r_604 H locs hw_604 hh => ?_)
      rcases hb10 (T_602 * 6 + T_603) (a6 (by omega) (by omega)) with hz_604 | hz_604
      · obtain rfl : r_604 = 0 := Eq.trans hw_604 hz_604
        refine lv_iload_n hx hb dX11_may_33 rfl (lv_at hl 3 rfl) ?_
        refine lv_icmp_ne (tgt := 39) hx hb dX11_may_34 (by decide) (fun c_605 => ?_) (fun c_605 => ?_)
        · refine lv_aload_n hx hb dX11_may_39 rfl (lv_at hl 0 rfl) ?_
          refine hp_get hx hb hts ix11 hown hK hh (q := 0) rfl (hI.1 _ (by decide)) es599 rfl 0 (by decide) (hts _ tw_245) (fun _ h9 => h9) rfl dX11_may_40 ?_
          refine lv_iload_n hx hb dX11_may_43 rfl (lv_at hl 1 rfl) ?_
          refine lv_iload_n hx hb dX11_may_44 rfl (lv_at hl 2 rfl) ?_
          refine lv_iload_n hx hb dX11_may_45 rfl (lv_at hl 3 rfl) ?_
          refine hp_callMv (va_runV (As := [.int (nI T_602), .int (nI T_603), .int z]) (rest := []) ⟨hx, hb, hml, hown, hts⟩ (c_X8_allow l D cy _ cs ad en (hI.1 _ (by decide)) cnt d mm hcnt hd2 hd3 hmm (hI.1 _ (by decide)) f10 hb10 T_602 T_603 z (by omega) (by omega) hz es600 es601) (kw_X8_allow hts tw_437 ⟨by decide, by decide⟩) (preV_of hh hK (hI.1 _ (by decide)) es600 rfl) rfl rfl hl.1 rfl (lv_room (Nat.le_of_ble_eq_true rfl)) dX11_may_46 ⟨Nat.le_of_ble_eq_true rfl, Nat.le_of_ble_eq_true rfl⟩) hh hA (fun H locs en_606 hw_606 hh => ?_)
          have hen_606 := hw_606
          have es599_606 : en_606 0 = .inr (10, [.ref (ad 1), .ref (ad 12), .ref (ad 70), .ref (ad 74), .ref (ad 75), .ref (ad 76), .int (nI wc_599), .int lf_599]) := by rw [hen_606, va_up_ne _ _ (by decide)]; exact es599
          have es600_606 : en_606 1 = .inr (7, [.ref (ad 2), .ref (ad 3), .ref (ad 10), .ref (ad 11), .int (nI cnt), .int (nI d), .int (nI mm)]) := by rw [hen_606, va_up_ne _ _ (by decide)]; exact es600
          have es601_606 : en_606 10 = .inl (cy 2, 36, .inl (upd f10 (T_602 * 6 + T_603) z)) := by rw [hen_606]; exact va_up_self _ _ _
          have hI_606 : SX cy cs ad en_606 := by rw [hen_606]; exact up_alw hI ⟨(upd f10 (T_602 * 6 + T_603) z), rfl, (bits_upd hb10 hz)⟩
          have hf_606 : ∀ c, (c ≠ 10 ∧ (c < 12 ∨ 70 ≤ c)) → en_606 c = en c := fun c hc => Eq.trans (show en_606 c = en c from by rw [hen_606, va_up_ne _ _ (by omega)]) (hf0 c hc)
          refine lv_aload_n hx hb dX11_may_49 rfl (lv_at hl 0 rfl) ?_
          refine hp_get hx hb hts ix11 hown hK hh (q := 0) rfl (hI.1 _ (by decide)) es599_606 rfl 1 (by decide) (hts _ tw_246) (fun _ h9 => h9) rfl dX11_may_50 ?_
          obtain ⟨hw_607, es607, p0_607⟩ := get_L hI_606
          refine hp_callMv (va_runV (As := []) (rest := []) ⟨hx, hb, hml, hown, hts⟩ (c_X2_forget l D cy _ cs ad en_606 hI_606  ) (kw_X2_forget hts tw_281 ⟨by decide, by decide⟩) (preV_of hh hK (hI.1 _ (by decide)) es607 rfl) rfl rfl hl.1 rfl (lv_room (Nat.le_of_ble_eq_true rfl)) dX11_may_53 ⟨Nat.le_of_ble_eq_true rfl, Nat.le_of_ble_eq_true rfl⟩) hh hA (fun H locs en_608 hw_608 hh => ?_)
          obtain ⟨hI_608, hu_608, hx_608⟩ := hw_608
          have hf_608 : ∀ c, (c ≠ 10 ∧ (c < 12 ∨ 70 ≤ c)) → en_608 c = en c := fun c hc => (hu_608 c (by omega)).trans (hf_606 c hc)
          refine lv_iconst (v := 1) hx hb dX11_may_56 (by decide) ?_
          have hc4 : (rdI (en 1) 4).toInt = (cnt : Int) := by rw [show rdI (en 1) 4 = nI cnt from by rw [es600]; rfl]; exact nI_toInt (by omega)
          exact hp_iretM hx hb hr rfl hlocks hh (⟨hI_608, hf_608, (Or.inr ⟨T_602, T_603, rfl, rfl, by omega, by omega, ⟨hp_602.1, by have := hp_602.2; omega⟩, ⟨hp_603.1, by have := hp_603.2; omega⟩, Or.inr ⟨fun q => c_605 (((show rdF (en 10) (T_602 * 6 + T_603) = f10 (T_602 * 6 + T_603) from by rw [es601]; rfl).trans hz_604).symm.trans q), rfl, (by rw [hu_608 10 (by omega), es601_606, es601]; rfl)⟩⟩), Or.inr (LNX_0 hx_608.1 hx_608.2)⟩) dX11_may_57
        · refine lv_iconst (v := 0) hx hb dX11_may_37 (by decide) ?_
          have hc4 : (rdI (en 1) 4).toInt = (cnt : Int) := by rw [show rdI (en 1) 4 = nI cnt from by rw [es600]; rfl]; exact nI_toInt (by omega)
          exact hp_iretM hx hb hr rfl hlocks hh (⟨hI, hf0, (Or.inr ⟨T_602, T_603, rfl, rfl, by omega, by omega, ⟨hp_602.1, by have := hp_602.2; omega⟩, ⟨hp_603.1, by have := hp_603.2; omega⟩, Or.inl ⟨((show rdF (en 10) (T_602 * 6 + T_603) = f10 (T_602 * 6 + T_603) from by rw [es601]; rfl).trans hz_604).trans c_605, rfl, rfl⟩⟩), Or.inl rfl⟩) dX11_may_38
      · obtain rfl : r_604 = 1 := Eq.trans hw_604 hz_604
        refine lv_iload_n hx hb dX11_may_33 rfl (lv_at hl 3 rfl) ?_
        refine lv_icmp_ne (tgt := 39) hx hb dX11_may_34 (by decide) (fun c_609 => ?_) (fun c_609 => ?_)
        · refine lv_aload_n hx hb dX11_may_39 rfl (lv_at hl 0 rfl) ?_
          refine hp_get hx hb hts ix11 hown hK hh (q := 0) rfl (hI.1 _ (by decide)) es599 rfl 0 (by decide) (hts _ tw_245) (fun _ h9 => h9) rfl dX11_may_40 ?_
          refine lv_iload_n hx hb dX11_may_43 rfl (lv_at hl 1 rfl) ?_
          refine lv_iload_n hx hb dX11_may_44 rfl (lv_at hl 2 rfl) ?_
          refine lv_iload_n hx hb dX11_may_45 rfl (lv_at hl 3 rfl) ?_
          refine hp_callMv (va_runV (As := [.int (nI T_602), .int (nI T_603), .int z]) (rest := []) ⟨hx, hb, hml, hown, hts⟩ (c_X8_allow l D cy _ cs ad en (hI.1 _ (by decide)) cnt d mm hcnt hd2 hd3 hmm (hI.1 _ (by decide)) f10 hb10 T_602 T_603 z (by omega) (by omega) hz es600 es601) (kw_X8_allow hts tw_437 ⟨by decide, by decide⟩) (preV_of hh hK (hI.1 _ (by decide)) es600 rfl) rfl rfl hl.1 rfl (lv_room (Nat.le_of_ble_eq_true rfl)) dX11_may_46 ⟨Nat.le_of_ble_eq_true rfl, Nat.le_of_ble_eq_true rfl⟩) hh hA (fun H locs en_610 hw_610 hh => ?_)
          have hen_610 := hw_610
          have es599_610 : en_610 0 = .inr (10, [.ref (ad 1), .ref (ad 12), .ref (ad 70), .ref (ad 74), .ref (ad 75), .ref (ad 76), .int (nI wc_599), .int lf_599]) := by rw [hen_610, va_up_ne _ _ (by decide)]; exact es599
          have es600_610 : en_610 1 = .inr (7, [.ref (ad 2), .ref (ad 3), .ref (ad 10), .ref (ad 11), .int (nI cnt), .int (nI d), .int (nI mm)]) := by rw [hen_610, va_up_ne _ _ (by decide)]; exact es600
          have es601_610 : en_610 10 = .inl (cy 2, 36, .inl (upd f10 (T_602 * 6 + T_603) z)) := by rw [hen_610]; exact va_up_self _ _ _
          have hI_610 : SX cy cs ad en_610 := by rw [hen_610]; exact up_alw hI ⟨(upd f10 (T_602 * 6 + T_603) z), rfl, (bits_upd hb10 hz)⟩
          have hf_610 : ∀ c, (c ≠ 10 ∧ (c < 12 ∨ 70 ≤ c)) → en_610 c = en c := fun c hc => Eq.trans (show en_610 c = en c from by rw [hen_610, va_up_ne _ _ (by omega)]) (hf0 c hc)
          refine lv_aload_n hx hb dX11_may_49 rfl (lv_at hl 0 rfl) ?_
          refine hp_get hx hb hts ix11 hown hK hh (q := 0) rfl (hI.1 _ (by decide)) es599_610 rfl 1 (by decide) (hts _ tw_246) (fun _ h9 => h9) rfl dX11_may_50 ?_
          obtain ⟨hw_611, es611, p0_611⟩ := get_L hI_610
          refine hp_callMv (va_runV (As := []) (rest := []) ⟨hx, hb, hml, hown, hts⟩ (c_X2_forget l D cy _ cs ad en_610 hI_610  ) (kw_X2_forget hts tw_281 ⟨by decide, by decide⟩) (preV_of hh hK (hI.1 _ (by decide)) es611 rfl) rfl rfl hl.1 rfl (lv_room (Nat.le_of_ble_eq_true rfl)) dX11_may_53 ⟨Nat.le_of_ble_eq_true rfl, Nat.le_of_ble_eq_true rfl⟩) hh hA (fun H locs en_612 hw_612 hh => ?_)
          obtain ⟨hI_612, hu_612, hx_612⟩ := hw_612
          have hf_612 : ∀ c, (c ≠ 10 ∧ (c < 12 ∨ 70 ≤ c)) → en_612 c = en c := fun c hc => (hu_612 c (by omega)).trans (hf_610 c hc)
          refine lv_iconst (v := 1) hx hb dX11_may_56 (by decide) ?_
          have hc4 : (rdI (en 1) 4).toInt = (cnt : Int) := by rw [show rdI (en 1) 4 = nI cnt from by rw [es600]; rfl]; exact nI_toInt (by omega)
          exact hp_iretM hx hb hr rfl hlocks hh (⟨hI_612, hf_612, (Or.inr ⟨T_602, T_603, rfl, rfl, by omega, by omega, ⟨hp_602.1, by have := hp_602.2; omega⟩, ⟨hp_603.1, by have := hp_603.2; omega⟩, Or.inr ⟨fun q => c_609 (((show rdF (en 10) (T_602 * 6 + T_603) = f10 (T_602 * 6 + T_603) from by rw [es601]; rfl).trans hz_604).symm.trans q), rfl, (by rw [hu_612 10 (by omega), es601_610, es601]; rfl)⟩⟩), Or.inr (LNX_0 hx_612.1 hx_612.2)⟩) dX11_may_57
        · refine lv_iconst (v := 0) hx hb dX11_may_37 (by decide) ?_
          have hc4 : (rdI (en 1) 4).toInt = (cnt : Int) := by rw [show rdI (en 1) 4 = nI cnt from by rw [es600]; rfl]; exact nI_toInt (by omega)
          exact hp_iretM hx hb hr rfl hlocks hh (⟨hI, hf0, (Or.inr ⟨T_602, T_603, rfl, rfl, by omega, by omega, ⟨hp_602.1, by have := hp_602.2; omega⟩, ⟨hp_603.1, by have := hp_603.2; omega⟩, Or.inl ⟨((show rdF (en 10) (T_602 * 6 + T_603) = f10 (T_602 * 6 + T_603) from by rw [es601]; rfl).trans hz_604).trans c_609, rfl, rfl⟩⟩), Or.inl rfl⟩) dX11_may_38
    · obtain rfl : r_603 = 0 := Eq.trans hw_603 (if_neg hp_603)
      refine lv_if_ne (tgt := 24) hx hb dX11_may_19 (by decide) (fun c_0 => absurd c_0 (by decide)) (fun _ => ?_)
      refine lv_iconst (v := (-1)) hx hb dX11_may_22 (by decide) ?_
      have hc4 : (rdI (en 1) 4).toInt = (cnt : Int) := by rw [show rdI (en 1) 4 = nI cnt from by rw [es600]; rfl]; exact nI_toInt (by omega)
      exact hp_iretM hx hb hr rfl hlocks hh (⟨hI, hf0, (Or.inl ⟨fun q => hp_603 ⟨q.2.1, by have := q.2.2; omega⟩, rfl, rfl⟩), Or.inl rfl⟩) dX11_may_23
  · obtain rfl : r_602 = 0 := Eq.trans hw_602 (if_neg hp_602)
    refine lv_if_eq (tgt := 22) hx hb dX11_may_8 (by decide) (fun _ => ?_) (fun c_0 => absurd c_0 (by decide))
    refine lv_iconst (v := (-1)) hx hb dX11_may_22 (by decide) ?_
    have hc4 : (rdI (en 1) 4).toInt = (cnt : Int) := by rw [show rdI (en 1) 4 = nI cnt from by rw [es600]; rfl]; exact nI_toInt (by omega)
    exact hp_iretM hx hb hr rfl hlocks hh (⟨hI, hf0, (Or.inl ⟨fun q => hp_602 ⟨q.1.1, by have := q.1.2; omega⟩, rfl, rfl⟩), Or.inl rfl⟩) dX11_may_23
theorem kw_X11_may {R : Room} {s : State} {args : Array Value} {own : String} {idx : Nat} (hts : ∀ w ∈ TB, w.before args s = true) (hl : Cond.methodLink own idx yX11_may ∈ TB) (hR : 2 + 1 ≤ R.frames ∧ 8 + (4 + 11) + 40 * 2 ≤ R.locals) : CallW R s args own RX11 idx yX11_may cX11_may 4 (some .int) (Cond.code yX11_may cX11_may 4 (some .int) :: TB) (rmN 2) 0 0 3 := cwV 3 hts (TB_V hl tw_430 tw_431 tw_1 tw_432) rfl rfl rfl (by decide +kernel) hR
set_option maxHeartbeats 4000000 in
set_option maxRecDepth 100000 in
/-- told -/
theorem c_X11_told (l : Launch) (D : va_G) (cy : Nat → ClassId) (sz : Nat) (cs : List Nat) (ad : Nat → Nat) (en : Nat → va_E) (hI : SX cy cs ad en) (z : Int32)   : Met l yX11_told (Cond.code yX11_told cX11_told 2 (some .int) :: TB) (rmN 2) (va_Pc [.ref (ad 0), .int z] (Pre D cy cs ad en sz)) (va_Qi (S := Unit) (fun r _ => XTO z r en) (fun _ _ => True) (Nf sz)) 0 0 (Nf sz) := by
  refine Met.ofW (cc := cX11_told) (maxL := 2) (ret := (some .int)) (by decide) rfl ?_
  intro p e s m args below meth c s₁ B hml hv
  obtain ⟨rfl, hsz, hP, hK, hD0⟩ := hv
  have hx := B.exec
  have hb := B.bytes
  have hr := B.returns
  have hts : ∀ w ∈ TB, w.before _ s = true := fun w h => atoms_spec (ws := _ :: TB) B.pre w (List.mem_cons_of_mem _ h)
  have hown : s.vm.findClass RX11 = some m.cls := findClass_of_methodNamed B.named
  have hlocks := B.notSynchronized
  have hh : Hp D (Nf sz) (fun _ => True) s.heap s.heap [] cs ad en := ⟨hP, hD0, va_S.rf⟩
  have hA : ∀ q : Nat, s.heap.size ≤ q → Nf sz q := fun q h => by rw [hsz] at h; exact h
  have hl := lv_entry ([.ref (ad 0), .int z]) (n := 2) (Nat.le_of_ble_eq_true rfl)
  rw [lg_entry_eq]
  generalize (lg_sl ([.ref (ad 0), .int z]) ++ List.replicate (2 - (lg_sl ([.ref (ad 0), .int z])).length) Slot.unset).toArray = ls at hl ⊢
  have hl : lv_has ls 2 [(0, .ref (ad 0)), (1, .int z)] := hl
  obtain ⟨wc_613, lf_613, es613, p0_613⟩ := get_A hI
  obtain ⟨cnt, d, mm, es614, hcnt, hd2, hd3, hmm⟩ := get_T hI
  obtain ⟨f10, es615, hb10⟩ := get_alw hI
  refine lv_iload_n hx hb dX11_told_0 rfl (lv_at hl 1 rfl) ?_
  by_cases q_616_0 : z = 0
  · refine lv_tableIn (off := 35) (tgt := 36) hx hb dX11_told_1 (by rw [q_616_0]; decide) (by rw [q_616_0]; decide) (by rw [q_616_0]; decide) (by decide) ?_
    refine lv_aload_n hx hb dX11_told_36 rfl (lv_at hl 0 rfl) ?_
    refine hp_get hx hb hts ix11 hown hK hh (q := 0) rfl (hI.1 _ (by decide)) es613 rfl 0 (by decide) (hts _ tw_245) (fun _ h9 => h9) rfl dX11_told_37 ?_
    refine hp_callRi (va_runV (As := []) (rest := []) ⟨hx, hb, hml, hown, hts⟩ (c_X8_count l D cy _ cs ad en (hI.1 _ (by decide)) cnt d mm hcnt hd2 hd3 hmm  es614) (kw_X8_count hts tw_318 ⟨by decide, by decide⟩) (preV_of hh hK (hI.1 _ (by decide)) es614 rfl) rfl rfl hl.1 rfl (lv_room (Nat.le_of_ble_eq_true rfl)) dX11_told_40 ⟨Nat.le_of_ble_eq_true rfl, Nat.le_of_ble_eq_true rfl⟩) hh hA (fun r_617 H locs hw_617 hh => ?_)
    obtain rfl : r_617 = (nI cnt) := hw_617
    exact hp_iretR hx hb hr rfl hlocks hsz hh ((Or.inl ⟨q_616_0, (by rw [es614]; rfl)⟩)) dX11_told_43
  by_cases q_616_1 : z = 1
  · refine lv_tableIn (off := 43) (tgt := 44) hx hb dX11_told_1 (by rw [q_616_1]; decide) (by rw [q_616_1]; decide) (by rw [q_616_1]; decide) (by decide) ?_
    refine lv_aload_n hx hb dX11_told_44 rfl (lv_at hl 0 rfl) ?_
    refine hp_get hx hb hts ix11 hown hK hh (q := 0) rfl (hI.1 _ (by decide)) es613 rfl 0 (by decide) (hts _ tw_245) (fun _ h9 => h9) rfl dX11_told_45 ?_
    refine hp_callRi (va_runV (As := []) (rest := []) ⟨hx, hb, hml, hown, hts⟩ (c_X8_dimension l D cy _ cs ad en (hI.1 _ (by decide)) cnt d mm hcnt hd2 hd3 hmm  es614) (kw_X8_dimension hts tw_868 ⟨by decide, by decide⟩) (preV_of hh hK (hI.1 _ (by decide)) es614 rfl) rfl rfl hl.1 rfl (lv_room (Nat.le_of_ble_eq_true rfl)) dX11_told_48 ⟨Nat.le_of_ble_eq_true rfl, Nat.le_of_ble_eq_true rfl⟩) hh hA (fun r_618 H locs hw_618 hh => ?_)
    obtain rfl : r_618 = (nI d) := hw_618
    exact hp_iretR hx hb hr rfl hlocks hsz hh ((Or.inr (Or.inl ⟨q_616_1, (by rw [es614]; rfl)⟩))) dX11_told_51
  by_cases q_616_2 : z = 2
  · refine lv_tableIn (off := 51) (tgt := 52) hx hb dX11_told_1 (by rw [q_616_2]; decide) (by rw [q_616_2]; decide) (by rw [q_616_2]; decide) (by decide) ?_
    refine lv_aload_n hx hb dX11_told_52 rfl (lv_at hl 0 rfl) ?_
    refine hp_get hx hb hts ix11 hown hK hh (q := 0) rfl (hI.1 _ (by decide)) es613 rfl 0 (by decide) (hts _ tw_245) (fun _ h9 => h9) rfl dX11_told_53 ?_
    refine hp_callRi (va_runV (As := []) (rest := []) ⟨hx, hb, hml, hown, hts⟩ (c_X8_modulus l D cy _ cs ad en (hI.1 _ (by decide)) cnt d mm hcnt hd2 hd3 hmm  es614) (kw_X8_modulus hts tw_561 ⟨by decide, by decide⟩) (preV_of hh hK (hI.1 _ (by decide)) es614 rfl) rfl rfl hl.1 rfl (lv_room (Nat.le_of_ble_eq_true rfl)) dX11_told_56 ⟨Nat.le_of_ble_eq_true rfl, Nat.le_of_ble_eq_true rfl⟩) hh hA (fun r_619 H locs hw_619 hh => ?_)
    obtain rfl : r_619 = (nI mm) := hw_619
    exact hp_iretR hx hb hr rfl hlocks hsz hh ((Or.inr (Or.inr (Or.inl ⟨q_616_2, (by rw [es614]; rfl)⟩)))) dX11_told_59
  by_cases q_616_3 : z = 3
  · refine lv_tableIn (off := 59) (tgt := 60) hx hb dX11_told_1 (by rw [q_616_3]; decide) (by rw [q_616_3]; decide) (by rw [q_616_3]; decide) (by decide) ?_
    refine lv_aload_n hx hb dX11_told_60 rfl (lv_at hl 0 rfl) ?_
    refine hp_get hx hb hts ix11 hown hK hh (q := 0) rfl (hI.1 _ (by decide)) es613 rfl 6 (by decide) (hts _ tw_251) (fun _ h9 => h9) rfl dX11_told_61 ?_
    exact hp_iretR hx hb hr rfl hlocks hsz hh ((Or.inr (Or.inr (Or.inr (Or.inl ⟨q_616_3, (by rw [es613]; rfl)⟩))))) dX11_told_64
  by_cases q_616_4 : z = 4
  · refine lv_tableIn (off := 64) (tgt := 65) hx hb dX11_told_1 (by rw [q_616_4]; decide) (by rw [q_616_4]; decide) (by rw [q_616_4]; decide) (by decide) ?_
    refine lv_aload_n hx hb dX11_told_65 rfl (lv_at hl 0 rfl) ?_
    refine hp_get hx hb hts ix11 hown hK hh (q := 0) rfl (hI.1 _ (by decide)) es613 rfl 0 (by decide) (hts _ tw_245) (fun _ h9 => h9) rfl dX11_told_66 ?_
    refine hp_callRi (va_runV (As := []) (rest := []) ⟨hx, hb, hml, hown, hts⟩ (c_X8_countAllowedPairs l D cy _ cs ad en (hI.1 _ (by decide)) cnt d mm hcnt hd2 hd3 hmm (hI.1 _ (by decide)) f10 hb10 es614 es615) (kw_X8_countAllowedPairs hts tw_869 ⟨by decide, by decide⟩) (preV_of hh hK (hI.1 _ (by decide)) es614 rfl) rfl rfl hl.1 rfl (lv_room (Nat.le_of_ble_eq_true rfl)) dX11_told_69 ⟨Nat.le_of_ble_eq_true rfl, Nat.le_of_ble_eq_true rfl⟩) hh hA (fun r_620 H locs hw_620 hh => ?_)
    exact hp_iretR hx hb hr rfl hlocks hsz hh ((Or.inr (Or.inr (Or.inr (Or.inr (Or.inl ⟨q_616_4, (by rw [show rdI (en 1) 4 = nI cnt from by rw [es614]; rfl, nI_clamp (n := cnt) (by omega), show rdF (en 10) = f10 from by rw [es615]; rfl]; exact hw_620)⟩)))))) dX11_told_72
  refine lv_tableOut (tgt := 73) hx hb dX11_told_1 (tb_out 5 (by decide) (by decide) (fun j hj => by rcases (show j = 0 ∨ j = 1 ∨ j = 2 ∨ j = 3 ∨ j = 4 by omega) with rfl | rfl | rfl | rfl | rfl <;> first | exact lv_neT q_616_0 (by decide) | exact lv_neT q_616_1 (by decide) | exact lv_neT q_616_2 (by decide) | exact lv_neT q_616_3 (by decide) | exact lv_neT q_616_4 (by decide))) (by decide) ?_
  refine lv_bipush (v := (-2)) hx hb dX11_told_73 (by decide) ?_
  exact hp_iretR hx hb hr rfl hlocks hsz hh ((Or.inr (Or.inr (Or.inr (Or.inr (Or.inr (⟨q_616_0, q_616_1, q_616_2, q_616_3, q_616_4, rfl⟩))))))) dX11_told_75
theorem kw_X11_told {R : Room} {s : State} {args : Array Value} {own : String} {idx : Nat} (hts : ∀ w ∈ TB, w.before args s = true) (hl : Cond.methodLink own idx yX11_told ∈ TB) (hR : 2 + 1 ≤ R.frames ∧ 8 + (2 + 11) + 40 * 2 ≤ R.locals) : CallW R s args own RX11 idx yX11_told cX11_told 2 (some .int) (Cond.code yX11_told cX11_told 2 (some .int) :: TB) (rmN 2) 0 0 1 := cwV 1 hts (TB_V hl tw_865 tw_866 tw_1 tw_867) rfl rfl rfl (by decide +kernel) hR
set_option maxHeartbeats 4000000 in
set_option maxRecDepth 100000 in
/-- history -/
theorem c_X11_history (l : Launch) (D : va_G) (cy : Nat → ClassId) (sz : Nat) (cs : List Nat) (ad : Nat → Nat) (en : Nat → va_E) (hI : SX cy cs ad en)    : Met l yX11_history (Cond.code yX11_history cX11_history 1 (some .int) :: TB) (rmN 0) (va_Pc [.ref (ad 0)] (Pre D cy cs ad en sz)) (va_Qi (S := Unit) (fun r _ => r = rdI (en 76) 0) (fun _ _ => True) (Nf sz)) 0 0 (Nf sz) := by
  refine Met.ofW (cc := cX11_history) (maxL := 1) (ret := (some .int)) (by decide) rfl ?_
  intro p e s m args below meth c s₁ B hml hv
  obtain ⟨rfl, hsz, hP, hK, hD0⟩ := hv
  have hx := B.exec
  have hb := B.bytes
  have hr := B.returns
  have hts : ∀ w ∈ TB, w.before _ s = true := fun w h => atoms_spec (ws := _ :: TB) B.pre w (List.mem_cons_of_mem _ h)
  have hown : s.vm.findClass RX11 = some m.cls := findClass_of_methodNamed B.named
  have hlocks := B.notSynchronized
  have hh : Hp D (Nf sz) (fun _ => True) s.heap s.heap [] cs ad en := ⟨hP, hD0, va_S.rf⟩
  have hA : ∀ q : Nat, s.heap.size ≤ q → Nf sz q := fun q h => by rw [hsz] at h; exact h
  have hl := lv_entry ([.ref (ad 0)]) (n := 1) (Nat.le_of_ble_eq_true rfl)
  rw [lg_entry_eq]
  generalize (lg_sl ([.ref (ad 0)]) ++ List.replicate (1 - (lg_sl ([.ref (ad 0)])).length) Slot.unset).toArray = ls at hl ⊢
  have hl : lv_has ls 1 [(0, .ref (ad 0))] := hl
  obtain ⟨wc_621, lf_621, es621, p0_621⟩ := get_A hI
  refine lv_aload_n hx hb dX11_history_0 rfl (lv_at hl 0 rfl) ?_
  refine hp_get hx hb hts ix11 hown hK hh (q := 0) rfl (hI.1 _ (by decide)) es621 rfl 5 (by decide) (hts _ tw_250) (fun _ h9 => h9) rfl dX11_history_1 ?_
  obtain ⟨hi_622, es622⟩ := get_tr hI
  refine hp_get hx hb hts ix9 hown hK hh (q := 76) rfl (hI.1 _ (by decide)) es622 rfl 0 (by decide) (hts _ tw_202) (fun _ h9 => h9) rfl dX11_history_4 ?_
  exact hp_iretR hx hb hr rfl hlocks hsz hh (by rw [es622]; rfl) dX11_history_7
theorem kw_X11_history {R : Room} {s : State} {args : Array Value} {own : String} {idx : Nat} (hts : ∀ w ∈ TB, w.before args s = true) (hl : Cond.methodLink own idx yX11_history ∈ TB) (hR : 0 + 1 ≤ R.frames ∧ 8 + (1 + 11) + 40 * 0 ≤ R.locals) : CallW R s args own RX11 idx yX11_history cX11_history 1 (some .int) (Cond.code yX11_history cX11_history 1 (some .int) :: TB) (rmN 0) 0 0 0 := cwV 0 hts (TB_V hl tw_857 tw_858 tw_1 tw_859) rfl rfl rfl (by decide +kernel) hR
set_option maxHeartbeats 4000000 in
set_option maxRecDepth 100000 in
/-- fault -/
theorem c_X11_fault (l : Launch) (D : va_G) (cy : Nat → ClassId) (sz : Nat) (cs : List Nat) (ad : Nat → Nat) (en : Nat → va_E) (hI : SX cy cs ad en)    : Met l yX11_fault (Cond.code yX11_fault cX11_fault 1 (some .int) :: TB) (rmN 0) (va_Pc [.ref (ad 0)] (Pre D cy cs ad en sz)) (va_Qi (S := Unit) (fun _ _ => True) (fun _ _ => True) (Nf sz)) 0 0 (Nf sz) := by
  refine Met.ofW (cc := cX11_fault) (maxL := 1) (ret := (some .int)) (by decide) rfl ?_
  intro p e s m args below meth c s₁ B hml hv
  obtain ⟨rfl, hsz, hP, hK, hD0⟩ := hv
  have hx := B.exec
  have hb := B.bytes
  have hr := B.returns
  have hts : ∀ w ∈ TB, w.before _ s = true := fun w h => atoms_spec (ws := _ :: TB) B.pre w (List.mem_cons_of_mem _ h)
  have hown : s.vm.findClass RX11 = some m.cls := findClass_of_methodNamed B.named
  have hlocks := B.notSynchronized
  have hh : Hp D (Nf sz) (fun _ => True) s.heap s.heap [] cs ad en := ⟨hP, hD0, va_S.rf⟩
  have hA : ∀ q : Nat, s.heap.size ≤ q → Nf sz q := fun q h => by rw [hsz] at h; exact h
  have hl := lv_entry ([.ref (ad 0)]) (n := 1) (Nat.le_of_ble_eq_true rfl)
  rw [lg_entry_eq]
  generalize (lg_sl ([.ref (ad 0)]) ++ List.replicate (1 - (lg_sl ([.ref (ad 0)])).length) Slot.unset).toArray = ls at hl ⊢
  have hl : lv_has ls 1 [(0, .ref (ad 0))] := hl
  obtain ⟨wc_623, lf_623, es623, p0_623⟩ := get_A hI
  refine lv_aload_n hx hb dX11_fault_0 rfl (lv_at hl 0 rfl) ?_
  refine hp_get hx hb hts ix11 hown hK hh (q := 0) rfl (hI.1 _ (by decide)) es623 rfl 7 (by decide) (hts _ tw_252) (fun _ h9 => h9) rfl dX11_fault_1 ?_
  exact hp_iretR hx hb hr rfl hlocks hsz hh (trivial) dX11_fault_4
theorem kw_X11_fault {R : Room} {s : State} {args : Array Value} {own : String} {idx : Nat} (hts : ∀ w ∈ TB, w.before args s = true) (hl : Cond.methodLink own idx yX11_fault ∈ TB) (hR : 0 + 1 ≤ R.frames ∧ 8 + (1 + 11) + 40 * 0 ≤ R.locals) : CallW R s args own RX11 idx yX11_fault cX11_fault 1 (some .int) (Cond.code yX11_fault cX11_fault 1 (some .int) :: TB) (rmN 0) 0 0 0 := cwV 0 hts (TB_V hl tw_861 tw_862 tw_1 tw_863) rfl rfl rfl (by decide +kernel) hR
