set_option maxHeartbeats 4000000 in
set_option maxRecDepth 100000 in
/-- closed -/
theorem c_X12_closed (l : Launch) (D : va_G) (cy : Nat → ClassId) (sz : Nat) (cs : List Nat) (ad : Nat → Nat) (en : Nat → va_E) (hI : RX cy cs ad en) (z9 : Int32) (hCX : CHX en)   : Met l yX12_closed (Cond.code yX12_closed cX12_closed 4 (some .int) :: TB) (rmN 2) (va_Pc [.ref (ad 0), .int z9] (Pre D cy cs ad en sz)) (va_Qi (S := Nat → va_E) (fun r en1 => RX cy cs ad en1 ∧ (∀ c, (c ≠ 6) → en1 c = en c)) (PostM D cs ad) (Af cs ad sz)) 0 0 (Af cs ad sz) := by
  refine Met.ofW (cc := cX12_closed) (maxL := 4) (ret := (some .int)) (by decide) rfl ?_
  intro p e s m args below meth c s₁ B hml hv
  obtain ⟨rfl, hsz, hP, hK, hD0⟩ := hv
  have hx := B.exec
  have hb := B.bytes
  have hr := B.returns
  have hts : ∀ w ∈ TB, w.before _ s = true := fun w h => atoms_spec (ws := _ :: TB) B.pre w (List.mem_cons_of_mem _ h)
  have hown : s.vm.findClass RX12 = some m.cls := findClass_of_methodNamed B.named
  have hlocks := B.notSynchronized
  have hh : Hp D (Af cs ad sz) (Af cs ad sz) s.heap s.heap [] cs ad en := ⟨hP, Af_self hD0, va_S.rf⟩
  have hA : ∀ q : Nat, s.heap.size ≤ q → Af cs ad sz q := fun q h => Or.inr (by rw [hsz] at h; exact h)
  have hl := lv_entry ([.ref (ad 0), .int z9]) (n := 4) (Nat.le_of_ble_eq_true rfl)
  rw [lg_entry_eq]
  generalize (lg_sl ([.ref (ad 0), .int z9]) ++ List.replicate (4 - (lg_sl ([.ref (ad 0), .int z9])).length) Slot.unset).toArray = ls at hl ⊢
  have hl : lv_has ls 4 [(0, .ref (ad 0)), (1, .int z9)] := hl
  have hf0 : ∀ c, (c ≠ 6) → en c = en c := fun _ _ => rfl
  obtain ⟨fa, hi, wd, mo, tb, dp, many, grt, lst, nou, rm, rb, pr, wo, es1739, hwd2, hwd3, hmo, htb, hwo⟩ := getr_M hI
  refine lv_iload_n hx hb dX12_closed_0 rfl (lv_at hl 1 rfl) ?_
  refine lv_i2l hx hb dX12_closed_1 rfl ?_
  refine lv_lconst (v := 0) hx hb dX12_closed_2 (by decide) ?_
  refine lv_ldc2 hx hb hown (hts _ tw_1141) dX12_closed_3 ?_
  refine hp_callRi (va_runS (As := [.long z9.toInt64, .long 0, .long 4]) (rest := []) ⟨hx, hb, hml, hown, hts⟩ (c_X12_within l D cy _ cs ad en z9.toInt64 0 4) (kw_X12_within hts tw_985 ⟨by decide, by decide⟩) (preS_of hh hK) rfl rfl hl.1 rfl (lv_room (Nat.le_of_ble_eq_true rfl)) dX12_closed_6 ⟨Nat.le_of_ble_eq_true rfl, Nat.le_of_ble_eq_true rfl⟩) hh hA (fun r_1740 H locs hw_1740 hh => ?_)
  rcases Decidable.em (wi z9 0 4) with hp_1740 | hp_1740
  · obtain rfl : r_1740 = 1 := Eq.trans hw_1740 (if_pos ((wj_32 (by decide) (by decide)).mpr hp_1740))
    obtain ⟨N_1740, rfl, hA_1740, hB_1740⟩ := wi_natB hp_1740 0 4 (by decide) (by decide)
    refine lv_if_ne (tgt := 15) hx hb dX12_closed_9 (by decide) (fun _ => ?_) (fun c_0 => absurd c_0 (by decide))
    refine lv_aload_n hx hb dX12_closed_15 rfl (lv_at hl 0 rfl) ?_
    refine hp_get hx hb hts ix12 hown hK hh (q := 0) rfl (hI.1 _ (by decide)) es1739 rfl 25 (by decide) (hts _ tw_904) (fun _ h9 => h9) rfl dX12_closed_16 ?_
    refine lv_bipush (v := (-9)) hx hb dX12_closed_19 (by decide) ?_
    refine lv_icmp_ne (tgt := 27) hx hb dX12_closed_21 (by decide) (fun c_1741 => ?_) (fun c_1741 => ?_)
    · obtain ⟨P9, hP1, hP2, hPe, hCH⟩ := CHX_n9 hCX (show rdI (en 0) 25 = pr from by rw [es1739]; rfl) c_1741
      have hfx_1742 : pr = nI P9 := (show pr = rdI (en 0) 25 from by rw [es1739]; rfl).trans (hCH.2.1)
      rw [hfx_1742] at es1739
      refine lv_iconst (v := 0) hx hb dX12_closed_27 (by decide) ?_
      refine lv_istore_n (lv' := [(2, .int 0), (0, .ref (ad 0)), (1, .int (nI N_1740))]) hx hb dX12_closed_28 rfl hl (by decide) rfl (fun ls hl => ?_)
      refine lv_iload_n hx hb dX12_closed_29 rfl (lv_at hl 2 rfl) ?_
      by_cases q_1743_0 : (nI N_1740) = 0
      · refine lv_tableIn (off := 30) (tgt := 60) hx hb dX12_closed_30 (by rw [q_1743_0]; decide) (by rw [q_1743_0]; decide) (by rw [q_1743_0]; decide) (by decide) ?_
        refine lv_aload_n hx hb dX12_closed_60 rfl (lv_at hl 1 rfl) ?_
        refine hp_get hx hb hts ix12 hown hK hh (q := 0) rfl (hI.1 _ (by decide)) es1739 rfl 25 (by decide) (hts _ tw_904) (fun _ h9 => h9) rfl dX12_closed_61 ?_
        exact hp_iretM hx hb hr rfl hlocks hh (⟨hI, hf0⟩) dX12_closed_64
      by_cases q_1743_1 : (nI N_1740) = 1
      · refine lv_tableIn (off := 35) (tgt := 65) hx hb dX12_closed_30 (by rw [q_1743_1]; decide) (by rw [q_1743_1]; decide) (by rw [q_1743_1]; decide) (by decide) ?_
        refine lv_iconst (v := 0) hx hb dX12_closed_65 (by decide) ?_
        refine lv_istore_n (lv' := [(3, .int 0), (2, .int 0), (0, .ref (ad 0)), (1, .int (nI N_1740))]) hx hb dX12_closed_66 rfl hl (by decide) rfl (fun ls hl => ?_)
        have loop_1744 : ∀ (fu j1744 : Nat) (no1744 : Int32)  (ls : Array Slot) (H : Heap) (locs : List Loc), 0 ≤ j1744 → j1744 ≤ P9 → P9 < j1744 + fu →   lv_has ls 4 [(3, .int (nI j1744)), (2, .int no1744), (0, .ref (ad 0)), (1, .int (nI N_1740))] → Hp D (Af cs ad sz) (Af cs ad sz) s.heap H locs cs ad en → W p l e (headSpec (Cond.code yX12_closed cX12_closed 4 (some .int) :: TB) (rmN 2)).room s m ([.ref (ad 0), .int (nI N_1740)] : List Value).toArray below meth c H locs 0 0 (MQ below (va_Qi (S := Nat → va_E) (fun r en1 => RX cy cs ad en1 ∧ (∀ c, (c ≠ 6) → en1 c = en c)) (PostM D cs ad) (Af cs ad sz)) ([.ref (ad 0), .int (nI N_1740)] : List Value).toArray s 0 0 (Af cs ad sz)) (F0 m 67 ls []) := by
          intro fu
          induction fu with
          | zero => intro j1744 no1744 ls H locs h0 h1 h2; exact absurd h2 (by omega)
          | succ fu ih_1744 =>
            intro j1744 no1744 ls H locs hj0_1744 hj_1744 hfu_1744  hl hh
            refine lv_iload_n hx hb dX12_closed_67 rfl (lv_at hl 0 rfl) ?_
            refine lv_aload_n hx hb dX12_closed_68 rfl (lv_at hl 2 rfl) ?_
            refine hp_get hx hb hts ix12 hown hK hh (q := 0) rfl (hI.1 _ (by decide)) es1739 rfl 25 (by decide) (hts _ tw_904) (fun _ h9 => h9) rfl dX12_closed_69 ?_
            refine lv_icmp_ge (tgt := 97) hx hb dX12_closed_72 (by decide) (fun c_1745 => ?_) (fun c_1745 => ?_)
            · have n_1745 : P9 ≤ j1744 := n_le (a := P9) (b := j1744) c_1745 (by omega) (by omega)
              refine lv_iload_n hx hb dX12_closed_97 rfl (lv_at hl 1 rfl) ?_
              exact hp_iretM hx hb hr rfl hlocks hh (⟨hI, hf0⟩) dX12_closed_98
            · have n_1745 : j1744 < P9 := n_nle (a := P9) (b := j1744) c_1745 (by omega) (by omega)
              refine lv_iload_n hx hb dX12_closed_75 rfl (lv_at hl 1 rfl) ?_
              refine lv_aload_n hx hb dX12_closed_76 rfl (lv_at hl 2 rfl) ?_
              refine lv_iload_n hx hb dX12_closed_77 rfl (lv_at hl 0 rfl) ?_
              refine hp_callRi (va_runV (As := [.int (nI j1744)]) (rest := [.int no1744]) ⟨hx, hb, hml, hown, hts⟩ (c_X12_isNought l D cy _ cs ad en hI j1744 (by omega)) (kw_X12_isNought hts tw_1142 ⟨by decide, by decide⟩) (preV_of hh hK (hI.1 _ (by decide)) es1739 rfl) rfl rfl hl.1 rfl (lv_room (Nat.le_of_ble_eq_true rfl)) dX12_closed_78 ⟨Nat.le_of_ble_eq_true rfl, Nat.le_of_ble_eq_true rfl⟩) hh hA (fun r_1746 H locs hw_1746 hh => ?_)
              rcases hw_1746 with hb_1746 | hb_1746
              · obtain rfl : r_1746 = 0 := hb_1746
                refine lv_if_eq (tgt := 88) hx hb dX12_closed_81 (by decide) (fun _ => ?_) (fun c_0 => absurd c_0 (by decide))
                refine lv_iconst (v := 0) hx hb dX12_closed_88 (by decide) ?_
                refine lv_ior hx hb dX12_closed_89 ?_
                refine lv_istore_n (lv' := [(2, .int (no1744 ||| 0)), (3, .int (nI j1744)), (0, .ref (ad 0)), (1, .int (nI N_1740))]) hx hb dX12_closed_90 rfl hl (by decide) rfl (fun ls hl => ?_)
                refine lv_iinc (v := (nI (j1744 + 1))) (lv' := [(3, .int (nI (j1744 + 1))), (2, .int (no1744 ||| 0)), (0, .ref (ad 0)), (1, .int (nI N_1740))]) hx hb dX12_closed_91 hl (k := 1) rfl (nI_1 _) (by decide) rfl (fun ls hl => ?_)
                refine lv_goto (tgt := 67) hx hb dX12_closed_94 (by decide) ?_
                exact ih_1744 ((j1744 + 1)) (no1744 ||| 0) ls H locs (by omega) (by omega) (by omega)  (lv_sub hl [0, 1, 2, 3] rfl) hh
              · obtain rfl : r_1746 = 1 := hb_1746
                refine lv_if_eq (tgt := 88) hx hb dX12_closed_81 (by decide) (fun c_0 => absurd c_0 (by decide)) (fun _ => ?_)
                refine lv_iconst (v := 1) hx hb dX12_closed_84 (by decide) ?_
                refine lv_goto (tgt := 89) hx hb dX12_closed_85 (by decide) ?_
                refine lv_ior hx hb dX12_closed_89 ?_
                refine lv_istore_n (lv' := [(2, .int (no1744 ||| 1)), (3, .int (nI j1744)), (0, .ref (ad 0)), (1, .int (nI N_1740))]) hx hb dX12_closed_90 rfl hl (by decide) rfl (fun ls hl => ?_)
                refine lv_iinc (v := (nI (j1744 + 1))) (lv' := [(3, .int (nI (j1744 + 1))), (2, .int (no1744 ||| 1)), (0, .ref (ad 0)), (1, .int (nI N_1740))]) hx hb dX12_closed_91 hl (k := 1) rfl (nI_1 _) (by decide) rfl (fun ls hl => ?_)
                refine lv_goto (tgt := 67) hx hb dX12_closed_94 (by decide) ?_
                exact ih_1744 ((j1744 + 1)) (no1744 ||| 1) ls H locs (by omega) (by omega) (by omega)  (lv_sub hl [0, 1, 2, 3] rfl) hh
        exact loop_1744 (P9 + 1) 0 0 ls _ _ (Nat.le_refl _) (by omega) (by omega)  (lv_sub hl [0, 1, 2, 3] rfl) hh
      by_cases q_1743_2 : (nI N_1740) = 2
      · refine lv_tableIn (off := 69) (tgt := 99) hx hb dX12_closed_30 (by rw [q_1743_2]; decide) (by rw [q_1743_2]; decide) (by rw [q_1743_2]; decide) (by decide) ?_
        refine lv_iconst (v := 0) hx hb dX12_closed_99 (by decide) ?_
        refine lv_istore_n (lv' := [(3, .int 0), (2, .int 0), (0, .ref (ad 0)), (1, .int (nI N_1740))]) hx hb dX12_closed_100 rfl hl (by decide) rfl (fun ls hl => ?_)
        have loop_1747 : ∀ (fu j1747 : Nat)   (ls : Array Slot) (H : Heap) (locs : List Loc), 0 ≤ j1747 → j1747 ≤ P9 → P9 < j1747 + fu →   lv_has ls 4 [(3, .int (nI j1747)), (2, .int 0), (0, .ref (ad 0)), (1, .int (nI N_1740))] → Hp D (Af cs ad sz) (Af cs ad sz) s.heap H locs cs ad en → W p l e (headSpec (Cond.code yX12_closed cX12_closed 4 (some .int) :: TB) (rmN 2)).room s m ([.ref (ad 0), .int (nI N_1740)] : List Value).toArray below meth c H locs 0 0 (MQ below (va_Qi (S := Nat → va_E) (fun r en1 => RX cy cs ad en1 ∧ (∀ c, (c ≠ 6) → en1 c = en c)) (PostM D cs ad) (Af cs ad sz)) ([.ref (ad 0), .int (nI N_1740)] : List Value).toArray s 0 0 (Af cs ad sz)) (F0 m 101 ls []) := by
          intro fu
          induction fu with
          | zero => intro j1747  ls H locs h0 h1 h2; exact absurd h2 (by omega)
          | succ fu ih_1747 =>
            intro j1747  ls H locs hj0_1747 hj_1747 hfu_1747  hl hh
            refine lv_iload_n hx hb dX12_closed_101 rfl (lv_at hl 0 rfl) ?_
            refine lv_aload_n hx hb dX12_closed_102 rfl (lv_at hl 2 rfl) ?_
            refine hp_get hx hb hts ix12 hown hK hh (q := 0) rfl (hI.1 _ (by decide)) es1739 rfl 25 (by decide) (hts _ tw_904) (fun _ h9 => h9) rfl dX12_closed_103 ?_
            refine lv_icmp_ge (tgt := 125) hx hb dX12_closed_106 (by decide) (fun c_1748 => ?_) (fun c_1748 => ?_)
            · have n_1748 : P9 ≤ j1747 := n_le (a := P9) (b := j1747) c_1748 (by omega) (by omega)
              refine lv_bipush (v := (-9)) hx hb dX12_closed_125 (by decide) ?_
              exact hp_iretM hx hb hr rfl hlocks hh (⟨hI, hf0⟩) dX12_closed_127
            · have n_1748 : j1747 < P9 := n_nle (a := P9) (b := j1747) c_1748 (by omega) (by omega)
              refine lv_aload_n hx hb dX12_closed_109 rfl (lv_at hl 2 rfl) ?_
              refine lv_iload_n hx hb dX12_closed_110 rfl (lv_at hl 0 rfl) ?_
              refine hp_callRi (va_runV (As := [.int (nI j1747)]) (rest := []) ⟨hx, hb, hml, hown, hts⟩ (c_X12_isOne l D cy _ cs ad en hI j1747 (by omega)) (kw_X12_isOne hts tw_1146 ⟨by decide, by decide⟩) (preV_of hh hK (hI.1 _ (by decide)) es1739 rfl) rfl rfl hl.1 rfl (lv_room (Nat.le_of_ble_eq_true rfl)) dX12_closed_111 ⟨Nat.le_of_ble_eq_true rfl, Nat.le_of_ble_eq_true rfl⟩) hh hA (fun r_1749 H locs hw_1749 hh => ?_)
              rcases hw_1749 with hb_1749 | hb_1749
              · obtain rfl : r_1749 = 0 := hb_1749
                refine lv_if_eq (tgt := 119) hx hb dX12_closed_114 (by decide) (fun _ => ?_) (fun c_0 => absurd c_0 (by decide))
                refine lv_iinc (v := (nI (j1747 + 1))) (lv' := [(3, .int (nI (j1747 + 1))), (2, .int 0), (0, .ref (ad 0)), (1, .int (nI N_1740))]) hx hb dX12_closed_119 hl (k := 0) rfl (nI_1 _) (by decide) rfl (fun ls hl => ?_)
                refine lv_goto (tgt := 101) hx hb dX12_closed_122 (by decide) ?_
                exact ih_1747 ((j1747 + 1))  ls H locs (by omega) (by omega) (by omega)  (lv_sub hl [0, 1, 2, 3] rfl) hh
              · obtain rfl : r_1749 = 1 := hb_1749
                refine lv_if_eq (tgt := 119) hx hb dX12_closed_114 (by decide) (fun c_0 => absurd c_0 (by decide)) (fun _ => ?_)
                refine lv_iload_n hx hb dX12_closed_117 rfl (lv_at hl 0 rfl) ?_
                exact hp_iretM hx hb hr rfl hlocks hh (⟨hI, hf0⟩) dX12_closed_118
        exact loop_1747 (P9 + 1) 0  ls _ _ (Nat.le_refl _) (by omega) (by omega)  (lv_sub hl [0, 1, 2, 3] rfl) hh
      by_cases q_1743_3 : (nI N_1740) = 3
      · refine lv_tableIn (off := 98) (tgt := 128) hx hb dX12_closed_30 (by rw [q_1743_3]; decide) (by rw [q_1743_3]; decide) (by rw [q_1743_3]; decide) (by decide) ?_
        refine lv_iconst (v := 0) hx hb dX12_closed_128 (by decide) ?_
        refine lv_istore_n (lv' := [(3, .int 0), (2, .int 0), (0, .ref (ad 0)), (1, .int (nI N_1740))]) hx hb dX12_closed_129 rfl hl (by decide) rfl (fun ls hl => ?_)
        have loop_1750 : ∀ (fu j1750 : Nat) (no1750 : Int32) (en_1750 : Nat → va_E) (ls : Array Slot) (H : Heap) (locs : List Loc), 0 ≤ j1750 → j1750 ≤ P9 → P9 < j1750 + fu → RX cy cs ad en_1750 → (∀ c, (c ≠ 6) → en_1750 c = en c) →  lv_has ls 4 [(3, .int (nI j1750)), (2, .int no1750), (0, .ref (ad 0)), (1, .int (nI N_1740))] → Hp D (Af cs ad sz) (Af cs ad sz) s.heap H locs cs ad en_1750 → W p l e (headSpec (Cond.code yX12_closed cX12_closed 4 (some .int) :: TB) (rmN 2)).room s m ([.ref (ad 0), .int (nI N_1740)] : List Value).toArray below meth c H locs 0 0 (MQ below (va_Qi (S := Nat → va_E) (fun r en1 => RX cy cs ad en1 ∧ (∀ c, (c ≠ 6) → en1 c = en c)) (PostM D cs ad) (Af cs ad sz)) ([.ref (ad 0), .int (nI N_1740)] : List Value).toArray s 0 0 (Af cs ad sz)) (F0 m 130 ls []) := by
          intro fu
          induction fu with
          | zero => intro j1750 no1750 en_1750 ls H locs h0 h1 h2; exact absurd h2 (by omega)
          | succ fu ih_1750 =>
            intro j1750 no1750 en_1750 ls H locs hj0_1750 hj_1750 hfu_1750 hI_1750 hf_1750  hl hh
            refine lv_iload_n hx hb dX12_closed_130 rfl (lv_at hl 0 rfl) ?_
            refine lv_aload_n hx hb dX12_closed_131 rfl (lv_at hl 2 rfl) ?_
            have es1739_1751 : en_1750 0 = .inr (11, [.int fa, .int hi, .int (nI wd), .int (nI mo), .int (nI tb), .ref (ad 1), .ref (ad 2), .ref (ad 3), .ref (ad 4), .ref (ad 5), .ref (ad 6), .ref (ad 7), .ref (ad 8), .ref (ad 9), .int dp, .long many, .long grt, .long lst, .long nou, .ref (ad 10), .ref (ad 11), .ref (ad 12), .int rm, .long rb, .ref (ad 13), .int (nI P9), .ref (ad 14), .ref (ad 15), .ref (ad 16), .ref (ad 17), .int (nI wo), .ref (ad 18), .ref (ad 19)]) := (hf_1750 0 (by omega)).trans es1739
            refine hp_get hx hb hts ix12 hown hK hh (q := 0) rfl (hI.1 _ (by decide)) es1739_1751 rfl 25 (by decide) (hts _ tw_904) (fun _ h9 => h9) rfl dX12_closed_132 ?_
            refine lv_icmp_ge (tgt := 167) hx hb dX12_closed_135 (by decide) (fun c_1752 => ?_) (fun c_1752 => ?_)
            · have n_1752 : P9 ≤ j1750 := n_le (a := P9) (b := j1750) c_1752 (by omega) (by omega)
              refine lv_iload_n hx hb dX12_closed_167 rfl (lv_at hl 1 rfl) ?_
              exact hp_iretM hx hb hr rfl hlocks hh (⟨hI_1750, hf_1750⟩) dX12_closed_168
            · have n_1752 : j1750 < P9 := n_nle (a := P9) (b := j1750) c_1752 (by omega) (by omega)
              refine lv_aload_n hx hb dX12_closed_138 rfl (lv_at hl 2 rfl) ?_
              refine lv_iload_n hx hb dX12_closed_139 rfl (lv_at hl 0 rfl) ?_
              refine lv_iload_n hx hb dX12_closed_140 rfl (lv_at hl 0 rfl) ?_
              refine hp_callMv (va_runV (As := [.int (nI j1750), .int (nI j1750)]) (rest := []) ⟨hx, hb, hml, hown, hts⟩ (c_X12_multiply l D cy _ cs ad en_1750 hI_1750 j1750 j1750 (by omega) (by omega)) (kw_X12_multiply hts tw_1150 ⟨by decide, by decide⟩) (preV_of hh hK (hI.1 _ (by decide)) es1739_1751 rfl) rfl rfl hl.1 rfl (lv_room (Nat.le_of_ble_eq_true rfl)) dX12_closed_141 ⟨Nat.le_of_ble_eq_true rfl, Nat.le_of_ble_eq_true rfl⟩) hh hA (fun H locs en_1753 hw_1753 hh => ?_)
              obtain ⟨hI_1753, hu_1753⟩ := hw_1753
              have es1739_1753 : en_1753 0 = .inr (11, [.int fa, .int hi, .int (nI wd), .int (nI mo), .int (nI tb), .ref (ad 1), .ref (ad 2), .ref (ad 3), .ref (ad 4), .ref (ad 5), .ref (ad 6), .ref (ad 7), .ref (ad 8), .ref (ad 9), .int dp, .long many, .long grt, .long lst, .long nou, .ref (ad 10), .ref (ad 11), .ref (ad 12), .int rm, .long rb, .ref (ad 13), .int (nI P9), .ref (ad 14), .ref (ad 15), .ref (ad 16), .ref (ad 17), .int (nI wo), .ref (ad 18), .ref (ad 19)]) := (hu_1753 0 (by omega)).trans es1739_1751
              have hf_1753 : ∀ c, (c ≠ 6) → en_1753 c = en c := fun c hc => (hu_1753 c (by omega)).trans (hf_1750 c hc)
              refine lv_iload_n hx hb dX12_closed_144 rfl (lv_at hl 1 rfl) ?_
              refine lv_aload_n hx hb dX12_closed_145 rfl (lv_at hl 2 rfl) ?_
              refine lv_iconst (v := 1) hx hb dX12_closed_146 (by decide) ?_
              refine hp_callRi (va_runV (As := [.int 1]) (rest := [.int no1750]) ⟨hx, hb, hml, hown, hts⟩ (c_X12_findAt l D cy _ cs ad en_1753 hI_1753 1 (by omega) P9 (CH_keep hCH (by rw [hf_1753 0 (by omega)]) (hf_1753 16 (by omega)) (hf_1753 17 (by omega)))) (kw_X12_findAt hts tw_1123 ⟨by decide, by decide⟩) (preV_of hh hK (hI.1 _ (by decide)) es1739_1753 rfl) rfl rfl hl.1 rfl (lv_room (Nat.le_of_ble_eq_true rfl)) dX12_closed_147 ⟨Nat.le_of_ble_eq_true rfl, Nat.le_of_ble_eq_true rfl⟩) hh hA (fun r_1754 H locs hw_1754 hh => ?_)
              refine lv_iload_n hx hb dX12_closed_150 rfl (lv_at hl 0 rfl) ?_
              refine lv_icmp_ne (tgt := 158) hx hb dX12_closed_151 (by decide) (fun c_1755 => ?_) (fun c_1755 => ?_)
              · refine lv_iconst (v := 0) hx hb dX12_closed_158 (by decide) ?_
                refine lv_iadd hx hb dX12_closed_159 ?_
                refine lv_istore_n (lv' := [(2, .int (no1750 + 0)), (3, .int (nI j1750)), (0, .ref (ad 0)), (1, .int (nI N_1740))]) hx hb dX12_closed_160 rfl hl (by decide) rfl (fun ls hl => ?_)
                refine lv_iinc (v := (nI (j1750 + 1))) (lv' := [(3, .int (nI (j1750 + 1))), (2, .int (no1750 + 0)), (0, .ref (ad 0)), (1, .int (nI N_1740))]) hx hb dX12_closed_161 hl (k := 1) rfl (nI_1 _) (by decide) rfl (fun ls hl => ?_)
                refine lv_goto (tgt := 130) hx hb dX12_closed_164 (by decide) ?_
                exact ih_1750 ((j1750 + 1)) (no1750 + 0) en_1753 ls H locs (by omega) (by omega) (by omega) hI_1753 hf_1753  (lv_sub hl [0, 1, 2, 3] rfl) hh
              · refine lv_iconst (v := 1) hx hb dX12_closed_154 (by decide) ?_
                refine lv_goto (tgt := 159) hx hb dX12_closed_155 (by decide) ?_
                refine lv_iadd hx hb dX12_closed_159 ?_
                refine lv_istore_n (lv' := [(2, .int (no1750 + 1)), (3, .int (nI j1750)), (0, .ref (ad 0)), (1, .int (nI N_1740))]) hx hb dX12_closed_160 rfl hl (by decide) rfl (fun ls hl => ?_)
                refine lv_iinc (v := (nI (j1750 + 1))) (lv' := [(3, .int (nI (j1750 + 1))), (2, .int (no1750 + 1)), (0, .ref (ad 0)), (1, .int (nI N_1740))]) hx hb dX12_closed_161 hl (k := 1) rfl (nI_1 _) (by decide) rfl (fun ls hl => ?_)
                refine lv_goto (tgt := 130) hx hb dX12_closed_164 (by decide) ?_
                exact ih_1750 ((j1750 + 1)) (no1750 + 1) en_1753 ls H locs (by omega) (by omega) (by omega) hI_1753 hf_1753  (lv_sub hl [0, 1, 2, 3] rfl) hh
        exact loop_1750 (P9 + 1) 0 0 en ls _ _ (Nat.le_refl _) (by omega) (by omega) hI hf0  (lv_sub hl [0, 1, 2, 3] rfl) hh
      refine lv_tableOut (tgt := 169) hx hb dX12_closed_30 (tb_out 4 (by decide) (by decide) (fun j hj => by rcases (show j = 0 ∨ j = 1 ∨ j = 2 ∨ j = 3 by omega) with rfl | rfl | rfl | rfl <;> first | exact lv_neT q_1743_0 (by decide) | exact lv_neT q_1743_1 (by decide) | exact lv_neT q_1743_2 (by decide) | exact lv_neT q_1743_3 (by decide))) (by decide) ?_
      refine lv_aload_n hx hb dX12_closed_169 rfl (lv_at hl 1 rfl) ?_
      refine hp_get hx hb hts ix12 hown hK hh (q := 0) rfl (hI.1 _ (by decide)) es1739 rfl 27 (by decide) (hts _ tw_906) (fun _ h9 => h9) rfl dX12_closed_170 ?_
      refine lv_aload_n hx hb dX12_closed_173 rfl (lv_at hl 1 rfl) ?_
      refine hp_get hx hb hts ix12 hown hK hh (q := 0) rfl (hI.1 _ (by decide)) es1739 rfl 25 (by decide) (hts _ tw_904) (fun _ h9 => h9) rfl dX12_closed_174 ?_
      refine lv_iconst (v := 1) hx hb dX12_closed_177 (by decide) ?_
      refine lv_isub hx hb dX12_closed_178 ?_
      rw [show (1 : Int32) = nI 1 from rfl, pk_sub (a := P9) (b := 1) (by omega)]
      obtain ⟨f_1756, es1756⟩ := getr_ln hI
      refine hp_iald hx hb hK hh (q := 15) rfl (hI.1 _ (by decide)) es1756 (vp_in_nI (n := (P9 - 1)) (by omega) (by decide)) dX12_closed_179 ?_
      rw [nI_clamp (n := (P9 - 1)) (by omega)]
      exact hp_iretM hx hb hr rfl hlocks hh (⟨hI, hf0⟩) dX12_closed_180
    · refine lv_bipush (v := (-3)) hx hb dX12_closed_24 (by decide) ?_
      exact hp_iretM hx hb hr rfl hlocks hh (⟨hI, hf0⟩) dX12_closed_26
  · obtain rfl : r_1740 = 0 := Eq.trans hw_1740 (if_neg (fun q => hp_1740 ((wj_32 (by decide) (by decide)).mp q)))
    refine lv_if_ne (tgt := 15) hx hb dX12_closed_9 (by decide) (fun c_0 => absurd c_0 (by decide)) (fun _ => ?_)
    refine lv_bipush (v := (-2)) hx hb dX12_closed_12 (by decide) ?_
    exact hp_iretM hx hb hr rfl hlocks hh (⟨hI, hf0⟩) dX12_closed_14
theorem kw_X12_closed {R : Room} {s : State} {args : Array Value} {own : String} {idx : Nat} (hts : ∀ w ∈ TB, w.before args s = true) (hl : Cond.methodLink own idx yX12_closed ∈ TB) (hR : 2 + 1 ≤ R.frames ∧ 8 + (4 + 11) + 40 * 2 ≤ R.locals) : CallW R s args own RX12 idx yX12_closed cX12_closed 4 (some .int) (Cond.code yX12_closed cX12_closed 4 (some .int) :: TB) (rmN 2) 0 0 1 := cwV 1 hts (TB_V hl tw_1138 tw_1139 tw_9 tw_1140) rfl rfl rfl (by decide +kernel) hR
set_option maxHeartbeats 4000000 in
set_option maxRecDepth 100000 in
/-- product -/
theorem c_X12_product (l : Launch) (D : va_G) (cy : Nat → ClassId) (sz : Nat) (cs : List Nat) (ad : Nat → Nat) (en : Nat → va_E) (hI : RX cy cs ad en) (k9 a9 b9 : Int32) (hCX : CHX en)   : Met l yX12_product (Cond.code yX12_product cX12_product 4 (some .long) :: TB) (rmN 2) (va_Pc [.ref (ad 0), .int k9, .int a9, .int b9] (Pre D cy cs ad en sz)) (va_Ql (S := Unit) (fun _ _ => True) (fun _ _ => True) (Nf sz)) 0 0 (Nf sz) := by
  refine Met.ofW (cc := cX12_product) (maxL := 4) (ret := (some .long)) (by decide) rfl ?_
  intro p e s m args below meth c s₁ B hml hv
  obtain ⟨rfl, hsz, hP, hK, hD0⟩ := hv
  have hx := B.exec
  have hb := B.bytes
  have hr := B.returns
  have hts : ∀ w ∈ TB, w.before _ s = true := fun w h => atoms_spec (ws := _ :: TB) B.pre w (List.mem_cons_of_mem _ h)
  have hown : s.vm.findClass RX12 = some m.cls := findClass_of_methodNamed B.named
  have hlocks := B.notSynchronized
  have hh : Hp D (Nf sz) (fun _ => True) s.heap s.heap [] cs ad en := ⟨hP, hD0, va_S.rf⟩
  have hA : ∀ q : Nat, s.heap.size ≤ q → Nf sz q := fun q h => by rw [hsz] at h; exact h
  have hl := lv_entry ([.ref (ad 0), .int k9, .int a9, .int b9]) (n := 4) (Nat.le_of_ble_eq_true rfl)
  rw [lg_entry_eq]
  generalize (lg_sl ([.ref (ad 0), .int k9, .int a9, .int b9]) ++ List.replicate (4 - (lg_sl ([.ref (ad 0), .int k9, .int a9, .int b9])).length) Slot.unset).toArray = ls at hl ⊢
  have hl : lv_has ls 4 [(0, .ref (ad 0)), (1, .int k9), (2, .int a9), (3, .int b9)] := hl
  obtain ⟨fa, hi, wd, mo, tb, dp, many, grt, lst, nou, rm, rb, pr, wo, es1757, hwd2, hwd3, hmo, htb, hwo⟩ := getr_M hI
  refine lv_aload_n hx hb dX12_product_0 rfl (lv_at hl 0 rfl) ?_
  refine lv_iload_n hx hb dX12_product_1 rfl (lv_at hl 1 rfl) ?_
  refine hp_callRi (va_runV (As := [.int k9]) (rest := []) ⟨hx, hb, hml, hown, hts⟩ (c_X12_isProduct l D cy _ cs ad en hI k9 ) (kw_X12_isProduct hts tw_1158 ⟨by decide, by decide⟩) (preV_of hh hK (hI.1 _ (by decide)) es1757 rfl) rfl rfl hl.1 rfl (lv_room (Nat.le_of_ble_eq_true rfl)) dX12_product_2 ⟨Nat.le_of_ble_eq_true rfl, Nat.le_of_ble_eq_true rfl⟩) hh hA (fun r_1758 H locs hw_1758 hh => ?_)
  rw [show rdI (en 0) 25 = pr from by rw [es1757]; rfl] at hw_1758
  rcases Decidable.em (0 ≤ k9.toInt ∧ k9.toInt < pr.toInt) with hp_1758 | hp_1758
  · obtain rfl : r_1758 = 1 := Eq.trans hw_1758 (if_pos hp_1758)
    obtain ⟨P_1758, K_1758, hPe_1758, hP_1758, hCH_1758, hKe_1758, hK_1758⟩ := CHX_lt hCX (show rdI (en 0) 25 = pr from by rw [es1757]; rfl) hp_1758
    subst hKe_1758
    refine lv_if_eq (tgt := 38) hx hb dX12_product_5 (by decide) (fun c_0 => absurd c_0 (by decide)) (fun _ => ?_)
    refine lv_aload_n hx hb dX12_product_8 rfl (lv_at hl 0 rfl) ?_
    refine lv_iload_n hx hb dX12_product_9 rfl (lv_at hl 2 rfl) ?_
    refine lv_iload_n hx hb dX12_product_10 rfl (lv_at hl 3 rfl) ?_
    refine hp_callRi (va_runV (As := [.int a9, .int b9]) (rest := []) ⟨hx, hb, hml, hown, hts⟩ (c_X12_isPlace l D cy _ cs ad en hI a9 b9 ) (kw_X12_isPlace hts tw_1011 ⟨by decide, by decide⟩) (preV_of hh hK (hI.1 _ (by decide)) es1757 rfl) rfl rfl hl.1 rfl (lv_room (Nat.le_of_ble_eq_true rfl)) dX12_product_11 ⟨Nat.le_of_ble_eq_true rfl, Nat.le_of_ble_eq_true rfl⟩) hh hA (fun r_1759 H locs hw_1759 hh => ?_)
    rw [show (rdI (en 0) 2).toInt = (wd : Int) from by rw [es1757]; exact nI_toInt (by omega)] at hw_1759
    rcases Decidable.em ((0 ≤ a9.toInt ∧ a9.toInt < (wd : Int)) ∧ 0 ≤ b9.toInt ∧ b9.toInt < (wd : Int)) with hp_1759 | hp_1759
    · obtain rfl : r_1759 = 1 := Eq.trans hw_1759 (if_pos hp_1759)
      obtain ⟨A_1759, rfl, hA_1759⟩ := has_nat hp_1759.1
      obtain ⟨B_1759, rfl, hB_1759⟩ := has_nat hp_1759.2
      refine lv_if_eq (tgt := 38) hx hb dX12_product_14 (by decide) (fun c_0 => absurd c_0 (by decide)) (fun _ => ?_)
      refine lv_aload_n hx hb dX12_product_17 rfl (lv_at hl 0 rfl) ?_
      refine hp_get hx hb hts ix12 hown hK hh (q := 0) rfl (hI.1 _ (by decide)) es1757 rfl 26 (by decide) (hts _ tw_905) (fun _ h9 => h9) rfl dX12_product_18 ?_
      refine lv_bipush (v := 9) hx hb dX12_product_21 (by decide) ?_
      refine lv_iload_n hx hb dX12_product_23 rfl (lv_at hl 1 rfl) ?_
      refine lv_imul hx hb dX12_product_24 ?_
      rw [show (9 : Int32) = nI 9 from rfl, pk_mul 9 K_1758]
      refine lv_aload_n hx hb dX12_product_25 rfl (lv_at hl 0 rfl) ?_
      refine hp_get hx hb hts ix12 hown hK hh (q := 0) rfl (hI.1 _ (by decide)) es1757 rfl 2 (by decide) (hts _ tw_881) (fun _ h9 => h9) rfl dX12_product_26 ?_
      refine lv_iload_n hx hb dX12_product_29 rfl (lv_at hl 2 rfl) ?_
      refine lv_imul hx hb dX12_product_30 ?_
      rw [pk_mul wd A_1759]
      refine lv_iadd hx hb dX12_product_31 ?_
      rw [nI_add (9 * K_1758) (wd * A_1759)]
      refine lv_iload_n hx hb dX12_product_32 rfl (lv_at hl 3 rfl) ?_
      refine lv_iadd hx hb dX12_product_33 ?_
      rw [nI_add ((9 * K_1758) + (wd * A_1759)) B_1759]
      have hi_1760 : wd * A_1759 + B_1759 < 9 := mdr (by omega) (by omega) (by omega)
      obtain ⟨f_1761, es1761⟩ := getr_pd hI
      refine hp_lald hx hb hK hh (q := 14) rfl (hI.1 _ (by decide)) es1761 (vp_in_nI (n := (((9 * K_1758) + (wd * A_1759)) + B_1759)) (by omega) (by decide)) dX12_product_34 ?_
      rw [nI_clamp (n := (((9 * K_1758) + (wd * A_1759)) + B_1759)) (by omega)]
      refine lv_goto (tgt := 41) hx hb dX12_product_35 (by decide) ?_
      exact hp_lretR hx hb hr hlocks hsz hh (trivial) dX12_product_41
    · obtain rfl : r_1759 = 0 := Eq.trans hw_1759 (if_neg hp_1759)
      refine lv_if_eq (tgt := 38) hx hb dX12_product_14 (by decide) (fun _ => ?_) (fun c_0 => absurd c_0 (by decide))
      refine lv_ldc2 hx hb hown (hts _ tw_1015) dX12_product_38 ?_
      exact hp_lretR hx hb hr hlocks hsz hh (trivial) dX12_product_41
  · obtain rfl : r_1758 = 0 := Eq.trans hw_1758 (if_neg hp_1758)
    refine lv_if_eq (tgt := 38) hx hb dX12_product_5 (by decide) (fun _ => ?_) (fun c_0 => absurd c_0 (by decide))
    refine lv_ldc2 hx hb hown (hts _ tw_1015) dX12_product_38 ?_
    exact hp_lretR hx hb hr hlocks hsz hh (trivial) dX12_product_41
theorem kw_X12_product {R : Room} {s : State} {args : Array Value} {own : String} {idx : Nat} (hts : ∀ w ∈ TB, w.before args s = true) (hl : Cond.methodLink own idx yX12_product ∈ TB) (hR : 2 + 1 ≤ R.frames ∧ 8 + (4 + 11) + 40 * 2 ≤ R.locals) : CallW R s args own RX12 idx yX12_product cX12_product 4 (some .long) (Cond.code yX12_product cX12_product 4 (some .long) :: TB) (rmN 2) 0 0 3 := cwV 3 hts (TB_V hl tw_1155 tw_1156 tw_9 tw_1157) rfl rfl rfl (by decide +kernel) hR
set_option maxHeartbeats 4000000 in
set_option maxRecDepth 100000 in
/-- times -/
theorem c_X12_times (l : Launch) (D : va_G) (cy : Nat → ClassId) (sz : Nat) (cs : List Nat) (ad : Nat → Nat) (en : Nat → va_E) (hI : RX cy cs ad en) (k9 j9 : Int32) (hCX : CHX en)   : Met l yX12_times (Cond.code yX12_times cX12_times 3 (some .int) :: TB) (rmN 2) (va_Pc [.ref (ad 0), .int k9, .int j9] (Pre D cy cs ad en sz)) (va_Qi (S := Nat → va_E) (fun r en1 => RX cy cs ad en1 ∧ (∀ c, (c ≠ 6) → en1 c = en c)) (PostM D cs ad) (Af cs ad sz)) 0 0 (Af cs ad sz) := by
  refine Met.ofW (cc := cX12_times) (maxL := 3) (ret := (some .int)) (by decide) rfl ?_
  intro p e s m args below meth c s₁ B hml hv
  obtain ⟨rfl, hsz, hP, hK, hD0⟩ := hv
  have hx := B.exec
  have hb := B.bytes
  have hr := B.returns
  have hts : ∀ w ∈ TB, w.before _ s = true := fun w h => atoms_spec (ws := _ :: TB) B.pre w (List.mem_cons_of_mem _ h)
  have hown : s.vm.findClass RX12 = some m.cls := findClass_of_methodNamed B.named
  have hlocks := B.notSynchronized
  have hh : Hp D (Af cs ad sz) (Af cs ad sz) s.heap s.heap [] cs ad en := ⟨hP, Af_self hD0, va_S.rf⟩
  have hA : ∀ q : Nat, s.heap.size ≤ q → Af cs ad sz q := fun q h => Or.inr (by rw [hsz] at h; exact h)
  have hl := lv_entry ([.ref (ad 0), .int k9, .int j9]) (n := 3) (Nat.le_of_ble_eq_true rfl)
  rw [lg_entry_eq]
  generalize (lg_sl ([.ref (ad 0), .int k9, .int j9]) ++ List.replicate (3 - (lg_sl ([.ref (ad 0), .int k9, .int j9])).length) Slot.unset).toArray = ls at hl ⊢
  have hl : lv_has ls 3 [(0, .ref (ad 0)), (1, .int k9), (2, .int j9)] := hl
  have hf0 : ∀ c, (c ≠ 6) → en c = en c := fun _ _ => rfl
  obtain ⟨fa, hi, wd, mo, tb, dp, many, grt, lst, nou, rm, rb, pr, wo, es1762, hwd2, hwd3, hmo, htb, hwo⟩ := getr_M hI
  refine lv_aload_n hx hb dX12_times_0 rfl (lv_at hl 0 rfl) ?_
  refine lv_iload_n hx hb dX12_times_1 rfl (lv_at hl 1 rfl) ?_
  refine hp_callRi (va_runV (As := [.int k9]) (rest := []) ⟨hx, hb, hml, hown, hts⟩ (c_X12_isProduct l D cy _ cs ad en hI k9 ) (kw_X12_isProduct hts tw_1158 ⟨by decide, by decide⟩) (preV_of hh hK (hI.1 _ (by decide)) es1762 rfl) rfl rfl hl.1 rfl (lv_room (Nat.le_of_ble_eq_true rfl)) dX12_times_2 ⟨Nat.le_of_ble_eq_true rfl, Nat.le_of_ble_eq_true rfl⟩) hh hA (fun r_1763 H locs hw_1763 hh => ?_)
  rw [show rdI (en 0) 25 = pr from by rw [es1762]; rfl] at hw_1763
  rcases Decidable.em (0 ≤ k9.toInt ∧ k9.toInt < pr.toInt) with hp_1763 | hp_1763
  · obtain rfl : r_1763 = 1 := Eq.trans hw_1763 (if_pos hp_1763)
    obtain ⟨P_1763, K_1763, hPe_1763, hP_1763, hCH_1763, hKe_1763, hK_1763⟩ := CHX_lt hCX (show rdI (en 0) 25 = pr from by rw [es1762]; rfl) hp_1763
    subst hKe_1763
    refine lv_if_eq (tgt := 16) hx hb dX12_times_5 (by decide) (fun c_0 => absurd c_0 (by decide)) (fun _ => ?_)
    refine lv_aload_n hx hb dX12_times_8 rfl (lv_at hl 0 rfl) ?_
    refine lv_iload_n hx hb dX12_times_9 rfl (lv_at hl 2 rfl) ?_
    refine hp_callRi (va_runV (As := [.int j9]) (rest := []) ⟨hx, hb, hml, hown, hts⟩ (c_X12_isProduct l D cy _ cs ad en hI j9 ) (kw_X12_isProduct hts tw_1158 ⟨by decide, by decide⟩) (preV_of hh hK (hI.1 _ (by decide)) es1762 rfl) rfl rfl hl.1 rfl (lv_room (Nat.le_of_ble_eq_true rfl)) dX12_times_10 ⟨Nat.le_of_ble_eq_true rfl, Nat.le_of_ble_eq_true rfl⟩) hh hA (fun r_1764 H locs hw_1764 hh => ?_)
    rw [show rdI (en 0) 25 = pr from by rw [es1762]; rfl] at hw_1764
    rcases Decidable.em (0 ≤ j9.toInt ∧ j9.toInt < pr.toInt) with hp_1764 | hp_1764
    · obtain rfl : r_1764 = 1 := Eq.trans hw_1764 (if_pos hp_1764)
      obtain ⟨P_1764, K_1764, hPe_1764, hP_1764, hCH_1764, hKe_1764, hK_1764⟩ := CHX_lt hCX (show rdI (en 0) 25 = pr from by rw [es1762]; rfl) hp_1764
      subst hKe_1764
      refine lv_if_ne (tgt := 18) hx hb dX12_times_13 (by decide) (fun _ => ?_) (fun c_0 => absurd c_0 (by decide))
      refine lv_aload_n hx hb dX12_times_18 rfl (lv_at hl 0 rfl) ?_
      refine lv_iload_n hx hb dX12_times_19 rfl (lv_at hl 1 rfl) ?_
      refine lv_iload_n hx hb dX12_times_20 rfl (lv_at hl 2 rfl) ?_
      refine hp_callMv (va_runV (As := [.int (nI K_1763), .int (nI K_1764)]) (rest := []) ⟨hx, hb, hml, hown, hts⟩ (c_X12_multiply l D cy _ cs ad en hI K_1763 K_1764 (by omega) (by omega)) (kw_X12_multiply hts tw_1150 ⟨by decide, by decide⟩) (preV_of hh hK (hI.1 _ (by decide)) es1762 rfl) rfl rfl hl.1 rfl (lv_room (Nat.le_of_ble_eq_true rfl)) dX12_times_21 ⟨Nat.le_of_ble_eq_true rfl, Nat.le_of_ble_eq_true rfl⟩) hh hA (fun H locs en_1765 hw_1765 hh => ?_)
      obtain ⟨hI_1765, hu_1765⟩ := hw_1765
      have es1762_1765 : en_1765 0 = .inr (11, [.int fa, .int hi, .int (nI wd), .int (nI mo), .int (nI tb), .ref (ad 1), .ref (ad 2), .ref (ad 3), .ref (ad 4), .ref (ad 5), .ref (ad 6), .ref (ad 7), .ref (ad 8), .ref (ad 9), .int dp, .long many, .long grt, .long lst, .long nou, .ref (ad 10), .ref (ad 11), .ref (ad 12), .int rm, .long rb, .ref (ad 13), .int pr, .ref (ad 14), .ref (ad 15), .ref (ad 16), .ref (ad 17), .int (nI wo), .ref (ad 18), .ref (ad 19)]) := (hu_1765 0 (by omega)).trans es1762
      have hf_1765 : ∀ c, (c ≠ 6) → en_1765 c = en c := fun c hc => (hu_1765 c (by omega)).trans (hf0 c hc)
      refine lv_aload_n hx hb dX12_times_24 rfl (lv_at hl 0 rfl) ?_
      refine lv_iconst (v := 1) hx hb dX12_times_25 (by decide) ?_
      refine hp_callRi (va_runV (As := [.int 1]) (rest := []) ⟨hx, hb, hml, hown, hts⟩ (c_X12_findAt l D cy _ cs ad en_1765 hI_1765 1 (by omega) P_1764 (CH_keep hCH_1764 (by rw [hf_1765 0 (by omega)]) (hf_1765 16 (by omega)) (hf_1765 17 (by omega)))) (kw_X12_findAt hts tw_1123 ⟨by decide, by decide⟩) (preV_of hh hK (hI.1 _ (by decide)) es1762_1765 rfl) rfl rfl hl.1 rfl (lv_room (Nat.le_of_ble_eq_true rfl)) dX12_times_26 ⟨Nat.le_of_ble_eq_true rfl, Nat.le_of_ble_eq_true rfl⟩) hh hA (fun r_1766 H locs hw_1766 hh => ?_)
      exact hp_iretM hx hb hr rfl hlocks hh (⟨hI_1765, hf_1765⟩) dX12_times_29
    · obtain rfl : r_1764 = 0 := Eq.trans hw_1764 (if_neg hp_1764)
      refine lv_if_ne (tgt := 18) hx hb dX12_times_13 (by decide) (fun c_0 => absurd c_0 (by decide)) (fun _ => ?_)
      refine lv_iconst (v := (-1)) hx hb dX12_times_16 (by decide) ?_
      exact hp_iretM hx hb hr rfl hlocks hh (⟨hI, hf0⟩) dX12_times_17
  · obtain rfl : r_1763 = 0 := Eq.trans hw_1763 (if_neg hp_1763)
    refine lv_if_eq (tgt := 16) hx hb dX12_times_5 (by decide) (fun _ => ?_) (fun c_0 => absurd c_0 (by decide))
    refine lv_iconst (v := (-1)) hx hb dX12_times_16 (by decide) ?_
    exact hp_iretM hx hb hr rfl hlocks hh (⟨hI, hf0⟩) dX12_times_17
theorem kw_X12_times {R : Room} {s : State} {args : Array Value} {own : String} {idx : Nat} (hts : ∀ w ∈ TB, w.before args s = true) (hl : Cond.methodLink own idx yX12_times ∈ TB) (hR : 2 + 1 ≤ R.frames ∧ 8 + (3 + 11) + 40 * 2 ≤ R.locals) : CallW R s args own RX12 idx yX12_times cX12_times 3 (some .int) (Cond.code yX12_times cX12_times 3 (some .int) :: TB) (rmN 2) 0 0 2 := cwV 2 hts (TB_V hl tw_1163 tw_1164 tw_9 tw_1165) rfl rfl rfl (by decide +kernel) hR
set_option maxHeartbeats 4000000 in
set_option maxRecDepth 100000 in
/-- multiplyOut -/
theorem c_X12_multiplyOut (l : Launch) (D : va_G) (cy : Nat → ClassId) (sz : Nat) (cs : List Nat) (ad : Nat → Nat) (en : Nat → va_E) (hI : RX cy cs ad en) (w9 : Nat) (hw9 : w9 < 10)   : Met l yX12_multiplyOut (Cond.code yX12_multiplyOut cX12_multiplyOut 3 none :: TB) (rmN 2) (va_Pc [.ref (ad 0), .int (nI w9)] (Pre D cy cs ad en sz)) (va_Qv (S := Nat → va_E) (fun en1 => RX cy cs ad en1 ∧ (∀ c, (c ≠ 6) → en1 c = en c) ∧ MLT w9 en en1) (PostM D cs ad) (Af cs ad sz)) 0 0 (Af cs ad sz) := by
  refine Met.ofW (cc := cX12_multiplyOut) (maxL := 3) (ret := none) (by decide) rfl ?_
  intro p e s m args below meth c s₁ B hml hv
  obtain ⟨rfl, hsz, hP, hK, hD0⟩ := hv
  have hx := B.exec
  have hb := B.bytes
  have hr := B.returns
  have hts : ∀ w ∈ TB, w.before _ s = true := fun w h => atoms_spec (ws := _ :: TB) B.pre w (List.mem_cons_of_mem _ h)
  have hown : s.vm.findClass RX12 = some m.cls := findClass_of_methodNamed B.named
  have hlocks := B.notSynchronized
  have hh : Hp D (Af cs ad sz) (Af cs ad sz) s.heap s.heap [] cs ad en := ⟨hP, Af_self hD0, va_S.rf⟩
  have hA : ∀ q : Nat, s.heap.size ≤ q → Af cs ad sz q := fun q h => Or.inr (by rw [hsz] at h; exact h)
  have hl := lv_entry ([.ref (ad 0), .int (nI w9)]) (n := 3) (Nat.le_of_ble_eq_true rfl)
  rw [lg_entry_eq]
  generalize (lg_sl ([.ref (ad 0), .int (nI w9)]) ++ List.replicate (3 - (lg_sl ([.ref (ad 0), .int (nI w9)])).length) Slot.unset).toArray = ls at hl ⊢
  have hl : lv_has ls 3 [(0, .ref (ad 0)), (1, .int (nI w9))] := hl
  have hf0 : ∀ c, (c ≠ 6) → en c = en c := fun _ _ => rfl
  obtain ⟨fa, hi, wd, mo, tb, dp, many, grt, lst, nou, rm, rb, pr, wo, es1767, hwd2, hwd3, hmo, htb, hwo⟩ := getr_M hI
  obtain ⟨f_1768, es1768, p0_1768⟩ := getr_lt hI
  obtain ⟨f_1769, es1769, p0_1769⟩ := getr_wl hI
  refine lv_aload_n hx hb dX12_multiplyOut_0 rfl (lv_at hl 0 rfl) ?_
  refine hp_callMv (va_runV (As := []) (rest := []) ⟨hx, hb, hml, hown, hts⟩ (c_X12_beginLevels l D cy _ cs ad en hI  ) (kw_X12_beginLevels hts tw_1042 ⟨by decide, by decide⟩) (preV_of hh hK (hI.1 _ (by decide)) es1767 rfl) rfl rfl hl.1 rfl (lv_room (Nat.le_of_ble_eq_true rfl)) dX12_multiplyOut_1 ⟨Nat.le_of_ble_eq_true rfl, Nat.le_of_ble_eq_true rfl⟩) hh hA (fun H locs en_1770 hw_1770 hh => ?_)
  obtain ⟨hI_1770, hu_1770, hx_1770⟩ := hw_1770
  have es1767_1770 : en_1770 0 = .inr (11, [.int fa, .int hi, .int (nI wd), .int (nI mo), .int (nI tb), .ref (ad 1), .ref (ad 2), .ref (ad 3), .ref (ad 4), .ref (ad 5), .ref (ad 6), .ref (ad 7), .ref (ad 8), .ref (ad 9), .int dp, .long many, .long grt, .long lst, .long nou, .ref (ad 10), .ref (ad 11), .ref (ad 12), .int rm, .long rb, .ref (ad 13), .int pr, .ref (ad 14), .ref (ad 15), .ref (ad 16), .ref (ad 17), .int (nI wo), .ref (ad 18), .ref (ad 19)]) := (hu_1770 0 (by omega)).trans es1767
  have es1768_1770 : en_1770 18 = .inl (cy 0, 120, .inl f_1768) := (hu_1770 18 (by omega)).trans es1768
  have es1769_1770 : en_1770 19 = .inl (cy 0, 10, .inl f_1769) := (hu_1770 19 (by omega)).trans es1769
  have hf_1770 : ∀ c, (c ≠ 6) → en_1770 c = en c := fun c hc => (hu_1770 c (by omega)).trans (hf0 c hc)
  refine lv_iconst (v := 0) hx hb dX12_multiplyOut_4 (by decide) ?_
  refine lv_istore_n (lv' := [(2, .int 0), (0, .ref (ad 0)), (1, .int (nI w9))]) hx hb dX12_multiplyOut_5 rfl hl (by decide) rfl (fun ls hl => ?_)
  obtain ⟨v_1771, hv_1771, hfv_1771⟩ := p0_1769 w9 (by omega)
  have loop_1772 : ∀ (fu j1772 : Nat)  (en_1772 : Nat → va_E) (ls : Array Slot) (H : Heap) (locs : List Loc), 0 ≤ j1772 → j1772 ≤ v_1771 → v_1771 < j1772 + fu → RX cy cs ad en_1772 → (∀ c, (c ≠ 6) → en_1772 c = en c) → (∀ i, i < wd * wd → rdL (en_1772 6) (9 * j1772 + i) = prM wd mo (rdF (en 1)) (fun x => (rdF (en 18) (12 * w9 + x)).toNatClampNeg) j1772 i) → lv_has ls 3 [(2, .int (nI j1772)), (0, .ref (ad 0)), (1, .int (nI w9))] → Hp D (Af cs ad sz) (Af cs ad sz) s.heap H locs cs ad en_1772 → W p l e (headSpec (Cond.code yX12_multiplyOut cX12_multiplyOut 3 none :: TB) (rmN 2)).room s m ([.ref (ad 0), .int (nI w9)] : List Value).toArray below meth c H locs 0 0 (MQ below (va_Qv (S := Nat → va_E) (fun en1 => RX cy cs ad en1 ∧ (∀ c, (c ≠ 6) → en1 c = en c) ∧ MLT w9 en en1) (PostM D cs ad) (Af cs ad sz)) ([.ref (ad 0), .int (nI w9)] : List Value).toArray s 0 0 (Af cs ad sz)) (F0 m 6 ls []) := by
    intro fu
    induction fu with
    | zero => intro j1772  en_1772 ls H locs h0 h1 h2; exact absurd h2 (by omega)
    | succ fu ih_1772 =>
      intro j1772  en_1772 ls H locs hj0_1772 hj_1772 hfu_1772 hI_1772 hf_1772 i0_1772 hl hh
      refine lv_iload_n hx hb dX12_multiplyOut_6 rfl (lv_at hl 0 rfl) ?_
      refine lv_aload_n hx hb dX12_multiplyOut_7 rfl (lv_at hl 1 rfl) ?_
      have es1767_1773 : en_1772 0 = .inr (11, [.int fa, .int hi, .int (nI wd), .int (nI mo), .int (nI tb), .ref (ad 1), .ref (ad 2), .ref (ad 3), .ref (ad 4), .ref (ad 5), .ref (ad 6), .ref (ad 7), .ref (ad 8), .ref (ad 9), .int dp, .long many, .long grt, .long lst, .long nou, .ref (ad 10), .ref (ad 11), .ref (ad 12), .int rm, .long rb, .ref (ad 13), .int pr, .ref (ad 14), .ref (ad 15), .ref (ad 16), .ref (ad 17), .int (nI wo), .ref (ad 18), .ref (ad 19)]) := (hf_1772 0 (by omega)).trans es1767
      refine hp_get hx hb hts ix12 hown hK hh (q := 0) rfl (hI.1 _ (by decide)) es1767_1773 rfl 32 (by decide) (hts _ tw_911) (fun _ h9 => h9) rfl dX12_multiplyOut_8 ?_
      refine lv_iload_n hx hb dX12_multiplyOut_11 rfl (lv_at hl 2 rfl) ?_
      have es1769_1774 : en_1772 19 = .inl (cy 0, 10, .inl f_1769) := (hf_1772 19 (by omega)).trans es1769
      refine hp_iald hx hb hK hh (q := 19) rfl (hI.1 _ (by decide)) es1769_1774 (vp_in_nI (n := w9) (by omega) (by decide)) dX12_multiplyOut_12 ?_
      rw [nI_clamp (n := w9) (by omega)]
      rw [hfv_1771]
      refine lv_icmp_ge (tgt := 38) hx hb dX12_multiplyOut_13 (by decide) (fun c_1775 => ?_) (fun c_1775 => ?_)
      · have n_1775 : v_1771 ≤ j1772 := n_le (a := v_1771) (b := j1772) c_1775 (by omega) (by omega)
        have hq2 : (rdI (en 0) 2).toNatClampNeg = wd := by rw [show rdI (en 0) 2 = nI wd from by rw [es1767]; rfl]; exact nI_clamp (by omega)
        have hq3 : (rdI (en 0) 3).toNatClampNeg = mo := by rw [show rdI (en 0) 3 = nI mo from by rw [es1767]; rfl]; exact nI_clamp (by omega)
        have hq9 : (rdF (en 19) w9).toNatClampNeg = v_1771 := by rw [show rdF (en 19) = f_1769 from by rw [es1769]; rfl, hfv_1771]; exact nI_clamp (by omega)
        exact hp_vretM hx hb hr hlocks hh (⟨hI_1772, hf_1772, (fun i hi => by rw [hq2] at hi; rw [hq2, hq3, hq9]; have e9 : j1772 = v_1771 := (by omega); have h9 := i0_1772 i hi; rw [e9] at h9; exact h9)⟩) dX12_multiplyOut_38
      · have n_1775 : j1772 < v_1771 := n_nle (a := v_1771) (b := j1772) c_1775 (by omega) (by omega)
        refine lv_aload_n hx hb dX12_multiplyOut_16 rfl (lv_at hl 1 rfl) ?_
        refine lv_iload_n hx hb dX12_multiplyOut_17 rfl (lv_at hl 0 rfl) ?_
        refine lv_aload_n hx hb dX12_multiplyOut_18 rfl (lv_at hl 1 rfl) ?_
        refine hp_get hx hb hts ix12 hown hK hh (q := 0) rfl (hI.1 _ (by decide)) es1767_1773 rfl 31 (by decide) (hts _ tw_910) (fun _ h9 => h9) rfl dX12_multiplyOut_19 ?_
        refine lv_bipush (v := 12) hx hb dX12_multiplyOut_22 (by decide) ?_
        refine lv_iload_n hx hb dX12_multiplyOut_24 rfl (lv_at hl 2 rfl) ?_
        refine lv_imul hx hb dX12_multiplyOut_25 ?_
        rw [show (12 : Int32) = nI 12 from rfl, pk_mul 12 w9]
        refine lv_iload_n hx hb dX12_multiplyOut_26 rfl (lv_at hl 0 rfl) ?_
        refine lv_iadd hx hb dX12_multiplyOut_27 ?_
        rw [nI_add (12 * w9) j1772]
        have es1768_1776 : en_1772 18 = .inl (cy 0, 120, .inl f_1768) := (hf_1772 18 (by omega)).trans es1768
        refine hp_iald hx hb hK hh (q := 18) rfl (hI.1 _ (by decide)) es1768_1776 (vp_in_nI (n := ((12 * w9) + j1772)) (by omega) (by decide)) dX12_multiplyOut_28 ?_
        rw [nI_clamp (n := ((12 * w9) + j1772)) (by omega)]
        obtain ⟨v_1777, hv_1777, hfv_1777⟩ := p0_1768 ((12 * w9) + j1772) (by omega)
        rw [hfv_1777]
        refine hp_callMv (va_runV (As := [.int (nI j1772), .int (nI v_1777)]) (rest := []) ⟨hx, hb, hml, hown, hts⟩ (c_X12_goOn l D cy _ cs ad en_1772 hI_1772 j1772 v_1777 (by omega) (by omega)) (kw_X12_goOn hts tw_1050 ⟨by decide, by decide⟩) (preV_of hh hK (hI.1 _ (by decide)) es1767_1773 rfl) rfl rfl hl.1 rfl (lv_room (Nat.le_of_ble_eq_true rfl)) dX12_multiplyOut_29 ⟨Nat.le_of_ble_eq_true rfl, Nat.le_of_ble_eq_true rfl⟩) hh hA (fun H locs en_1778 hw_1778 hh => ?_)
        obtain ⟨hI_1778, hu_1778, hx_1778⟩ := hw_1778
        have es1767_1778 : en_1778 0 = .inr (11, [.int fa, .int hi, .int (nI wd), .int (nI mo), .int (nI tb), .ref (ad 1), .ref (ad 2), .ref (ad 3), .ref (ad 4), .ref (ad 5), .ref (ad 6), .ref (ad 7), .ref (ad 8), .ref (ad 9), .int dp, .long many, .long grt, .long lst, .long nou, .ref (ad 10), .ref (ad 11), .ref (ad 12), .int rm, .long rb, .ref (ad 13), .int pr, .ref (ad 14), .ref (ad 15), .ref (ad 16), .ref (ad 17), .int (nI wo), .ref (ad 18), .ref (ad 19)]) := (hu_1778 0 (by omega)).trans es1767_1773
        have es1769_1778 : en_1778 19 = .inl (cy 0, 10, .inl f_1769) := (hu_1778 19 (by omega)).trans es1769_1774
        have es1768_1778 : en_1778 18 = .inl (cy 0, 120, .inl f_1768) := (hu_1778 18 (by omega)).trans es1768_1776
        have hf_1778 : ∀ c, (c ≠ 6) → en_1778 c = en c := fun c hc => (hu_1778 c (by omega)).trans (hf_1772 c hc)
        refine lv_iinc (v := (nI (j1772 + 1))) (lv' := [(2, .int (nI (j1772 + 1))), (0, .ref (ad 0)), (1, .int (nI w9))]) hx hb dX12_multiplyOut_32 hl (k := 0) rfl (nI_1 _) (by decide) rfl (fun ls hl => ?_)
        refine lv_goto (tgt := 6) hx hb dX12_multiplyOut_35 (by decide) ?_
        exact ih_1772 ((j1772 + 1))  en_1778 ls H locs (by omega) (by omega) (by omega) hI_1778 hf_1778 (fun i hi => by have h9 := hx_1778 (9 * (j1772 + 1) + i); rw [show (rdI (en_1772 0) 2).toNatClampNeg = wd from by rw [hf_1772 0 (by omega), show rdI (en 0) 2 = nI wd from by rw [es1767]; rfl]; exact nI_clamp (by omega), show (rdI (en_1772 0) 3).toNatClampNeg = mo from by rw [hf_1772 0 (by omega), show rdI (en 0) 3 = nI mo from by rw [es1767]; rfl]; exact nI_clamp (by omega), if_pos (by omega), show 9 * (j1772 + 1) + i - (9 * j1772 + 9) = i by omega, show rdF (en_1772 1) = rdF (en 1) from by rw [hf_1772 1 (by omega)]] at h9; rw [h9]; exact prM_s i0_1772 (by show (rdF (en 18) (12 * w9 + j1772)).toNatClampNeg = v_1777; rw [show rdF (en 18) = f_1768 from by rw [es1768]; rfl, hfv_1777]; exact nI_clamp (by omega)) hi) (lv_sub hl [0, 1, 2] rfl) hh
  exact loop_1772 (v_1771 + 1) 0  en_1770 ls _ _ (Nat.le_refl _) (by omega) (by omega) hI_1770 hf_1770 (fun i hi => by have h9 := hx_1770 (9 * 0 + i); rw [show (rdI (en 0) 2).toNatClampNeg = wd from by rw [show rdI (en 0) 2 = nI wd from by rw [es1767]; rfl]; exact nI_clamp (by omega), if_pos (by omega), show 9 * 0 + i - 0 = i by omega] at h9; exact h9) (lv_sub hl [0, 1, 2] rfl) hh
theorem kw_X12_multiplyOut {R : Room} {s : State} {args : Array Value} {own : String} {idx : Nat} (hts : ∀ w ∈ TB, w.before args s = true) (hl : Cond.methodLink own idx yX12_multiplyOut ∈ TB) (hR : 2 + 1 ≤ R.frames ∧ 8 + (3 + 11) + 40 * 2 ≤ R.locals) : CallW R s args own RX12 idx yX12_multiplyOut cX12_multiplyOut 3 none (Cond.code yX12_multiplyOut cX12_multiplyOut 3 none :: TB) (rmN 2) 0 0 1 := cwV 1 hts (TB_V hl tw_1193 ts_59 tw_9 tw_1194) rfl rfl rfl (by decide +kernel) hR
set_option maxHeartbeats 4000000 in
set_option maxRecDepth 100000 in
/-- entryOf -/
theorem c_X12_entryOf (l : Launch) (D : va_G) (cy : Nat → ClassId) (sz : Nat) (cs : List Nat) (ad : Nat → Nat) (en : Nat → va_E) (hI : RX cy cs ad en) (w9 a9 b9 : Int32)   : Met l yX12_entryOf (Cond.code yX12_entryOf cX12_entryOf 4 (some .long) :: TB) (rmN 3) (va_Pc [.ref (ad 0), .int w9, .int a9, .int b9] (Pre D cy cs ad en sz)) (va_Ql (S := Nat → va_E) (fun r en1 => RX cy cs ad en1 ∧ (∀ c, (c ≠ 6) → en1 c = en c) ∧ REO w9 a9 b9 r en) (PostM D cs ad) (Af cs ad sz)) 0 0 (Af cs ad sz) := by
  refine Met.ofW (cc := cX12_entryOf) (maxL := 4) (ret := (some .long)) (by decide) rfl ?_
  intro p e s m args below meth c s₁ B hml hv
  obtain ⟨rfl, hsz, hP, hK, hD0⟩ := hv
  have hx := B.exec
  have hb := B.bytes
  have hr := B.returns
  have hts : ∀ w ∈ TB, w.before _ s = true := fun w h => atoms_spec (ws := _ :: TB) B.pre w (List.mem_cons_of_mem _ h)
  have hown : s.vm.findClass RX12 = some m.cls := findClass_of_methodNamed B.named
  have hlocks := B.notSynchronized
  have hh : Hp D (Af cs ad sz) (Af cs ad sz) s.heap s.heap [] cs ad en := ⟨hP, Af_self hD0, va_S.rf⟩
  have hA : ∀ q : Nat, s.heap.size ≤ q → Af cs ad sz q := fun q h => Or.inr (by rw [hsz] at h; exact h)
  have hl := lv_entry ([.ref (ad 0), .int w9, .int a9, .int b9]) (n := 4) (Nat.le_of_ble_eq_true rfl)
  rw [lg_entry_eq]
  generalize (lg_sl ([.ref (ad 0), .int w9, .int a9, .int b9]) ++ List.replicate (4 - (lg_sl ([.ref (ad 0), .int w9, .int a9, .int b9])).length) Slot.unset).toArray = ls at hl ⊢
  have hl : lv_has ls 4 [(0, .ref (ad 0)), (1, .int w9), (2, .int a9), (3, .int b9)] := hl
  have hf0 : ∀ c, (c ≠ 6) → en c = en c := fun _ _ => rfl
  obtain ⟨fa, hi, wd, mo, tb, dp, many, grt, lst, nou, rm, rb, pr, wo, es1779, hwd2, hwd3, hmo, htb, hwo⟩ := getr_M hI
  obtain ⟨f_1780, es1780, p0_1780⟩ := getr_wl hI
  refine lv_aload_n hx hb dX12_entryOf_0 rfl (lv_at hl 0 rfl) ?_
  refine lv_iload_n hx hb dX12_entryOf_1 rfl (lv_at hl 1 rfl) ?_
  refine hp_callRi (va_runV (As := [.int w9]) (rest := []) ⟨hx, hb, hml, hown, hts⟩ (c_X12_isWord l D cy _ cs ad en hI w9 ) (kw_X12_isWord hts tw_1175 ⟨by decide, by decide⟩) (preV_of hh hK (hI.1 _ (by decide)) es1779 rfl) rfl rfl hl.1 rfl (lv_room (Nat.le_of_ble_eq_true rfl)) dX12_entryOf_2 ⟨Nat.le_of_ble_eq_true rfl, Nat.le_of_ble_eq_true rfl⟩) hh hA (fun r_1781 H locs hw_1781 hh => ?_)
  rw [show rdI (en 0) 30 = (nI wo) from by rw [es1779]; rfl, nI_toInt (n := wo) (by omega)] at hw_1781
  rcases Decidable.em (0 ≤ w9.toInt ∧ w9.toInt < (wo : Int)) with hp_1781 | hp_1781
  · obtain rfl : r_1781 = 1 := Eq.trans hw_1781 (if_pos hp_1781)
    obtain ⟨T_1781, rfl, hT_1781⟩ := has_nat hp_1781
    refine lv_if_eq (tgt := 17) hx hb dX12_entryOf_5 (by decide) (fun c_0 => absurd c_0 (by decide)) (fun _ => ?_)
    refine lv_aload_n hx hb dX12_entryOf_8 rfl (lv_at hl 0 rfl) ?_
    refine lv_iload_n hx hb dX12_entryOf_9 rfl (lv_at hl 2 rfl) ?_
    refine lv_iload_n hx hb dX12_entryOf_10 rfl (lv_at hl 3 rfl) ?_
    refine hp_callRi (va_runV (As := [.int a9, .int b9]) (rest := []) ⟨hx, hb, hml, hown, hts⟩ (c_X12_isPlace l D cy _ cs ad en hI a9 b9 ) (kw_X12_isPlace hts tw_1011 ⟨by decide, by decide⟩) (preV_of hh hK (hI.1 _ (by decide)) es1779 rfl) rfl rfl hl.1 rfl (lv_room (Nat.le_of_ble_eq_true rfl)) dX12_entryOf_11 ⟨Nat.le_of_ble_eq_true rfl, Nat.le_of_ble_eq_true rfl⟩) hh hA (fun r_1782 H locs hw_1782 hh => ?_)
    rw [show (rdI (en 0) 2).toInt = (wd : Int) from by rw [es1779]; exact nI_toInt (by omega)] at hw_1782
    rcases Decidable.em ((0 ≤ a9.toInt ∧ a9.toInt < (wd : Int)) ∧ 0 ≤ b9.toInt ∧ b9.toInt < (wd : Int)) with hp_1782 | hp_1782
    · obtain rfl : r_1782 = 1 := Eq.trans hw_1782 (if_pos hp_1782)
      obtain ⟨A_1782, rfl, hA_1782⟩ := has_nat hp_1782.1
      obtain ⟨B_1782, rfl, hB_1782⟩ := has_nat hp_1782.2
      refine lv_if_ne (tgt := 21) hx hb dX12_entryOf_14 (by decide) (fun _ => ?_) (fun c_0 => absurd c_0 (by decide))
      refine lv_aload_n hx hb dX12_entryOf_21 rfl (lv_at hl 0 rfl) ?_
      refine lv_iload_n hx hb dX12_entryOf_22 rfl (lv_at hl 1 rfl) ?_
      refine hp_callMv (va_runV (As := [.int (nI T_1781)]) (rest := []) ⟨hx, hb, hml, hown, hts⟩ (c_X12_multiplyOut l D cy _ cs ad en hI T_1781 (by omega)) (kw_X12_multiplyOut hts tw_1191 ⟨by decide, by decide⟩) (preV_of hh hK (hI.1 _ (by decide)) es1779 rfl) rfl rfl hl.1 rfl (lv_room (Nat.le_of_ble_eq_true rfl)) dX12_entryOf_23 ⟨Nat.le_of_ble_eq_true rfl, Nat.le_of_ble_eq_true rfl⟩) hh hA (fun H locs en_1783 hw_1783 hh => ?_)
      obtain ⟨hI_1783, hu_1783, hx_1783⟩ := hw_1783
      have es1779_1783 : en_1783 0 = .inr (11, [.int fa, .int hi, .int (nI wd), .int (nI mo), .int (nI tb), .ref (ad 1), .ref (ad 2), .ref (ad 3), .ref (ad 4), .ref (ad 5), .ref (ad 6), .ref (ad 7), .ref (ad 8), .ref (ad 9), .int dp, .long many, .long grt, .long lst, .long nou, .ref (ad 10), .ref (ad 11), .ref (ad 12), .int rm, .long rb, .ref (ad 13), .int pr, .ref (ad 14), .ref (ad 15), .ref (ad 16), .ref (ad 17), .int (nI wo), .ref (ad 18), .ref (ad 19)]) := (hu_1783 0 (by omega)).trans es1779
      have es1780_1783 : en_1783 19 = .inl (cy 0, 10, .inl f_1780) := (hu_1783 19 (by omega)).trans es1780
      have hf_1783 : ∀ c, (c ≠ 6) → en_1783 c = en c := fun c hc => (hu_1783 c (by omega)).trans (hf0 c hc)
      refine lv_aload_n hx hb dX12_entryOf_26 rfl (lv_at hl 0 rfl) ?_
      refine hp_get hx hb hts ix12 hown hK hh (q := 0) rfl (hI.1 _ (by decide)) es1779_1783 rfl 10 (by decide) (hts _ tw_889) (fun _ h9 => h9) rfl dX12_entryOf_27 ?_
      refine lv_bipush (v := 9) hx hb dX12_entryOf_30 (by decide) ?_
      refine lv_aload_n hx hb dX12_entryOf_32 rfl (lv_at hl 0 rfl) ?_
      refine hp_get hx hb hts ix12 hown hK hh (q := 0) rfl (hI.1 _ (by decide)) es1779_1783 rfl 32 (by decide) (hts _ tw_911) (fun _ h9 => h9) rfl dX12_entryOf_33 ?_
      refine lv_iload_n hx hb dX12_entryOf_36 rfl (lv_at hl 1 rfl) ?_
      refine hp_iald hx hb hK hh (q := 19) rfl (hI.1 _ (by decide)) es1780_1783 (vp_in_nI (n := T_1781) (by omega) (by decide)) dX12_entryOf_37 ?_
      rw [nI_clamp (n := T_1781) (by omega)]
      obtain ⟨v_1784, hv_1784, hfv_1784⟩ := p0_1780 T_1781 (by omega)
      rw [hfv_1784]
      refine lv_imul hx hb dX12_entryOf_38 ?_
      rw [show (9 : Int32) = nI 9 from rfl, pk_mul 9 v_1784]
      refine lv_aload_n hx hb dX12_entryOf_39 rfl (lv_at hl 0 rfl) ?_
      refine hp_get hx hb hts ix12 hown hK hh (q := 0) rfl (hI.1 _ (by decide)) es1779_1783 rfl 2 (by decide) (hts _ tw_881) (fun _ h9 => h9) rfl dX12_entryOf_40 ?_
      refine lv_iload_n hx hb dX12_entryOf_43 rfl (lv_at hl 2 rfl) ?_
      refine lv_imul hx hb dX12_entryOf_44 ?_
      rw [pk_mul wd A_1782]
      refine lv_iadd hx hb dX12_entryOf_45 ?_
      rw [nI_add (9 * v_1784) (wd * A_1782)]
      refine lv_iload_n hx hb dX12_entryOf_46 rfl (lv_at hl 3 rfl) ?_
      refine lv_iadd hx hb dX12_entryOf_47 ?_
      rw [nI_add ((9 * v_1784) + (wd * A_1782)) B_1782]
      have hi_1785 : wd * A_1782 + B_1782 < 9 := mdr (by omega) (by omega) (by omega)
      obtain ⟨f_1786, es1786⟩ := getr_lv hI_1783
      refine hp_lald hx hb hK hh (q := 6) rfl (hI.1 _ (by decide)) es1786 (vp_in_nI (n := (((9 * v_1784) + (wd * A_1782)) + B_1782)) (by omega) (by decide)) dX12_entryOf_48 ?_
      rw [nI_clamp (n := (((9 * v_1784) + (wd * A_1782)) + B_1782)) (by omega)]
      have hc30 : (rdI (en 0) 30).toInt = (wo : Int) := by rw [show rdI (en 0) 30 = nI wo from by rw [es1779]; rfl]; exact nI_toInt (by omega)
      have hc2 : rdI (en 0) 2 = nI wd := by rw [es1779]; rfl
      have hc2i : (rdI (en 0) 2).toInt = (wd : Int) := by rw [hc2]; exact nI_toInt (by omega)
      have hq9 : (rdF (en 19) T_1781).toNatClampNeg = v_1784 := by rw [show rdF (en 19) = f_1780 from by rw [es1780]; rfl, hfv_1784]; exact nI_clamp (by omega)
      have hi9 : wd * A_1782 + B_1782 < wd * wd := rc_lt3 (by omega) (by omega)
      have hm9 := hx_1783 (wd * A_1782 + B_1782) (by rw [hc2, nI_clamp (n := wd) (by omega)]; exact hi9)
      exact hp_lretM hx hb hr hlocks hh (⟨hI_1783, hf_1783, Or.inl ⟨⟨⟨hp_1781.1, by have := hp_1781.2; omega⟩, ⟨hp_1782.1.1, by have := hp_1782.1.2; omega⟩, ⟨hp_1782.2.1, by have := hp_1782.2.2; omega⟩⟩, by rw [nI_clamp (n := T_1781) (by omega), nI_clamp (n := A_1782) (by omega), nI_clamp (n := B_1782) (by omega), hc2, nI_clamp (n := wd) (by omega)]; rw [hc2, nI_clamp (n := wd) (by omega), hq9, ← Nat.add_assoc, show rdL (en_1783 6) = f_1786 from by rw [es1786]; rfl] at hm9; rw [hq9]; exact hm9⟩⟩) dX12_entryOf_49
    · obtain rfl : r_1782 = 0 := Eq.trans hw_1782 (if_neg hp_1782)
      refine lv_if_ne (tgt := 21) hx hb dX12_entryOf_14 (by decide) (fun c_0 => absurd c_0 (by decide)) (fun _ => ?_)
      refine lv_ldc2 hx hb hown (hts _ tw_1015) dX12_entryOf_17 ?_
      have hc30 : (rdI (en 0) 30).toInt = (wo : Int) := by rw [show rdI (en 0) 30 = nI wo from by rw [es1779]; rfl]; exact nI_toInt (by omega)
      have hc2 : rdI (en 0) 2 = nI wd := by rw [es1779]; rfl
      have hc2i : (rdI (en 0) 2).toInt = (wd : Int) := by rw [hc2]; exact nI_toInt (by omega)
      exact hp_lretM hx hb hr hlocks hh (⟨hI, hf0, Or.inr ⟨fun q => hp_1782 ⟨⟨q.2.1.1, by have := q.2.1.2; omega⟩, ⟨q.2.2.1, by have := q.2.2.2; omega⟩⟩, rfl⟩⟩) dX12_entryOf_20
  · obtain rfl : r_1781 = 0 := Eq.trans hw_1781 (if_neg hp_1781)
    refine lv_if_eq (tgt := 17) hx hb dX12_entryOf_5 (by decide) (fun _ => ?_) (fun c_0 => absurd c_0 (by decide))
    refine lv_ldc2 hx hb hown (hts _ tw_1015) dX12_entryOf_17 ?_
    have hc30 : (rdI (en 0) 30).toInt = (wo : Int) := by rw [show rdI (en 0) 30 = nI wo from by rw [es1779]; rfl]; exact nI_toInt (by omega)
    have hc2 : rdI (en 0) 2 = nI wd := by rw [es1779]; rfl
    have hc2i : (rdI (en 0) 2).toInt = (wd : Int) := by rw [hc2]; exact nI_toInt (by omega)
    exact hp_lretM hx hb hr hlocks hh (⟨hI, hf0, Or.inr ⟨fun q => hp_1781 ⟨q.1.1, by have := q.1.2; omega⟩, rfl⟩⟩) dX12_entryOf_20
theorem kw_X12_entryOf {R : Room} {s : State} {args : Array Value} {own : String} {idx : Nat} (hts : ∀ w ∈ TB, w.before args s = true) (hl : Cond.methodLink own idx yX12_entryOf ∈ TB) (hR : 3 + 1 ≤ R.frames ∧ 8 + (4 + 11) + 40 * 3 ≤ R.locals) : CallW R s args own RX12 idx yX12_entryOf cX12_entryOf 4 (some .long) (Cond.code yX12_entryOf cX12_entryOf 4 (some .long) :: TB) (rmN 3) 0 0 3 := cwV 3 hts (TB_V hl tw_1188 tw_1189 tw_9 tw_1190) rfl rfl rfl (by decide +kernel) hR
set_option maxHeartbeats 4000000 in
set_option maxRecDepth 100000 in
/-- size -/
theorem c_X12_size (l : Launch) (D : va_G) (cy : Nat → ClassId) (sz : Nat) (cs : List Nat) (ad : Nat → Nat) (en : Nat → va_E) (hI : RX cy cs ad en) (w9 z9 : Int32)   : Met l yX12_size (Cond.code yX12_size cX12_size 3 (some .long) :: TB) (rmN 3) (va_Pc [.ref (ad 0), .int w9, .int z9] (Pre D cy cs ad en sz)) (va_Ql (S := Nat → va_E) (fun r en1 => RX cy cs ad en1 ∧ (∀ c, (c ≠ 6) → en1 c = en c) ∧ RSZ w9 z9 r en) (PostM D cs ad) (Af cs ad sz)) 0 0 (Af cs ad sz) := by
  refine Met.ofW (cc := cX12_size) (maxL := 3) (ret := (some .long)) (by decide) rfl ?_
  intro p e s m args below meth c s₁ B hml hv
  obtain ⟨rfl, hsz, hP, hK, hD0⟩ := hv
  have hx := B.exec
  have hb := B.bytes
  have hr := B.returns
  have hts : ∀ w ∈ TB, w.before _ s = true := fun w h => atoms_spec (ws := _ :: TB) B.pre w (List.mem_cons_of_mem _ h)
  have hown : s.vm.findClass RX12 = some m.cls := findClass_of_methodNamed B.named
  have hlocks := B.notSynchronized
  have hh : Hp D (Af cs ad sz) (Af cs ad sz) s.heap s.heap [] cs ad en := ⟨hP, Af_self hD0, va_S.rf⟩
  have hA : ∀ q : Nat, s.heap.size ≤ q → Af cs ad sz q := fun q h => Or.inr (by rw [hsz] at h; exact h)
  have hl := lv_entry ([.ref (ad 0), .int w9, .int z9]) (n := 3) (Nat.le_of_ble_eq_true rfl)
  rw [lg_entry_eq]
  generalize (lg_sl ([.ref (ad 0), .int w9, .int z9]) ++ List.replicate (3 - (lg_sl ([.ref (ad 0), .int w9, .int z9])).length) Slot.unset).toArray = ls at hl ⊢
  have hl : lv_has ls 3 [(0, .ref (ad 0)), (1, .int w9), (2, .int z9)] := hl
  have hf0 : ∀ c, (c ≠ 6) → en c = en c := fun _ _ => rfl
  obtain ⟨fa, hi, wd, mo, tb, dp, many, grt, lst, nou, rm, rb, pr, wo, es1787, hwd2, hwd3, hmo, htb, hwo⟩ := getr_M hI
  obtain ⟨f_1788, es1788, p0_1788⟩ := getr_wl hI
  refine lv_aload_n hx hb dX12_size_0 rfl (lv_at hl 0 rfl) ?_
  refine lv_iload_n hx hb dX12_size_1 rfl (lv_at hl 1 rfl) ?_
  refine hp_callRi (va_runV (As := [.int w9]) (rest := []) ⟨hx, hb, hml, hown, hts⟩ (c_X12_isWord l D cy _ cs ad en hI w9 ) (kw_X12_isWord hts tw_1175 ⟨by decide, by decide⟩) (preV_of hh hK (hI.1 _ (by decide)) es1787 rfl) rfl rfl hl.1 rfl (lv_room (Nat.le_of_ble_eq_true rfl)) dX12_size_2 ⟨Nat.le_of_ble_eq_true rfl, Nat.le_of_ble_eq_true rfl⟩) hh hA (fun r_1789 H locs hw_1789 hh => ?_)
  rw [show rdI (en 0) 30 = (nI wo) from by rw [es1787]; rfl, nI_toInt (n := wo) (by omega)] at hw_1789
  rcases Decidable.em (0 ≤ w9.toInt ∧ w9.toInt < (wo : Int)) with hp_1789 | hp_1789
  · obtain rfl : r_1789 = 1 := Eq.trans hw_1789 (if_pos hp_1789)
    obtain ⟨T_1789, rfl, hT_1789⟩ := has_nat hp_1789
    refine lv_if_eq (tgt := 18) hx hb dX12_size_5 (by decide) (fun c_0 => absurd c_0 (by decide)) (fun _ => ?_)
    refine lv_iload_n hx hb dX12_size_8 rfl (lv_at hl 2 rfl) ?_
    refine lv_i2l hx hb dX12_size_9 rfl ?_
    refine lv_lconst (v := 0) hx hb dX12_size_10 (by decide) ?_
    refine lv_lconst (v := 1) hx hb dX12_size_11 (by decide) ?_
    refine hp_callRi (va_runS (As := [.long z9.toInt64, .long 0, .long 1]) (rest := []) ⟨hx, hb, hml, hown, hts⟩ (c_X12_within l D cy _ cs ad en z9.toInt64 0 1) (kw_X12_within hts tw_985 ⟨by decide, by decide⟩) (preS_of hh hK) rfl rfl hl.1 rfl (lv_room (Nat.le_of_ble_eq_true rfl)) dX12_size_12 ⟨Nat.le_of_ble_eq_true rfl, Nat.le_of_ble_eq_true rfl⟩) hh hA (fun r_1790 H locs hw_1790 hh => ?_)
    rcases Decidable.em (wi z9 0 1) with hp_1790 | hp_1790
    · obtain rfl : r_1790 = 1 := Eq.trans hw_1790 (if_pos ((wj_32 (by decide) (by decide)).mpr hp_1790))
      obtain ⟨N_1790, rfl, hA_1790, hB_1790⟩ := wi_natB hp_1790 0 1 (by decide) (by decide)
      refine lv_if_ne (tgt := 22) hx hb dX12_size_15 (by decide) (fun _ => ?_) (fun c_0 => absurd c_0 (by decide))
      refine lv_aload_n hx hb dX12_size_22 rfl (lv_at hl 0 rfl) ?_
      refine lv_iload_n hx hb dX12_size_23 rfl (lv_at hl 1 rfl) ?_
      refine hp_callMv (va_runV (As := [.int (nI T_1789)]) (rest := []) ⟨hx, hb, hml, hown, hts⟩ (c_X12_multiplyOut l D cy _ cs ad en hI T_1789 (by omega)) (kw_X12_multiplyOut hts tw_1191 ⟨by decide, by decide⟩) (preV_of hh hK (hI.1 _ (by decide)) es1787 rfl) rfl rfl hl.1 rfl (lv_room (Nat.le_of_ble_eq_true rfl)) dX12_size_24 ⟨Nat.le_of_ble_eq_true rfl, Nat.le_of_ble_eq_true rfl⟩) hh hA (fun H locs en_1791 hw_1791 hh => ?_)
      obtain ⟨hI_1791, hu_1791, hx_1791⟩ := hw_1791
      have es1787_1791 : en_1791 0 = .inr (11, [.int fa, .int hi, .int (nI wd), .int (nI mo), .int (nI tb), .ref (ad 1), .ref (ad 2), .ref (ad 3), .ref (ad 4), .ref (ad 5), .ref (ad 6), .ref (ad 7), .ref (ad 8), .ref (ad 9), .int dp, .long many, .long grt, .long lst, .long nou, .ref (ad 10), .ref (ad 11), .ref (ad 12), .int rm, .long rb, .ref (ad 13), .int pr, .ref (ad 14), .ref (ad 15), .ref (ad 16), .ref (ad 17), .int (nI wo), .ref (ad 18), .ref (ad 19)]) := (hu_1791 0 (by omega)).trans es1787
      have es1788_1791 : en_1791 19 = .inl (cy 0, 10, .inl f_1788) := (hu_1791 19 (by omega)).trans es1788
      have hf_1791 : ∀ c, (c ≠ 6) → en_1791 c = en c := fun c hc => (hu_1791 c (by omega)).trans (hf0 c hc)
      refine lv_iload_n hx hb dX12_size_27 rfl (lv_at hl 2 rfl) ?_
      refine lv_if_ne (tgt := 44) hx hb dX12_size_28 (by decide) (fun c_1792 => ?_) (fun c_1792 => ?_)
      · have n_1792 : N_1790 ≠ 0 := n_neq (a := N_1790) (b := 0) c_1792 (by omega) (by decide)
        refine lv_aload_n hx hb dX12_size_44 rfl (lv_at hl 0 rfl) ?_
        refine lv_aload_n hx hb dX12_size_45 rfl (lv_at hl 0 rfl) ?_
        refine hp_get hx hb hts ix12 hown hK hh (q := 0) rfl (hI.1 _ (by decide)) es1787_1791 rfl 32 (by decide) (hts _ tw_911) (fun _ h9 => h9) rfl dX12_size_46 ?_
        refine lv_iload_n hx hb dX12_size_49 rfl (lv_at hl 1 rfl) ?_
        refine hp_iald hx hb hK hh (q := 19) rfl (hI.1 _ (by decide)) es1788_1791 (vp_in_nI (n := T_1789) (by omega) (by decide)) dX12_size_50 ?_
        rw [nI_clamp (n := T_1789) (by omega)]
        obtain ⟨v_1793, hv_1793, hfv_1793⟩ := p0_1788 T_1789 (by omega)
        rw [hfv_1793]
        refine hp_callRl (va_runV (As := [.int (nI v_1793)]) (rest := []) ⟨hx, hb, hml, hown, hts⟩ (c_X12_trackAt l D cy _ cs ad en_1791 hI_1791 v_1793 (by omega)) (kw_X12_trackAt hts tw_1093 ⟨by decide, by decide⟩) (preV_of hh hK (hI.1 _ (by decide)) es1787_1791 rfl) rfl rfl hl.1 rfl (lv_room (Nat.le_of_ble_eq_true rfl)) dX12_size_51 ⟨Nat.le_of_ble_eq_true rfl, Nat.le_of_ble_eq_true rfl⟩) hh hA (fun r_1794 H locs hw_1794 hh => ?_)
        have hc30 : (rdI (en 0) 30).toInt = (wo : Int) := by rw [show rdI (en 0) 30 = nI wo from by rw [es1787]; rfl]; exact nI_toInt (by omega)
        have hc2 : rdI (en 0) 2 = nI wd := by rw [es1787]; rfl
        have hc2i : (rdI (en 0) 2).toInt = (wd : Int) := by rw [hc2]; exact nI_toInt (by omega)
        have hq9 : (rdF (en 19) T_1789).toNatClampNeg = v_1793 := by rw [show rdF (en 19) = f_1788 from by rw [es1788]; rfl, hfv_1793]; exact nI_clamp (by omega)
        exact hp_lretM hx hb hr hlocks hh (⟨hI_1791, hf_1791, Or.inl ⟨⟨hp_1789.1, by have := hp_1789.2; omega⟩, hp_1790, rdL (en_1791 6), (fun i hi => by rw [nI_clamp (n := T_1789) (by omega)]; exact hx_1791 i hi), Or.inr ⟨(fun q => n_1792 (n_eq (b := 0) q (by omega) (by omega))), by rw [nI_clamp (n := T_1789) (by omega), hq9, hc2, nI_clamp (n := wd) (by omega)]; rw [show (rdI (en_1791 0) 2).toNatClampNeg = wd from by rw [hu_1791 0 (by omega), hc2]; exact nI_clamp (by omega)] at hw_1794; exact hw_1794⟩⟩⟩) dX12_size_54
      · have n_1792 : N_1790 = 0 := n_eq (a := N_1790) (b := 0) c_1792 (by omega) (by decide)
        refine lv_aload_n hx hb dX12_size_31 rfl (lv_at hl 0 rfl) ?_
        refine lv_aload_n hx hb dX12_size_32 rfl (lv_at hl 0 rfl) ?_
        refine hp_get hx hb hts ix12 hown hK hh (q := 0) rfl (hI.1 _ (by decide)) es1787_1791 rfl 32 (by decide) (hts _ tw_911) (fun _ h9 => h9) rfl dX12_size_33 ?_
        refine lv_iload_n hx hb dX12_size_36 rfl (lv_at hl 1 rfl) ?_
        refine hp_iald hx hb hK hh (q := 19) rfl (hI.1 _ (by decide)) es1788_1791 (vp_in_nI (n := T_1789) (by omega) (by decide)) dX12_size_37 ?_
        rw [nI_clamp (n := T_1789) (by omega)]
        obtain ⟨v_1795, hv_1795, hfv_1795⟩ := p0_1788 T_1789 (by omega)
        rw [hfv_1795]
        refine hp_callRl (va_runV (As := [.int (nI v_1795)]) (rest := []) ⟨hx, hb, hml, hown, hts⟩ (c_X12_normAt l D cy _ cs ad en_1791 hI_1791 v_1795 (by omega)) (kw_X12_normAt hts tw_1058 ⟨by decide, by decide⟩) (preV_of hh hK (hI.1 _ (by decide)) es1787_1791 rfl) rfl rfl hl.1 rfl (lv_room (Nat.le_of_ble_eq_true rfl)) dX12_size_38 ⟨Nat.le_of_ble_eq_true rfl, Nat.le_of_ble_eq_true rfl⟩) hh hA (fun r_1796 H locs hw_1796 hh => ?_)
        refine lv_goto (tgt := 54) hx hb dX12_size_41 (by decide) ?_
        have hc30 : (rdI (en 0) 30).toInt = (wo : Int) := by rw [show rdI (en 0) 30 = nI wo from by rw [es1787]; rfl]; exact nI_toInt (by omega)
        have hc2 : rdI (en 0) 2 = nI wd := by rw [es1787]; rfl
        have hc2i : (rdI (en 0) 2).toInt = (wd : Int) := by rw [hc2]; exact nI_toInt (by omega)
        have hq9 : (rdF (en 19) T_1789).toNatClampNeg = v_1795 := by rw [show rdF (en 19) = f_1788 from by rw [es1788]; rfl, hfv_1795]; exact nI_clamp (by omega)
        exact hp_lretM hx hb hr hlocks hh (⟨hI_1791, hf_1791, Or.inl ⟨⟨hp_1789.1, by have := hp_1789.2; omega⟩, hp_1790, rdL (en_1791 6), (fun i hi => by rw [nI_clamp (n := T_1789) (by omega)]; exact hx_1791 i hi), Or.inl ⟨(by rw [n_1792]; rfl), by rw [nI_clamp (n := T_1789) (by omega), hq9, hc2, nI_clamp (n := wd) (by omega)]; rw [show (rdI (en_1791 0) 2).toNatClampNeg = wd from by rw [hu_1791 0 (by omega), hc2]; exact nI_clamp (by omega)] at hw_1796; exact hw_1796⟩⟩⟩) dX12_size_54
    · obtain rfl : r_1790 = 0 := Eq.trans hw_1790 (if_neg (fun q => hp_1790 ((wj_32 (by decide) (by decide)).mp q)))
      refine lv_if_ne (tgt := 22) hx hb dX12_size_15 (by decide) (fun c_0 => absurd c_0 (by decide)) (fun _ => ?_)
      refine lv_ldc2 hx hb hown (hts _ tw_1015) dX12_size_18 ?_
      have hc30 : (rdI (en 0) 30).toInt = (wo : Int) := by rw [show rdI (en 0) 30 = nI wo from by rw [es1787]; rfl]; exact nI_toInt (by omega)
      have hc2 : rdI (en 0) 2 = nI wd := by rw [es1787]; rfl
      have hc2i : (rdI (en 0) 2).toInt = (wd : Int) := by rw [hc2]; exact nI_toInt (by omega)
      exact hp_lretM hx hb hr hlocks hh (⟨hI, hf0, Or.inr ⟨fun q => hp_1790 q.2, rfl⟩⟩) dX12_size_21
  · obtain rfl : r_1789 = 0 := Eq.trans hw_1789 (if_neg hp_1789)
    refine lv_if_eq (tgt := 18) hx hb dX12_size_5 (by decide) (fun _ => ?_) (fun c_0 => absurd c_0 (by decide))
    refine lv_ldc2 hx hb hown (hts _ tw_1015) dX12_size_18 ?_
    have hc30 : (rdI (en 0) 30).toInt = (wo : Int) := by rw [show rdI (en 0) 30 = nI wo from by rw [es1787]; rfl]; exact nI_toInt (by omega)
    have hc2 : rdI (en 0) 2 = nI wd := by rw [es1787]; rfl
    have hc2i : (rdI (en 0) 2).toInt = (wd : Int) := by rw [hc2]; exact nI_toInt (by omega)
    exact hp_lretM hx hb hr hlocks hh (⟨hI, hf0, Or.inr ⟨fun q => hp_1789 ⟨q.1.1, by have := q.1.2; omega⟩, rfl⟩⟩) dX12_size_21
theorem kw_X12_size {R : Room} {s : State} {args : Array Value} {own : String} {idx : Nat} (hts : ∀ w ∈ TB, w.before args s = true) (hl : Cond.methodLink own idx yX12_size ∈ TB) (hR : 3 + 1 ≤ R.frames ∧ 8 + (3 + 11) + 40 * 3 ≤ R.locals) : CallW R s args own RX12 idx yX12_size cX12_size 3 (some .long) (Cond.code yX12_size cX12_size 3 (some .long) :: TB) (rmN 3) 0 0 2 := cwV 2 hts (TB_V hl tw_1196 tw_1197 tw_9 tw_1198) rfl rfl rfl (by decide +kernel) hR
set_option maxHeartbeats 4000000 in
set_option maxRecDepth 100000 in
/-- about -/
theorem c_X12_about (l : Launch) (D : va_G) (cy : Nat → ClassId) (sz : Nat) (cs : List Nat) (ad : Nat → Nat) (en : Nat → va_E) (hI : RX cy cs ad en) (w9 z9 : Int32) (hRW : RWX en)   : Met l yX12_about (Cond.code yX12_about cX12_about 5 (some .int) :: TB) (rmN 3) (va_Pc [.ref (ad 0), .int w9, .int z9] (Pre D cy cs ad en sz)) (va_Qi (S := Nat → va_E) (fun r en1 => RX cy cs ad en1 ∧ (∀ c, (c ≠ 12) → en1 c = en c) ∧ RAB w9 z9 r en) (PostM D cs ad) (Af cs ad sz)) 0 0 (Af cs ad sz) := by
  refine Met.ofW (cc := cX12_about) (maxL := 5) (ret := (some .int)) (by decide) rfl ?_
  intro p e s m args below meth c s₁ B hml hv
  obtain ⟨rfl, hsz, hP, hK, hD0⟩ := hv
  have hx := B.exec
  have hb := B.bytes
  have hr := B.returns
  have hts : ∀ w ∈ TB, w.before _ s = true := fun w h => atoms_spec (ws := _ :: TB) B.pre w (List.mem_cons_of_mem _ h)
  have hown : s.vm.findClass RX12 = some m.cls := findClass_of_methodNamed B.named
  have hlocks := B.notSynchronized
  have hh : Hp D (Af cs ad sz) (Af cs ad sz) s.heap s.heap [] cs ad en := ⟨hP, Af_self hD0, va_S.rf⟩
  have hA : ∀ q : Nat, s.heap.size ≤ q → Af cs ad sz q := fun q h => Or.inr (by rw [hsz] at h; exact h)
  have hl := lv_entry ([.ref (ad 0), .int w9, .int z9]) (n := 5) (Nat.le_of_ble_eq_true rfl)
  rw [lg_entry_eq]
  generalize (lg_sl ([.ref (ad 0), .int w9, .int z9]) ++ List.replicate (5 - (lg_sl ([.ref (ad 0), .int w9, .int z9])).length) Slot.unset).toArray = ls at hl ⊢
  have hl : lv_has ls 5 [(0, .ref (ad 0)), (1, .int w9), (2, .int z9)] := hl
  have hf0 : ∀ c, (c ≠ 12) → en c = en c := fun _ _ => rfl
  obtain ⟨fa, hi, wd, mo, tb, dp, many, grt, lst, nou, rm, rb, pr, wo, es1797, hwd2, hwd3, hmo, htb, hwo⟩ := getr_M hI
  obtain ⟨f_1798, es1798, p0_1798⟩ := getr_lt hI
  obtain ⟨f_1799, es1799, p0_1799⟩ := getr_wl hI
  refine lv_aload_n hx hb dX12_about_0 rfl (lv_at hl 0 rfl) ?_
  refine lv_iload_n hx hb dX12_about_1 rfl (lv_at hl 1 rfl) ?_
  refine hp_callRi (va_runV (As := [.int w9]) (rest := []) ⟨hx, hb, hml, hown, hts⟩ (c_X12_isWord l D cy _ cs ad en hI w9 ) (kw_X12_isWord hts tw_1175 ⟨by decide, by decide⟩) (preV_of hh hK (hI.1 _ (by decide)) es1797 rfl) rfl rfl hl.1 rfl (lv_room (Nat.le_of_ble_eq_true rfl)) dX12_about_2 ⟨Nat.le_of_ble_eq_true rfl, Nat.le_of_ble_eq_true rfl⟩) hh hA (fun r_1800 H locs hw_1800 hh => ?_)
  rw [show rdI (en 0) 30 = (nI wo) from by rw [es1797]; rfl, nI_toInt (n := wo) (by omega)] at hw_1800
  rcases Decidable.em (0 ≤ w9.toInt ∧ w9.toInt < (wo : Int)) with hp_1800 | hp_1800
  · obtain rfl : r_1800 = 1 := Eq.trans hw_1800 (if_pos hp_1800)
    obtain ⟨T_1800, rfl, hT_1800⟩ := has_nat hp_1800
    refine lv_if_ne (tgt := 10) hx hb dX12_about_5 (by decide) (fun _ => ?_) (fun c_0 => absurd c_0 (by decide))
    refine lv_aload_n hx hb dX12_about_10 rfl (lv_at hl 0 rfl) ?_
    refine hp_get hx hb hts ix12 hown hK hh (q := 0) rfl (hI.1 _ (by decide)) es1797 rfl 32 (by decide) (hts _ tw_911) (fun _ h9 => h9) rfl dX12_about_11 ?_
    refine lv_iload_n hx hb dX12_about_14 rfl (lv_at hl 1 rfl) ?_
    refine hp_iald hx hb hK hh (q := 19) rfl (hI.1 _ (by decide)) es1799 (vp_in_nI (n := T_1800) (by omega) (by decide)) dX12_about_15 ?_
    rw [nI_clamp (n := T_1800) (by omega)]
    obtain ⟨v_1801, hv_1801, hfv_1801⟩ := p0_1799 T_1800 (by omega)
    rw [hfv_1801]
    refine lv_istore_n (lv' := [(3, .int (nI v_1801)), (0, .ref (ad 0)), (1, .int (nI T_1800)), (2, .int z9)]) hx hb dX12_about_16 rfl hl (by decide) rfl (fun ls hl => ?_)
    have hlen : 1 ≤ v_1801 := RWX_1 hRW (show rdI (en 0) 30 = nI wo from by rw [es1797]; rfl) hwo (w := T_1800) (by omega) (show rdF (en 19) = f_1799 from by rw [es1799]; rfl) hfv_1801 (by omega)
    refine lv_iconst (v := 0) hx hb dX12_about_17 (by decide) ?_
    refine lv_istore (lv' := [(4, .int 0), (3, .int (nI v_1801)), (0, .ref (ad 0)), (1, .int (nI T_1800)), (2, .int z9)]) hx hb dX12_about_18 hl (by decide) rfl (fun ls hl => ?_)
    have loop_1802 : ∀ (fu j1802 : Nat)  (en_1802 : Nat → va_E) (ls : Array Slot) (H : Heap) (locs : List Loc), 0 ≤ j1802 → j1802 ≤ v_1801 → v_1801 < j1802 + fu → RX cy cs ad en_1802 → (∀ c, (c ≠ 12) → en_1802 c = en c) → (∀ x, x < j1802 → rdF (en_1802 12) x = rdF (en 18) (12 * T_1800 + x)) → lv_has ls 5 [(4, .int (nI j1802)), (3, .int (nI v_1801)), (0, .ref (ad 0)), (1, .int (nI T_1800)), (2, .int z9)] → Hp D (Af cs ad sz) (Af cs ad sz) s.heap H locs cs ad en_1802 → W p l e (headSpec (Cond.code yX12_about cX12_about 5 (some .int) :: TB) (rmN 3)).room s m ([.ref (ad 0), .int (nI T_1800), .int z9] : List Value).toArray below meth c H locs 0 0 (MQ below (va_Qi (S := Nat → va_E) (fun r en1 => RX cy cs ad en1 ∧ (∀ c, (c ≠ 12) → en1 c = en c) ∧ RAB (nI T_1800) z9 r en) (PostM D cs ad) (Af cs ad sz)) ([.ref (ad 0), .int (nI T_1800), .int z9] : List Value).toArray s 0 0 (Af cs ad sz)) (F0 m 20 ls []) := by
      intro fu
      induction fu with
      | zero => intro j1802  en_1802 ls H locs h0 h1 h2; exact absurd h2 (by omega)
      | succ fu ih_1802 =>
        intro j1802  en_1802 ls H locs hj0_1802 hj_1802 hfu_1802 hI_1802 hf_1802 i0_1802 hl hh
        refine lv_iload hx hb dX12_about_20 (lv_at hl 0 rfl) ?_
        refine lv_iload_n hx hb dX12_about_22 rfl (lv_at hl 1 rfl) ?_
        refine lv_icmp_ge (tgt := 51) hx hb dX12_about_23 (by decide) (fun c_1803 => ?_) (fun c_1803 => ?_)
        · have n_1803 : v_1801 ≤ j1802 := n_le (a := v_1801) (b := j1802) c_1803 (by omega) (by omega)
          refine lv_iload_n hx hb dX12_about_51 rfl (lv_at hl 4 rfl) ?_
          by_cases q_1804_0 : z9 = 0
          · refine lv_tableIn (off := 32) (tgt := 84) hx hb dX12_about_52 (by rw [q_1804_0]; decide) (by rw [q_1804_0]; decide) (by rw [q_1804_0]; decide) (by decide) ?_
            refine lv_iload_n hx hb dX12_about_84 rfl (lv_at hl 1 rfl) ?_
            have hc30 : (rdI (en 0) 30).toInt = (wo : Int) := by rw [show rdI (en 0) 30 = nI wo from by rw [es1797]; rfl]; exact nI_toInt (by omega)
            exact hp_iretM hx hb hr rfl hlocks hh (⟨hI_1802, hf_1802, Or.inr ⟨T_1800, v_1801, rdF (en_1802 12), rfl, by omega, ⟨hp_1800.1, by have := hp_1800.2; omega⟩, (by rw [show rdF (en 19) = f_1799 from by rw [es1799]; rfl]; exact hfv_1801), hlen, by omega, (fun x hx9 => i0_1802 x (by omega)), Or.inl ⟨q_1804_0, rfl⟩⟩⟩) dX12_about_85
          by_cases q_1804_1 : z9 = 1
          · refine lv_tableIn (off := 34) (tgt := 86) hx hb dX12_about_52 (by rw [q_1804_1]; decide) (by rw [q_1804_1]; decide) (by rw [q_1804_1]; decide) (by decide) ?_
            refine lv_aload_n hx hb dX12_about_86 rfl (lv_at hl 2 rfl) ?_
            refine lv_iload_n hx hb dX12_about_87 rfl (lv_at hl 1 rfl) ?_
            have es1797_1805 : en_1802 0 = .inr (11, [.int fa, .int hi, .int (nI wd), .int (nI mo), .int (nI tb), .ref (ad 1), .ref (ad 2), .ref (ad 3), .ref (ad 4), .ref (ad 5), .ref (ad 6), .ref (ad 7), .ref (ad 8), .ref (ad 9), .int dp, .long many, .long grt, .long lst, .long nou, .ref (ad 10), .ref (ad 11), .ref (ad 12), .int rm, .long rb, .ref (ad 13), .int pr, .ref (ad 14), .ref (ad 15), .ref (ad 16), .ref (ad 17), .int (nI wo), .ref (ad 18), .ref (ad 19)]) := (hf_1802 0 (by omega)).trans es1797
            refine hp_callRi (va_runV (As := [.int (nI v_1801)]) (rest := []) ⟨hx, hb, hml, hown, hts⟩ (c_X12_isAllowed l D cy _ cs ad en_1802 hI_1802 v_1801 (by omega) (by omega)) (kw_X12_isAllowed hts tw_1081 ⟨by decide, by decide⟩) (preV_of hh hK (hI.1 _ (by decide)) es1797_1805 rfl) rfl rfl hl.1 rfl (lv_room (Nat.le_of_ble_eq_true rfl)) dX12_about_88 ⟨Nat.le_of_ble_eq_true rfl, Nat.le_of_ble_eq_true rfl⟩) hh hA (fun r_1806 H locs hw_1806 hh => ?_)
            rcases hw_1806 with ⟨hb_1806, hy_1806⟩ | ⟨hb_1806, hy_1806⟩
            · obtain rfl : r_1806 = 1 := hb_1806
              refine lv_if_eq (tgt := 98) hx hb dX12_about_91 (by decide) (fun c_0 => absurd c_0 (by decide)) (fun _ => ?_)
              refine lv_iconst (v := 1) hx hb dX12_about_94 (by decide) ?_
              refine lv_goto (tgt := 99) hx hb dX12_about_95 (by decide) ?_
              have hc30 : (rdI (en 0) 30).toInt = (wo : Int) := by rw [show rdI (en 0) 30 = nI wo from by rw [es1797]; rfl]; exact nI_toInt (by omega)
              exact hp_iretM hx hb hr rfl hlocks hh (⟨hI_1802, hf_1802, Or.inr ⟨T_1800, v_1801, rdF (en_1802 12), rfl, by omega, ⟨hp_1800.1, by have := hp_1800.2; omega⟩, (by rw [show rdF (en 19) = f_1799 from by rw [es1799]; rfl]; exact hfv_1801), hlen, by omega, (fun x hx9 => i0_1802 x (by omega)), Or.inr (Or.inl ⟨q_1804_1, by rw [show rdF (en 2) = rdF (en_1802 2) from by rw [hf_1802 2 (by omega)]]; exact Or.inl ⟨rfl, hy_1806⟩⟩)⟩⟩) dX12_about_99
            · obtain rfl : r_1806 = 0 := hb_1806
              refine lv_if_eq (tgt := 98) hx hb dX12_about_91 (by decide) (fun _ => ?_) (fun c_0 => absurd c_0 (by decide))
              refine lv_iconst (v := 0) hx hb dX12_about_98 (by decide) ?_
              have hc30 : (rdI (en 0) 30).toInt = (wo : Int) := by rw [show rdI (en 0) 30 = nI wo from by rw [es1797]; rfl]; exact nI_toInt (by omega)
              exact hp_iretM hx hb hr rfl hlocks hh (⟨hI_1802, hf_1802, Or.inr ⟨T_1800, v_1801, rdF (en_1802 12), rfl, by omega, ⟨hp_1800.1, by have := hp_1800.2; omega⟩, (by rw [show rdF (en 19) = f_1799 from by rw [es1799]; rfl]; exact hfv_1801), hlen, by omega, (fun x hx9 => i0_1802 x (by omega)), Or.inr (Or.inl ⟨q_1804_1, by rw [show rdF (en 2) = rdF (en_1802 2) from by rw [hf_1802 2 (by omega)]]; exact Or.inr ⟨rfl, hy_1806⟩⟩)⟩⟩) dX12_about_99
          by_cases q_1804_2 : z9 = 2
          · refine lv_tableIn (off := 48) (tgt := 100) hx hb dX12_about_52 (by rw [q_1804_2]; decide) (by rw [q_1804_2]; decide) (by rw [q_1804_2]; decide) (by decide) ?_
            refine lv_aload_n hx hb dX12_about_100 rfl (lv_at hl 2 rfl) ?_
            refine lv_iload_n hx hb dX12_about_101 rfl (lv_at hl 1 rfl) ?_
            have es1797_1807 : en_1802 0 = .inr (11, [.int fa, .int hi, .int (nI wd), .int (nI mo), .int (nI tb), .ref (ad 1), .ref (ad 2), .ref (ad 3), .ref (ad 4), .ref (ad 5), .ref (ad 6), .ref (ad 7), .ref (ad 8), .ref (ad 9), .int dp, .long many, .long grt, .long lst, .long nou, .ref (ad 10), .ref (ad 11), .ref (ad 12), .int rm, .long rb, .ref (ad 13), .int pr, .ref (ad 14), .ref (ad 15), .ref (ad 16), .ref (ad 17), .int (nI wo), .ref (ad 18), .ref (ad 19)]) := (hf_1802 0 (by omega)).trans es1797
            refine hp_callRi (va_runV (As := [.int (nI v_1801)]) (rest := []) ⟨hx, hb, hml, hown, hts⟩ (c_X12_isRing l D cy _ cs ad en_1802 hI_1802 v_1801 (by omega) (by omega)) (kw_X12_isRing hts tw_1077 ⟨by decide, by decide⟩) (preV_of hh hK (hI.1 _ (by decide)) es1797_1807 rfl) rfl rfl hl.1 rfl (lv_room (Nat.le_of_ble_eq_true rfl)) dX12_about_102 ⟨Nat.le_of_ble_eq_true rfl, Nat.le_of_ble_eq_true rfl⟩) hh hA (fun r_1808 H locs hw_1808 hh => ?_)
            rcases hw_1808 with ⟨hb_1808, hy_1808⟩ | ⟨hb_1808, hy_1808⟩
            · obtain rfl : r_1808 = 1 := hb_1808
              refine lv_if_eq (tgt := 112) hx hb dX12_about_105 (by decide) (fun c_0 => absurd c_0 (by decide)) (fun _ => ?_)
              refine lv_iconst (v := 1) hx hb dX12_about_108 (by decide) ?_
              refine lv_goto (tgt := 113) hx hb dX12_about_109 (by decide) ?_
              have hc30 : (rdI (en 0) 30).toInt = (wo : Int) := by rw [show rdI (en 0) 30 = nI wo from by rw [es1797]; rfl]; exact nI_toInt (by omega)
              exact hp_iretM hx hb hr rfl hlocks hh (⟨hI_1802, hf_1802, Or.inr ⟨T_1800, v_1801, rdF (en_1802 12), rfl, by omega, ⟨hp_1800.1, by have := hp_1800.2; omega⟩, (by rw [show rdF (en 19) = f_1799 from by rw [es1799]; rfl]; exact hfv_1801), hlen, by omega, (fun x hx9 => i0_1802 x (by omega)), Or.inr (Or.inr (Or.inl ⟨q_1804_2, by rw [show rdF (en 2) = rdF (en_1802 2) from by rw [hf_1802 2 (by omega)]]; exact Or.inl ⟨rfl, hy_1808⟩⟩))⟩⟩) dX12_about_113
            · obtain rfl : r_1808 = 0 := hb_1808
              refine lv_if_eq (tgt := 112) hx hb dX12_about_105 (by decide) (fun _ => ?_) (fun c_0 => absurd c_0 (by decide))
              refine lv_iconst (v := 0) hx hb dX12_about_112 (by decide) ?_
              have hc30 : (rdI (en 0) 30).toInt = (wo : Int) := by rw [show rdI (en 0) 30 = nI wo from by rw [es1797]; rfl]; exact nI_toInt (by omega)
              exact hp_iretM hx hb hr rfl hlocks hh (⟨hI_1802, hf_1802, Or.inr ⟨T_1800, v_1801, rdF (en_1802 12), rfl, by omega, ⟨hp_1800.1, by have := hp_1800.2; omega⟩, (by rw [show rdF (en 19) = f_1799 from by rw [es1799]; rfl]; exact hfv_1801), hlen, by omega, (fun x hx9 => i0_1802 x (by omega)), Or.inr (Or.inr (Or.inl ⟨q_1804_2, by rw [show rdF (en 2) = rdF (en_1802 2) from by rw [hf_1802 2 (by omega)]]; exact Or.inr ⟨rfl, hy_1808⟩⟩))⟩⟩) dX12_about_113
          by_cases q_1804_3 : z9 = 3
          · refine lv_tableIn (off := 62) (tgt := 114) hx hb dX12_about_52 (by rw [q_1804_3]; decide) (by rw [q_1804_3]; decide) (by rw [q_1804_3]; decide) (by decide) ?_
            refine lv_aload_n hx hb dX12_about_114 rfl (lv_at hl 2 rfl) ?_
            refine lv_iload_n hx hb dX12_about_115 rfl (lv_at hl 1 rfl) ?_
            have es1797_1809 : en_1802 0 = .inr (11, [.int fa, .int hi, .int (nI wd), .int (nI mo), .int (nI tb), .ref (ad 1), .ref (ad 2), .ref (ad 3), .ref (ad 4), .ref (ad 5), .ref (ad 6), .ref (ad 7), .ref (ad 8), .ref (ad 9), .int dp, .long many, .long grt, .long lst, .long nou, .ref (ad 10), .ref (ad 11), .ref (ad 12), .int rm, .long rb, .ref (ad 13), .int pr, .ref (ad 14), .ref (ad 15), .ref (ad 16), .ref (ad 17), .int (nI wo), .ref (ad 18), .ref (ad 19)]) := (hf_1802 0 (by omega)).trans es1797
            refine hp_callRi (va_runV (As := [.int (nI v_1801)]) (rest := []) ⟨hx, hb, hml, hown, hts⟩ (c_X12_timesOf l D cy _ cs ad en_1802 hI_1802 v_1801 (by omega) (by omega)) (kw_X12_timesOf hts tw_1085 ⟨by decide, by decide⟩) (preV_of hh hK (hI.1 _ (by decide)) es1797_1809 rfl) rfl rfl hl.1 rfl (lv_room (Nat.le_of_ble_eq_true rfl)) dX12_about_116 ⟨Nat.le_of_ble_eq_true rfl, Nat.le_of_ble_eq_true rfl⟩) hh hA (fun r_1810 H locs hw_1810 hh => ?_)
            have hc30 : (rdI (en 0) 30).toInt = (wo : Int) := by rw [show rdI (en 0) 30 = nI wo from by rw [es1797]; rfl]; exact nI_toInt (by omega)
            exact hp_iretM hx hb hr rfl hlocks hh (⟨hI_1802, hf_1802, Or.inr ⟨T_1800, v_1801, rdF (en_1802 12), rfl, by omega, ⟨hp_1800.1, by have := hp_1800.2; omega⟩, (by rw [show rdF (en 19) = f_1799 from by rw [es1799]; rfl]; exact hfv_1801), hlen, by omega, (fun x hx9 => i0_1802 x (by omega)), Or.inr (Or.inr (Or.inr (Or.inl ⟨q_1804_3, hw_1810⟩)))⟩⟩) dX12_about_119
          refine lv_tableOut (tgt := 120) hx hb dX12_about_52 (tb_out 4 (by decide) (by decide) (fun j hj => by rcases (show j = 0 ∨ j = 1 ∨ j = 2 ∨ j = 3 by omega) with rfl | rfl | rfl | rfl <;> first | exact lv_neT q_1804_0 (by decide) | exact lv_neT q_1804_1 (by decide) | exact lv_neT q_1804_2 (by decide) | exact lv_neT q_1804_3 (by decide))) (by decide) ?_
          refine lv_bipush (v := (-2)) hx hb dX12_about_120 (by decide) ?_
          have hc30 : (rdI (en 0) 30).toInt = (wo : Int) := by rw [show rdI (en 0) 30 = nI wo from by rw [es1797]; rfl]; exact nI_toInt (by omega)
          exact hp_iretM hx hb hr rfl hlocks hh (⟨hI_1802, hf_1802, Or.inr ⟨T_1800, v_1801, rdF (en_1802 12), rfl, by omega, ⟨hp_1800.1, by have := hp_1800.2; omega⟩, (by rw [show rdF (en 19) = f_1799 from by rw [es1799]; rfl]; exact hfv_1801), hlen, by omega, (fun x hx9 => i0_1802 x (by omega)), Or.inr (Or.inr (Or.inr (Or.inr ⟨q_1804_0, q_1804_1, q_1804_2, q_1804_3, rfl⟩)))⟩⟩) dX12_about_122
        · have n_1803 : j1802 < v_1801 := n_nle (a := v_1801) (b := j1802) c_1803 (by omega) (by omega)
          refine lv_aload_n hx hb dX12_about_26 rfl (lv_at hl 2 rfl) ?_
          have es1797_1811 : en_1802 0 = .inr (11, [.int fa, .int hi, .int (nI wd), .int (nI mo), .int (nI tb), .ref (ad 1), .ref (ad 2), .ref (ad 3), .ref (ad 4), .ref (ad 5), .ref (ad 6), .ref (ad 7), .ref (ad 8), .ref (ad 9), .int dp, .long many, .long grt, .long lst, .long nou, .ref (ad 10), .ref (ad 11), .ref (ad 12), .int rm, .long rb, .ref (ad 13), .int pr, .ref (ad 14), .ref (ad 15), .ref (ad 16), .ref (ad 17), .int (nI wo), .ref (ad 18), .ref (ad 19)]) := (hf_1802 0 (by omega)).trans es1797
          refine hp_get hx hb hts ix12 hown hK hh (q := 0) rfl (hI.1 _ (by decide)) es1797_1811 rfl 21 (by decide) (hts _ tw_900) (fun _ h9 => h9) rfl dX12_about_27 ?_
          refine lv_iload hx hb dX12_about_30 (lv_at hl 0 rfl) ?_
          refine lv_aload_n hx hb dX12_about_32 rfl (lv_at hl 2 rfl) ?_
          refine hp_get hx hb hts ix12 hown hK hh (q := 0) rfl (hI.1 _ (by decide)) es1797_1811 rfl 31 (by decide) (hts _ tw_910) (fun _ h9 => h9) rfl dX12_about_33 ?_
          refine lv_bipush (v := 12) hx hb dX12_about_36 (by decide) ?_
          refine lv_iload_n hx hb dX12_about_38 rfl (lv_at hl 3 rfl) ?_
          refine lv_imul hx hb dX12_about_39 ?_
          rw [show (12 : Int32) = nI 12 from rfl, pk_mul 12 T_1800]
          refine lv_iload hx hb dX12_about_40 (lv_at hl 0 rfl) ?_
          refine lv_iadd hx hb dX12_about_42 ?_
          rw [nI_add (12 * T_1800) j1802]
          have es1798_1812 : en_1802 18 = .inl (cy 0, 120, .inl f_1798) := (hf_1802 18 (by omega)).trans es1798
          refine hp_iald hx hb hK hh (q := 18) rfl (hI.1 _ (by decide)) es1798_1812 (vp_in_nI (n := ((12 * T_1800) + j1802)) (by omega) (by decide)) dX12_about_43 ?_
          rw [nI_clamp (n := ((12 * T_1800) + j1802)) (by omega)]
          obtain ⟨v_1813, hv_1813, hfv_1813⟩ := p0_1798 ((12 * T_1800) + j1802) (by omega)
          rw [hfv_1813]
          obtain ⟨f_1814, es1814, p0_1814⟩ := getr_ak hI_1802
          refine hp_iast hx hb hK hh (q := 12) rfl (hI.1 _ (by decide)) es1814 (vp_in_nI (n := j1802) (by omega) (by decide)) dX12_about_44 (fun H locs en_1815 hen_1815 hh => ?_)
          rw [nI_clamp (n := j1802) (by omega)] at hen_1815
          have es1797_1815 : en_1815 0 = .inr (11, [.int fa, .int hi, .int (nI wd), .int (nI mo), .int (nI tb), .ref (ad 1), .ref (ad 2), .ref (ad 3), .ref (ad 4), .ref (ad 5), .ref (ad 6), .ref (ad 7), .ref (ad 8), .ref (ad 9), .int dp, .long many, .long grt, .long lst, .long nou, .ref (ad 10), .ref (ad 11), .ref (ad 12), .int rm, .long rb, .ref (ad 13), .int pr, .ref (ad 14), .ref (ad 15), .ref (ad 16), .ref (ad 17), .int (nI wo), .ref (ad 18), .ref (ad 19)]) := by rw [hen_1815, va_up_ne _ _ (by decide)]; exact es1797_1811
          have es1798_1815 : en_1815 18 = .inl (cy 0, 120, .inl f_1798) := by rw [hen_1815, va_up_ne _ _ (by decide)]; exact es1798_1812
          have es1814_1815 : en_1815 12 = .inl (cy 0, 12, .inl (upd f_1814 j1802 (nI v_1813))) := by rw [hen_1815]; exact va_up_self _ _ _
          have hI_1815 : RX cy cs ad en_1815 := by rw [hen_1815]; exact upr_ak hI_1802 ⟨(upd f_1814 j1802 (nI v_1813)), rfl, (vals_updB p0_1814 (by omega))⟩
          have hf_1815 : ∀ c, (c ≠ 12) → en_1815 c = en c := fun c hc => Eq.trans (show en_1815 c = en_1802 c from by rw [hen_1815, va_up_ne _ _ (by omega)]) (hf_1802 c hc)
          refine lv_iinc (v := (nI (j1802 + 1))) (lv' := [(4, .int (nI (j1802 + 1))), (3, .int (nI v_1801)), (0, .ref (ad 0)), (1, .int (nI T_1800)), (2, .int z9)]) hx hb dX12_about_45 hl (k := 0) rfl (nI_1 _) (by decide) rfl (fun ls hl => ?_)
          refine lv_goto (tgt := 20) hx hb dX12_about_48 (by decide) ?_
          exact ih_1802 ((j1802 + 1))  en_1815 ls H locs (by omega) (by omega) (by omega) hI_1815 hf_1815 (fun x hx9 => by rw [es1814_1815]; exact ak_upd (fun h9 => (show f_1814 x = rdF (en_1802 12) x from by rw [es1814]; rfl).trans (i0_1802 x h9)) hx9 (fun e9 => by rw [e9, show rdF (en 18) = f_1798 from by rw [es1798]; rfl]; exact hfv_1813)) (lv_sub hl [0, 1, 2, 3, 4] rfl) hh
    exact loop_1802 (v_1801 + 1) 0  en ls _ _ (Nat.le_refl _) (by omega) (by omega) hI hf0 (fun x h => absurd h (Nat.not_lt_zero x)) (lv_sub hl [0, 1, 2, 3, 4] rfl) hh
  · obtain rfl : r_1800 = 0 := Eq.trans hw_1800 (if_neg hp_1800)
    refine lv_if_ne (tgt := 10) hx hb dX12_about_5 (by decide) (fun c_0 => absurd c_0 (by decide)) (fun _ => ?_)
    refine lv_iconst (v := (-1)) hx hb dX12_about_8 (by decide) ?_
    have hc30 : (rdI (en 0) 30).toInt = (wo : Int) := by rw [show rdI (en 0) 30 = nI wo from by rw [es1797]; rfl]; exact nI_toInt (by omega)
    exact hp_iretM hx hb hr rfl hlocks hh (⟨hI, hf0, Or.inl ⟨fun q => hp_1800 ⟨q.1, by have := q.2; omega⟩, rfl⟩⟩) dX12_about_9
theorem kw_X12_about {R : Room} {s : State} {args : Array Value} {own : String} {idx : Nat} (hts : ∀ w ∈ TB, w.before args s = true) (hl : Cond.methodLink own idx yX12_about ∈ TB) (hR : 3 + 1 ≤ R.frames ∧ 8 + (5 + 11) + 40 * 3 ≤ R.locals) : CallW R s args own RX12 idx yX12_about cX12_about 5 (some .int) (Cond.code yX12_about cX12_about 5 (some .int) :: TB) (rmN 3) 0 0 2 := cwV 2 hts (TB_V hl tw_1184 tw_1185 tw_9 tw_1186) rfl rfl rfl (by decide +kernel) hR
set_option maxHeartbeats 4000000 in
set_option maxRecDepth 100000 in
/-- X12_word -/
theorem c_X12_word (l : Launch) (D : va_G) (cy : Nat → ClassId) (sz : Nat) (cs : List Nat) (ad : Nat → Nat) (en : Nat → va_E) (hI : RX cy cs ad en) (k9 la9 i9 n9 : Int32) (hRW : RWX en)   : Met l yX12_word (Cond.code yX12_word cX12_word 7 (some .int) :: TB) (rmN 2) (va_Pc [.ref (ad 0), .int k9, .int la9, .int i9, .int n9] (Pre D cy cs ad en sz)) (va_Qi (S := Nat → va_E) (fun r en1 => RX cy cs ad en1 ∧ (∀ c, (c ≠ 0 ∧ c ≠ 18 ∧ c ≠ 19) → en1 c = en c) ∧ RWX en1 ∧ KPw en en1 ∧ RWO k9 la9 i9 n9 r en en1) (PostM D cs ad) (Af cs ad sz)) 0 0 (Af cs ad sz) := by
  refine Met.ofW (cc := cX12_word) (maxL := 7) (ret := (some .int)) (by decide) rfl ?_
  intro p e s m args below meth c s₁ B hml hv
  obtain ⟨rfl, hsz, hP, hK, hD0⟩ := hv
  have hx := B.exec
  have hb := B.bytes
  have hr := B.returns
  have hts : ∀ w ∈ TB, w.before _ s = true := fun w h => atoms_spec (ws := _ :: TB) B.pre w (List.mem_cons_of_mem _ h)
  have hown : s.vm.findClass RX12 = some m.cls := findClass_of_methodNamed B.named
  have hlocks := B.notSynchronized
  have hh : Hp D (Af cs ad sz) (Af cs ad sz) s.heap s.heap [] cs ad en := ⟨hP, Af_self hD0, va_S.rf⟩
  have hA : ∀ q : Nat, s.heap.size ≤ q → Af cs ad sz q := fun q h => Or.inr (by rw [hsz] at h; exact h)
  have hl := lv_entry ([.ref (ad 0), .int k9, .int la9, .int i9, .int n9]) (n := 7) (Nat.le_of_ble_eq_true rfl)
  rw [lg_entry_eq]
  generalize (lg_sl ([.ref (ad 0), .int k9, .int la9, .int i9, .int n9]) ++ List.replicate (7 - (lg_sl ([.ref (ad 0), .int k9, .int la9, .int i9, .int n9])).length) Slot.unset).toArray = ls at hl ⊢
  have hl : lv_has ls 7 [(0, .ref (ad 0)), (1, .int k9), (2, .int la9), (3, .int i9), (4, .int n9)] := hl
  have hf0 : ∀ c, (c ≠ 0 ∧ c ≠ 18 ∧ c ≠ 19) → en c = en c := fun _ _ => rfl
  obtain ⟨fa, hi, wd, mo, tb, dp, many, grt, lst, nou, rm, rb, pr, wo, es1816, hwd2, hwd3, hmo, htb, hwo⟩ := getr_M hI
  obtain ⟨f_1817, es1817, p0_1817⟩ := getr_sl hI
  obtain ⟨f_1818, es1818⟩ := getr_ce hI
  obtain ⟨f_1819, es1819, p0_1819⟩ := getr_wl hI
  refine lv_aload_n hx hb dX12_word_0 rfl (lv_at hl 0 rfl) ?_
  refine lv_iconst (v := 0) hx hb dX12_word_1 (by decide) ?_
  refine hp_put hx hb hts ix12 tyX12 tyX12_ok nmX12 hown hK hh (q := 0) rfl (hI.1 _ (by decide)) es1816 rfl 0 (by decide) (hts _ tw_879) (fun _ h9 => h9) rfl (ty := .int) (by decide +kernel) rfl rfl (Nat.le_of_ble_eq_true rfl) dX12_word_2 (fun H locs en_1820 hen_1820 hh => ?_)
  have es1817_1820 : en_1820 4 = .inl (cy 0, 4, .inl f_1817) := by rw [hen_1820, va_up_ne _ _ (by decide)]; exact es1817
  have es1818_1820 : en_1820 5 = .inl (cy 0, 160, .inl f_1818) := by rw [hen_1820, va_up_ne _ _ (by decide)]; exact es1818
  have es1819_1820 : en_1820 19 = .inl (cy 0, 10, .inl f_1819) := by rw [hen_1820, va_up_ne _ _ (by decide)]; exact es1819
  have es1816_1820 : en_1820 0 = .inr (11, [.int 0, .int hi, .int (nI wd), .int (nI mo), .int (nI tb), .ref (ad 1), .ref (ad 2), .ref (ad 3), .ref (ad 4), .ref (ad 5), .ref (ad 6), .ref (ad 7), .ref (ad 8), .ref (ad 9), .int dp, .long many, .long grt, .long lst, .long nou, .ref (ad 10), .ref (ad 11), .ref (ad 12), .int rm, .long rb, .ref (ad 13), .int pr, .ref (ad 14), .ref (ad 15), .ref (ad 16), .ref (ad 17), .int (nI wo), .ref (ad 18), .ref (ad 19)]) := by rw [hen_1820]; exact va_up_self _ _ _
  have hI_1820 : RX cy cs ad en_1820 := by rw [hen_1820]; exact upr_M hI ⟨0, hi, wd, mo, tb, dp, many, grt, lst, nou, rm, rb, pr, wo, rfl, hwd2, hwd3, hmo, htb, hwo⟩
  have hf_1820 : ∀ c, (c ≠ 0 ∧ c ≠ 18 ∧ c ≠ 19) → en_1820 c = en c := fun c hc => Eq.trans (show en_1820 c = en c from by rw [hen_1820, va_up_ne _ _ (by omega)]) (hf0 c hc)
  have hkc18_1820 : en_1820 18 = en 18 := (show en_1820 18 = en 18 from by rw [hen_1820, va_up_ne _ _ (by decide)]).trans rfl
  have hkc19_1820 : en_1820 19 = en 19 := (show en_1820 19 = en 19 from by rw [hen_1820, va_up_ne _ _ (by decide)]).trans rfl
  have hkp_1820 : KP en en_1820 := KP_fv (KP_rf en) es1816 es1816_1820 hi (nI wd) (nI mo) (nI tb) pr (nI wo) rfl rfl rfl rfl rfl rfl rfl rfl rfl rfl rfl rfl
  refine lv_aload_n hx hb dX12_word_5 rfl (lv_at hl 0 rfl) ?_
  refine lv_iload_n hx hb dX12_word_6 rfl (lv_at hl 1 rfl) ?_
  refine lv_iload_n hx hb dX12_word_7 rfl (lv_at hl 2 rfl) ?_
  refine hp_callMi (va_runV (As := [.int k9, .int la9]) (rest := []) ⟨hx, hb, hml, hown, hts⟩ (c_X12_against l D cy _ cs ad en_1820 hI_1820 k9 la9 ) (kw_X12_against hts tw_993 ⟨by decide, by decide⟩) (preV_of hh hK (hI.1 _ (by decide)) es1816_1820 rfl) rfl rfl hl.1 rfl (lv_room (Nat.le_of_ble_eq_true rfl)) dX12_word_8 ⟨Nat.le_of_ble_eq_true rfl, Nat.le_of_ble_eq_true rfl⟩) hh hA (fun r_1821 H locs en_1821 hw_1821 hh => ?_)
  obtain ⟨hI_1821, hu_1821, hr_1821, h0_1821, hkq_1821⟩ := hw_1821
  rcases Decidable.em (r_1821 = 0) with hz_1821 | hz_1821
  · have he_1821 : en_1821 = en_1820 := h0_1821 hz_1821
    rw [he_1821] at hh
    have hag_1821 := agF_0 (hr_1821.symm.trans hz_1821)
    rw [hz_1821]
    refine lv_istore (lv' := [(5, .int 0), (0, .ref (ad 0)), (1, .int k9), (2, .int la9), (3, .int i9), (4, .int n9)]) hx hb dX12_word_11 hl (by decide) rfl (fun ls hl => ?_)
    refine lv_iload hx hb dX12_word_13 (lv_at hl 0 rfl) ?_
    refine lv_if_eq (tgt := 21) hx hb dX12_word_15 (by decide) (fun _ => ?_) (fun c_0 => absurd c_0 (by decide))
    have hag0 : agF (rdF (en 3) k9.toNatClampNeg) k9 la9 = 0 := by have h9 := hr_1821.symm.trans hz_1821; rw [show en_1820 3 = en 3 from hf_1820 3 (by omega)] at h9; exact h9
    obtain ⟨K9, rfl, -, hK9⟩ := wi_natB hag_1821.1 0 3 (by decide) (by decide)
    refine lv_iload hx hb dX12_word_21 (lv_at hl 5 rfl) ?_
    refine lv_if_ge (tgt := 32) hx hb dX12_word_23 (by decide) (fun c_1822 => ?_) (fun c_1822 => ?_)
    · obtain ⟨N9, hN9, rfl⟩ := nat_of (Int32.not_lt.mpr c_1822)
      refine lv_iload_n hx hb dX12_word_32 rfl (lv_at hl 4 rfl) ?_
      refine lv_if_lt (tgt := 59) hx hb dX12_word_33 (by decide) (fun c_1823 => ?_) (fun c_1823 => ?_)
      · refine lv_aload_n hx hb dX12_word_59 rfl (lv_at hl 1 rfl) ?_
        refine lv_iconst (v := 3) hx hb dX12_word_60 (by decide) ?_
        refine hp_callMi (va_runV (As := [.int 3]) (rest := []) ⟨hx, hb, hml, hown, hts⟩ (c_X12_fails l D cy _ cs ad en_1820 (hI.1 _ (by decide)) 0 hi wd mo tb dp many grt lst nou rm rb pr wo 3 es1816_1820) (kw_X12_fails hts tw_997 ⟨by decide, by decide⟩) (preV_of hh hK (hI.1 _ (by decide)) es1816_1820 rfl) rfl rfl hl.1 rfl (lv_room (Nat.le_of_ble_eq_true rfl)) dX12_word_61 ⟨Nat.le_of_ble_eq_true rfl, Nat.le_of_ble_eq_true rfl⟩) hh hA (fun r_1824 H locs en_1824 hw_1824 hh => ?_)
        obtain ⟨hr_1824, hen_1824⟩ := hw_1824
        have es1817_1824 : en_1824 4 = .inl (cy 0, 4, .inl f_1817) := by rw [hen_1824, va_up_ne _ _ (by decide)]; exact es1817_1820
        have es1818_1824 : en_1824 5 = .inl (cy 0, 160, .inl f_1818) := by rw [hen_1824, va_up_ne _ _ (by decide)]; exact es1818_1820
        have es1819_1824 : en_1824 19 = .inl (cy 0, 10, .inl f_1819) := by rw [hen_1824, va_up_ne _ _ (by decide)]; exact es1819_1820
        have es1816_1824 : en_1824 0 = .inr (11, [.int 3, .int hi, .int (nI wd), .int (nI mo), .int (nI tb), .ref (ad 1), .ref (ad 2), .ref (ad 3), .ref (ad 4), .ref (ad 5), .ref (ad 6), .ref (ad 7), .ref (ad 8), .ref (ad 9), .int dp, .long many, .long grt, .long lst, .long nou, .ref (ad 10), .ref (ad 11), .ref (ad 12), .int rm, .long rb, .ref (ad 13), .int pr, .ref (ad 14), .ref (ad 15), .ref (ad 16), .ref (ad 17), .int (nI wo), .ref (ad 18), .ref (ad 19)]) := by rw [hen_1824]; exact va_up_self _ _ _
        have hI_1824 : RX cy cs ad en_1824 := by rw [hen_1824]; exact upr_M hI_1820 ⟨3, hi, wd, mo, tb, dp, many, grt, lst, nou, rm, rb, pr, wo, rfl, hwd2, hwd3, hmo, htb, hwo⟩
        have hf_1824 : ∀ c, (c ≠ 0 ∧ c ≠ 18 ∧ c ≠ 19) → en_1824 c = en c := fun c hc => Eq.trans (show en_1824 c = en_1820 c from by rw [hen_1824, va_up_ne _ _ (by omega)]) (hf_1820 c hc)
        have hkc18_1824 : en_1824 18 = en 18 := (show en_1824 18 = en_1820 18 from by rw [hen_1824, va_up_ne _ _ (by decide)]).trans hkc18_1820
        have hkc19_1824 : en_1824 19 = en 19 := (show en_1824 19 = en_1820 19 from by rw [hen_1824, va_up_ne _ _ (by decide)]).trans hkc19_1820
        have hkp_1824 : KP en en_1824 := KP_fv hkp_1820 es1816_1820 es1816_1824 hi (nI wd) (nI mo) (nI tb) pr (nI wo) rfl rfl rfl rfl rfl rfl rfl rfl rfl rfl rfl rfl
        obtain rfl : r_1824 = (-13) := hr_1824.trans (by decide)
        have h09 : (0 : Int32).toInt = 0 := by decide
        exact hp_iretM hx hb hr rfl hlocks hh (⟨hI_1824, hf_1824, RWX_keep hRW hkp_1824.2.2.2.2.2 hkc19_1824, KPw_of hkp_1824, Or.inl ⟨fun q => by have h9 := i_lt c_1823; have h8 := q.2.2.2.1; omega, hkp_1824.2.2.2.2.2, hkc18_1824, hkc19_1824⟩⟩) dX12_word_64
      · obtain ⟨I9, hI9, rfl⟩ := nat_of c_1823
        refine lv_iload_n hx hb dX12_word_36 rfl (lv_at hl 4 rfl) ?_
        refine lv_aload_n hx hb dX12_word_37 rfl (lv_at hl 1 rfl) ?_
        refine hp_get hx hb hts ix12 hown hK hh (q := 0) rfl (hI.1 _ (by decide)) es1816_1820 rfl 8 (by decide) (hts _ tw_887) (fun _ h9 => h9) rfl dX12_word_38 ?_
        refine lv_iload_n hx hb dX12_word_41 rfl (lv_at hl 2 rfl) ?_
        refine hp_iald hx hb hK hh (q := 4) rfl (hI.1 _ (by decide)) es1817_1820 (vp_in_nI (n := K9) (by omega) (by decide)) dX12_word_42 ?_
        rw [nI_clamp (n := K9) (by omega)]
        obtain ⟨v_1825, hv_1825, hfv_1825⟩ := p0_1817 K9 (by omega)
        rw [hfv_1825]
        refine lv_icmp_gt (tgt := 59) hx hb dX12_word_43 (by decide) (fun c_1826 => ?_) (fun c_1826 => ?_)
        · have n_1826 : v_1825 < I9 := n_lt (a := v_1825) (b := I9) c_1826 (by omega) (by omega)
          refine lv_aload_n hx hb dX12_word_59 rfl (lv_at hl 1 rfl) ?_
          refine lv_iconst (v := 3) hx hb dX12_word_60 (by decide) ?_
          refine hp_callMi (va_runV (As := [.int 3]) (rest := []) ⟨hx, hb, hml, hown, hts⟩ (c_X12_fails l D cy _ cs ad en_1820 (hI.1 _ (by decide)) 0 hi wd mo tb dp many grt lst nou rm rb pr wo 3 es1816_1820) (kw_X12_fails hts tw_997 ⟨by decide, by decide⟩) (preV_of hh hK (hI.1 _ (by decide)) es1816_1820 rfl) rfl rfl hl.1 rfl (lv_room (Nat.le_of_ble_eq_true rfl)) dX12_word_61 ⟨Nat.le_of_ble_eq_true rfl, Nat.le_of_ble_eq_true rfl⟩) hh hA (fun r_1827 H locs en_1827 hw_1827 hh => ?_)
          obtain ⟨hr_1827, hen_1827⟩ := hw_1827
          have es1817_1827 : en_1827 4 = .inl (cy 0, 4, .inl f_1817) := by rw [hen_1827, va_up_ne _ _ (by decide)]; exact es1817_1820
          have es1818_1827 : en_1827 5 = .inl (cy 0, 160, .inl f_1818) := by rw [hen_1827, va_up_ne _ _ (by decide)]; exact es1818_1820
          have es1819_1827 : en_1827 19 = .inl (cy 0, 10, .inl f_1819) := by rw [hen_1827, va_up_ne _ _ (by decide)]; exact es1819_1820
          have es1816_1827 : en_1827 0 = .inr (11, [.int 3, .int hi, .int (nI wd), .int (nI mo), .int (nI tb), .ref (ad 1), .ref (ad 2), .ref (ad 3), .ref (ad 4), .ref (ad 5), .ref (ad 6), .ref (ad 7), .ref (ad 8), .ref (ad 9), .int dp, .long many, .long grt, .long lst, .long nou, .ref (ad 10), .ref (ad 11), .ref (ad 12), .int rm, .long rb, .ref (ad 13), .int pr, .ref (ad 14), .ref (ad 15), .ref (ad 16), .ref (ad 17), .int (nI wo), .ref (ad 18), .ref (ad 19)]) := by rw [hen_1827]; exact va_up_self _ _ _
          have hI_1827 : RX cy cs ad en_1827 := by rw [hen_1827]; exact upr_M hI_1820 ⟨3, hi, wd, mo, tb, dp, many, grt, lst, nou, rm, rb, pr, wo, rfl, hwd2, hwd3, hmo, htb, hwo⟩
          have hf_1827 : ∀ c, (c ≠ 0 ∧ c ≠ 18 ∧ c ≠ 19) → en_1827 c = en c := fun c hc => Eq.trans (show en_1827 c = en_1820 c from by rw [hen_1827, va_up_ne _ _ (by omega)]) (hf_1820 c hc)
          have hkc18_1827 : en_1827 18 = en 18 := (show en_1827 18 = en_1820 18 from by rw [hen_1827, va_up_ne _ _ (by decide)]).trans hkc18_1820
          have hkc19_1827 : en_1827 19 = en 19 := (show en_1827 19 = en_1820 19 from by rw [hen_1827, va_up_ne _ _ (by decide)]).trans hkc19_1820
          have hkp_1827 : KP en en_1827 := KP_fv hkp_1820 es1816_1820 es1816_1827 hi (nI wd) (nI mo) (nI tb) pr (nI wo) rfl rfl rfl rfl rfl rfl rfl rfl rfl rfl rfl rfl
          obtain rfl : r_1827 = (-13) := hr_1827.trans (by decide)
          have h09 : (0 : Int32).toInt = 0 := by decide
          have hs4 : (rdF (en 4) (nI K9).toNatClampNeg).toInt = (v_1825 : Int) := by rw [nI_clamp (n := K9) (by omega), show rdF (en 4) = f_1817 from by rw [es1817]; rfl, hfv_1825]; exact nI_toInt (by omega)
          have hsi : (nI I9).toInt = (I9 : Int) := nI_toInt (by omega)
          have hsn : (nI N9).toInt = (N9 : Int) := nI_toInt (by omega)
          exact hp_iretM hx hb hr rfl hlocks hh (⟨hI_1827, hf_1827, RWX_keep hRW hkp_1827.2.2.2.2.2 hkc19_1827, KPw_of hkp_1827, Or.inl ⟨fun q => by have h8 := q.2.2.2.2.1; omega, hkp_1827.2.2.2.2.2, hkc18_1827, hkc19_1827⟩⟩) dX12_word_64
        · have n_1826 : I9 ≤ v_1825 := n_nlt (a := v_1825) (b := I9) c_1826 (by omega) (by omega)
          refine lv_iload hx hb dX12_word_46 (lv_at hl 5 rfl) ?_
          refine lv_aload_n hx hb dX12_word_48 rfl (lv_at hl 1 rfl) ?_
          refine hp_get hx hb hts ix12 hown hK hh (q := 0) rfl (hI.1 _ (by decide)) es1816_1820 rfl 8 (by decide) (hts _ tw_887) (fun _ h9 => h9) rfl dX12_word_49 ?_
          refine lv_iload_n hx hb dX12_word_52 rfl (lv_at hl 2 rfl) ?_
          refine hp_iald hx hb hK hh (q := 4) rfl (hI.1 _ (by decide)) es1817_1820 (vp_in_nI (n := K9) (by omega) (by decide)) dX12_word_53 ?_
          rw [nI_clamp (n := K9) (by omega)]
          rw [hfv_1825]
          refine lv_iload_n hx hb dX12_word_54 rfl (lv_at hl 4 rfl) ?_
          refine lv_isub hx hb dX12_word_55 ?_
          rw [pk_sub (a := v_1825) (b := I9) (by omega)]
          refine lv_icmp_le (tgt := 65) hx hb dX12_word_56 (by decide) (fun c_1828 => ?_) (fun c_1828 => ?_)
          · have n_1828 : N9 ≤ (v_1825 - I9) := n_le (a := N9) (b := (v_1825 - I9)) c_1828 (by omega) (by omega)
            refine lv_iload hx hb dX12_word_65 (lv_at hl 5 rfl) ?_
            refine lv_i2l hx hb dX12_word_67 rfl ?_
            refine lv_lconst (v := 1) hx hb dX12_word_68 (by decide) ?_
            refine lv_ldc2 hx hb hown (hts _ tw_1170) dX12_word_69 ?_
            refine hp_callRi (va_runS (As := [.long ((nI N9).toInt64), .long 1, .long 12]) (rest := []) ⟨hx, hb, hml, hown, hts⟩ (c_X12_within l D cy _ cs ad en_1820 ((nI N9).toInt64) 1 12) (kw_X12_within hts tw_985 ⟨by decide, by decide⟩) (preS_of hh hK) rfl rfl hl.1 rfl (lv_room (Nat.le_of_ble_eq_true rfl)) dX12_word_72 ⟨Nat.le_of_ble_eq_true rfl, Nat.le_of_ble_eq_true rfl⟩) hh hA (fun r_1829 H locs hw_1829 hh => ?_)
            rcases Decidable.em (wi (nI N9) 1 12) with hp_1829 | hp_1829
            · obtain rfl : r_1829 = 1 := Eq.trans hw_1829 (if_pos ((wj_32 (by decide) (by decide)).mpr hp_1829))
              have hN_1829 := wi_nn hp_1829 1 12 (by decide) (by decide) (by omega)
              refine lv_if_ne (tgt := 81) hx hb dX12_word_75 (by decide) (fun _ => ?_) (fun c_0 => absurd c_0 (by decide))
              refine lv_iconst (v := 0) hx hb dX12_word_81 (by decide) ?_
              refine lv_istore (lv' := [(6, .int 0), (5, .int 0), (0, .ref (ad 0)), (1, .int (nI K9)), (2, .int la9), (3, .int (nI I9)), (4, .int (nI N9))]) hx hb dX12_word_82 hl (by decide) rfl (fun ls hl => ?_)
              have loop_1830 : ∀ (fu j1830 : Nat)   (ls : Array Slot) (H : Heap) (locs : List Loc), 0 ≤ j1830 → j1830 ≤ N9 → N9 < j1830 + fu →  (∀ x, x < j1830 → ∃ v, v < 6 ∧ v < tb ∧ f_1818 (((40 * K9) + I9) + x) = nI v) → lv_has ls 7 [(6, .int (nI j1830)), (5, .int 0), (0, .ref (ad 0)), (1, .int (nI K9)), (2, .int la9), (3, .int (nI I9)), (4, .int (nI N9))] → Hp D (Af cs ad sz) (Af cs ad sz) s.heap H locs cs ad en_1820 → W p l e (headSpec (Cond.code yX12_word cX12_word 7 (some .int) :: TB) (rmN 2)).room s m ([.ref (ad 0), .int (nI K9), .int la9, .int (nI I9), .int (nI N9)] : List Value).toArray below meth c H locs 0 0 (MQ below (va_Qi (S := Nat → va_E) (fun r en1 => RX cy cs ad en1 ∧ (∀ c, (c ≠ 0 ∧ c ≠ 18 ∧ c ≠ 19) → en1 c = en c) ∧ RWX en1 ∧ KPw en en1 ∧ RWO (nI K9) la9 (nI I9) (nI N9) r en en1) (PostM D cs ad) (Af cs ad sz)) ([.ref (ad 0), .int (nI K9), .int la9, .int (nI I9), .int (nI N9)] : List Value).toArray s 0 0 (Af cs ad sz)) (F0 m 84 ls []) := by
                intro fu
                induction fu with
                | zero => intro j1830  ls H locs h0 h1 h2; exact absurd h2 (by omega)
                | succ fu ih_1830 =>
                  intro j1830  ls H locs hj0_1830 hj_1830 hfu_1830 i0_1830 hl hh
                  refine lv_iload hx hb dX12_word_84 (lv_at hl 0 rfl) ?_
                  refine lv_iload hx hb dX12_word_86 (lv_at hl 6 rfl) ?_
                  refine lv_icmp_ge (tgt := 120) hx hb dX12_word_88 (by decide) (fun c_1831 => ?_) (fun c_1831 => ?_)
                  · have n_1831 : N9 ≤ j1830 := n_le (a := N9) (b := j1830) c_1831 (by omega) (by omega)
                    have hcl9 : ∀ x, x < N9 → ∃ v, v < 6 ∧ f_1818 (((40 * K9) + I9) + x) = nI v := fun x hx => by obtain ⟨v, a1, a2, a3⟩ := i0_1830 x (by omega); exact ⟨v, a1, a3⟩
                    have hcq9 : ∀ x, x < N9 → hasQ (f_1818 (((40 * K9) + I9) + x)) (rdI (en 0) 4) := fun x hx => by obtain ⟨v, a1, a2, a3⟩ := i0_1830 x (by omega); rw [a3, show rdI (en 0) 4 = nI tb from by rw [es1816]; rfl]; exact ⟨by rw [nI_toInt (by omega)]; omega, by rw [nI_toInt (by omega), nI_toInt (by omega)]; omega⟩
                    refine lv_aload_n hx hb dX12_word_120 rfl (lv_at hl 2 rfl) ?_
                    refine hp_get hx hb hts ix12 hown hK hh (q := 0) rfl (hI.1 _ (by decide)) es1816_1820 rfl 30 (by decide) (hts _ tw_909) (fun _ h9 => h9) rfl dX12_word_121 ?_
                    refine lv_bipush (v := 10) hx hb dX12_word_124 (by decide) ?_
                    refine lv_icmp_ne (tgt := 132) hx hb dX12_word_126 (by decide) (fun c_1832 => ?_) (fun c_1832 => ?_)
                    · have n_1832 : wo ≠ 10 := n_neq (a := wo) (b := 10) c_1832 (by omega) (by decide)
                      have hwo9 : wo < 10 := by omega
                      refine lv_iconst (v := 0) hx hb dX12_word_132 (by decide) ?_
                      refine lv_istore (lv' := [(6, .int 0), (5, .int 0), (0, .ref (ad 0)), (1, .int (nI K9)), (2, .int la9), (3, .int (nI I9)), (4, .int (nI N9))]) hx hb dX12_word_133 hl (by decide) rfl (fun ls hl => ?_)
                      have loop_1833 : ∀ (fu j1833 : Nat)  (en_1833 : Nat → va_E) (ls : Array Slot) (H : Heap) (locs : List Loc), 0 ≤ j1833 → j1833 ≤ N9 → N9 < j1833 + fu → RX cy cs ad en_1833 → (∀ c, (c ≠ 0 ∧ c ≠ 18 ∧ c ≠ 19) → en_1833 c = en c) → (∀ x, rdF (en_1833 18) x = if 12 * wo ≤ x ∧ x < 12 * wo + j1833 then rdF (en 5) (40 * K9 + I9 + (x - 12 * wo)) else rdF (en 18) x) → (KP en en_1833) → (en_1833 19 = en 19) → lv_has ls 7 [(6, .int (nI j1833)), (5, .int 0), (0, .ref (ad 0)), (1, .int (nI K9)), (2, .int la9), (3, .int (nI I9)), (4, .int (nI N9))] → Hp D (Af cs ad sz) (Af cs ad sz) s.heap H locs cs ad en_1833 → W p l e (headSpec (Cond.code yX12_word cX12_word 7 (some .int) :: TB) (rmN 2)).room s m ([.ref (ad 0), .int (nI K9), .int la9, .int (nI I9), .int (nI N9)] : List Value).toArray below meth c H locs 0 0 (MQ below (va_Qi (S := Nat → va_E) (fun r en1 => RX cy cs ad en1 ∧ (∀ c, (c ≠ 0 ∧ c ≠ 18 ∧ c ≠ 19) → en1 c = en c) ∧ RWX en1 ∧ KPw en en1 ∧ RWO (nI K9) la9 (nI I9) (nI N9) r en en1) (PostM D cs ad) (Af cs ad sz)) ([.ref (ad 0), .int (nI K9), .int la9, .int (nI I9), .int (nI N9)] : List Value).toArray s 0 0 (Af cs ad sz)) (F0 m 135 ls []) := by
                        intro fu
                        induction fu with
                        | zero => intro j1833  en_1833 ls H locs h0 h1 h2; exact absurd h2 (by omega)
                        | succ fu ih_1833 =>
                          intro j1833  en_1833 ls H locs hj0_1833 hj_1833 hfu_1833 hI_1833 hf_1833 i0_1833 i1_1833 i2_1833 hl hh
                          refine lv_iload hx hb dX12_word_135 (lv_at hl 0 rfl) ?_
                          refine lv_iload hx hb dX12_word_137 (lv_at hl 6 rfl) ?_
                          refine lv_icmp_ge (tgt := 177) hx hb dX12_word_139 (by decide) (fun c_1834 => ?_) (fun c_1834 => ?_)
                          · have n_1834 : N9 ≤ j1833 := n_le (a := N9) (b := j1833) c_1834 (by omega) (by omega)
                            refine lv_aload_n hx hb dX12_word_177 rfl (lv_at hl 2 rfl) ?_
                            obtain ⟨fa_1835, hi_1835, wd_1835, mo_1835, tb_1835, dp_1835, many_1835, grt_1835, lst_1835, nou_1835, rm_1835, rb_1835, pr_1835, wo_1835, es1835, p0_1835, p1_1835, p2_1835, p3_1835, p4_1835⟩ := getr_M hI_1833
                            have hq2_1836 : wd_1835 = wd := n_eq ((show nI wd_1835 = rdI (en_1833 0) 2 from by rw [es1835]; rfl).trans (i1_1833.2.1.trans (show rdI (en 0) 2 = nI wd from by rw [es1816]; rfl))) (by omega) (by omega)
                            have hq3_1836 : mo_1835 = mo := n_eq ((show nI mo_1835 = rdI (en_1833 0) 3 from by rw [es1835]; rfl).trans (i1_1833.2.2.1.trans (show rdI (en 0) 3 = nI mo from by rw [es1816]; rfl))) (by omega) (by omega)
                            have hq4_1836 : tb_1835 = tb := n_eq ((show nI tb_1835 = rdI (en_1833 0) 4 from by rw [es1835]; rfl).trans (i1_1833.2.2.2.1.trans (show rdI (en 0) 4 = nI tb from by rw [es1816]; rfl))) (by omega) (by omega)
                            have hq30_1836 : wo_1835 = wo := n_eq ((show nI wo_1835 = rdI (en_1833 0) 30 from by rw [es1835]; rfl).trans (i1_1833.2.2.2.2.2.trans (show rdI (en 0) 30 = nI wo from by rw [es1816]; rfl))) (by omega) (by omega)
                            rw [hq2_1836, hq3_1836, hq4_1836, hq30_1836] at es1835
                            refine hp_get hx hb hts ix12 hown hK hh (q := 0) rfl (hI.1 _ (by decide)) es1835 rfl 32 (by decide) (hts _ tw_911) (fun _ h9 => h9) rfl dX12_word_178 ?_
                            refine lv_aload_n hx hb dX12_word_181 rfl (lv_at hl 2 rfl) ?_
                            refine hp_get hx hb hts ix12 hown hK hh (q := 0) rfl (hI.1 _ (by decide)) es1835 rfl 30 (by decide) (hts _ tw_909) (fun _ h9 => h9) rfl dX12_word_182 ?_
                            refine lv_iload hx hb dX12_word_185 (lv_at hl 6 rfl) ?_
                            have es1819_1837 : en_1833 19 = .inl (cy 0, 10, .inl f_1819) := i2_1833.trans es1819
                            refine hp_iast hx hb hK hh (q := 19) rfl (hI.1 _ (by decide)) es1819_1837 (vp_in_nI (n := wo) (by omega) (by decide)) dX12_word_187 (fun H locs en_1838 hen_1838 hh => ?_)
                            rw [nI_clamp (n := wo) (by omega)] at hen_1838
                            have es1835_1838 : en_1838 0 = .inr (11, [.int fa_1835, .int hi_1835, .int (nI wd), .int (nI mo), .int (nI tb), .ref (ad 1), .ref (ad 2), .ref (ad 3), .ref (ad 4), .ref (ad 5), .ref (ad 6), .ref (ad 7), .ref (ad 8), .ref (ad 9), .int dp_1835, .long many_1835, .long grt_1835, .long lst_1835, .long nou_1835, .ref (ad 10), .ref (ad 11), .ref (ad 12), .int rm_1835, .long rb_1835, .ref (ad 13), .int pr_1835, .ref (ad 14), .ref (ad 15), .ref (ad 16), .ref (ad 17), .int (nI wo), .ref (ad 18), .ref (ad 19)]) := by rw [hen_1838, va_up_ne _ _ (by decide)]; exact es1835
                            have es1819_1838 : en_1838 19 = .inl (cy 0, 10, .inl (upd f_1819 wo (nI N9))) := by rw [hen_1838]; exact va_up_self _ _ _
                            have hI_1838 : RX cy cs ad en_1838 := by rw [hen_1838]; exact upr_wl hI_1833 ⟨(upd f_1819 wo (nI N9)), rfl, (vals_updB p0_1819 (by omega))⟩
                            have hf_1838 : ∀ c, (c ≠ 0 ∧ c ≠ 18 ∧ c ≠ 19) → en_1838 c = en c := fun c hc => Eq.trans (show en_1838 c = en_1833 c from by rw [hen_1838, va_up_ne _ _ (by omega)]) (hf_1833 c hc)
                            have hkp_1838 : KP en en_1838 := KP_same i1_1833 (show en_1838 0 = en_1833 0 from by rw [hen_1838, va_up_ne _ _ (by decide)])
                            refine lv_aload_n hx hb dX12_word_188 rfl (lv_at hl 2 rfl) ?_
                            refine lv_dup hx hb dX12_word_189 rfl ?_
                            refine hp_get hx hb hts ix12 hown hK hh (q := 0) rfl (hI.1 _ (by decide)) es1835_1838 rfl 30 (by decide) (hts _ tw_909) (fun _ h9 => h9) rfl dX12_word_190 ?_
                            refine lv_iconst (v := 1) hx hb dX12_word_193 (by decide) ?_
                            refine lv_iadd hx hb dX12_word_194 ?_
                            rw [show (1 : Int32) = nI 1 from rfl, nI_add wo 1]
                            refine hp_put hx hb hts ix12 tyX12 tyX12_ok nmX12 hown hK hh (q := 0) rfl (hI.1 _ (by decide)) es1835_1838 rfl 30 (by decide) (hts _ tw_909) (fun _ h9 => h9) rfl (ty := .int) (by decide +kernel) rfl rfl (Nat.le_of_ble_eq_true rfl) dX12_word_195 (fun H locs en_1839 hen_1839 hh => ?_)
                            have es1819_1839 : en_1839 19 = .inl (cy 0, 10, .inl (upd f_1819 wo (nI N9))) := by rw [hen_1839, va_up_ne _ _ (by decide)]; exact es1819_1838
                            have es1835_1839 : en_1839 0 = .inr (11, [.int fa_1835, .int hi_1835, .int (nI wd), .int (nI mo), .int (nI tb), .ref (ad 1), .ref (ad 2), .ref (ad 3), .ref (ad 4), .ref (ad 5), .ref (ad 6), .ref (ad 7), .ref (ad 8), .ref (ad 9), .int dp_1835, .long many_1835, .long grt_1835, .long lst_1835, .long nou_1835, .ref (ad 10), .ref (ad 11), .ref (ad 12), .int rm_1835, .long rb_1835, .ref (ad 13), .int pr_1835, .ref (ad 14), .ref (ad 15), .ref (ad 16), .ref (ad 17), .int (nI (wo + 1)), .ref (ad 18), .ref (ad 19)]) := by rw [hen_1839]; exact va_up_self _ _ _
                            have hI_1839 : RX cy cs ad en_1839 := by rw [hen_1839]; exact upr_M hI_1838 ⟨fa_1835, hi_1835, wd, mo, tb, dp_1835, many_1835, grt_1835, lst_1835, nou_1835, rm_1835, rb_1835, pr_1835, (wo + 1), rfl, hwd2, hwd3, hmo, htb, (by omega)⟩
                            have hf_1839 : ∀ c, (c ≠ 0 ∧ c ≠ 18 ∧ c ≠ 19) → en_1839 c = en c := fun c hc => Eq.trans (show en_1839 c = en_1838 c from by rw [hen_1839, va_up_ne _ _ (by omega)]) (hf_1838 c hc)
                            refine lv_aload_n hx hb dX12_word_198 rfl (lv_at hl 2 rfl) ?_
                            refine hp_get hx hb hts ix12 hown hK hh (q := 0) rfl (hI.1 _ (by decide)) es1835_1839 rfl 30 (by decide) (hts _ tw_909) (fun _ h9 => h9) rfl dX12_word_199 ?_
                            refine lv_iconst (v := 1) hx hb dX12_word_202 (by decide) ?_
                            refine lv_isub hx hb dX12_word_203 ?_
                            rw [show (1 : Int32) = nI 1 from rfl, pk_sub (a := (wo + 1)) (b := 1) (by omega)]
                            have h09 : (0 : Int32).toInt = 0 := by decide
                            have hs4 : (rdF (en 4) (nI K9).toNatClampNeg).toInt = (v_1825 : Int) := by rw [nI_clamp (n := K9) (by omega), show rdF (en 4) = f_1817 from by rw [es1817]; rfl, hfv_1825]; exact nI_toInt (by omega)
                            have hsi : (nI I9).toInt = (I9 : Int) := nI_toInt (by omega)
                            have hsn : (nI N9).toInt = (N9 : Int) := nI_toInt (by omega)
                            have hc4 : (rdI (en 0) 4).toInt = (tb : Int) := by rw [show rdI (en 0) 4 = nI tb from by rw [es1816]; rfl]; exact nI_toInt (by omega)
                            have he30 : rdI (en 0) 30 = nI wo := by rw [es1816]; rfl
                            have hc30 : (rdI (en 0) 30).toInt = (wo : Int) := by rw [he30]; exact nI_toInt (by omega)
                            have hok9 : okWR (nI K9) la9 (nI I9) (nI N9) en := ⟨hag0, by omega, by omega, by omega, by omega, fun x hx9 => by rw [nI_clamp (n := N9) (by omega)] at hx9; rw [nI_clamp (n := K9) (by omega), nI_clamp (n := I9) (by omega), show rdF (en 5) = f_1818 from by rw [es1818]; rfl]; exact hcq9 x hx9, by omega⟩
                            exact hp_iretM hx hb hr rfl hlocks hh (⟨hI_1839, hf_1839, RWX_add hRW (wo := wo) hwo9 (show rdI (en 0) 30 = nI wo from by rw [es1816]; rfl) (show rdI (en_1839 0) 30 = nI (wo + 1) from by rw [es1835_1839]; rfl) (N := N9) (by omega) (by omega) (show rdF (en_1839 19) = upd (rdF (en 19)) wo (nI N9) from by rw [es1819_1839, es1819]; rfl), KPw_fv (KPw_of hkp_1838) es1835_1838 es1835_1839 hi_1835 (nI wd) (nI mo) (nI tb) pr_1835 rfl rfl rfl rfl rfl rfl rfl rfl rfl rfl, (by unfold RWO; rw [nI_clamp (n := K9) (by omega), nI_clamp (n := I9) (by omega), nI_clamp (n := N9) (by omega)]; exact Or.inr ⟨hok9, wo, congrArg nI (by omega), he30, hwo9, by omega, by omega, (by rw [es1835_1839]; rfl), (by rw [es1819_1839, es1819]; rfl), fun x => by rw [show en_1839 18 = en_1833 18 from by rw [hen_1839, va_up_ne _ _ (by decide), hen_1838, va_up_ne _ _ (by decide)]]; have e9 : j1833 = N9 := (by omega); have h9 := i0_1833 x; rw [e9] at h9; exact h9⟩)⟩) dX12_word_204
                          · have n_1834 : j1833 < N9 := n_nle (a := N9) (b := j1833) c_1834 (by omega) (by omega)
                            refine lv_aload_n hx hb dX12_word_142 rfl (lv_at hl 2 rfl) ?_
                            obtain ⟨fa_1840, hi_1840, wd_1840, mo_1840, tb_1840, dp_1840, many_1840, grt_1840, lst_1840, nou_1840, rm_1840, rb_1840, pr_1840, wo_1840, es1840, p0_1840, p1_1840, p2_1840, p3_1840, p4_1840⟩ := getr_M hI_1833
                            have hq2_1841 : wd_1840 = wd := n_eq ((show nI wd_1840 = rdI (en_1833 0) 2 from by rw [es1840]; rfl).trans (i1_1833.2.1.trans (show rdI (en 0) 2 = nI wd from by rw [es1816]; rfl))) (by omega) (by omega)
                            have hq3_1841 : mo_1840 = mo := n_eq ((show nI mo_1840 = rdI (en_1833 0) 3 from by rw [es1840]; rfl).trans (i1_1833.2.2.1.trans (show rdI (en 0) 3 = nI mo from by rw [es1816]; rfl))) (by omega) (by omega)
                            have hq4_1841 : tb_1840 = tb := n_eq ((show nI tb_1840 = rdI (en_1833 0) 4 from by rw [es1840]; rfl).trans (i1_1833.2.2.2.1.trans (show rdI (en 0) 4 = nI tb from by rw [es1816]; rfl))) (by omega) (by omega)
                            have hq30_1841 : wo_1840 = wo := n_eq ((show nI wo_1840 = rdI (en_1833 0) 30 from by rw [es1840]; rfl).trans (i1_1833.2.2.2.2.2.trans (show rdI (en 0) 30 = nI wo from by rw [es1816]; rfl))) (by omega) (by omega)
                            rw [hq2_1841, hq3_1841, hq4_1841, hq30_1841] at es1840
                            refine hp_get hx hb hts ix12 hown hK hh (q := 0) rfl (hI.1 _ (by decide)) es1840 rfl 31 (by decide) (hts _ tw_910) (fun _ h9 => h9) rfl dX12_word_143 ?_
                            refine lv_bipush (v := 12) hx hb dX12_word_146 (by decide) ?_
                            refine lv_aload_n hx hb dX12_word_148 rfl (lv_at hl 2 rfl) ?_
                            refine hp_get hx hb hts ix12 hown hK hh (q := 0) rfl (hI.1 _ (by decide)) es1840 rfl 30 (by decide) (hts _ tw_909) (fun _ h9 => h9) rfl dX12_word_149 ?_
                            refine lv_imul hx hb dX12_word_152 ?_
                            rw [show (12 : Int32) = nI 12 from rfl, pk_mul 12 wo]
                            refine lv_iload hx hb dX12_word_153 (lv_at hl 0 rfl) ?_
                            refine lv_iadd hx hb dX12_word_155 ?_
                            rw [nI_add (12 * wo) j1833]
                            refine lv_aload_n hx hb dX12_word_156 rfl (lv_at hl 2 rfl) ?_
                            refine hp_get hx hb hts ix12 hown hK hh (q := 0) rfl (hI.1 _ (by decide)) es1840 rfl 9 (by decide) (hts _ tw_888) (fun _ h9 => h9) rfl dX12_word_157 ?_
                            refine lv_bipush (v := 40) hx hb dX12_word_160 (by decide) ?_
                            refine lv_iload_n hx hb dX12_word_162 rfl (lv_at hl 3 rfl) ?_
                            refine lv_imul hx hb dX12_word_163 ?_
                            rw [show (40 : Int32) = nI 40 from rfl, pk_mul 40 K9]
                            refine lv_iload_n hx hb dX12_word_164 rfl (lv_at hl 5 rfl) ?_
                            refine lv_iadd hx hb dX12_word_165 ?_
                            rw [nI_add (40 * K9) I9]
                            refine lv_iload hx hb dX12_word_166 (lv_at hl 0 rfl) ?_
                            refine lv_iadd hx hb dX12_word_168 ?_
                            rw [nI_add ((40 * K9) + I9) j1833]
                            have es1818_1842 : en_1833 5 = .inl (cy 0, 160, .inl f_1818) := (hf_1833 5 (by omega)).trans es1818
                            refine hp_iald hx hb hK hh (q := 5) rfl (hI.1 _ (by decide)) es1818_1842 (vp_in_nI (n := (((40 * K9) + I9) + j1833)) (by omega) (by decide)) dX12_word_169 ?_
                            rw [nI_clamp (n := (((40 * K9) + I9) + j1833)) (by omega)]
                            obtain ⟨v_1843, hv_1843, hve_1843⟩ := hcl9 j1833 (by omega)
                            rw [show (f_1818 (((40 * K9) + I9) + j1833)) = nI v_1843 from hve_1843]
                            obtain ⟨f_1844, es1844, p0_1844⟩ := getr_lt hI_1833
                            refine hp_iast hx hb hK hh (q := 18) rfl (hI.1 _ (by decide)) es1844 (vp_in_nI (n := ((12 * wo) + j1833)) (by omega) (by decide)) dX12_word_170 (fun H locs en_1845 hen_1845 hh => ?_)
                            rw [nI_clamp (n := ((12 * wo) + j1833)) (by omega)] at hen_1845
                            have es1840_1845 : en_1845 0 = .inr (11, [.int fa_1840, .int hi_1840, .int (nI wd), .int (nI mo), .int (nI tb), .ref (ad 1), .ref (ad 2), .ref (ad 3), .ref (ad 4), .ref (ad 5), .ref (ad 6), .ref (ad 7), .ref (ad 8), .ref (ad 9), .int dp_1840, .long many_1840, .long grt_1840, .long lst_1840, .long nou_1840, .ref (ad 10), .ref (ad 11), .ref (ad 12), .int rm_1840, .long rb_1840, .ref (ad 13), .int pr_1840, .ref (ad 14), .ref (ad 15), .ref (ad 16), .ref (ad 17), .int (nI wo), .ref (ad 18), .ref (ad 19)]) := by rw [hen_1845, va_up_ne _ _ (by decide)]; exact es1840
                            have es1818_1845 : en_1845 5 = .inl (cy 0, 160, .inl f_1818) := by rw [hen_1845, va_up_ne _ _ (by decide)]; exact es1818_1842
                            have es1844_1845 : en_1845 18 = .inl (cy 0, 120, .inl (upd f_1844 ((12 * wo) + j1833) (nI v_1843))) := by rw [hen_1845]; exact va_up_self _ _ _
                            have hI_1845 : RX cy cs ad en_1845 := by rw [hen_1845]; exact upr_lt hI_1833 ⟨(upd f_1844 ((12 * wo) + j1833) (nI v_1843)), rfl, (vals_updB p0_1844 (by omega))⟩
                            have hf_1845 : ∀ c, (c ≠ 0 ∧ c ≠ 18 ∧ c ≠ 19) → en_1845 c = en c := fun c hc => Eq.trans (show en_1845 c = en_1833 c from by rw [hen_1845, va_up_ne _ _ (by omega)]) (hf_1833 c hc)
                            have hkc19_1845 : en_1845 19 = en 19 := (show en_1845 19 = en_1833 19 from by rw [hen_1845, va_up_ne _ _ (by decide)]).trans i2_1833
                            have hkp_1845 : KP en en_1845 := KP_same i1_1833 (show en_1845 0 = en_1833 0 from by rw [hen_1845, va_up_ne _ _ (by decide)])
                            refine lv_iinc (v := (nI (j1833 + 1))) (lv' := [(6, .int (nI (j1833 + 1))), (5, .int 0), (0, .ref (ad 0)), (1, .int (nI K9)), (2, .int la9), (3, .int (nI I9)), (4, .int (nI N9))]) hx hb dX12_word_171 hl (k := 0) rfl (nI_1 _) (by decide) rfl (fun ls hl => ?_)
                            refine lv_goto (tgt := 135) hx hb dX12_word_174 (by decide) ?_
                            exact ih_1833 ((j1833 + 1))  en_1845 ls H locs (by omega) (by omega) (by omega) hI_1845 hf_1845 (fun x => by rw [es1844_1845]; exact cp_upd (c := fun y => rdF (en 5) (40 * K9 + I9 + y)) (j := j1833) (fun x => (show f_1844 x = rdF (en_1833 18) x from by rw [es1844]; rfl).trans (i0_1833 x)) rfl rfl (by show rdF (en 5) (40 * K9 + I9 + j1833) = _; rw [show rdF (en 5) = f_1818 from by rw [es1818]; rfl]; exact hve_1843) x) (hkp_1845) (hkc19_1845) (lv_sub hl [0, 1, 2, 3, 4, 5, 6] rfl) hh
                      exact loop_1833 (N9 + 1) 0  en_1820 ls _ _ (Nat.le_refl _) (by omega) (by omega) hI_1820 hf_1820 (fun x => by rw [hkc18_1820, if_neg (by omega)]) (hkp_1820) (hkc19_1820) (lv_sub hl [0, 1, 2, 3, 4, 5, 6] rfl) hh
                    · have n_1832 : wo = 10 := n_eq (a := wo) (b := 10) c_1832 (by omega) (by decide)
                      refine lv_bipush (v := (-4)) hx hb dX12_word_129 (by decide) ?_
                      have h09 : (0 : Int32).toInt = 0 := by decide
                      have hs4 : (rdF (en 4) (nI K9).toNatClampNeg).toInt = (v_1825 : Int) := by rw [nI_clamp (n := K9) (by omega), show rdF (en 4) = f_1817 from by rw [es1817]; rfl, hfv_1825]; exact nI_toInt (by omega)
                      have hsi : (nI I9).toInt = (I9 : Int) := nI_toInt (by omega)
                      have hsn : (nI N9).toInt = (N9 : Int) := nI_toInt (by omega)
                      have hc4 : (rdI (en 0) 4).toInt = (tb : Int) := by rw [show rdI (en 0) 4 = nI tb from by rw [es1816]; rfl]; exact nI_toInt (by omega)
                      have he30 : rdI (en 0) 30 = nI wo := by rw [es1816]; rfl
                      have hc30 : (rdI (en 0) 30).toInt = (wo : Int) := by rw [he30]; exact nI_toInt (by omega)
                      exact hp_iretM hx hb hr rfl hlocks hh (⟨hI_1820, hf_1820, RWX_keep hRW hkp_1820.2.2.2.2.2 hkc19_1820, KPw_of hkp_1820, Or.inl ⟨fun q => by have h8 := q.2.2.2.2.2.2; omega, hkp_1820.2.2.2.2.2, hkc18_1820, hkc19_1820⟩⟩) dX12_word_131
                  · have n_1831 : j1830 < N9 := n_nle (a := N9) (b := j1830) c_1831 (by omega) (by omega)
                    refine lv_aload_n hx hb dX12_word_91 rfl (lv_at hl 2 rfl) ?_
                    refine lv_aload_n hx hb dX12_word_92 rfl (lv_at hl 2 rfl) ?_
                    refine hp_get hx hb hts ix12 hown hK hh (q := 0) rfl (hI.1 _ (by decide)) es1816_1820 rfl 9 (by decide) (hts _ tw_888) (fun _ h9 => h9) rfl dX12_word_93 ?_
                    refine lv_bipush (v := 40) hx hb dX12_word_96 (by decide) ?_
                    refine lv_iload_n hx hb dX12_word_98 rfl (lv_at hl 3 rfl) ?_
                    refine lv_imul hx hb dX12_word_99 ?_
                    rw [show (40 : Int32) = nI 40 from rfl, pk_mul 40 K9]
                    refine lv_iload_n hx hb dX12_word_100 rfl (lv_at hl 5 rfl) ?_
                    refine lv_iadd hx hb dX12_word_101 ?_
                    rw [nI_add (40 * K9) I9]
                    refine lv_iload hx hb dX12_word_102 (lv_at hl 0 rfl) ?_
                    refine lv_iadd hx hb dX12_word_104 ?_
                    rw [nI_add ((40 * K9) + I9) j1830]
                    refine hp_iald hx hb hK hh (q := 5) rfl (hI.1 _ (by decide)) es1818_1820 (vp_in_nI (n := (((40 * K9) + I9) + j1830)) (by omega) (by decide)) dX12_word_105 ?_
                    rw [nI_clamp (n := (((40 * K9) + I9) + j1830)) (by omega)]
                    refine hp_callRi (va_runV (As := [.int (f_1818 (((40 * K9) + I9) + j1830))]) (rest := []) ⟨hx, hb, hml, hown, hts⟩ (c_X12_isTable l D cy _ cs ad en_1820 hI_1820 (f_1818 (((40 * K9) + I9) + j1830)) ) (kw_X12_isTable hts tw_1007 ⟨by decide, by decide⟩) (preV_of hh hK (hI.1 _ (by decide)) es1816_1820 rfl) rfl rfl hl.1 rfl (lv_room (Nat.le_of_ble_eq_true rfl)) dX12_word_106 ⟨Nat.le_of_ble_eq_true rfl, Nat.le_of_ble_eq_true rfl⟩) hh hA (fun r_1846 H locs hw_1846 hh => ?_)
                    rw [show rdI (en_1820 0) 4 = (nI tb) from by rw [es1816_1820]; rfl, nI_toInt (n := tb) (by omega)] at hw_1846
                    rcases Decidable.em (0 ≤ (f_1818 (((40 * K9) + I9) + j1830)).toInt ∧ (f_1818 (((40 * K9) + I9) + j1830)).toInt < (tb : Int)) with hp_1846 | hp_1846
                    · obtain rfl : r_1846 = 1 := Eq.trans hw_1846 (if_pos hp_1846)
                      refine lv_if_ne (tgt := 114) hx hb dX12_word_109 (by decide) (fun _ => ?_) (fun c_0 => absurd c_0 (by decide))
                      refine lv_iinc (v := (nI (j1830 + 1))) (lv' := [(6, .int (nI (j1830 + 1))), (5, .int 0), (0, .ref (ad 0)), (1, .int (nI K9)), (2, .int la9), (3, .int (nI I9)), (4, .int (nI N9))]) hx hb dX12_word_114 hl (k := 0) rfl (nI_1 _) (by decide) rfl (fun ls hl => ?_)
                      refine lv_goto (tgt := 84) hx hb dX12_word_117 (by decide) ?_
                      exact ih_1830 ((j1830 + 1))  ls H locs (by omega) (by omega) (by omega) (fun x hx => by rcases Nat.lt_or_ge x j1830 with h9 | h9; exact i0_1830 x h9; obtain rfl : x = j1830 := (by omega); obtain ⟨v, e9, h8⟩ := has_nat hp_1846; exact ⟨v, by omega, by omega, e9⟩) (lv_sub hl [0, 1, 2, 3, 4, 5, 6] rfl) hh
                    · obtain rfl : r_1846 = 0 := Eq.trans hw_1846 (if_neg hp_1846)
                      refine lv_if_ne (tgt := 114) hx hb dX12_word_109 (by decide) (fun c_0 => absurd c_0 (by decide)) (fun _ => ?_)
                      refine lv_iconst (v := (-1)) hx hb dX12_word_112 (by decide) ?_
                      have h09 : (0 : Int32).toInt = 0 := by decide
                      have hs4 : (rdF (en 4) (nI K9).toNatClampNeg).toInt = (v_1825 : Int) := by rw [nI_clamp (n := K9) (by omega), show rdF (en 4) = f_1817 from by rw [es1817]; rfl, hfv_1825]; exact nI_toInt (by omega)
                      have hsi : (nI I9).toInt = (I9 : Int) := nI_toInt (by omega)
                      have hsn : (nI N9).toInt = (N9 : Int) := nI_toInt (by omega)
                      have hc4 : (rdI (en 0) 4).toInt = (tb : Int) := by rw [show rdI (en 0) 4 = nI tb from by rw [es1816]; rfl]; exact nI_toInt (by omega)
                      have he30 : rdI (en 0) 30 = nI wo := by rw [es1816]; rfl
                      have hc30 : (rdI (en 0) 30).toInt = (wo : Int) := by rw [he30]; exact nI_toInt (by omega)
                      exact hp_iretM hx hb hr rfl hlocks hh (⟨hI_1820, hf_1820, RWX_keep hRW hkp_1820.2.2.2.2.2 hkc19_1820, KPw_of hkp_1820, Or.inl ⟨fun q => hp_1846 (by have h9 := q.2.2.2.2.2.1 j1830 (by rw [nI_clamp (n := N9) (by omega)]; omega); rw [nI_clamp (n := K9) (by omega), nI_clamp (n := I9) (by omega), show rdF (en 5) = f_1818 from by rw [es1818]; rfl] at h9; exact ⟨h9.1, by have := h9.2; omega⟩), hkp_1820.2.2.2.2.2, hkc18_1820, hkc19_1820⟩⟩) dX12_word_113
              exact loop_1830 (N9 + 1) 0  ls _ _ (Nat.le_refl _) (by omega) (by omega) (fun x h => absurd h (Nat.not_lt_zero x)) (lv_sub hl [0, 1, 2, 3, 4, 5, 6] rfl) hh
            · obtain rfl : r_1829 = 0 := Eq.trans hw_1829 (if_neg (fun q => hp_1829 ((wj_32 (by decide) (by decide)).mp q)))
              refine lv_if_ne (tgt := 81) hx hb dX12_word_75 (by decide) (fun c_0 => absurd c_0 (by decide)) (fun _ => ?_)
              refine lv_bipush (v := (-2)) hx hb dX12_word_78 (by decide) ?_
              have h09 : (0 : Int32).toInt = 0 := by decide
              have hs4 : (rdF (en 4) (nI K9).toNatClampNeg).toInt = (v_1825 : Int) := by rw [nI_clamp (n := K9) (by omega), show rdF (en 4) = f_1817 from by rw [es1817]; rfl, hfv_1825]; exact nI_toInt (by omega)
              have hsi : (nI I9).toInt = (I9 : Int) := nI_toInt (by omega)
              have hsn : (nI N9).toInt = (N9 : Int) := nI_toInt (by omega)
              exact hp_iretM hx hb hr rfl hlocks hh (⟨hI_1820, hf_1820, RWX_keep hRW hkp_1820.2.2.2.2.2 hkc19_1820, KPw_of hkp_1820, Or.inl ⟨fun q => hp_1829 ⟨by rw [show (1 : Int32).toInt = 1 by decide]; exact q.2.1, by rw [show (12 : Int32).toInt = 12 by decide]; exact q.2.2.1⟩, hkp_1820.2.2.2.2.2, hkc18_1820, hkc19_1820⟩⟩) dX12_word_80
          · have n_1828 : (v_1825 - I9) < N9 := n_nle (a := N9) (b := (v_1825 - I9)) c_1828 (by omega) (by omega)
            refine lv_aload_n hx hb dX12_word_59 rfl (lv_at hl 1 rfl) ?_
            refine lv_iconst (v := 3) hx hb dX12_word_60 (by decide) ?_
            refine hp_callMi (va_runV (As := [.int 3]) (rest := []) ⟨hx, hb, hml, hown, hts⟩ (c_X12_fails l D cy _ cs ad en_1820 (hI.1 _ (by decide)) 0 hi wd mo tb dp many grt lst nou rm rb pr wo 3 es1816_1820) (kw_X12_fails hts tw_997 ⟨by decide, by decide⟩) (preV_of hh hK (hI.1 _ (by decide)) es1816_1820 rfl) rfl rfl hl.1 rfl (lv_room (Nat.le_of_ble_eq_true rfl)) dX12_word_61 ⟨Nat.le_of_ble_eq_true rfl, Nat.le_of_ble_eq_true rfl⟩) hh hA (fun r_1847 H locs en_1847 hw_1847 hh => ?_)
            obtain ⟨hr_1847, hen_1847⟩ := hw_1847
            have es1817_1847 : en_1847 4 = .inl (cy 0, 4, .inl f_1817) := by rw [hen_1847, va_up_ne _ _ (by decide)]; exact es1817_1820
            have es1818_1847 : en_1847 5 = .inl (cy 0, 160, .inl f_1818) := by rw [hen_1847, va_up_ne _ _ (by decide)]; exact es1818_1820
            have es1819_1847 : en_1847 19 = .inl (cy 0, 10, .inl f_1819) := by rw [hen_1847, va_up_ne _ _ (by decide)]; exact es1819_1820
            have es1816_1847 : en_1847 0 = .inr (11, [.int 3, .int hi, .int (nI wd), .int (nI mo), .int (nI tb), .ref (ad 1), .ref (ad 2), .ref (ad 3), .ref (ad 4), .ref (ad 5), .ref (ad 6), .ref (ad 7), .ref (ad 8), .ref (ad 9), .int dp, .long many, .long grt, .long lst, .long nou, .ref (ad 10), .ref (ad 11), .ref (ad 12), .int rm, .long rb, .ref (ad 13), .int pr, .ref (ad 14), .ref (ad 15), .ref (ad 16), .ref (ad 17), .int (nI wo), .ref (ad 18), .ref (ad 19)]) := by rw [hen_1847]; exact va_up_self _ _ _
            have hI_1847 : RX cy cs ad en_1847 := by rw [hen_1847]; exact upr_M hI_1820 ⟨3, hi, wd, mo, tb, dp, many, grt, lst, nou, rm, rb, pr, wo, rfl, hwd2, hwd3, hmo, htb, hwo⟩
            have hf_1847 : ∀ c, (c ≠ 0 ∧ c ≠ 18 ∧ c ≠ 19) → en_1847 c = en c := fun c hc => Eq.trans (show en_1847 c = en_1820 c from by rw [hen_1847, va_up_ne _ _ (by omega)]) (hf_1820 c hc)
            have hkc18_1847 : en_1847 18 = en 18 := (show en_1847 18 = en_1820 18 from by rw [hen_1847, va_up_ne _ _ (by decide)]).trans hkc18_1820
            have hkc19_1847 : en_1847 19 = en 19 := (show en_1847 19 = en_1820 19 from by rw [hen_1847, va_up_ne _ _ (by decide)]).trans hkc19_1820
            have hkp_1847 : KP en en_1847 := KP_fv hkp_1820 es1816_1820 es1816_1847 hi (nI wd) (nI mo) (nI tb) pr (nI wo) rfl rfl rfl rfl rfl rfl rfl rfl rfl rfl rfl rfl
            obtain rfl : r_1847 = (-13) := hr_1847.trans (by decide)
            have h09 : (0 : Int32).toInt = 0 := by decide
            have hs4 : (rdF (en 4) (nI K9).toNatClampNeg).toInt = (v_1825 : Int) := by rw [nI_clamp (n := K9) (by omega), show rdF (en 4) = f_1817 from by rw [es1817]; rfl, hfv_1825]; exact nI_toInt (by omega)
            have hsi : (nI I9).toInt = (I9 : Int) := nI_toInt (by omega)
            have hsn : (nI N9).toInt = (N9 : Int) := nI_toInt (by omega)
            exact hp_iretM hx hb hr rfl hlocks hh (⟨hI_1847, hf_1847, RWX_keep hRW hkp_1847.2.2.2.2.2 hkc19_1847, KPw_of hkp_1847, Or.inl ⟨fun q => by have h8 := q.2.2.2.2.1; omega, hkp_1847.2.2.2.2.2, hkc18_1847, hkc19_1847⟩⟩) dX12_word_64
    · refine lv_aload_n hx hb dX12_word_26 rfl (lv_at hl 1 rfl) ?_
      refine lv_iconst (v := 4) hx hb dX12_word_27 (by decide) ?_
      refine hp_callMi (va_runV (As := [.int 4]) (rest := []) ⟨hx, hb, hml, hown, hts⟩ (c_X12_fails l D cy _ cs ad en_1820 (hI.1 _ (by decide)) 0 hi wd mo tb dp many grt lst nou rm rb pr wo 4 es1816_1820) (kw_X12_fails hts tw_997 ⟨by decide, by decide⟩) (preV_of hh hK (hI.1 _ (by decide)) es1816_1820 rfl) rfl rfl hl.1 rfl (lv_room (Nat.le_of_ble_eq_true rfl)) dX12_word_28 ⟨Nat.le_of_ble_eq_true rfl, Nat.le_of_ble_eq_true rfl⟩) hh hA (fun r_1848 H locs en_1848 hw_1848 hh => ?_)
      obtain ⟨hr_1848, hen_1848⟩ := hw_1848
      have es1817_1848 : en_1848 4 = .inl (cy 0, 4, .inl f_1817) := by rw [hen_1848, va_up_ne _ _ (by decide)]; exact es1817_1820
      have es1818_1848 : en_1848 5 = .inl (cy 0, 160, .inl f_1818) := by rw [hen_1848, va_up_ne _ _ (by decide)]; exact es1818_1820
      have es1819_1848 : en_1848 19 = .inl (cy 0, 10, .inl f_1819) := by rw [hen_1848, va_up_ne _ _ (by decide)]; exact es1819_1820
      have es1816_1848 : en_1848 0 = .inr (11, [.int 4, .int hi, .int (nI wd), .int (nI mo), .int (nI tb), .ref (ad 1), .ref (ad 2), .ref (ad 3), .ref (ad 4), .ref (ad 5), .ref (ad 6), .ref (ad 7), .ref (ad 8), .ref (ad 9), .int dp, .long many, .long grt, .long lst, .long nou, .ref (ad 10), .ref (ad 11), .ref (ad 12), .int rm, .long rb, .ref (ad 13), .int pr, .ref (ad 14), .ref (ad 15), .ref (ad 16), .ref (ad 17), .int (nI wo), .ref (ad 18), .ref (ad 19)]) := by rw [hen_1848]; exact va_up_self _ _ _
      have hI_1848 : RX cy cs ad en_1848 := by rw [hen_1848]; exact upr_M hI_1820 ⟨4, hi, wd, mo, tb, dp, many, grt, lst, nou, rm, rb, pr, wo, rfl, hwd2, hwd3, hmo, htb, hwo⟩
      have hf_1848 : ∀ c, (c ≠ 0 ∧ c ≠ 18 ∧ c ≠ 19) → en_1848 c = en c := fun c hc => Eq.trans (show en_1848 c = en_1820 c from by rw [hen_1848, va_up_ne _ _ (by omega)]) (hf_1820 c hc)
      have hkc18_1848 : en_1848 18 = en 18 := (show en_1848 18 = en_1820 18 from by rw [hen_1848, va_up_ne _ _ (by decide)]).trans hkc18_1820
      have hkc19_1848 : en_1848 19 = en 19 := (show en_1848 19 = en_1820 19 from by rw [hen_1848, va_up_ne _ _ (by decide)]).trans hkc19_1820
      have hkp_1848 : KP en en_1848 := KP_fv hkp_1820 es1816_1820 es1816_1848 hi (nI wd) (nI mo) (nI tb) pr (nI wo) rfl rfl rfl rfl rfl rfl rfl rfl rfl rfl rfl rfl
      obtain rfl : r_1848 = (-14) := hr_1848.trans (by decide)
      have h09 : (0 : Int32).toInt = 0 := by decide
      exact hp_iretM hx hb hr rfl hlocks hh (⟨hI_1848, hf_1848, RWX_keep hRW hkp_1848.2.2.2.2.2 hkc19_1848, KPw_of hkp_1848, Or.inl ⟨fun q => by have h9 := i_nle c_1822; have h8 := q.2.1; omega, hkp_1848.2.2.2.2.2, hkc18_1848, hkc19_1848⟩⟩) dX12_word_31
  · have hI_1821a := hI_1821
    have hf_1821 : ∀ c, (c ≠ 0 ∧ c ≠ 18 ∧ c ≠ 19) → en_1821 c = en c := fun c hc => (hu_1821 c (by omega)).trans (hf_1820 c hc)
    have hkp_1821 : KP en en_1821 := KP_tr hkp_1820 hkq_1821
    have hkc18_1821 : en_1821 18 = en 18 := (hu_1821 18 (by omega)).trans hkc18_1820
    have hkc19_1821 : en_1821 19 = en 19 := (hu_1821 19 (by omega)).trans hkc19_1820
    refine lv_istore (lv' := [(5, .int r_1821), (0, .ref (ad 0)), (1, .int k9), (2, .int la9), (3, .int i9), (4, .int n9)]) hx hb dX12_word_11 hl (by decide) rfl (fun ls hl => ?_)
    refine lv_iload hx hb dX12_word_13 (lv_at hl 0 rfl) ?_
    refine lv_if_eq (tgt := 21) hx hb dX12_word_15 (by decide) (fun c_0 => absurd c_0 (hz_1821)) (fun _ => ?_)
    refine lv_iload hx hb dX12_word_18 (lv_at hl 0 rfl) ?_
    have hag9 : r_1821 = agF (rdF (en 3) k9.toNatClampNeg) k9 la9 := by rw [hr_1821, show en_1820 3 = en 3 from hf_1820 3 (by omega)]
    exact hp_iretM hx hb hr rfl hlocks hh (⟨hI_1821, hf_1821, RWX_keep hRW hkp_1821.2.2.2.2.2 hkc19_1821, KPw_of hkp_1821, Or.inl ⟨fun q => hz_1821 (hag9.trans q.1), hkp_1821.2.2.2.2.2, hkc18_1821, hkc19_1821⟩⟩) dX12_word_20
theorem kw_X12_word {R : Room} {s : State} {args : Array Value} {own : String} {idx : Nat} (hts : ∀ w ∈ TB, w.before args s = true) (hl : Cond.methodLink own idx yX12_word ∈ TB) (hR : 2 + 1 ≤ R.frames ∧ 8 + (7 + 11) + 40 * 2 ≤ R.locals) : CallW R s args own RX12 idx yX12_word cX12_word 7 (some .int) (Cond.code yX12_word cX12_word 7 (some .int) :: TB) (rmN 2) 0 0 4 := cwV 4 hts (TB_V hl tw_1167 tw_1168 tw_9 tw_1169) rfl rfl rfl (by decide +kernel) hR
set_option maxHeartbeats 4000000 in
set_option maxRecDepth 100000 in
/-- X12_join -/
theorem c_X12_join (l : Launch) (D : va_G) (cy : Nat → ClassId) (sz : Nat) (cs : List Nat) (ad : Nat → Nat) (en : Nat → va_E) (hI : RX cy cs ad en) (a9 b9 : Int32) (hRW : RWX en)   : Met l yX12_join (Cond.code yX12_join cX12_join 4 (some .int) :: TB) (rmN 1) (va_Pc [.ref (ad 0), .int a9, .int b9] (Pre D cy cs ad en sz)) (va_Qi (S := Nat → va_E) (fun r en1 => RX cy cs ad en1 ∧ (∀ c, (c ≠ 0 ∧ c ≠ 18 ∧ c ≠ 19) → en1 c = en c) ∧ RWX en1 ∧ KPw en en1 ∧ RJO a9 b9 r en en1) (PostM D cs ad) (Af cs ad sz)) 0 0 (Af cs ad sz) := by
  refine Met.ofW (cc := cX12_join) (maxL := 4) (ret := (some .int)) (by decide) rfl ?_
  intro p e s m args below meth c s₁ B hml hv
  obtain ⟨rfl, hsz, hP, hK, hD0⟩ := hv
  have hx := B.exec
  have hb := B.bytes
  have hr := B.returns
  have hts : ∀ w ∈ TB, w.before _ s = true := fun w h => atoms_spec (ws := _ :: TB) B.pre w (List.mem_cons_of_mem _ h)
  have hown : s.vm.findClass RX12 = some m.cls := findClass_of_methodNamed B.named
  have hlocks := B.notSynchronized
  have hh : Hp D (Af cs ad sz) (Af cs ad sz) s.heap s.heap [] cs ad en := ⟨hP, Af_self hD0, va_S.rf⟩
  have hA : ∀ q : Nat, s.heap.size ≤ q → Af cs ad sz q := fun q h => Or.inr (by rw [hsz] at h; exact h)
  have hl := lv_entry ([.ref (ad 0), .int a9, .int b9]) (n := 4) (Nat.le_of_ble_eq_true rfl)
  rw [lg_entry_eq]
  generalize (lg_sl ([.ref (ad 0), .int a9, .int b9]) ++ List.replicate (4 - (lg_sl ([.ref (ad 0), .int a9, .int b9])).length) Slot.unset).toArray = ls at hl ⊢
  have hl : lv_has ls 4 [(0, .ref (ad 0)), (1, .int a9), (2, .int b9)] := hl
  have hf0 : ∀ c, (c ≠ 0 ∧ c ≠ 18 ∧ c ≠ 19) → en c = en c := fun _ _ => rfl
  obtain ⟨fa, hi, wd, mo, tb, dp, many, grt, lst, nou, rm, rb, pr, wo, es1849, hwd2, hwd3, hmo, htb, hwo⟩ := getr_M hI
  obtain ⟨f_1850, es1850, p0_1850⟩ := getr_wl hI
  refine lv_aload_n hx hb dX12_join_0 rfl (lv_at hl 0 rfl) ?_
  refine lv_iload_n hx hb dX12_join_1 rfl (lv_at hl 1 rfl) ?_
  refine hp_callRi (va_runV (As := [.int a9]) (rest := []) ⟨hx, hb, hml, hown, hts⟩ (c_X12_isWord l D cy _ cs ad en hI a9 ) (kw_X12_isWord hts tw_1175 ⟨by decide, by decide⟩) (preV_of hh hK (hI.1 _ (by decide)) es1849 rfl) rfl rfl hl.1 rfl (lv_room (Nat.le_of_ble_eq_true rfl)) dX12_join_2 ⟨Nat.le_of_ble_eq_true rfl, Nat.le_of_ble_eq_true rfl⟩) hh hA (fun r_1851 H locs hw_1851 hh => ?_)
  rw [show rdI (en 0) 30 = (nI wo) from by rw [es1849]; rfl, nI_toInt (n := wo) (by omega)] at hw_1851
  rcases Decidable.em (0 ≤ a9.toInt ∧ a9.toInt < (wo : Int)) with hp_1851 | hp_1851
  · obtain rfl : r_1851 = 1 := Eq.trans hw_1851 (if_pos hp_1851)
    obtain ⟨T_1851, rfl, hT_1851⟩ := has_nat hp_1851
    refine lv_if_eq (tgt := 16) hx hb dX12_join_5 (by decide) (fun c_0 => absurd c_0 (by decide)) (fun _ => ?_)
    refine lv_aload_n hx hb dX12_join_8 rfl (lv_at hl 0 rfl) ?_
    refine lv_iload_n hx hb dX12_join_9 rfl (lv_at hl 2 rfl) ?_
    refine hp_callRi (va_runV (As := [.int b9]) (rest := []) ⟨hx, hb, hml, hown, hts⟩ (c_X12_isWord l D cy _ cs ad en hI b9 ) (kw_X12_isWord hts tw_1175 ⟨by decide, by decide⟩) (preV_of hh hK (hI.1 _ (by decide)) es1849 rfl) rfl rfl hl.1 rfl (lv_room (Nat.le_of_ble_eq_true rfl)) dX12_join_10 ⟨Nat.le_of_ble_eq_true rfl, Nat.le_of_ble_eq_true rfl⟩) hh hA (fun r_1852 H locs hw_1852 hh => ?_)
    rw [show rdI (en 0) 30 = (nI wo) from by rw [es1849]; rfl, nI_toInt (n := wo) (by omega)] at hw_1852
    rcases Decidable.em (0 ≤ b9.toInt ∧ b9.toInt < (wo : Int)) with hp_1852 | hp_1852
    · obtain rfl : r_1852 = 1 := Eq.trans hw_1852 (if_pos hp_1852)
      obtain ⟨T_1852, rfl, hT_1852⟩ := has_nat hp_1852
      refine lv_if_ne (tgt := 18) hx hb dX12_join_13 (by decide) (fun _ => ?_) (fun c_0 => absurd c_0 (by decide))
      refine lv_aload_n hx hb dX12_join_18 rfl (lv_at hl 0 rfl) ?_
      refine hp_get hx hb hts ix12 hown hK hh (q := 0) rfl (hI.1 _ (by decide)) es1849 rfl 32 (by decide) (hts _ tw_911) (fun _ h9 => h9) rfl dX12_join_19 ?_
      refine lv_iload_n hx hb dX12_join_22 rfl (lv_at hl 1 rfl) ?_
      refine hp_iald hx hb hK hh (q := 19) rfl (hI.1 _ (by decide)) es1850 (vp_in_nI (n := T_1851) (by omega) (by decide)) dX12_join_23 ?_
      rw [nI_clamp (n := T_1851) (by omega)]
      obtain ⟨v_1853, hv_1853, hfv_1853⟩ := p0_1850 T_1851 (by omega)
      rw [hfv_1853]
      refine lv_aload_n hx hb dX12_join_24 rfl (lv_at hl 0 rfl) ?_
      refine hp_get hx hb hts ix12 hown hK hh (q := 0) rfl (hI.1 _ (by decide)) es1849 rfl 32 (by decide) (hts _ tw_911) (fun _ h9 => h9) rfl dX12_join_25 ?_
      refine lv_iload_n hx hb dX12_join_28 rfl (lv_at hl 2 rfl) ?_
      refine hp_iald hx hb hK hh (q := 19) rfl (hI.1 _ (by decide)) es1850 (vp_in_nI (n := T_1852) (by omega) (by decide)) dX12_join_29 ?_
      rw [nI_clamp (n := T_1852) (by omega)]
      obtain ⟨v_1854, hv_1854, hfv_1854⟩ := p0_1850 T_1852 (by omega)
      rw [hfv_1854]
      refine lv_iadd hx hb dX12_join_30 ?_
      rw [nI_add v_1853 v_1854]
      refine lv_bipush (v := 12) hx hb dX12_join_31 (by decide) ?_
      refine lv_icmp_le (tgt := 39) hx hb dX12_join_33 (by decide) (fun c_1855 => ?_) (fun c_1855 => ?_)
      · have n_1855 : (v_1853 + v_1854) ≤ 12 := n_le (a := (v_1853 + v_1854)) (b := 12) c_1855 (by omega) (by decide)
        refine lv_aload_n hx hb dX12_join_39 rfl (lv_at hl 0 rfl) ?_
        refine hp_get hx hb hts ix12 hown hK hh (q := 0) rfl (hI.1 _ (by decide)) es1849 rfl 30 (by decide) (hts _ tw_909) (fun _ h9 => h9) rfl dX12_join_40 ?_
        refine lv_bipush (v := 10) hx hb dX12_join_43 (by decide) ?_
        refine lv_icmp_ne (tgt := 51) hx hb dX12_join_45 (by decide) (fun c_1856 => ?_) (fun c_1856 => ?_)
        · have n_1856 : wo ≠ 10 := n_neq (a := wo) (b := 10) c_1856 (by omega) (by decide)
          have hwo9 : wo < 10 := by omega
          have hln_1853 : 1 ≤ v_1853 := RWX_1 hRW (show rdI (en 0) 30 = nI wo from by rw [es1849]; rfl) hwo (w := T_1851) (by omega) (show rdF (en 19) = f_1850 from by rw [es1850]; rfl) hfv_1853 (by omega)
          have hln_1854 : 1 ≤ v_1854 := RWX_1 hRW (show rdI (en 0) 30 = nI wo from by rw [es1849]; rfl) hwo (w := T_1852) (by omega) (show rdF (en 19) = f_1850 from by rw [es1850]; rfl) hfv_1854 (by omega)
          refine lv_iconst (v := 0) hx hb dX12_join_51 (by decide) ?_
          refine lv_istore_n (lv' := [(3, .int 0), (0, .ref (ad 0)), (1, .int (nI T_1851)), (2, .int (nI T_1852))]) hx hb dX12_join_52 rfl hl (by decide) rfl (fun ls hl => ?_)
          have loop_1857 : ∀ (fu j1857 : Nat)  (en_1857 : Nat → va_E) (ls : Array Slot) (H : Heap) (locs : List Loc), 0 ≤ j1857 → j1857 ≤ v_1853 → v_1853 < j1857 + fu → RX cy cs ad en_1857 → (∀ c, (c ≠ 0 ∧ c ≠ 18 ∧ c ≠ 19) → en_1857 c = en c) → (∀ x, rdF (en_1857 18) x = if 12 * wo ≤ x ∧ x < 12 * wo + j1857 then jRG en T_1851 T_1852 v_1853 (x - 12 * wo) else rdF (en 18) x) → (KP en en_1857) → (en_1857 19 = en 19) → lv_has ls 4 [(3, .int (nI j1857)), (0, .ref (ad 0)), (1, .int (nI T_1851)), (2, .int (nI T_1852))] → Hp D (Af cs ad sz) (Af cs ad sz) s.heap H locs cs ad en_1857 → W p l e (headSpec (Cond.code yX12_join cX12_join 4 (some .int) :: TB) (rmN 1)).room s m ([.ref (ad 0), .int (nI T_1851), .int (nI T_1852)] : List Value).toArray below meth c H locs 0 0 (MQ below (va_Qi (S := Nat → va_E) (fun r en1 => RX cy cs ad en1 ∧ (∀ c, (c ≠ 0 ∧ c ≠ 18 ∧ c ≠ 19) → en1 c = en c) ∧ RWX en1 ∧ KPw en en1 ∧ RJO (nI T_1851) (nI T_1852) r en en1) (PostM D cs ad) (Af cs ad sz)) ([.ref (ad 0), .int (nI T_1851), .int (nI T_1852)] : List Value).toArray s 0 0 (Af cs ad sz)) (F0 m 53 ls []) := by
            intro fu
            induction fu with
            | zero => intro j1857  en_1857 ls H locs h0 h1 h2; exact absurd h2 (by omega)
            | succ fu ih_1857 =>
              intro j1857  en_1857 ls H locs hj0_1857 hj_1857 hfu_1857 hI_1857 hf_1857 i0_1857 i1_1857 i2_1857 hl hh
              refine lv_iload_n hx hb dX12_join_53 rfl (lv_at hl 0 rfl) ?_
              refine lv_aload_n hx hb dX12_join_54 rfl (lv_at hl 1 rfl) ?_
              obtain ⟨fa_1858, hi_1858, wd_1858, mo_1858, tb_1858, dp_1858, many_1858, grt_1858, lst_1858, nou_1858, rm_1858, rb_1858, pr_1858, wo_1858, es1858, p0_1858, p1_1858, p2_1858, p3_1858, p4_1858⟩ := getr_M hI_1857
              have hq2_1859 : wd_1858 = wd := n_eq ((show nI wd_1858 = rdI (en_1857 0) 2 from by rw [es1858]; rfl).trans (i1_1857.2.1.trans (show rdI (en 0) 2 = nI wd from by rw [es1849]; rfl))) (by omega) (by omega)
              have hq3_1859 : mo_1858 = mo := n_eq ((show nI mo_1858 = rdI (en_1857 0) 3 from by rw [es1858]; rfl).trans (i1_1857.2.2.1.trans (show rdI (en 0) 3 = nI mo from by rw [es1849]; rfl))) (by omega) (by omega)
              have hq4_1859 : tb_1858 = tb := n_eq ((show nI tb_1858 = rdI (en_1857 0) 4 from by rw [es1858]; rfl).trans (i1_1857.2.2.2.1.trans (show rdI (en 0) 4 = nI tb from by rw [es1849]; rfl))) (by omega) (by omega)
              have hq30_1859 : wo_1858 = wo := n_eq ((show nI wo_1858 = rdI (en_1857 0) 30 from by rw [es1858]; rfl).trans (i1_1857.2.2.2.2.2.trans (show rdI (en 0) 30 = nI wo from by rw [es1849]; rfl))) (by omega) (by omega)
              rw [hq2_1859, hq3_1859, hq4_1859, hq30_1859] at es1858
              refine hp_get hx hb hts ix12 hown hK hh (q := 0) rfl (hI.1 _ (by decide)) es1858 rfl 32 (by decide) (hts _ tw_911) (fun _ h9 => h9) rfl dX12_join_55 ?_
              refine lv_iload_n hx hb dX12_join_58 rfl (lv_at hl 2 rfl) ?_
              have es1850_1860 : en_1857 19 = .inl (cy 0, 10, .inl f_1850) := i2_1857.trans es1850
              refine hp_iald hx hb hK hh (q := 19) rfl (hI.1 _ (by decide)) es1850_1860 (vp_in_nI (n := T_1851) (by omega) (by decide)) dX12_join_59 ?_
              rw [nI_clamp (n := T_1851) (by omega)]
              rw [hfv_1853]
              refine lv_icmp_ge (tgt := 94) hx hb dX12_join_60 (by decide) (fun c_1861 => ?_) (fun c_1861 => ?_)
              · have n_1861 : v_1853 ≤ j1857 := n_le (a := v_1853) (b := j1857) c_1861 (by omega) (by omega)
                refine lv_iconst (v := 0) hx hb dX12_join_94 (by decide) ?_
                refine lv_istore_n (lv' := [(3, .int 0), (0, .ref (ad 0)), (1, .int (nI T_1851)), (2, .int (nI T_1852))]) hx hb dX12_join_95 rfl hl (by decide) rfl (fun ls hl => ?_)
                have loop_1862 : ∀ (fu j1862 : Nat)  (en_1862 : Nat → va_E) (ls : Array Slot) (H : Heap) (locs : List Loc), 0 ≤ j1862 → j1862 ≤ v_1854 → v_1854 < j1862 + fu → RX cy cs ad en_1862 → (∀ c, (c ≠ 0 ∧ c ≠ 18 ∧ c ≠ 19) → en_1862 c = en c) → (∀ x, rdF (en_1862 18) x = if 12 * wo ≤ x ∧ x < 12 * wo + (v_1853 + j1862) then jRG en T_1851 T_1852 v_1853 (x - 12 * wo) else rdF (en 18) x) → (KP en en_1862) → (en_1862 19 = en 19) → lv_has ls 4 [(3, .int (nI j1862)), (0, .ref (ad 0)), (1, .int (nI T_1851)), (2, .int (nI T_1852))] → Hp D (Af cs ad sz) (Af cs ad sz) s.heap H locs cs ad en_1862 → W p l e (headSpec (Cond.code yX12_join cX12_join 4 (some .int) :: TB) (rmN 1)).room s m ([.ref (ad 0), .int (nI T_1851), .int (nI T_1852)] : List Value).toArray below meth c H locs 0 0 (MQ below (va_Qi (S := Nat → va_E) (fun r en1 => RX cy cs ad en1 ∧ (∀ c, (c ≠ 0 ∧ c ≠ 18 ∧ c ≠ 19) → en1 c = en c) ∧ RWX en1 ∧ KPw en en1 ∧ RJO (nI T_1851) (nI T_1852) r en en1) (PostM D cs ad) (Af cs ad sz)) ([.ref (ad 0), .int (nI T_1851), .int (nI T_1852)] : List Value).toArray s 0 0 (Af cs ad sz)) (F0 m 96 ls []) := by
                  intro fu
                  induction fu with
                  | zero => intro j1862  en_1862 ls H locs h0 h1 h2; exact absurd h2 (by omega)
                  | succ fu ih_1862 =>
                    intro j1862  en_1862 ls H locs hj0_1862 hj_1862 hfu_1862 hI_1862 hf_1862 i0_1862 i1_1862 i2_1862 hl hh
                    refine lv_iload_n hx hb dX12_join_96 rfl (lv_at hl 0 rfl) ?_
                    refine lv_aload_n hx hb dX12_join_97 rfl (lv_at hl 1 rfl) ?_
                    obtain ⟨fa_1863, hi_1863, wd_1863, mo_1863, tb_1863, dp_1863, many_1863, grt_1863, lst_1863, nou_1863, rm_1863, rb_1863, pr_1863, wo_1863, es1863, p0_1863, p1_1863, p2_1863, p3_1863, p4_1863⟩ := getr_M hI_1862
                    have hq2_1864 : wd_1863 = wd := n_eq ((show nI wd_1863 = rdI (en_1862 0) 2 from by rw [es1863]; rfl).trans (i1_1862.2.1.trans (show rdI (en 0) 2 = nI wd from by rw [es1849]; rfl))) (by omega) (by omega)
                    have hq3_1864 : mo_1863 = mo := n_eq ((show nI mo_1863 = rdI (en_1862 0) 3 from by rw [es1863]; rfl).trans (i1_1862.2.2.1.trans (show rdI (en 0) 3 = nI mo from by rw [es1849]; rfl))) (by omega) (by omega)
                    have hq4_1864 : tb_1863 = tb := n_eq ((show nI tb_1863 = rdI (en_1862 0) 4 from by rw [es1863]; rfl).trans (i1_1862.2.2.2.1.trans (show rdI (en 0) 4 = nI tb from by rw [es1849]; rfl))) (by omega) (by omega)
                    have hq30_1864 : wo_1863 = wo := n_eq ((show nI wo_1863 = rdI (en_1862 0) 30 from by rw [es1863]; rfl).trans (i1_1862.2.2.2.2.2.trans (show rdI (en 0) 30 = nI wo from by rw [es1849]; rfl))) (by omega) (by omega)
                    rw [hq2_1864, hq3_1864, hq4_1864, hq30_1864] at es1863
                    refine hp_get hx hb hts ix12 hown hK hh (q := 0) rfl (hI.1 _ (by decide)) es1863 rfl 32 (by decide) (hts _ tw_911) (fun _ h9 => h9) rfl dX12_join_98 ?_
                    refine lv_iload_n hx hb dX12_join_101 rfl (lv_at hl 3 rfl) ?_
                    have es1850_1865 : en_1862 19 = .inl (cy 0, 10, .inl f_1850) := i2_1862.trans es1850
                    refine hp_iald hx hb hK hh (q := 19) rfl (hI.1 _ (by decide)) es1850_1865 (vp_in_nI (n := T_1852) (by omega) (by decide)) dX12_join_102 ?_
                    rw [nI_clamp (n := T_1852) (by omega)]
                    rw [hfv_1854]
                    refine lv_icmp_ge (tgt := 144) hx hb dX12_join_103 (by decide) (fun c_1866 => ?_) (fun c_1866 => ?_)
                    · have n_1866 : v_1854 ≤ j1862 := n_le (a := v_1854) (b := j1862) c_1866 (by omega) (by omega)
                      refine lv_aload_n hx hb dX12_join_144 rfl (lv_at hl 1 rfl) ?_
                      refine hp_get hx hb hts ix12 hown hK hh (q := 0) rfl (hI.1 _ (by decide)) es1863 rfl 32 (by decide) (hts _ tw_911) (fun _ h9 => h9) rfl dX12_join_145 ?_
                      refine lv_aload_n hx hb dX12_join_148 rfl (lv_at hl 1 rfl) ?_
                      refine hp_get hx hb hts ix12 hown hK hh (q := 0) rfl (hI.1 _ (by decide)) es1863 rfl 30 (by decide) (hts _ tw_909) (fun _ h9 => h9) rfl dX12_join_149 ?_
                      refine lv_aload_n hx hb dX12_join_152 rfl (lv_at hl 1 rfl) ?_
                      refine hp_get hx hb hts ix12 hown hK hh (q := 0) rfl (hI.1 _ (by decide)) es1863 rfl 32 (by decide) (hts _ tw_911) (fun _ h9 => h9) rfl dX12_join_153 ?_
                      refine lv_iload_n hx hb dX12_join_156 rfl (lv_at hl 2 rfl) ?_
                      refine hp_iald hx hb hK hh (q := 19) rfl (hI.1 _ (by decide)) es1850_1865 (vp_in_nI (n := T_1851) (by omega) (by decide)) dX12_join_157 ?_
                      rw [nI_clamp (n := T_1851) (by omega)]
                      rw [hfv_1853]
                      refine lv_aload_n hx hb dX12_join_158 rfl (lv_at hl 1 rfl) ?_
                      refine hp_get hx hb hts ix12 hown hK hh (q := 0) rfl (hI.1 _ (by decide)) es1863 rfl 32 (by decide) (hts _ tw_911) (fun _ h9 => h9) rfl dX12_join_159 ?_
                      refine lv_iload_n hx hb dX12_join_162 rfl (lv_at hl 3 rfl) ?_
                      refine hp_iald hx hb hK hh (q := 19) rfl (hI.1 _ (by decide)) es1850_1865 (vp_in_nI (n := T_1852) (by omega) (by decide)) dX12_join_163 ?_
                      rw [nI_clamp (n := T_1852) (by omega)]
                      rw [hfv_1854]
                      refine lv_iadd hx hb dX12_join_164 ?_
                      rw [nI_add v_1853 v_1854]
                      refine hp_iast hx hb hK hh (q := 19) rfl (hI.1 _ (by decide)) es1850_1865 (vp_in_nI (n := wo) (by omega) (by decide)) dX12_join_165 (fun H locs en_1867 hen_1867 hh => ?_)
                      rw [nI_clamp (n := wo) (by omega)] at hen_1867
                      have es1863_1867 : en_1867 0 = .inr (11, [.int fa_1863, .int hi_1863, .int (nI wd), .int (nI mo), .int (nI tb), .ref (ad 1), .ref (ad 2), .ref (ad 3), .ref (ad 4), .ref (ad 5), .ref (ad 6), .ref (ad 7), .ref (ad 8), .ref (ad 9), .int dp_1863, .long many_1863, .long grt_1863, .long lst_1863, .long nou_1863, .ref (ad 10), .ref (ad 11), .ref (ad 12), .int rm_1863, .long rb_1863, .ref (ad 13), .int pr_1863, .ref (ad 14), .ref (ad 15), .ref (ad 16), .ref (ad 17), .int (nI wo), .ref (ad 18), .ref (ad 19)]) := by rw [hen_1867, va_up_ne _ _ (by decide)]; exact es1863
                      have es1850_1867 : en_1867 19 = .inl (cy 0, 10, .inl (upd f_1850 wo (nI (v_1853 + v_1854)))) := by rw [hen_1867]; exact va_up_self _ _ _
                      have hI_1867 : RX cy cs ad en_1867 := by rw [hen_1867]; exact upr_wl hI_1862 ⟨(upd f_1850 wo (nI (v_1853 + v_1854))), rfl, (vals_updB p0_1850 (by omega))⟩
                      have hf_1867 : ∀ c, (c ≠ 0 ∧ c ≠ 18 ∧ c ≠ 19) → en_1867 c = en c := fun c hc => Eq.trans (show en_1867 c = en_1862 c from by rw [hen_1867, va_up_ne _ _ (by omega)]) (hf_1862 c hc)
                      have hkp_1867 : KP en en_1867 := KP_same i1_1862 (show en_1867 0 = en_1862 0 from by rw [hen_1867, va_up_ne _ _ (by decide)])
                      refine lv_aload_n hx hb dX12_join_166 rfl (lv_at hl 1 rfl) ?_
                      refine lv_dup hx hb dX12_join_167 rfl ?_
                      refine hp_get hx hb hts ix12 hown hK hh (q := 0) rfl (hI.1 _ (by decide)) es1863_1867 rfl 30 (by decide) (hts _ tw_909) (fun _ h9 => h9) rfl dX12_join_168 ?_
                      refine lv_iconst (v := 1) hx hb dX12_join_171 (by decide) ?_
                      refine lv_iadd hx hb dX12_join_172 ?_
                      rw [show (1 : Int32) = nI 1 from rfl, nI_add wo 1]
                      refine hp_put hx hb hts ix12 tyX12 tyX12_ok nmX12 hown hK hh (q := 0) rfl (hI.1 _ (by decide)) es1863_1867 rfl 30 (by decide) (hts _ tw_909) (fun _ h9 => h9) rfl (ty := .int) (by decide +kernel) rfl rfl (Nat.le_of_ble_eq_true rfl) dX12_join_173 (fun H locs en_1868 hen_1868 hh => ?_)
                      have es1850_1868 : en_1868 19 = .inl (cy 0, 10, .inl (upd f_1850 wo (nI (v_1853 + v_1854)))) := by rw [hen_1868, va_up_ne _ _ (by decide)]; exact es1850_1867
                      have es1863_1868 : en_1868 0 = .inr (11, [.int fa_1863, .int hi_1863, .int (nI wd), .int (nI mo), .int (nI tb), .ref (ad 1), .ref (ad 2), .ref (ad 3), .ref (ad 4), .ref (ad 5), .ref (ad 6), .ref (ad 7), .ref (ad 8), .ref (ad 9), .int dp_1863, .long many_1863, .long grt_1863, .long lst_1863, .long nou_1863, .ref (ad 10), .ref (ad 11), .ref (ad 12), .int rm_1863, .long rb_1863, .ref (ad 13), .int pr_1863, .ref (ad 14), .ref (ad 15), .ref (ad 16), .ref (ad 17), .int (nI (wo + 1)), .ref (ad 18), .ref (ad 19)]) := by rw [hen_1868]; exact va_up_self _ _ _
                      have hI_1868 : RX cy cs ad en_1868 := by rw [hen_1868]; exact upr_M hI_1867 ⟨fa_1863, hi_1863, wd, mo, tb, dp_1863, many_1863, grt_1863, lst_1863, nou_1863, rm_1863, rb_1863, pr_1863, (wo + 1), rfl, hwd2, hwd3, hmo, htb, (by omega)⟩
                      have hf_1868 : ∀ c, (c ≠ 0 ∧ c ≠ 18 ∧ c ≠ 19) → en_1868 c = en c := fun c hc => Eq.trans (show en_1868 c = en_1867 c from by rw [hen_1868, va_up_ne _ _ (by omega)]) (hf_1867 c hc)
                      refine lv_aload_n hx hb dX12_join_176 rfl (lv_at hl 1 rfl) ?_
                      refine hp_get hx hb hts ix12 hown hK hh (q := 0) rfl (hI.1 _ (by decide)) es1863_1868 rfl 30 (by decide) (hts _ tw_909) (fun _ h9 => h9) rfl dX12_join_177 ?_
                      refine lv_iconst (v := 1) hx hb dX12_join_180 (by decide) ?_
                      refine lv_isub hx hb dX12_join_181 ?_
                      rw [show (1 : Int32) = nI 1 from rfl, pk_sub (a := (wo + 1)) (b := 1) (by omega)]
                      have he30 : rdI (en 0) 30 = nI wo := by rw [es1849]; rfl
                      have hc30 : (rdI (en 0) 30).toInt = (wo : Int) := by rw [he30]; exact nI_toInt (by omega)
                      have hqa : hasQ (nI T_1851) (rdI (en 0) 30) := ⟨by rw [nI_toInt (n := T_1851) (by omega)]; omega, by rw [nI_toInt (n := T_1851) (by omega), hc30]; omega⟩
                      have hla : rdF (en 19) (nI T_1851).toNatClampNeg = nI v_1853 := by rw [nI_clamp (n := T_1851) (by omega), show rdF (en 19) = f_1850 from by rw [es1850]; rfl]; exact hfv_1853
                      have hqb : hasQ (nI T_1852) (rdI (en 0) 30) := ⟨by rw [nI_toInt (n := T_1852) (by omega)]; omega, by rw [nI_toInt (n := T_1852) (by omega), hc30]; omega⟩
                      have hlb : rdF (en 19) (nI T_1852).toNatClampNeg = nI v_1854 := by rw [nI_clamp (n := T_1852) (by omega), show rdF (en 19) = f_1850 from by rw [es1850]; rfl]; exact hfv_1854
                      have hs9 : (nI v_1853).toInt + (nI v_1854).toInt = ((v_1853 + v_1854 : Nat) : Int) := by rw [nI_toInt (n := v_1853) (by omega), nI_toInt (n := v_1854) (by omega)]; omega
                      have hok : jOK (rdI (en 0) 30) (nI v_1853) (nI v_1854) (nI T_1851) (nI T_1852) := ⟨hqa, hqb, by omega, by omega⟩
                      exact hp_iretM hx hb hr rfl hlocks hh (⟨hI_1868, hf_1868, RWX_add hRW (wo := wo) hwo9 (show rdI (en 0) 30 = nI wo from by rw [es1849]; rfl) (show rdI (en_1868 0) 30 = nI (wo + 1) from by rw [es1863_1868]; rfl) (N := (v_1853 + v_1854)) (by omega) (by omega) (show rdF (en_1868 19) = upd (rdF (en 19)) wo (nI (v_1853 + v_1854)) from by rw [es1850_1868, es1850]; rfl), KPw_fv (KPw_of hkp_1867) es1863_1867 es1863_1868 hi_1863 (nI wd) (nI mo) (nI tb) pr_1863 rfl rfl rfl rfl rfl rfl rfl rfl rfl rfl, (by unfold RJO; rw [hla, hlb]; refine ⟨Or.inr (Or.inr (Or.inr ⟨hok, by rw [he30]; exact congrArg nI (by omega)⟩)), Or.inr ⟨hok, ?_⟩⟩; rw [nI_clamp (n := v_1853) (by omega), nI_clamp (n := v_1854) (by omega), nI_clamp (n := T_1851) (by omega), nI_clamp (n := T_1852) (by omega)]; exact ⟨wo, congrArg nI (by omega), he30, hwo9, by omega, by omega, (by rw [es1863_1868]; rfl), (by rw [es1850_1868, es1850]; rfl), fun x => by rw [show en_1868 18 = en_1862 18 from by rw [hen_1868, va_up_ne _ _ (by decide), hen_1867, va_up_ne _ _ (by decide)]]; have e9 : j1862 = v_1854 := (by omega); have h9 := i0_1862 x; rw [e9] at h9; exact h9⟩)⟩) dX12_join_182
                    · have n_1866 : j1862 < v_1854 := n_nle (a := v_1854) (b := j1862) c_1866 (by omega) (by omega)
                      refine lv_aload_n hx hb dX12_join_106 rfl (lv_at hl 1 rfl) ?_
                      refine hp_get hx hb hts ix12 hown hK hh (q := 0) rfl (hI.1 _ (by decide)) es1863 rfl 31 (by decide) (hts _ tw_910) (fun _ h9 => h9) rfl dX12_join_107 ?_
                      refine lv_bipush (v := 12) hx hb dX12_join_110 (by decide) ?_
                      refine lv_aload_n hx hb dX12_join_112 rfl (lv_at hl 1 rfl) ?_
                      refine hp_get hx hb hts ix12 hown hK hh (q := 0) rfl (hI.1 _ (by decide)) es1863 rfl 30 (by decide) (hts _ tw_909) (fun _ h9 => h9) rfl dX12_join_113 ?_
                      refine lv_imul hx hb dX12_join_116 ?_
                      rw [show (12 : Int32) = nI 12 from rfl, pk_mul 12 wo]
                      refine lv_aload_n hx hb dX12_join_117 rfl (lv_at hl 1 rfl) ?_
                      refine hp_get hx hb hts ix12 hown hK hh (q := 0) rfl (hI.1 _ (by decide)) es1863 rfl 32 (by decide) (hts _ tw_911) (fun _ h9 => h9) rfl dX12_join_118 ?_
                      refine lv_iload_n hx hb dX12_join_121 rfl (lv_at hl 2 rfl) ?_
                      refine hp_iald hx hb hK hh (q := 19) rfl (hI.1 _ (by decide)) es1850_1865 (vp_in_nI (n := T_1851) (by omega) (by decide)) dX12_join_122 ?_
                      rw [nI_clamp (n := T_1851) (by omega)]
                      rw [hfv_1853]
                      refine lv_iadd hx hb dX12_join_123 ?_
                      rw [nI_add (12 * wo) v_1853]
                      refine lv_iload_n hx hb dX12_join_124 rfl (lv_at hl 0 rfl) ?_
                      refine lv_iadd hx hb dX12_join_125 ?_
                      rw [nI_add ((12 * wo) + v_1853) j1862]
                      refine lv_aload_n hx hb dX12_join_126 rfl (lv_at hl 1 rfl) ?_
                      refine hp_get hx hb hts ix12 hown hK hh (q := 0) rfl (hI.1 _ (by decide)) es1863 rfl 31 (by decide) (hts _ tw_910) (fun _ h9 => h9) rfl dX12_join_127 ?_
                      refine lv_bipush (v := 12) hx hb dX12_join_130 (by decide) ?_
                      refine lv_iload_n hx hb dX12_join_132 rfl (lv_at hl 3 rfl) ?_
                      refine lv_imul hx hb dX12_join_133 ?_
                      rw [show (12 : Int32) = nI 12 from rfl, pk_mul 12 T_1852]
                      refine lv_iload_n hx hb dX12_join_134 rfl (lv_at hl 0 rfl) ?_
                      refine lv_iadd hx hb dX12_join_135 ?_
                      rw [nI_add (12 * T_1852) j1862]
                      obtain ⟨f_1869, es1869, p0_1869⟩ := getr_lt hI_1862
                      refine hp_iald hx hb hK hh (q := 18) rfl (hI.1 _ (by decide)) es1869 (vp_in_nI (n := ((12 * T_1852) + j1862)) (by omega) (by decide)) dX12_join_136 ?_
                      rw [nI_clamp (n := ((12 * T_1852) + j1862)) (by omega)]
                      obtain ⟨v_1870, hv_1870, hfv_1870⟩ := p0_1869 ((12 * T_1852) + j1862) (by omega)
                      rw [hfv_1870]
                      refine hp_iast hx hb hK hh (q := 18) rfl (hI.1 _ (by decide)) es1869 (vp_in_nI (n := (((12 * wo) + v_1853) + j1862)) (by omega) (by decide)) dX12_join_137 (fun H locs en_1871 hen_1871 hh => ?_)
                      rw [nI_clamp (n := (((12 * wo) + v_1853) + j1862)) (by omega)] at hen_1871
                      have es1863_1871 : en_1871 0 = .inr (11, [.int fa_1863, .int hi_1863, .int (nI wd), .int (nI mo), .int (nI tb), .ref (ad 1), .ref (ad 2), .ref (ad 3), .ref (ad 4), .ref (ad 5), .ref (ad 6), .ref (ad 7), .ref (ad 8), .ref (ad 9), .int dp_1863, .long many_1863, .long grt_1863, .long lst_1863, .long nou_1863, .ref (ad 10), .ref (ad 11), .ref (ad 12), .int rm_1863, .long rb_1863, .ref (ad 13), .int pr_1863, .ref (ad 14), .ref (ad 15), .ref (ad 16), .ref (ad 17), .int (nI wo), .ref (ad 18), .ref (ad 19)]) := by rw [hen_1871, va_up_ne _ _ (by decide)]; exact es1863
                      have es1850_1871 : en_1871 19 = .inl (cy 0, 10, .inl f_1850) := by rw [hen_1871, va_up_ne _ _ (by decide)]; exact es1850_1865
                      have es1869_1871 : en_1871 18 = .inl (cy 0, 120, .inl (upd f_1869 (((12 * wo) + v_1853) + j1862) (nI v_1870))) := by rw [hen_1871]; exact va_up_self _ _ _
                      have hI_1871 : RX cy cs ad en_1871 := by rw [hen_1871]; exact upr_lt hI_1862 ⟨(upd f_1869 (((12 * wo) + v_1853) + j1862) (nI v_1870)), rfl, (vals_updB p0_1869 (by omega))⟩
                      have hf_1871 : ∀ c, (c ≠ 0 ∧ c ≠ 18 ∧ c ≠ 19) → en_1871 c = en c := fun c hc => Eq.trans (show en_1871 c = en_1862 c from by rw [hen_1871, va_up_ne _ _ (by omega)]) (hf_1862 c hc)
                      have hkc19_1871 : en_1871 19 = en 19 := (show en_1871 19 = en_1862 19 from by rw [hen_1871, va_up_ne _ _ (by decide)]).trans i2_1862
                      have hkp_1871 : KP en en_1871 := KP_same i1_1862 (show en_1871 0 = en_1862 0 from by rw [hen_1871, va_up_ne _ _ (by decide)])
                      refine lv_iinc (v := (nI (j1862 + 1))) (lv' := [(3, .int (nI (j1862 + 1))), (0, .ref (ad 0)), (1, .int (nI T_1851)), (2, .int (nI T_1852))]) hx hb dX12_join_138 hl (k := 0) rfl (nI_1 _) (by decide) rfl (fun ls hl => ?_)
                      refine lv_goto (tgt := 96) hx hb dX12_join_141 (by decide) ?_
                      exact ih_1862 ((j1862 + 1))  en_1871 ls H locs (by omega) (by omega) (by omega) hI_1871 hf_1871 (fun x => by rw [es1869_1871]; exact cp_upd (c := jRG en T_1851 T_1852 v_1853) (j := (v_1853 + j1862)) (fun x => (show f_1869 x = rdF (en_1862 18) x from by rw [es1869]; rfl).trans (i0_1862 x)) (by omega) (by omega) (by unfold jRG; rw [if_neg (by omega), show v_1853 + j1862 - v_1853 = j1862 by omega]; have h9 := i0_1862 (12 * T_1852 + j1862); rw [if_neg (by omega)] at h9; exact h9.symm.trans ((show rdF (en_1862 18) (12 * T_1852 + j1862) = f_1869 (12 * T_1852 + j1862) from by rw [es1869]; rfl).trans hfv_1870)) x) (hkp_1871) (hkc19_1871) (lv_sub hl [0, 1, 2, 3] rfl) hh
                exact loop_1862 (v_1854 + 1) 0  en_1857 ls _ _ (Nat.le_refl _) (by omega) (by omega) hI_1857 hf_1857 (fun x => by have e9 : j1857 = v_1853 := (by omega); have h9 := i0_1857 x; rw [e9] at h9; exact h9) (i1_1857) (i2_1857) (lv_sub hl [0, 1, 2, 3] rfl) hh
              · have n_1861 : j1857 < v_1853 := n_nle (a := v_1853) (b := j1857) c_1861 (by omega) (by omega)
                refine lv_aload_n hx hb dX12_join_63 rfl (lv_at hl 1 rfl) ?_
                refine hp_get hx hb hts ix12 hown hK hh (q := 0) rfl (hI.1 _ (by decide)) es1858 rfl 31 (by decide) (hts _ tw_910) (fun _ h9 => h9) rfl dX12_join_64 ?_
                refine lv_bipush (v := 12) hx hb dX12_join_67 (by decide) ?_
                refine lv_aload_n hx hb dX12_join_69 rfl (lv_at hl 1 rfl) ?_
                refine hp_get hx hb hts ix12 hown hK hh (q := 0) rfl (hI.1 _ (by decide)) es1858 rfl 30 (by decide) (hts _ tw_909) (fun _ h9 => h9) rfl dX12_join_70 ?_
                refine lv_imul hx hb dX12_join_73 ?_
                rw [show (12 : Int32) = nI 12 from rfl, pk_mul 12 wo]
                refine lv_iload_n hx hb dX12_join_74 rfl (lv_at hl 0 rfl) ?_
                refine lv_iadd hx hb dX12_join_75 ?_
                rw [nI_add (12 * wo) j1857]
                refine lv_aload_n hx hb dX12_join_76 rfl (lv_at hl 1 rfl) ?_
                refine hp_get hx hb hts ix12 hown hK hh (q := 0) rfl (hI.1 _ (by decide)) es1858 rfl 31 (by decide) (hts _ tw_910) (fun _ h9 => h9) rfl dX12_join_77 ?_
                refine lv_bipush (v := 12) hx hb dX12_join_80 (by decide) ?_
                refine lv_iload_n hx hb dX12_join_82 rfl (lv_at hl 2 rfl) ?_
                refine lv_imul hx hb dX12_join_83 ?_
                rw [show (12 : Int32) = nI 12 from rfl, pk_mul 12 T_1851]
                refine lv_iload_n hx hb dX12_join_84 rfl (lv_at hl 0 rfl) ?_
                refine lv_iadd hx hb dX12_join_85 ?_
                rw [nI_add (12 * T_1851) j1857]
                obtain ⟨f_1872, es1872, p0_1872⟩ := getr_lt hI_1857
                refine hp_iald hx hb hK hh (q := 18) rfl (hI.1 _ (by decide)) es1872 (vp_in_nI (n := ((12 * T_1851) + j1857)) (by omega) (by decide)) dX12_join_86 ?_
                rw [nI_clamp (n := ((12 * T_1851) + j1857)) (by omega)]
                obtain ⟨v_1873, hv_1873, hfv_1873⟩ := p0_1872 ((12 * T_1851) + j1857) (by omega)
                rw [hfv_1873]
                refine hp_iast hx hb hK hh (q := 18) rfl (hI.1 _ (by decide)) es1872 (vp_in_nI (n := ((12 * wo) + j1857)) (by omega) (by decide)) dX12_join_87 (fun H locs en_1874 hen_1874 hh => ?_)
                rw [nI_clamp (n := ((12 * wo) + j1857)) (by omega)] at hen_1874
                have es1858_1874 : en_1874 0 = .inr (11, [.int fa_1858, .int hi_1858, .int (nI wd), .int (nI mo), .int (nI tb), .ref (ad 1), .ref (ad 2), .ref (ad 3), .ref (ad 4), .ref (ad 5), .ref (ad 6), .ref (ad 7), .ref (ad 8), .ref (ad 9), .int dp_1858, .long many_1858, .long grt_1858, .long lst_1858, .long nou_1858, .ref (ad 10), .ref (ad 11), .ref (ad 12), .int rm_1858, .long rb_1858, .ref (ad 13), .int pr_1858, .ref (ad 14), .ref (ad 15), .ref (ad 16), .ref (ad 17), .int (nI wo), .ref (ad 18), .ref (ad 19)]) := by rw [hen_1874, va_up_ne _ _ (by decide)]; exact es1858
                have es1850_1874 : en_1874 19 = .inl (cy 0, 10, .inl f_1850) := by rw [hen_1874, va_up_ne _ _ (by decide)]; exact es1850_1860
                have es1872_1874 : en_1874 18 = .inl (cy 0, 120, .inl (upd f_1872 ((12 * wo) + j1857) (nI v_1873))) := by rw [hen_1874]; exact va_up_self _ _ _
                have hI_1874 : RX cy cs ad en_1874 := by rw [hen_1874]; exact upr_lt hI_1857 ⟨(upd f_1872 ((12 * wo) + j1857) (nI v_1873)), rfl, (vals_updB p0_1872 (by omega))⟩
                have hf_1874 : ∀ c, (c ≠ 0 ∧ c ≠ 18 ∧ c ≠ 19) → en_1874 c = en c := fun c hc => Eq.trans (show en_1874 c = en_1857 c from by rw [hen_1874, va_up_ne _ _ (by omega)]) (hf_1857 c hc)
                have hkc19_1874 : en_1874 19 = en 19 := (show en_1874 19 = en_1857 19 from by rw [hen_1874, va_up_ne _ _ (by decide)]).trans i2_1857
                have hkp_1874 : KP en en_1874 := KP_same i1_1857 (show en_1874 0 = en_1857 0 from by rw [hen_1874, va_up_ne _ _ (by decide)])
                refine lv_iinc (v := (nI (j1857 + 1))) (lv' := [(3, .int (nI (j1857 + 1))), (0, .ref (ad 0)), (1, .int (nI T_1851)), (2, .int (nI T_1852))]) hx hb dX12_join_88 hl (k := 0) rfl (nI_1 _) (by decide) rfl (fun ls hl => ?_)
                refine lv_goto (tgt := 53) hx hb dX12_join_91 (by decide) ?_
                exact ih_1857 ((j1857 + 1))  en_1874 ls H locs (by omega) (by omega) (by omega) hI_1874 hf_1874 (fun x => by rw [es1872_1874]; exact cp_upd (c := jRG en T_1851 T_1852 v_1853) (j := j1857) (fun x => (show f_1872 x = rdF (en_1857 18) x from by rw [es1872]; rfl).trans (i0_1857 x)) (by omega) (by omega) (by unfold jRG; rw [if_pos (by omega)]; have h9 := i0_1857 (12 * T_1851 + j1857); rw [if_neg (by omega)] at h9; exact h9.symm.trans ((show rdF (en_1857 18) (12 * T_1851 + j1857) = f_1872 (12 * T_1851 + j1857) from by rw [es1872]; rfl).trans hfv_1873)) x) (hkp_1874) (hkc19_1874) (lv_sub hl [0, 1, 2, 3] rfl) hh
          exact loop_1857 (v_1853 + 1) 0  en ls _ _ (Nat.le_refl _) (by omega) (by omega) hI hf0 (fun x => by rw [if_neg (by omega)]) ((KP_rf en)) (rfl) (lv_sub hl [0, 1, 2, 3] rfl) hh
        · have n_1856 : wo = 10 := n_eq (a := wo) (b := 10) c_1856 (by omega) (by decide)
          refine lv_bipush (v := (-4)) hx hb dX12_join_48 (by decide) ?_
          have he30 : rdI (en 0) 30 = nI wo := by rw [es1849]; rfl
          have hc30 : (rdI (en 0) 30).toInt = (wo : Int) := by rw [he30]; exact nI_toInt (by omega)
          have hqa : hasQ (nI T_1851) (rdI (en 0) 30) := ⟨by rw [nI_toInt (n := T_1851) (by omega)]; omega, by rw [nI_toInt (n := T_1851) (by omega), hc30]; omega⟩
          have hla : rdF (en 19) (nI T_1851).toNatClampNeg = nI v_1853 := by rw [nI_clamp (n := T_1851) (by omega), show rdF (en 19) = f_1850 from by rw [es1850]; rfl]; exact hfv_1853
          have hqb : hasQ (nI T_1852) (rdI (en 0) 30) := ⟨by rw [nI_toInt (n := T_1852) (by omega)]; omega, by rw [nI_toInt (n := T_1852) (by omega), hc30]; omega⟩
          have hlb : rdF (en 19) (nI T_1852).toNatClampNeg = nI v_1854 := by rw [nI_clamp (n := T_1852) (by omega), show rdF (en 19) = f_1850 from by rw [es1850]; rfl]; exact hfv_1854
          have hs9 : (nI v_1853).toInt + (nI v_1854).toInt = ((v_1853 + v_1854 : Nat) : Int) := by rw [nI_toInt (n := v_1853) (by omega), nI_toInt (n := v_1854) (by omega)]; omega
          exact hp_iretM hx hb hr rfl hlocks hh (⟨hI, hf0, RWX_keep hRW (KP_rf en).2.2.2.2.2 rfl, KPw_of (KP_rf en), (by unfold RJO; rw [hla, hlb]; exact ⟨Or.inr (Or.inr (Or.inl ⟨⟨hqa, hqb⟩, by omega, by omega, rfl⟩)), Or.inl ⟨fun q => absurd q.2.2.2 (by omega), rfl, rfl, rfl⟩⟩)⟩) dX12_join_50
      · have n_1855 : 12 < (v_1853 + v_1854) := n_nle (a := (v_1853 + v_1854)) (b := 12) c_1855 (by omega) (by decide)
        refine lv_bipush (v := (-2)) hx hb dX12_join_36 (by decide) ?_
        have he30 : rdI (en 0) 30 = nI wo := by rw [es1849]; rfl
        have hc30 : (rdI (en 0) 30).toInt = (wo : Int) := by rw [he30]; exact nI_toInt (by omega)
        have hqa : hasQ (nI T_1851) (rdI (en 0) 30) := ⟨by rw [nI_toInt (n := T_1851) (by omega)]; omega, by rw [nI_toInt (n := T_1851) (by omega), hc30]; omega⟩
        have hla : rdF (en 19) (nI T_1851).toNatClampNeg = nI v_1853 := by rw [nI_clamp (n := T_1851) (by omega), show rdF (en 19) = f_1850 from by rw [es1850]; rfl]; exact hfv_1853
        have hqb : hasQ (nI T_1852) (rdI (en 0) 30) := ⟨by rw [nI_toInt (n := T_1852) (by omega)]; omega, by rw [nI_toInt (n := T_1852) (by omega), hc30]; omega⟩
        have hlb : rdF (en 19) (nI T_1852).toNatClampNeg = nI v_1854 := by rw [nI_clamp (n := T_1852) (by omega), show rdF (en 19) = f_1850 from by rw [es1850]; rfl]; exact hfv_1854
        have hs9 : (nI v_1853).toInt + (nI v_1854).toInt = ((v_1853 + v_1854 : Nat) : Int) := by rw [nI_toInt (n := v_1853) (by omega), nI_toInt (n := v_1854) (by omega)]; omega
        exact hp_iretM hx hb hr rfl hlocks hh (⟨hI, hf0, RWX_keep hRW (KP_rf en).2.2.2.2.2 rfl, KPw_of (KP_rf en), (by unfold RJO; rw [hla, hlb]; exact ⟨Or.inr (Or.inl ⟨⟨hqa, hqb⟩, by omega, rfl⟩), Or.inl ⟨fun q => absurd q.2.2.1 (by omega), rfl, rfl, rfl⟩⟩)⟩) dX12_join_38
    · obtain rfl : r_1852 = 0 := Eq.trans hw_1852 (if_neg hp_1852)
      refine lv_if_ne (tgt := 18) hx hb dX12_join_13 (by decide) (fun c_0 => absurd c_0 (by decide)) (fun _ => ?_)
      refine lv_iconst (v := (-1)) hx hb dX12_join_16 (by decide) ?_
      have he30 : rdI (en 0) 30 = nI wo := by rw [es1849]; rfl
      have hc30 : (rdI (en 0) 30).toInt = (wo : Int) := by rw [he30]; exact nI_toInt (by omega)
      have hnq : ¬ (hasQ (nI T_1851) (rdI (en 0) 30) ∧ hasQ b9 (rdI (en 0) 30)) := fun q => hp_1852 ⟨q.2.1, by have := q.2.2; omega⟩
      exact hp_iretM hx hb hr rfl hlocks hh (⟨hI, hf0, RWX_keep hRW (KP_rf en).2.2.2.2.2 rfl, KPw_of (KP_rf en), ⟨Or.inl ⟨hnq, rfl⟩, Or.inl ⟨fun q => hnq ⟨q.1, q.2.1⟩, rfl, rfl, rfl⟩⟩⟩) dX12_join_17
  · obtain rfl : r_1851 = 0 := Eq.trans hw_1851 (if_neg hp_1851)
    refine lv_if_eq (tgt := 16) hx hb dX12_join_5 (by decide) (fun _ => ?_) (fun c_0 => absurd c_0 (by decide))
    refine lv_iconst (v := (-1)) hx hb dX12_join_16 (by decide) ?_
    have he30 : rdI (en 0) 30 = nI wo := by rw [es1849]; rfl
    have hc30 : (rdI (en 0) 30).toInt = (wo : Int) := by rw [he30]; exact nI_toInt (by omega)
    have hnq : ¬ (hasQ a9 (rdI (en 0) 30) ∧ hasQ b9 (rdI (en 0) 30)) := fun q => hp_1851 ⟨q.1.1, by have := q.1.2; omega⟩
    exact hp_iretM hx hb hr rfl hlocks hh (⟨hI, hf0, RWX_keep hRW (KP_rf en).2.2.2.2.2 rfl, KPw_of (KP_rf en), ⟨Or.inl ⟨hnq, rfl⟩, Or.inl ⟨fun q => hnq ⟨q.1, q.2.1⟩, rfl, rfl, rfl⟩⟩⟩) dX12_join_17
theorem kw_X12_join {R : Room} {s : State} {args : Array Value} {own : String} {idx : Nat} (hts : ∀ w ∈ TB, w.before args s = true) (hl : Cond.methodLink own idx yX12_join ∈ TB) (hR : 1 + 1 ≤ R.frames ∧ 8 + (4 + 11) + 40 * 1 ≤ R.locals) : CallW R s args own RX12 idx yX12_join cX12_join 4 (some .int) (Cond.code yX12_join cX12_join 4 (some .int) :: TB) (rmN 1) 0 0 2 := cwV 2 hts (TB_V hl tw_1172 tw_1173 tw_9 tw_1174) rfl rfl rfl (by decide +kernel) hR
