set_option maxHeartbeats 4000000 in
set_option maxRecDepth 100000 in
/-- closed -/
theorem c_X12_closed (l : Launch) (D : va_G) (cy : Nat → ClassId) (sz : Nat) (cs : List Nat) (ad : Nat → Nat) (en : Nat → va_E) (hI : RX cy cs ad en) (z9 : Int32) (hCX : CHX en)   : Met l yX12_closed (Cond.code yX12_closed cX12_closed 4 (some .int) :: TB) (rmN 2) (va_Pc [.ref (ad 0), .int z9] (Pre D cy cs ad en sz)) (va_Qi (S := Nat → va_E) (fun r en1 => RX cy cs ad en1 ∧ (∀ c, (c ≠ 6) → en1 c = en c)) (PostM D cs ad) (Af cs ad sz)) 0 0 (Af cs ad sz) := by
  refine Met.ofW (cc := cX12_closed) (maxL := 4) (ret := (some .int)) (by decide) rfl ?_
  intro p e s m args below meth c s₁ B hml hv
  obtain ⟨rfl, hsz, hP, hK, hD0⟩ := hv
  have hx := B.exec
  have hb := B.bytes
  have hr := B.returns
  have hts : ∀ w ∈ TB, w.before _ s = true := fun w h => atoms_spec (ws := _ :: TB) B.pre w (List.mem_cons_of_mem _ h)
  have hown : s.vm.findClass RX12 = some m.cls := findClass_of_methodNamed B.named
  have hlocks := B.notSynchronized
  have hh : Hp D (Af cs ad sz) (Af cs ad sz) s.heap s.heap [] cs ad en := ⟨hP, Af_self hD0, va_S.rf⟩
  have hA : ∀ q : Nat, s.heap.size ≤ q → Af cs ad sz q := fun q h => Or.inr (by rw [hsz] at h; exact h)
  have hl := lv_entry ([.ref (ad 0), .int z9]) (n := 4) (Nat.le_of_ble_eq_true rfl)
  rw [lg_entry_eq]
  generalize (lg_sl ([.ref (ad 0), .int z9]) ++ List.replicate (4 - (lg_sl ([.ref (ad 0), .int z9])).length) Slot.unset).toArray = ls at hl ⊢
  have hl : lv_has ls 4 [(0, .ref (ad 0)), (1, .int z9)] := hl
  have hf0 : ∀ c, (c ≠ 6) → en c = en c := fun _ _ => rfl
  obtain ⟨fa, hi, wd, mo, tb, dp, many, grt, lst, nou, rm, rb, pr, wo, es1759, hwd2, hwd3, hmo, htb, hwo⟩ := getr_M hI
  refine lv_iload_n hx hb dX12_closed_0 rfl (lv_at hl 1 rfl) ?_
  refine lv_i2l hx hb dX12_closed_1 rfl ?_
  refine lv_lconst (v := 0) hx hb dX12_closed_2 (by decide) ?_
  refine lv_ldc2 hx hb hown (hts _ tw_1141) dX12_closed_3 ?_
  refine hp_callRi (va_runS (As := [.long z9.toInt64, .long 0, .long 4]) (rest := []) ⟨hx, hb, hml, hown, hts⟩ (c_X12_within l D cy _ cs ad en z9.toInt64 0 4) (kw_X12_within hts tw_985 ⟨by decide, by decide⟩) (preS_of hh hK) rfl rfl hl.1 rfl (lv_room (Nat.le_of_ble_eq_true rfl)) dX12_closed_6 ⟨Nat.le_of_ble_eq_true rfl, Nat.le_of_ble_eq_true rfl⟩) hh hA (fun r_1760 H locs hw_1760 hh => ?_)
  rcases Decidable.em (wi z9 0 4) with hp_1760 | hp_1760
  · obtain rfl : r_1760 = 1 := Eq.trans hw_1760 (if_pos ((wj_32 (by decide) (by decide)).mpr hp_1760))
    obtain ⟨N_1760, rfl, hA_1760, hB_1760⟩ := wi_natB hp_1760 0 4 (by decide) (by decide)
    refine lv_if_ne (tgt := 15) hx hb dX12_closed_9 (by decide) (fun _ => ?_) (fun c_0 => absurd c_0 (by decide))
    refine lv_aload_n hx hb dX12_closed_15 rfl (lv_at hl 0 rfl) ?_
    refine hp_get hx hb hts ix12 hown hK hh (q := 0) rfl (hI.1 _ (by decide)) es1759 rfl 25 (by decide) (hts _ tw_904) (fun _ h9 => h9) rfl dX12_closed_16 ?_
    refine lv_bipush (v := (-9)) hx hb dX12_closed_19 (by decide) ?_
    refine lv_icmp_ne (tgt := 27) hx hb dX12_closed_21 (by decide) (fun c_1761 => ?_) (fun c_1761 => ?_)
    · obtain ⟨P9, hP1, hP2, hPe, hCH⟩ := CHX_n9 hCX (show rdI (en 0) 25 = pr from by rw [es1759]; rfl) c_1761
      have hfx_1762 : pr = nI P9 := (show pr = rdI (en 0) 25 from by rw [es1759]; rfl).trans (hCH.2.1)
      rw [hfx_1762] at es1759
      refine lv_iconst (v := 0) hx hb dX12_closed_27 (by decide) ?_
      refine lv_istore_n (lv' := [(2, .int 0), (0, .ref (ad 0)), (1, .int (nI N_1760))]) hx hb dX12_closed_28 rfl hl (by decide) rfl (fun ls hl => ?_)
      refine lv_iload_n hx hb dX12_closed_29 rfl (lv_at hl 2 rfl) ?_
      by_cases q_1763_0 : (nI N_1760) = 0
      · refine lv_tableIn (off := 30) (tgt := 60) hx hb dX12_closed_30 (by rw [q_1763_0]; decide) (by rw [q_1763_0]; decide) (by rw [q_1763_0]; decide) (by decide) ?_
        refine lv_aload_n hx hb dX12_closed_60 rfl (lv_at hl 1 rfl) ?_
        refine hp_get hx hb hts ix12 hown hK hh (q := 0) rfl (hI.1 _ (by decide)) es1759 rfl 25 (by decide) (hts _ tw_904) (fun _ h9 => h9) rfl dX12_closed_61 ?_
        exact hp_iretM hx hb hr rfl hlocks hh (⟨hI, hf0⟩) dX12_closed_64
      by_cases q_1763_1 : (nI N_1760) = 1
      · refine lv_tableIn (off := 35) (tgt := 65) hx hb dX12_closed_30 (by rw [q_1763_1]; decide) (by rw [q_1763_1]; decide) (by rw [q_1763_1]; decide) (by decide) ?_
        refine lv_iconst (v := 0) hx hb dX12_closed_65 (by decide) ?_
        refine lv_istore_n (lv' := [(3, .int 0), (2, .int 0), (0, .ref (ad 0)), (1, .int (nI N_1760))]) hx hb dX12_closed_66 rfl hl (by decide) rfl (fun ls hl => ?_)
        have loop_1764 : ∀ (fu j1764 : Nat) (no1764 : Int32)  (ls : Array Slot) (H : Heap) (locs : List Loc), 0 ≤ j1764 → j1764 ≤ P9 → P9 < j1764 + fu →   lv_has ls 4 [(3, .int (nI j1764)), (2, .int no1764), (0, .ref (ad 0)), (1, .int (nI N_1760))] → Hp D (Af cs ad sz) (Af cs ad sz) s.heap H locs cs ad en → W p l e (headSpec (Cond.code yX12_closed cX12_closed 4 (some .int) :: TB) (rmN 2)).room s m ([.ref (ad 0), .int (nI N_1760)] : List Value).toArray below meth c H locs 0 0 (MQ below (va_Qi (S := Nat → va_E) (fun r en1 => RX cy cs ad en1 ∧ (∀ c, (c ≠ 6) → en1 c = en c)) (PostM D cs ad) (Af cs ad sz)) ([.ref (ad 0), .int (nI N_1760)] : List Value).toArray s 0 0 (Af cs ad sz)) (F0 m 67 ls []) := by
          intro fu
          induction fu with
          | zero => intro j1764 no1764 ls H locs h0 h1 h2; exact absurd h2 (by omega)
          | succ fu ih_1764 =>
            intro j1764 no1764 ls H locs hj0_1764 hj_1764 hfu_1764  hl hh
            refine lv_iload_n hx hb dX12_closed_67 rfl (lv_at hl 0 rfl) ?_
            refine lv_aload_n hx hb dX12_closed_68 rfl (lv_at hl 2 rfl) ?_
            refine hp_get hx hb hts ix12 hown hK hh (q := 0) rfl (hI.1 _ (by decide)) es1759 rfl 25 (by decide) (hts _ tw_904) (fun _ h9 => h9) rfl dX12_closed_69 ?_
            refine lv_icmp_ge (tgt := 97) hx hb dX12_closed_72 (by decide) (fun c_1765 => ?_) (fun c_1765 => ?_)
            · have n_1765 : P9 ≤ j1764 := n_le (a := P9) (b := j1764) c_1765 (by omega) (by omega)
              refine lv_iload_n hx hb dX12_closed_97 rfl (lv_at hl 1 rfl) ?_
              exact hp_iretM hx hb hr rfl hlocks hh (⟨hI, hf0⟩) dX12_closed_98
            · have n_1765 : j1764 < P9 := n_nle (a := P9) (b := j1764) c_1765 (by omega) (by omega)
              refine lv_iload_n hx hb dX12_closed_75 rfl (lv_at hl 1 rfl) ?_
              refine lv_aload_n hx hb dX12_closed_76 rfl (lv_at hl 2 rfl) ?_
              refine lv_iload_n hx hb dX12_closed_77 rfl (lv_at hl 0 rfl) ?_
              refine hp_callRi (va_runV (As := [.int (nI j1764)]) (rest := [.int no1764]) ⟨hx, hb, hml, hown, hts⟩ (c_X12_isNought l D cy _ cs ad en hI j1764 (by omega)) (kw_X12_isNought hts tw_1142 ⟨by decide, by decide⟩) (preV_of hh hK (hI.1 _ (by decide)) es1759 rfl) rfl rfl hl.1 rfl (lv_room (Nat.le_of_ble_eq_true rfl)) dX12_closed_78 ⟨Nat.le_of_ble_eq_true rfl, Nat.le_of_ble_eq_true rfl⟩) hh hA (fun r_1766 H locs hw_1766 hh => ?_)
              rcases hw_1766 with hb_1766 | hb_1766
              · obtain rfl : r_1766 = 0 := hb_1766
                refine lv_if_eq (tgt := 88) hx hb dX12_closed_81 (by decide) (fun _ => ?_) (fun c_0 => absurd c_0 (by decide))
                refine lv_iconst (v := 0) hx hb dX12_closed_88 (by decide) ?_
                refine lv_ior hx hb dX12_closed_89 ?_
                refine lv_istore_n (lv' := [(2, .int (no1764 ||| 0)), (3, .int (nI j1764)), (0, .ref (ad 0)), (1, .int (nI N_1760))]) hx hb dX12_closed_90 rfl hl (by decide) rfl (fun ls hl => ?_)
                refine lv_iinc (v := (nI (j1764 + 1))) (lv' := [(3, .int (nI (j1764 + 1))), (2, .int (no1764 ||| 0)), (0, .ref (ad 0)), (1, .int (nI N_1760))]) hx hb dX12_closed_91 hl (k := 1) rfl (nI_1 _) (by decide) rfl (fun ls hl => ?_)
                refine lv_goto (tgt := 67) hx hb dX12_closed_94 (by decide) ?_
                exact ih_1764 ((j1764 + 1)) (no1764 ||| 0) ls H locs (by omega) (by omega) (by omega)  (lv_sub hl [0, 1, 2, 3] rfl) hh
              · obtain rfl : r_1766 = 1 := hb_1766
                refine lv_if_eq (tgt := 88) hx hb dX12_closed_81 (by decide) (fun c_0 => absurd c_0 (by decide)) (fun _ => ?_)
                refine lv_iconst (v := 1) hx hb dX12_closed_84 (by decide) ?_
                refine lv_goto (tgt := 89) hx hb dX12_closed_85 (by decide) ?_
                refine lv_ior hx hb dX12_closed_89 ?_
                refine lv_istore_n (lv' := [(2, .int (no1764 ||| 1)), (3, .int (nI j1764)), (0, .ref (ad 0)), (1, .int (nI N_1760))]) hx hb dX12_closed_90 rfl hl (by decide) rfl (fun ls hl => ?_)
                refine lv_iinc (v := (nI (j1764 + 1))) (lv' := [(3, .int (nI (j1764 + 1))), (2, .int (no1764 ||| 1)), (0, .ref (ad 0)), (1, .int (nI N_1760))]) hx hb dX12_closed_91 hl (k := 1) rfl (nI_1 _) (by decide) rfl (fun ls hl => ?_)
                refine lv_goto (tgt := 67) hx hb dX12_closed_94 (by decide) ?_
                exact ih_1764 ((j1764 + 1)) (no1764 ||| 1) ls H locs (by omega) (by omega) (by omega)  (lv_sub hl [0, 1, 2, 3] rfl) hh
        exact loop_1764 (P9 + 1) 0 0 ls _ _ (Nat.le_refl _) (by omega) (by omega)  (lv_sub hl [0, 1, 2, 3] rfl) hh
      by_cases q_1763_2 : (nI N_1760) = 2
      · refine lv_tableIn (off := 69) (tgt := 99) hx hb dX12_closed_30 (by rw [q_1763_2]; decide) (by rw [q_1763_2]; decide) (by rw [q_1763_2]; decide) (by decide) ?_
        refine lv_iconst (v := 0) hx hb dX12_closed_99 (by decide) ?_
        refine lv_istore_n (lv' := [(3, .int 0), (2, .int 0), (0, .ref (ad 0)), (1, .int (nI N_1760))]) hx hb dX12_closed_100 rfl hl (by decide) rfl (fun ls hl => ?_)
        have loop_1767 : ∀ (fu j1767 : Nat)   (ls : Array Slot) (H : Heap) (locs : List Loc), 0 ≤ j1767 → j1767 ≤ P9 → P9 < j1767 + fu →   lv_has ls 4 [(3, .int (nI j1767)), (2, .int 0), (0, .ref (ad 0)), (1, .int (nI N_1760))] → Hp D (Af cs ad sz) (Af cs ad sz) s.heap H locs cs ad en → W p l e (headSpec (Cond.code yX12_closed cX12_closed 4 (some .int) :: TB) (rmN 2)).room s m ([.ref (ad 0), .int (nI N_1760)] : List Value).toArray below meth c H locs 0 0 (MQ below (va_Qi (S := Nat → va_E) (fun r en1 => RX cy cs ad en1 ∧ (∀ c, (c ≠ 6) → en1 c = en c)) (PostM D cs ad) (Af cs ad sz)) ([.ref (ad 0), .int (nI N_1760)] : List Value).toArray s 0 0 (Af cs ad sz)) (F0 m 101 ls []) := by
          intro fu
          induction fu with
          | zero => intro j1767  ls H locs h0 h1 h2; exact absurd h2 (by omega)
          | succ fu ih_1767 =>
            intro j1767  ls H locs hj0_1767 hj_1767 hfu_1767  hl hh
            refine lv_iload_n hx hb dX12_closed_101 rfl (lv_at hl 0 rfl) ?_
            refine lv_aload_n hx hb dX12_closed_102 rfl (lv_at hl 2 rfl) ?_
            refine hp_get hx hb hts ix12 hown hK hh (q := 0) rfl (hI.1 _ (by decide)) es1759 rfl 25 (by decide) (hts _ tw_904) (fun _ h9 => h9) rfl dX12_closed_103 ?_
            refine lv_icmp_ge (tgt := 125) hx hb dX12_closed_106 (by decide) (fun c_1768 => ?_) (fun c_1768 => ?_)
            · have n_1768 : P9 ≤ j1767 := n_le (a := P9) (b := j1767) c_1768 (by omega) (by omega)
              refine lv_bipush (v := (-9)) hx hb dX12_closed_125 (by decide) ?_
              exact hp_iretM hx hb hr rfl hlocks hh (⟨hI, hf0⟩) dX12_closed_127
            · have n_1768 : j1767 < P9 := n_nle (a := P9) (b := j1767) c_1768 (by omega) (by omega)
              refine lv_aload_n hx hb dX12_closed_109 rfl (lv_at hl 2 rfl) ?_
              refine lv_iload_n hx hb dX12_closed_110 rfl (lv_at hl 0 rfl) ?_
              refine hp_callRi (va_runV (As := [.int (nI j1767)]) (rest := []) ⟨hx, hb, hml, hown, hts⟩ (c_X12_isOne l D cy _ cs ad en hI j1767 (by omega)) (kw_X12_isOne hts tw_1146 ⟨by decide, by decide⟩) (preV_of hh hK (hI.1 _ (by decide)) es1759 rfl) rfl rfl hl.1 rfl (lv_room (Nat.le_of_ble_eq_true rfl)) dX12_closed_111 ⟨Nat.le_of_ble_eq_true rfl, Nat.le_of_ble_eq_true rfl⟩) hh hA (fun r_1769 H locs hw_1769 hh => ?_)
              rcases hw_1769 with hb_1769 | hb_1769
              · obtain rfl : r_1769 = 0 := hb_1769
                refine lv_if_eq (tgt := 119) hx hb dX12_closed_114 (by decide) (fun _ => ?_) (fun c_0 => absurd c_0 (by decide))
                refine lv_iinc (v := (nI (j1767 + 1))) (lv' := [(3, .int (nI (j1767 + 1))), (2, .int 0), (0, .ref (ad 0)), (1, .int (nI N_1760))]) hx hb dX12_closed_119 hl (k := 0) rfl (nI_1 _) (by decide) rfl (fun ls hl => ?_)
                refine lv_goto (tgt := 101) hx hb dX12_closed_122 (by decide) ?_
                exact ih_1767 ((j1767 + 1))  ls H locs (by omega) (by omega) (by omega)  (lv_sub hl [0, 1, 2, 3] rfl) hh
              · obtain rfl : r_1769 = 1 := hb_1769
                refine lv_if_eq (tgt := 119) hx hb dX12_closed_114 (by decide) (fun c_0 => absurd c_0 (by decide)) (fun _ => ?_)
                refine lv_iload_n hx hb dX12_closed_117 rfl (lv_at hl 0 rfl) ?_
                exact hp_iretM hx hb hr rfl hlocks hh (⟨hI, hf0⟩) dX12_closed_118
        exact loop_1767 (P9 + 1) 0  ls _ _ (Nat.le_refl _) (by omega) (by omega)  (lv_sub hl [0, 1, 2, 3] rfl) hh
      by_cases q_1763_3 : (nI N_1760) = 3
      · refine lv_tableIn (off := 98) (tgt := 128) hx hb dX12_closed_30 (by rw [q_1763_3]; decide) (by rw [q_1763_3]; decide) (by rw [q_1763_3]; decide) (by decide) ?_
        refine lv_iconst (v := 0) hx hb dX12_closed_128 (by decide) ?_
        refine lv_istore_n (lv' := [(3, .int 0), (2, .int 0), (0, .ref (ad 0)), (1, .int (nI N_1760))]) hx hb dX12_closed_129 rfl hl (by decide) rfl (fun ls hl => ?_)
        have loop_1770 : ∀ (fu j1770 : Nat) (no1770 : Int32) (en_1770 : Nat → va_E) (ls : Array Slot) (H : Heap) (locs : List Loc), 0 ≤ j1770 → j1770 ≤ P9 → P9 < j1770 + fu → RX cy cs ad en_1770 → (∀ c, (c ≠ 6) → en_1770 c = en c) →  lv_has ls 4 [(3, .int (nI j1770)), (2, .int no1770), (0, .ref (ad 0)), (1, .int (nI N_1760))] → Hp D (Af cs ad sz) (Af cs ad sz) s.heap H locs cs ad en_1770 → W p l e (headSpec (Cond.code yX12_closed cX12_closed 4 (some .int) :: TB) (rmN 2)).room s m ([.ref (ad 0), .int (nI N_1760)] : List Value).toArray below meth c H locs 0 0 (MQ below (va_Qi (S := Nat → va_E) (fun r en1 => RX cy cs ad en1 ∧ (∀ c, (c ≠ 6) → en1 c = en c)) (PostM D cs ad) (Af cs ad sz)) ([.ref (ad 0), .int (nI N_1760)] : List Value).toArray s 0 0 (Af cs ad sz)) (F0 m 130 ls []) := by
          intro fu
          induction fu with
          | zero => intro j1770 no1770 en_1770 ls H locs h0 h1 h2; exact absurd h2 (by omega)
          | succ fu ih_1770 =>
            intro j1770 no1770 en_1770 ls H locs hj0_1770 hj_1770 hfu_1770 hI_1770 hf_1770  hl hh
            refine lv_iload_n hx hb dX12_closed_130 rfl (lv_at hl 0 rfl) ?_
            refine lv_aload_n hx hb dX12_closed_131 rfl (lv_at hl 2 rfl) ?_
            have es1759_1771 : en_1770 0 = .inr (11, [.int fa, .int hi, .int (nI wd), .int (nI mo), .int (nI tb), .ref (ad 1), .ref (ad 2), .ref (ad 3), .ref (ad 4), .ref (ad 5), .ref (ad 6), .ref (ad 7), .ref (ad 8), .ref (ad 9), .int dp, .long many, .long grt, .long lst, .long nou, .ref (ad 10), .ref (ad 11), .ref (ad 12), .int rm, .long rb, .ref (ad 13), .int (nI P9), .ref (ad 14), .ref (ad 15), .ref (ad 16), .ref (ad 17), .int (nI wo), .ref (ad 18), .ref (ad 19)]) := (hf_1770 0 (by omega)).trans es1759
            refine hp_get hx hb hts ix12 hown hK hh (q := 0) rfl (hI.1 _ (by decide)) es1759_1771 rfl 25 (by decide) (hts _ tw_904) (fun _ h9 => h9) rfl dX12_closed_132 ?_
            refine lv_icmp_ge (tgt := 167) hx hb dX12_closed_135 (by decide) (fun c_1772 => ?_) (fun c_1772 => ?_)
            · have n_1772 : P9 ≤ j1770 := n_le (a := P9) (b := j1770) c_1772 (by omega) (by omega)
              refine lv_iload_n hx hb dX12_closed_167 rfl (lv_at hl 1 rfl) ?_
              exact hp_iretM hx hb hr rfl hlocks hh (⟨hI_1770, hf_1770⟩) dX12_closed_168
            · have n_1772 : j1770 < P9 := n_nle (a := P9) (b := j1770) c_1772 (by omega) (by omega)
              refine lv_aload_n hx hb dX12_closed_138 rfl (lv_at hl 2 rfl) ?_
              refine lv_iload_n hx hb dX12_closed_139 rfl (lv_at hl 0 rfl) ?_
              refine lv_iload_n hx hb dX12_closed_140 rfl (lv_at hl 0 rfl) ?_
              refine hp_callMv (va_runV (As := [.int (nI j1770), .int (nI j1770)]) (rest := []) ⟨hx, hb, hml, hown, hts⟩ (c_X12_multiply l D cy _ cs ad en_1770 hI_1770 j1770 j1770 (by omega) (by omega)) (kw_X12_multiply hts tw_1150 ⟨by decide, by decide⟩) (preV_of hh hK (hI.1 _ (by decide)) es1759_1771 rfl) rfl rfl hl.1 rfl (lv_room (Nat.le_of_ble_eq_true rfl)) dX12_closed_141 ⟨Nat.le_of_ble_eq_true rfl, Nat.le_of_ble_eq_true rfl⟩) hh hA (fun H locs en_1773 hw_1773 hh => ?_)
              obtain ⟨hI_1773, hu_1773⟩ := hw_1773
              have es1759_1773 : en_1773 0 = .inr (11, [.int fa, .int hi, .int (nI wd), .int (nI mo), .int (nI tb), .ref (ad 1), .ref (ad 2), .ref (ad 3), .ref (ad 4), .ref (ad 5), .ref (ad 6), .ref (ad 7), .ref (ad 8), .ref (ad 9), .int dp, .long many, .long grt, .long lst, .long nou, .ref (ad 10), .ref (ad 11), .ref (ad 12), .int rm, .long rb, .ref (ad 13), .int (nI P9), .ref (ad 14), .ref (ad 15), .ref (ad 16), .ref (ad 17), .int (nI wo), .ref (ad 18), .ref (ad 19)]) := (hu_1773 0 (by omega)).trans es1759_1771
              have hf_1773 : ∀ c, (c ≠ 6) → en_1773 c = en c := fun c hc => (hu_1773 c (by omega)).trans (hf_1770 c hc)
              refine lv_iload_n hx hb dX12_closed_144 rfl (lv_at hl 1 rfl) ?_
              refine lv_aload_n hx hb dX12_closed_145 rfl (lv_at hl 2 rfl) ?_
              refine lv_iconst (v := 1) hx hb dX12_closed_146 (by decide) ?_
              refine hp_callRi (va_runV (As := [.int 1]) (rest := [.int no1770]) ⟨hx, hb, hml, hown, hts⟩ (c_X12_findAt l D cy _ cs ad en_1773 hI_1773 1 (by omega) P9 (CH_keep hCH (by rw [hf_1773 0 (by omega)]) (hf_1773 16 (by omega)) (hf_1773 17 (by omega)))) (kw_X12_findAt hts tw_1123 ⟨by decide, by decide⟩) (preV_of hh hK (hI.1 _ (by decide)) es1759_1773 rfl) rfl rfl hl.1 rfl (lv_room (Nat.le_of_ble_eq_true rfl)) dX12_closed_147 ⟨Nat.le_of_ble_eq_true rfl, Nat.le_of_ble_eq_true rfl⟩) hh hA (fun r_1774 H locs hw_1774 hh => ?_)
              refine lv_iload_n hx hb dX12_closed_150 rfl (lv_at hl 0 rfl) ?_
              refine lv_icmp_ne (tgt := 158) hx hb dX12_closed_151 (by decide) (fun c_1775 => ?_) (fun c_1775 => ?_)
              · refine lv_iconst (v := 0) hx hb dX12_closed_158 (by decide) ?_
                refine lv_iadd hx hb dX12_closed_159 ?_
                refine lv_istore_n (lv' := [(2, .int (no1770 + 0)), (3, .int (nI j1770)), (0, .ref (ad 0)), (1, .int (nI N_1760))]) hx hb dX12_closed_160 rfl hl (by decide) rfl (fun ls hl => ?_)
                refine lv_iinc (v := (nI (j1770 + 1))) (lv' := [(3, .int (nI (j1770 + 1))), (2, .int (no1770 + 0)), (0, .ref (ad 0)), (1, .int (nI N_1760))]) hx hb dX12_closed_161 hl (k := 1) rfl (nI_1 _) (by decide) rfl (fun ls hl => ?_)
                refine lv_goto (tgt := 130) hx hb dX12_closed_164 (by decide) ?_
                exact ih_1770 ((j1770 + 1)) (no1770 + 0) en_1773 ls H locs (by omega) (by omega) (by omega) hI_1773 hf_1773  (lv_sub hl [0, 1, 2, 3] rfl) hh
              · refine lv_iconst (v := 1) hx hb dX12_closed_154 (by decide) ?_
                refine lv_goto (tgt := 159) hx hb dX12_closed_155 (by decide) ?_
                refine lv_iadd hx hb dX12_closed_159 ?_
                refine lv_istore_n (lv' := [(2, .int (no1770 + 1)), (3, .int (nI j1770)), (0, .ref (ad 0)), (1, .int (nI N_1760))]) hx hb dX12_closed_160 rfl hl (by decide) rfl (fun ls hl => ?_)
                refine lv_iinc (v := (nI (j1770 + 1))) (lv' := [(3, .int (nI (j1770 + 1))), (2, .int (no1770 + 1)), (0, .ref (ad 0)), (1, .int (nI N_1760))]) hx hb dX12_closed_161 hl (k := 1) rfl (nI_1 _) (by decide) rfl (fun ls hl => ?_)
                refine lv_goto (tgt := 130) hx hb dX12_closed_164 (by decide) ?_
                exact ih_1770 ((j1770 + 1)) (no1770 + 1) en_1773 ls H locs (by omega) (by omega) (by omega) hI_1773 hf_1773  (lv_sub hl [0, 1, 2, 3] rfl) hh
        exact loop_1770 (P9 + 1) 0 0 en ls _ _ (Nat.le_refl _) (by omega) (by omega) hI hf0  (lv_sub hl [0, 1, 2, 3] rfl) hh
      refine lv_tableOut (tgt := 169) hx hb dX12_closed_30 (tb_out 4 (by decide) (by decide) (fun j hj => by rcases (show j = 0 ∨ j = 1 ∨ j = 2 ∨ j = 3 by omega) with rfl | rfl | rfl | rfl <;> first | exact lv_neT q_1763_0 (by decide) | exact lv_neT q_1763_1 (by decide) | exact lv_neT q_1763_2 (by decide) | exact lv_neT q_1763_3 (by decide))) (by decide) ?_
      refine lv_aload_n hx hb dX12_closed_169 rfl (lv_at hl 1 rfl) ?_
      refine hp_get hx hb hts ix12 hown hK hh (q := 0) rfl (hI.1 _ (by decide)) es1759 rfl 27 (by decide) (hts _ tw_906) (fun _ h9 => h9) rfl dX12_closed_170 ?_
      refine lv_aload_n hx hb dX12_closed_173 rfl (lv_at hl 1 rfl) ?_
      refine hp_get hx hb hts ix12 hown hK hh (q := 0) rfl (hI.1 _ (by decide)) es1759 rfl 25 (by decide) (hts _ tw_904) (fun _ h9 => h9) rfl dX12_closed_174 ?_
      refine lv_iconst (v := 1) hx hb dX12_closed_177 (by decide) ?_
      refine lv_isub hx hb dX12_closed_178 ?_
      rw [show (1 : Int32) = nI 1 from rfl, pk_sub (a := P9) (b := 1) (by omega)]
      obtain ⟨f_1776, es1776⟩ := getr_ln hI
      refine hp_iald hx hb hK hh (q := 15) rfl (hI.1 _ (by decide)) es1776 (vp_in_nI (n := (P9 - 1)) (by omega) (by decide)) dX12_closed_179 ?_
      rw [nI_clamp (n := (P9 - 1)) (by omega)]
      exact hp_iretM hx hb hr rfl hlocks hh (⟨hI, hf0⟩) dX12_closed_180
    · refine lv_bipush (v := (-3)) hx hb dX12_closed_24 (by decide) ?_
      exact hp_iretM hx hb hr rfl hlocks hh (⟨hI, hf0⟩) dX12_closed_26
  · obtain rfl : r_1760 = 0 := Eq.trans hw_1760 (if_neg (fun q => hp_1760 ((wj_32 (by decide) (by decide)).mp q)))
    refine lv_if_ne (tgt := 15) hx hb dX12_closed_9 (by decide) (fun c_0 => absurd c_0 (by decide)) (fun _ => ?_)
    refine lv_bipush (v := (-2)) hx hb dX12_closed_12 (by decide) ?_
    exact hp_iretM hx hb hr rfl hlocks hh (⟨hI, hf0⟩) dX12_closed_14
theorem kw_X12_closed {R : Room} {s : State} {args : Array Value} {own : String} {idx : Nat} (hts : ∀ w ∈ TB, w.before args s = true) (hl : Cond.methodLink own idx yX12_closed ∈ TB) (hR : 2 + 1 ≤ R.frames ∧ 8 + (4 + 11) + 40 * 2 ≤ R.locals) : CallW R s args own RX12 idx yX12_closed cX12_closed 4 (some .int) (Cond.code yX12_closed cX12_closed 4 (some .int) :: TB) (rmN 2) 0 0 1 := cwV 1 hts (TB_V hl tw_1138 tw_1139 tw_9 tw_1140) rfl rfl rfl (by decide +kernel) hR
set_option maxHeartbeats 4000000 in
set_option maxRecDepth 100000 in
/-- product -/
theorem c_X12_product (l : Launch) (D : va_G) (cy : Nat → ClassId) (sz : Nat) (cs : List Nat) (ad : Nat → Nat) (en : Nat → va_E) (hI : RX cy cs ad en) (k9 a9 b9 : Int32) (hCX : CHX en)   : Met l yX12_product (Cond.code yX12_product cX12_product 4 (some .long) :: TB) (rmN 2) (va_Pc [.ref (ad 0), .int k9, .int a9, .int b9] (Pre D cy cs ad en sz)) (va_Ql (S := Unit) (fun _ _ => True) (fun _ _ => True) (Nf sz)) 0 0 (Nf sz) := by
  refine Met.ofW (cc := cX12_product) (maxL := 4) (ret := (some .long)) (by decide) rfl ?_
  intro p e s m args below meth c s₁ B hml hv
  obtain ⟨rfl, hsz, hP, hK, hD0⟩ := hv
  have hx := B.exec
  have hb := B.bytes
  have hr := B.returns
  have hts : ∀ w ∈ TB, w.before _ s = true := fun w h => atoms_spec (ws := _ :: TB) B.pre w (List.mem_cons_of_mem _ h)
  have hown : s.vm.findClass RX12 = some m.cls := findClass_of_methodNamed B.named
  have hlocks := B.notSynchronized
  have hh : Hp D (Nf sz) (fun _ => True) s.heap s.heap [] cs ad en := ⟨hP, hD0, va_S.rf⟩
  have hA : ∀ q : Nat, s.heap.size ≤ q → Nf sz q := fun q h => by rw [hsz] at h; exact h
  have hl := lv_entry ([.ref (ad 0), .int k9, .int a9, .int b9]) (n := 4) (Nat.le_of_ble_eq_true rfl)
  rw [lg_entry_eq]
  generalize (lg_sl ([.ref (ad 0), .int k9, .int a9, .int b9]) ++ List.replicate (4 - (lg_sl ([.ref (ad 0), .int k9, .int a9, .int b9])).length) Slot.unset).toArray = ls at hl ⊢
  have hl : lv_has ls 4 [(0, .ref (ad 0)), (1, .int k9), (2, .int a9), (3, .int b9)] := hl
  obtain ⟨fa, hi, wd, mo, tb, dp, many, grt, lst, nou, rm, rb, pr, wo, es1777, hwd2, hwd3, hmo, htb, hwo⟩ := getr_M hI
  refine lv_aload_n hx hb dX12_product_0 rfl (lv_at hl 0 rfl) ?_
  refine lv_iload_n hx hb dX12_product_1 rfl (lv_at hl 1 rfl) ?_
  refine hp_callRi (va_runV (As := [.int k9]) (rest := []) ⟨hx, hb, hml, hown, hts⟩ (c_X12_isProduct l D cy _ cs ad en hI k9 ) (kw_X12_isProduct hts tw_1158 ⟨by decide, by decide⟩) (preV_of hh hK (hI.1 _ (by decide)) es1777 rfl) rfl rfl hl.1 rfl (lv_room (Nat.le_of_ble_eq_true rfl)) dX12_product_2 ⟨Nat.le_of_ble_eq_true rfl, Nat.le_of_ble_eq_true rfl⟩) hh hA (fun r_1778 H locs hw_1778 hh => ?_)
  rw [show rdI (en 0) 25 = pr from by rw [es1777]; rfl] at hw_1778
  rcases Decidable.em (0 ≤ k9.toInt ∧ k9.toInt < pr.toInt) with hp_1778 | hp_1778
  · obtain rfl : r_1778 = 1 := Eq.trans hw_1778 (if_pos hp_1778)
    obtain ⟨P_1778, K_1778, hPe_1778, hP_1778, hCH_1778, hKe_1778, hK_1778⟩ := CHX_lt hCX (show rdI (en 0) 25 = pr from by rw [es1777]; rfl) hp_1778
    subst hKe_1778
    refine lv_if_eq (tgt := 38) hx hb dX12_product_5 (by decide) (fun c_0 => absurd c_0 (by decide)) (fun _ => ?_)
    refine lv_aload_n hx hb dX12_product_8 rfl (lv_at hl 0 rfl) ?_
    refine lv_iload_n hx hb dX12_product_9 rfl (lv_at hl 2 rfl) ?_
    refine lv_iload_n hx hb dX12_product_10 rfl (lv_at hl 3 rfl) ?_
    refine hp_callRi (va_runV (As := [.int a9, .int b9]) (rest := []) ⟨hx, hb, hml, hown, hts⟩ (c_X12_isPlace l D cy _ cs ad en hI a9 b9 ) (kw_X12_isPlace hts tw_1011 ⟨by decide, by decide⟩) (preV_of hh hK (hI.1 _ (by decide)) es1777 rfl) rfl rfl hl.1 rfl (lv_room (Nat.le_of_ble_eq_true rfl)) dX12_product_11 ⟨Nat.le_of_ble_eq_true rfl, Nat.le_of_ble_eq_true rfl⟩) hh hA (fun r_1779 H locs hw_1779 hh => ?_)
    rw [show (rdI (en 0) 2).toInt = (wd : Int) from by rw [es1777]; exact nI_toInt (by omega)] at hw_1779
    rcases Decidable.em ((0 ≤ a9.toInt ∧ a9.toInt < (wd : Int)) ∧ 0 ≤ b9.toInt ∧ b9.toInt < (wd : Int)) with hp_1779 | hp_1779
    · obtain rfl : r_1779 = 1 := Eq.trans hw_1779 (if_pos hp_1779)
      obtain ⟨A_1779, rfl, hA_1779⟩ := has_nat hp_1779.1
      obtain ⟨B_1779, rfl, hB_1779⟩ := has_nat hp_1779.2
      refine lv_if_eq (tgt := 38) hx hb dX12_product_14 (by decide) (fun c_0 => absurd c_0 (by decide)) (fun _ => ?_)
      refine lv_aload_n hx hb dX12_product_17 rfl (lv_at hl 0 rfl) ?_
      refine hp_get hx hb hts ix12 hown hK hh (q := 0) rfl (hI.1 _ (by decide)) es1777 rfl 26 (by decide) (hts _ tw_905) (fun _ h9 => h9) rfl dX12_product_18 ?_
      refine lv_bipush (v := 9) hx hb dX12_product_21 (by decide) ?_
      refine lv_iload_n hx hb dX12_product_23 rfl (lv_at hl 1 rfl) ?_
      refine lv_imul hx hb dX12_product_24 ?_
      rw [show (9 : Int32) = nI 9 from rfl, pk_mul 9 K_1778]
      refine lv_aload_n hx hb dX12_product_25 rfl (lv_at hl 0 rfl) ?_
      refine hp_get hx hb hts ix12 hown hK hh (q := 0) rfl (hI.1 _ (by decide)) es1777 rfl 2 (by decide) (hts _ tw_881) (fun _ h9 => h9) rfl dX12_product_26 ?_
      refine lv_iload_n hx hb dX12_product_29 rfl (lv_at hl 2 rfl) ?_
      refine lv_imul hx hb dX12_product_30 ?_
      rw [pk_mul wd A_1779]
      refine lv_iadd hx hb dX12_product_31 ?_
      rw [nI_add (9 * K_1778) (wd * A_1779)]
      refine lv_iload_n hx hb dX12_product_32 rfl (lv_at hl 3 rfl) ?_
      refine lv_iadd hx hb dX12_product_33 ?_
      rw [nI_add ((9 * K_1778) + (wd * A_1779)) B_1779]
      have hi_1780 : wd * A_1779 + B_1779 < 9 := mdr (by omega) (by omega) (by omega)
      obtain ⟨f_1781, es1781⟩ := getr_pd hI
      refine hp_lald hx hb hK hh (q := 14) rfl (hI.1 _ (by decide)) es1781 (vp_in_nI (n := (((9 * K_1778) + (wd * A_1779)) + B_1779)) (by omega) (by decide)) dX12_product_34 ?_
      rw [nI_clamp (n := (((9 * K_1778) + (wd * A_1779)) + B_1779)) (by omega)]
      refine lv_goto (tgt := 41) hx hb dX12_product_35 (by decide) ?_
      exact hp_lretR hx hb hr hlocks hsz hh (trivial) dX12_product_41
    · obtain rfl : r_1779 = 0 := Eq.trans hw_1779 (if_neg hp_1779)
      refine lv_if_eq (tgt := 38) hx hb dX12_product_14 (by decide) (fun _ => ?_) (fun c_0 => absurd c_0 (by decide))
      refine lv_ldc2 hx hb hown (hts _ tw_1015) dX12_product_38 ?_
      exact hp_lretR hx hb hr hlocks hsz hh (trivial) dX12_product_41
  · obtain rfl : r_1778 = 0 := Eq.trans hw_1778 (if_neg hp_1778)
    refine lv_if_eq (tgt := 38) hx hb dX12_product_5 (by decide) (fun _ => ?_) (fun c_0 => absurd c_0 (by decide))
    refine lv_ldc2 hx hb hown (hts _ tw_1015) dX12_product_38 ?_
    exact hp_lretR hx hb hr hlocks hsz hh (trivial) dX12_product_41
theorem kw_X12_product {R : Room} {s : State} {args : Array Value} {own : String} {idx : Nat} (hts : ∀ w ∈ TB, w.before args s = true) (hl : Cond.methodLink own idx yX12_product ∈ TB) (hR : 2 + 1 ≤ R.frames ∧ 8 + (4 + 11) + 40 * 2 ≤ R.locals) : CallW R s args own RX12 idx yX12_product cX12_product 4 (some .long) (Cond.code yX12_product cX12_product 4 (some .long) :: TB) (rmN 2) 0 0 3 := cwV 3 hts (TB_V hl tw_1155 tw_1156 tw_9 tw_1157) rfl rfl rfl (by decide +kernel) hR
set_option maxHeartbeats 4000000 in
set_option maxRecDepth 100000 in
/-- times -/
theorem c_X12_times (l : Launch) (D : va_G) (cy : Nat → ClassId) (sz : Nat) (cs : List Nat) (ad : Nat → Nat) (en : Nat → va_E) (hI : RX cy cs ad en) (k9 j9 : Int32) (hCX : CHX en)   : Met l yX12_times (Cond.code yX12_times cX12_times 3 (some .int) :: TB) (rmN 2) (va_Pc [.ref (ad 0), .int k9, .int j9] (Pre D cy cs ad en sz)) (va_Qi (S := Nat → va_E) (fun r en1 => RX cy cs ad en1 ∧ (∀ c, (c ≠ 6) → en1 c = en c)) (PostM D cs ad) (Af cs ad sz)) 0 0 (Af cs ad sz) := by
  refine Met.ofW (cc := cX12_times) (maxL := 3) (ret := (some .int)) (by decide) rfl ?_
  intro p e s m args below meth c s₁ B hml hv
  obtain ⟨rfl, hsz, hP, hK, hD0⟩ := hv
  have hx := B.exec
  have hb := B.bytes
  have hr := B.returns
  have hts : ∀ w ∈ TB, w.before _ s = true := fun w h => atoms_spec (ws := _ :: TB) B.pre w (List.mem_cons_of_mem _ h)
  have hown : s.vm.findClass RX12 = some m.cls := findClass_of_methodNamed B.named
  have hlocks := B.notSynchronized
  have hh : Hp D (Af cs ad sz) (Af cs ad sz) s.heap s.heap [] cs ad en := ⟨hP, Af_self hD0, va_S.rf⟩
  have hA : ∀ q : Nat, s.heap.size ≤ q → Af cs ad sz q := fun q h => Or.inr (by rw [hsz] at h; exact h)
  have hl := lv_entry ([.ref (ad 0), .int k9, .int j9]) (n := 3) (Nat.le_of_ble_eq_true rfl)
  rw [lg_entry_eq]
  generalize (lg_sl ([.ref (ad 0), .int k9, .int j9]) ++ List.replicate (3 - (lg_sl ([.ref (ad 0), .int k9, .int j9])).length) Slot.unset).toArray = ls at hl ⊢
  have hl : lv_has ls 3 [(0, .ref (ad 0)), (1, .int k9), (2, .int j9)] := hl
  have hf0 : ∀ c, (c ≠ 6) → en c = en c := fun _ _ => rfl
  obtain ⟨fa, hi, wd, mo, tb, dp, many, grt, lst, nou, rm, rb, pr, wo, es1782, hwd2, hwd3, hmo, htb, hwo⟩ := getr_M hI
  refine lv_aload_n hx hb dX12_times_0 rfl (lv_at hl 0 rfl) ?_
  refine lv_iload_n hx hb dX12_times_1 rfl (lv_at hl 1 rfl) ?_
  refine hp_callRi (va_runV (As := [.int k9]) (rest := []) ⟨hx, hb, hml, hown, hts⟩ (c_X12_isProduct l D cy _ cs ad en hI k9 ) (kw_X12_isProduct hts tw_1158 ⟨by decide, by decide⟩) (preV_of hh hK (hI.1 _ (by decide)) es1782 rfl) rfl rfl hl.1 rfl (lv_room (Nat.le_of_ble_eq_true rfl)) dX12_times_2 ⟨Nat.le_of_ble_eq_true rfl, Nat.le_of_ble_eq_true rfl⟩) hh hA (fun r_1783 H locs hw_1783 hh => ?_)
  rw [show rdI (en 0) 25 = pr from by rw [es1782]; rfl] at hw_1783
  rcases Decidable.em (0 ≤ k9.toInt ∧ k9.toInt < pr.toInt) with hp_1783 | hp_1783
  · obtain rfl : r_1783 = 1 := Eq.trans hw_1783 (if_pos hp_1783)
    obtain ⟨P_1783, K_1783, hPe_1783, hP_1783, hCH_1783, hKe_1783, hK_1783⟩ := CHX_lt hCX (show rdI (en 0) 25 = pr from by rw [es1782]; rfl) hp_1783
    subst hKe_1783
    refine lv_if_eq (tgt := 16) hx hb dX12_times_5 (by decide) (fun c_0 => absurd c_0 (by decide)) (fun _ => ?_)
    refine lv_aload_n hx hb dX12_times_8 rfl (lv_at hl 0 rfl) ?_
    refine lv_iload_n hx hb dX12_times_9 rfl (lv_at hl 2 rfl) ?_
    refine hp_callRi (va_runV (As := [.int j9]) (rest := []) ⟨hx, hb, hml, hown, hts⟩ (c_X12_isProduct l D cy _ cs ad en hI j9 ) (kw_X12_isProduct hts tw_1158 ⟨by decide, by decide⟩) (preV_of hh hK (hI.1 _ (by decide)) es1782 rfl) rfl rfl hl.1 rfl (lv_room (Nat.le_of_ble_eq_true rfl)) dX12_times_10 ⟨Nat.le_of_ble_eq_true rfl, Nat.le_of_ble_eq_true rfl⟩) hh hA (fun r_1784 H locs hw_1784 hh => ?_)
    rw [show rdI (en 0) 25 = pr from by rw [es1782]; rfl] at hw_1784
    rcases Decidable.em (0 ≤ j9.toInt ∧ j9.toInt < pr.toInt) with hp_1784 | hp_1784
    · obtain rfl : r_1784 = 1 := Eq.trans hw_1784 (if_pos hp_1784)
      obtain ⟨P_1784, K_1784, hPe_1784, hP_1784, hCH_1784, hKe_1784, hK_1784⟩ := CHX_lt hCX (show rdI (en 0) 25 = pr from by rw [es1782]; rfl) hp_1784
      subst hKe_1784
      refine lv_if_ne (tgt := 18) hx hb dX12_times_13 (by decide) (fun _ => ?_) (fun c_0 => absurd c_0 (by decide))
      refine lv_aload_n hx hb dX12_times_18 rfl (lv_at hl 0 rfl) ?_
      refine lv_iload_n hx hb dX12_times_19 rfl (lv_at hl 1 rfl) ?_
      refine lv_iload_n hx hb dX12_times_20 rfl (lv_at hl 2 rfl) ?_
      refine hp_callMv (va_runV (As := [.int (nI K_1783), .int (nI K_1784)]) (rest := []) ⟨hx, hb, hml, hown, hts⟩ (c_X12_multiply l D cy _ cs ad en hI K_1783 K_1784 (by omega) (by omega)) (kw_X12_multiply hts tw_1150 ⟨by decide, by decide⟩) (preV_of hh hK (hI.1 _ (by decide)) es1782 rfl) rfl rfl hl.1 rfl (lv_room (Nat.le_of_ble_eq_true rfl)) dX12_times_21 ⟨Nat.le_of_ble_eq_true rfl, Nat.le_of_ble_eq_true rfl⟩) hh hA (fun H locs en_1785 hw_1785 hh => ?_)
      obtain ⟨hI_1785, hu_1785⟩ := hw_1785
      have es1782_1785 : en_1785 0 = .inr (11, [.int fa, .int hi, .int (nI wd), .int (nI mo), .int (nI tb), .ref (ad 1), .ref (ad 2), .ref (ad 3), .ref (ad 4), .ref (ad 5), .ref (ad 6), .ref (ad 7), .ref (ad 8), .ref (ad 9), .int dp, .long many, .long grt, .long lst, .long nou, .ref (ad 10), .ref (ad 11), .ref (ad 12), .int rm, .long rb, .ref (ad 13), .int pr, .ref (ad 14), .ref (ad 15), .ref (ad 16), .ref (ad 17), .int (nI wo), .ref (ad 18), .ref (ad 19)]) := (hu_1785 0 (by omega)).trans es1782
      have hf_1785 : ∀ c, (c ≠ 6) → en_1785 c = en c := fun c hc => (hu_1785 c (by omega)).trans (hf0 c hc)
      refine lv_aload_n hx hb dX12_times_24 rfl (lv_at hl 0 rfl) ?_
      refine lv_iconst (v := 1) hx hb dX12_times_25 (by decide) ?_
      refine hp_callRi (va_runV (As := [.int 1]) (rest := []) ⟨hx, hb, hml, hown, hts⟩ (c_X12_findAt l D cy _ cs ad en_1785 hI_1785 1 (by omega) P_1784 (CH_keep hCH_1784 (by rw [hf_1785 0 (by omega)]) (hf_1785 16 (by omega)) (hf_1785 17 (by omega)))) (kw_X12_findAt hts tw_1123 ⟨by decide, by decide⟩) (preV_of hh hK (hI.1 _ (by decide)) es1782_1785 rfl) rfl rfl hl.1 rfl (lv_room (Nat.le_of_ble_eq_true rfl)) dX12_times_26 ⟨Nat.le_of_ble_eq_true rfl, Nat.le_of_ble_eq_true rfl⟩) hh hA (fun r_1786 H locs hw_1786 hh => ?_)
      exact hp_iretM hx hb hr rfl hlocks hh (⟨hI_1785, hf_1785⟩) dX12_times_29
    · obtain rfl : r_1784 = 0 := Eq.trans hw_1784 (if_neg hp_1784)
      refine lv_if_ne (tgt := 18) hx hb dX12_times_13 (by decide) (fun c_0 => absurd c_0 (by decide)) (fun _ => ?_)
      refine lv_iconst (v := (-1)) hx hb dX12_times_16 (by decide) ?_
      exact hp_iretM hx hb hr rfl hlocks hh (⟨hI, hf0⟩) dX12_times_17
  · obtain rfl : r_1783 = 0 := Eq.trans hw_1783 (if_neg hp_1783)
    refine lv_if_eq (tgt := 16) hx hb dX12_times_5 (by decide) (fun _ => ?_) (fun c_0 => absurd c_0 (by decide))
    refine lv_iconst (v := (-1)) hx hb dX12_times_16 (by decide) ?_
    exact hp_iretM hx hb hr rfl hlocks hh (⟨hI, hf0⟩) dX12_times_17
theorem kw_X12_times {R : Room} {s : State} {args : Array Value} {own : String} {idx : Nat} (hts : ∀ w ∈ TB, w.before args s = true) (hl : Cond.methodLink own idx yX12_times ∈ TB) (hR : 2 + 1 ≤ R.frames ∧ 8 + (3 + 11) + 40 * 2 ≤ R.locals) : CallW R s args own RX12 idx yX12_times cX12_times 3 (some .int) (Cond.code yX12_times cX12_times 3 (some .int) :: TB) (rmN 2) 0 0 2 := cwV 2 hts (TB_V hl tw_1163 tw_1164 tw_9 tw_1165) rfl rfl rfl (by decide +kernel) hR
set_option maxHeartbeats 4000000 in
set_option maxRecDepth 100000 in
/-- multiplyOut -/
theorem c_X12_multiplyOut (l : Launch) (D : va_G) (cy : Nat → ClassId) (sz : Nat) (cs : List Nat) (ad : Nat → Nat) (en : Nat → va_E) (hI : RX cy cs ad en) (w9 : Nat) (hw9 : w9 < 10)   : Met l yX12_multiplyOut (Cond.code yX12_multiplyOut cX12_multiplyOut 3 none :: TB) (rmN 2) (va_Pc [.ref (ad 0), .int (nI w9)] (Pre D cy cs ad en sz)) (va_Qv (S := Nat → va_E) (fun en1 => RX cy cs ad en1 ∧ (∀ c, (c ≠ 6) → en1 c = en c)) (PostM D cs ad) (Af cs ad sz)) 0 0 (Af cs ad sz) := by
  refine Met.ofW (cc := cX12_multiplyOut) (maxL := 3) (ret := none) (by decide) rfl ?_
  intro p e s m args below meth c s₁ B hml hv
  obtain ⟨rfl, hsz, hP, hK, hD0⟩ := hv
  have hx := B.exec
  have hb := B.bytes
  have hr := B.returns
  have hts : ∀ w ∈ TB, w.before _ s = true := fun w h => atoms_spec (ws := _ :: TB) B.pre w (List.mem_cons_of_mem _ h)
  have hown : s.vm.findClass RX12 = some m.cls := findClass_of_methodNamed B.named
  have hlocks := B.notSynchronized
  have hh : Hp D (Af cs ad sz) (Af cs ad sz) s.heap s.heap [] cs ad en := ⟨hP, Af_self hD0, va_S.rf⟩
  have hA : ∀ q : Nat, s.heap.size ≤ q → Af cs ad sz q := fun q h => Or.inr (by rw [hsz] at h; exact h)
  have hl := lv_entry ([.ref (ad 0), .int (nI w9)]) (n := 3) (Nat.le_of_ble_eq_true rfl)
  rw [lg_entry_eq]
  generalize (lg_sl ([.ref (ad 0), .int (nI w9)]) ++ List.replicate (3 - (lg_sl ([.ref (ad 0), .int (nI w9)])).length) Slot.unset).toArray = ls at hl ⊢
  have hl : lv_has ls 3 [(0, .ref (ad 0)), (1, .int (nI w9))] := hl
  have hf0 : ∀ c, (c ≠ 6) → en c = en c := fun _ _ => rfl
  obtain ⟨fa, hi, wd, mo, tb, dp, many, grt, lst, nou, rm, rb, pr, wo, es1787, hwd2, hwd3, hmo, htb, hwo⟩ := getr_M hI
  obtain ⟨f_1788, es1788, p0_1788⟩ := getr_lt hI
  obtain ⟨f_1789, es1789, p0_1789⟩ := getr_wl hI
  refine lv_aload_n hx hb dX12_multiplyOut_0 rfl (lv_at hl 0 rfl) ?_
  refine hp_callMv (va_runV (As := []) (rest := []) ⟨hx, hb, hml, hown, hts⟩ (c_X12_beginLevels l D cy _ cs ad en hI  ) (kw_X12_beginLevels hts tw_1042 ⟨by decide, by decide⟩) (preV_of hh hK (hI.1 _ (by decide)) es1787 rfl) rfl rfl hl.1 rfl (lv_room (Nat.le_of_ble_eq_true rfl)) dX12_multiplyOut_1 ⟨Nat.le_of_ble_eq_true rfl, Nat.le_of_ble_eq_true rfl⟩) hh hA (fun H locs en_1790 hw_1790 hh => ?_)
  obtain ⟨hI_1790, hu_1790⟩ := hw_1790
  have es1787_1790 : en_1790 0 = .inr (11, [.int fa, .int hi, .int (nI wd), .int (nI mo), .int (nI tb), .ref (ad 1), .ref (ad 2), .ref (ad 3), .ref (ad 4), .ref (ad 5), .ref (ad 6), .ref (ad 7), .ref (ad 8), .ref (ad 9), .int dp, .long many, .long grt, .long lst, .long nou, .ref (ad 10), .ref (ad 11), .ref (ad 12), .int rm, .long rb, .ref (ad 13), .int pr, .ref (ad 14), .ref (ad 15), .ref (ad 16), .ref (ad 17), .int (nI wo), .ref (ad 18), .ref (ad 19)]) := (hu_1790 0 (by omega)).trans es1787
  have es1788_1790 : en_1790 18 = .inl (cy 0, 120, .inl f_1788) := (hu_1790 18 (by omega)).trans es1788
  have es1789_1790 : en_1790 19 = .inl (cy 0, 10, .inl f_1789) := (hu_1790 19 (by omega)).trans es1789
  have hf_1790 : ∀ c, (c ≠ 6) → en_1790 c = en c := fun c hc => (hu_1790 c (by omega)).trans (hf0 c hc)
  refine lv_iconst (v := 0) hx hb dX12_multiplyOut_4 (by decide) ?_
  refine lv_istore_n (lv' := [(2, .int 0), (0, .ref (ad 0)), (1, .int (nI w9))]) hx hb dX12_multiplyOut_5 rfl hl (by decide) rfl (fun ls hl => ?_)
  have loop_1791 : ∀ (fu j1791 : Nat)  (en_1791 : Nat → va_E) (ls : Array Slot) (H : Heap) (locs : List Loc), 0 ≤ j1791 → j1791 ≤ 12 → 12 < j1791 + fu → RX cy cs ad en_1791 → (∀ c, (c ≠ 6) → en_1791 c = en c) →  lv_has ls 3 [(2, .int (nI j1791)), (0, .ref (ad 0)), (1, .int (nI w9))] → Hp D (Af cs ad sz) (Af cs ad sz) s.heap H locs cs ad en_1791 → W p l e (headSpec (Cond.code yX12_multiplyOut cX12_multiplyOut 3 none :: TB) (rmN 2)).room s m ([.ref (ad 0), .int (nI w9)] : List Value).toArray below meth c H locs 0 0 (MQ below (va_Qv (S := Nat → va_E) (fun en1 => RX cy cs ad en1 ∧ (∀ c, (c ≠ 6) → en1 c = en c)) (PostM D cs ad) (Af cs ad sz)) ([.ref (ad 0), .int (nI w9)] : List Value).toArray s 0 0 (Af cs ad sz)) (F0 m 6 ls []) := by
    intro fu
    induction fu with
    | zero => intro j1791  en_1791 ls H locs h0 h1 h2; exact absurd h2 (by omega)
    | succ fu ih_1791 =>
      intro j1791  en_1791 ls H locs hj0_1791 hj_1791 hfu_1791 hI_1791 hf_1791  hl hh
      refine lv_iload_n hx hb dX12_multiplyOut_6 rfl (lv_at hl 0 rfl) ?_
      refine lv_aload_n hx hb dX12_multiplyOut_7 rfl (lv_at hl 1 rfl) ?_
      have es1787_1792 : en_1791 0 = .inr (11, [.int fa, .int hi, .int (nI wd), .int (nI mo), .int (nI tb), .ref (ad 1), .ref (ad 2), .ref (ad 3), .ref (ad 4), .ref (ad 5), .ref (ad 6), .ref (ad 7), .ref (ad 8), .ref (ad 9), .int dp, .long many, .long grt, .long lst, .long nou, .ref (ad 10), .ref (ad 11), .ref (ad 12), .int rm, .long rb, .ref (ad 13), .int pr, .ref (ad 14), .ref (ad 15), .ref (ad 16), .ref (ad 17), .int (nI wo), .ref (ad 18), .ref (ad 19)]) := (hf_1791 0 (by omega)).trans es1787
      refine hp_get hx hb hts ix12 hown hK hh (q := 0) rfl (hI.1 _ (by decide)) es1787_1792 rfl 32 (by decide) (hts _ tw_911) (fun _ h9 => h9) rfl dX12_multiplyOut_8 ?_
      refine lv_iload_n hx hb dX12_multiplyOut_11 rfl (lv_at hl 2 rfl) ?_
      have es1789_1793 : en_1791 19 = .inl (cy 0, 10, .inl f_1789) := (hf_1791 19 (by omega)).trans es1789
      refine hp_iald hx hb hK hh (q := 19) rfl (hI.1 _ (by decide)) es1789_1793 (vp_in_nI (n := w9) (by omega) (by decide)) dX12_multiplyOut_12 ?_
      rw [nI_clamp (n := w9) (by omega)]
      obtain ⟨v_1794, hv_1794, hfv_1794⟩ := p0_1789 w9 (by omega)
      rw [hfv_1794]
      refine lv_icmp_ge (tgt := 38) hx hb dX12_multiplyOut_13 (by decide) (fun c_1795 => ?_) (fun c_1795 => ?_)
      · have n_1795 : v_1794 ≤ j1791 := n_le (a := v_1794) (b := j1791) c_1795 (by omega) (by omega)
        exact hp_vretM hx hb hr hlocks hh (⟨hI_1791, hf_1791⟩) dX12_multiplyOut_38
      · have n_1795 : j1791 < v_1794 := n_nle (a := v_1794) (b := j1791) c_1795 (by omega) (by omega)
        refine lv_aload_n hx hb dX12_multiplyOut_16 rfl (lv_at hl 1 rfl) ?_
        refine lv_iload_n hx hb dX12_multiplyOut_17 rfl (lv_at hl 0 rfl) ?_
        refine lv_aload_n hx hb dX12_multiplyOut_18 rfl (lv_at hl 1 rfl) ?_
        refine hp_get hx hb hts ix12 hown hK hh (q := 0) rfl (hI.1 _ (by decide)) es1787_1792 rfl 31 (by decide) (hts _ tw_910) (fun _ h9 => h9) rfl dX12_multiplyOut_19 ?_
        refine lv_bipush (v := 12) hx hb dX12_multiplyOut_22 (by decide) ?_
        refine lv_iload_n hx hb dX12_multiplyOut_24 rfl (lv_at hl 2 rfl) ?_
        refine lv_imul hx hb dX12_multiplyOut_25 ?_
        rw [show (12 : Int32) = nI 12 from rfl, pk_mul 12 w9]
        refine lv_iload_n hx hb dX12_multiplyOut_26 rfl (lv_at hl 0 rfl) ?_
        refine lv_iadd hx hb dX12_multiplyOut_27 ?_
        rw [nI_add (12 * w9) j1791]
        have es1788_1796 : en_1791 18 = .inl (cy 0, 120, .inl f_1788) := (hf_1791 18 (by omega)).trans es1788
        refine hp_iald hx hb hK hh (q := 18) rfl (hI.1 _ (by decide)) es1788_1796 (vp_in_nI (n := ((12 * w9) + j1791)) (by omega) (by decide)) dX12_multiplyOut_28 ?_
        rw [nI_clamp (n := ((12 * w9) + j1791)) (by omega)]
        obtain ⟨v_1797, hv_1797, hfv_1797⟩ := p0_1788 ((12 * w9) + j1791) (by omega)
        rw [hfv_1797]
        refine hp_callMv (va_runV (As := [.int (nI j1791), .int (nI v_1797)]) (rest := []) ⟨hx, hb, hml, hown, hts⟩ (c_X12_goOn l D cy _ cs ad en_1791 hI_1791 j1791 v_1797 (by omega) (by omega)) (kw_X12_goOn hts tw_1050 ⟨by decide, by decide⟩) (preV_of hh hK (hI.1 _ (by decide)) es1787_1792 rfl) rfl rfl hl.1 rfl (lv_room (Nat.le_of_ble_eq_true rfl)) dX12_multiplyOut_29 ⟨Nat.le_of_ble_eq_true rfl, Nat.le_of_ble_eq_true rfl⟩) hh hA (fun H locs en_1798 hw_1798 hh => ?_)
        obtain ⟨hI_1798, hu_1798⟩ := hw_1798
        have es1787_1798 : en_1798 0 = .inr (11, [.int fa, .int hi, .int (nI wd), .int (nI mo), .int (nI tb), .ref (ad 1), .ref (ad 2), .ref (ad 3), .ref (ad 4), .ref (ad 5), .ref (ad 6), .ref (ad 7), .ref (ad 8), .ref (ad 9), .int dp, .long many, .long grt, .long lst, .long nou, .ref (ad 10), .ref (ad 11), .ref (ad 12), .int rm, .long rb, .ref (ad 13), .int pr, .ref (ad 14), .ref (ad 15), .ref (ad 16), .ref (ad 17), .int (nI wo), .ref (ad 18), .ref (ad 19)]) := (hu_1798 0 (by omega)).trans es1787_1792
        have es1789_1798 : en_1798 19 = .inl (cy 0, 10, .inl f_1789) := (hu_1798 19 (by omega)).trans es1789_1793
        have es1788_1798 : en_1798 18 = .inl (cy 0, 120, .inl f_1788) := (hu_1798 18 (by omega)).trans es1788_1796
        have hf_1798 : ∀ c, (c ≠ 6) → en_1798 c = en c := fun c hc => (hu_1798 c (by omega)).trans (hf_1791 c hc)
        refine lv_iinc (v := (nI (j1791 + 1))) (lv' := [(2, .int (nI (j1791 + 1))), (0, .ref (ad 0)), (1, .int (nI w9))]) hx hb dX12_multiplyOut_32 hl (k := 0) rfl (nI_1 _) (by decide) rfl (fun ls hl => ?_)
        refine lv_goto (tgt := 6) hx hb dX12_multiplyOut_35 (by decide) ?_
        exact ih_1791 ((j1791 + 1))  en_1798 ls H locs (by omega) (by omega) (by omega) hI_1798 hf_1798  (lv_sub hl [0, 1, 2] rfl) hh
  exact loop_1791 (12 + 1) 0  en_1790 ls _ _ (Nat.le_refl _) (by omega) (by omega) hI_1790 hf_1790  (lv_sub hl [0, 1, 2] rfl) hh
theorem kw_X12_multiplyOut {R : Room} {s : State} {args : Array Value} {own : String} {idx : Nat} (hts : ∀ w ∈ TB, w.before args s = true) (hl : Cond.methodLink own idx yX12_multiplyOut ∈ TB) (hR : 2 + 1 ≤ R.frames ∧ 8 + (3 + 11) + 40 * 2 ≤ R.locals) : CallW R s args own RX12 idx yX12_multiplyOut cX12_multiplyOut 3 none (Cond.code yX12_multiplyOut cX12_multiplyOut 3 none :: TB) (rmN 2) 0 0 1 := cwV 1 hts (TB_V hl tw_1193 ts_59 tw_9 tw_1194) rfl rfl rfl (by decide +kernel) hR
set_option maxHeartbeats 4000000 in
set_option maxRecDepth 100000 in
/-- entryOf -/
theorem c_X12_entryOf (l : Launch) (D : va_G) (cy : Nat → ClassId) (sz : Nat) (cs : List Nat) (ad : Nat → Nat) (en : Nat → va_E) (hI : RX cy cs ad en) (w9 a9 b9 : Int32)   : Met l yX12_entryOf (Cond.code yX12_entryOf cX12_entryOf 4 (some .long) :: TB) (rmN 3) (va_Pc [.ref (ad 0), .int w9, .int a9, .int b9] (Pre D cy cs ad en sz)) (va_Ql (S := Nat → va_E) (fun r en1 => RX cy cs ad en1 ∧ (∀ c, (c ≠ 6) → en1 c = en c)) (PostM D cs ad) (Af cs ad sz)) 0 0 (Af cs ad sz) := by
  refine Met.ofW (cc := cX12_entryOf) (maxL := 4) (ret := (some .long)) (by decide) rfl ?_
  intro p e s m args below meth c s₁ B hml hv
  obtain ⟨rfl, hsz, hP, hK, hD0⟩ := hv
  have hx := B.exec
  have hb := B.bytes
  have hr := B.returns
  have hts : ∀ w ∈ TB, w.before _ s = true := fun w h => atoms_spec (ws := _ :: TB) B.pre w (List.mem_cons_of_mem _ h)
  have hown : s.vm.findClass RX12 = some m.cls := findClass_of_methodNamed B.named
  have hlocks := B.notSynchronized
  have hh : Hp D (Af cs ad sz) (Af cs ad sz) s.heap s.heap [] cs ad en := ⟨hP, Af_self hD0, va_S.rf⟩
  have hA : ∀ q : Nat, s.heap.size ≤ q → Af cs ad sz q := fun q h => Or.inr (by rw [hsz] at h; exact h)
  have hl := lv_entry ([.ref (ad 0), .int w9, .int a9, .int b9]) (n := 4) (Nat.le_of_ble_eq_true rfl)
  rw [lg_entry_eq]
  generalize (lg_sl ([.ref (ad 0), .int w9, .int a9, .int b9]) ++ List.replicate (4 - (lg_sl ([.ref (ad 0), .int w9, .int a9, .int b9])).length) Slot.unset).toArray = ls at hl ⊢
  have hl : lv_has ls 4 [(0, .ref (ad 0)), (1, .int w9), (2, .int a9), (3, .int b9)] := hl
  have hf0 : ∀ c, (c ≠ 6) → en c = en c := fun _ _ => rfl
  obtain ⟨fa, hi, wd, mo, tb, dp, many, grt, lst, nou, rm, rb, pr, wo, es1799, hwd2, hwd3, hmo, htb, hwo⟩ := getr_M hI
  obtain ⟨f_1800, es1800, p0_1800⟩ := getr_wl hI
  refine lv_aload_n hx hb dX12_entryOf_0 rfl (lv_at hl 0 rfl) ?_
  refine lv_iload_n hx hb dX12_entryOf_1 rfl (lv_at hl 1 rfl) ?_
  refine hp_callRi (va_runV (As := [.int w9]) (rest := []) ⟨hx, hb, hml, hown, hts⟩ (c_X12_isWord l D cy _ cs ad en hI w9 ) (kw_X12_isWord hts tw_1175 ⟨by decide, by decide⟩) (preV_of hh hK (hI.1 _ (by decide)) es1799 rfl) rfl rfl hl.1 rfl (lv_room (Nat.le_of_ble_eq_true rfl)) dX12_entryOf_2 ⟨Nat.le_of_ble_eq_true rfl, Nat.le_of_ble_eq_true rfl⟩) hh hA (fun r_1801 H locs hw_1801 hh => ?_)
  rw [show rdI (en 0) 30 = (nI wo) from by rw [es1799]; rfl, nI_toInt (n := wo) (by omega)] at hw_1801
  rcases Decidable.em (0 ≤ w9.toInt ∧ w9.toInt < (wo : Int)) with hp_1801 | hp_1801
  · obtain rfl : r_1801 = 1 := Eq.trans hw_1801 (if_pos hp_1801)
    obtain ⟨T_1801, rfl, hT_1801⟩ := has_nat hp_1801
    refine lv_if_eq (tgt := 17) hx hb dX12_entryOf_5 (by decide) (fun c_0 => absurd c_0 (by decide)) (fun _ => ?_)
    refine lv_aload_n hx hb dX12_entryOf_8 rfl (lv_at hl 0 rfl) ?_
    refine lv_iload_n hx hb dX12_entryOf_9 rfl (lv_at hl 2 rfl) ?_
    refine lv_iload_n hx hb dX12_entryOf_10 rfl (lv_at hl 3 rfl) ?_
    refine hp_callRi (va_runV (As := [.int a9, .int b9]) (rest := []) ⟨hx, hb, hml, hown, hts⟩ (c_X12_isPlace l D cy _ cs ad en hI a9 b9 ) (kw_X12_isPlace hts tw_1011 ⟨by decide, by decide⟩) (preV_of hh hK (hI.1 _ (by decide)) es1799 rfl) rfl rfl hl.1 rfl (lv_room (Nat.le_of_ble_eq_true rfl)) dX12_entryOf_11 ⟨Nat.le_of_ble_eq_true rfl, Nat.le_of_ble_eq_true rfl⟩) hh hA (fun r_1802 H locs hw_1802 hh => ?_)
    rw [show (rdI (en 0) 2).toInt = (wd : Int) from by rw [es1799]; exact nI_toInt (by omega)] at hw_1802
    rcases Decidable.em ((0 ≤ a9.toInt ∧ a9.toInt < (wd : Int)) ∧ 0 ≤ b9.toInt ∧ b9.toInt < (wd : Int)) with hp_1802 | hp_1802
    · obtain rfl : r_1802 = 1 := Eq.trans hw_1802 (if_pos hp_1802)
      obtain ⟨A_1802, rfl, hA_1802⟩ := has_nat hp_1802.1
      obtain ⟨B_1802, rfl, hB_1802⟩ := has_nat hp_1802.2
      refine lv_if_ne (tgt := 21) hx hb dX12_entryOf_14 (by decide) (fun _ => ?_) (fun c_0 => absurd c_0 (by decide))
      refine lv_aload_n hx hb dX12_entryOf_21 rfl (lv_at hl 0 rfl) ?_
      refine lv_iload_n hx hb dX12_entryOf_22 rfl (lv_at hl 1 rfl) ?_
      refine hp_callMv (va_runV (As := [.int (nI T_1801)]) (rest := []) ⟨hx, hb, hml, hown, hts⟩ (c_X12_multiplyOut l D cy _ cs ad en hI T_1801 (by omega)) (kw_X12_multiplyOut hts tw_1191 ⟨by decide, by decide⟩) (preV_of hh hK (hI.1 _ (by decide)) es1799 rfl) rfl rfl hl.1 rfl (lv_room (Nat.le_of_ble_eq_true rfl)) dX12_entryOf_23 ⟨Nat.le_of_ble_eq_true rfl, Nat.le_of_ble_eq_true rfl⟩) hh hA (fun H locs en_1803 hw_1803 hh => ?_)
      obtain ⟨hI_1803, hu_1803⟩ := hw_1803
      have es1799_1803 : en_1803 0 = .inr (11, [.int fa, .int hi, .int (nI wd), .int (nI mo), .int (nI tb), .ref (ad 1), .ref (ad 2), .ref (ad 3), .ref (ad 4), .ref (ad 5), .ref (ad 6), .ref (ad 7), .ref (ad 8), .ref (ad 9), .int dp, .long many, .long grt, .long lst, .long nou, .ref (ad 10), .ref (ad 11), .ref (ad 12), .int rm, .long rb, .ref (ad 13), .int pr, .ref (ad 14), .ref (ad 15), .ref (ad 16), .ref (ad 17), .int (nI wo), .ref (ad 18), .ref (ad 19)]) := (hu_1803 0 (by omega)).trans es1799
      have es1800_1803 : en_1803 19 = .inl (cy 0, 10, .inl f_1800) := (hu_1803 19 (by omega)).trans es1800
      have hf_1803 : ∀ c, (c ≠ 6) → en_1803 c = en c := fun c hc => (hu_1803 c (by omega)).trans (hf0 c hc)
      refine lv_aload_n hx hb dX12_entryOf_26 rfl (lv_at hl 0 rfl) ?_
      refine hp_get hx hb hts ix12 hown hK hh (q := 0) rfl (hI.1 _ (by decide)) es1799_1803 rfl 10 (by decide) (hts _ tw_889) (fun _ h9 => h9) rfl dX12_entryOf_27 ?_
      refine lv_bipush (v := 9) hx hb dX12_entryOf_30 (by decide) ?_
      refine lv_aload_n hx hb dX12_entryOf_32 rfl (lv_at hl 0 rfl) ?_
      refine hp_get hx hb hts ix12 hown hK hh (q := 0) rfl (hI.1 _ (by decide)) es1799_1803 rfl 32 (by decide) (hts _ tw_911) (fun _ h9 => h9) rfl dX12_entryOf_33 ?_
      refine lv_iload_n hx hb dX12_entryOf_36 rfl (lv_at hl 1 rfl) ?_
      refine hp_iald hx hb hK hh (q := 19) rfl (hI.1 _ (by decide)) es1800_1803 (vp_in_nI (n := T_1801) (by omega) (by decide)) dX12_entryOf_37 ?_
      rw [nI_clamp (n := T_1801) (by omega)]
      obtain ⟨v_1804, hv_1804, hfv_1804⟩ := p0_1800 T_1801 (by omega)
      rw [hfv_1804]
      refine lv_imul hx hb dX12_entryOf_38 ?_
      rw [show (9 : Int32) = nI 9 from rfl, pk_mul 9 v_1804]
      refine lv_aload_n hx hb dX12_entryOf_39 rfl (lv_at hl 0 rfl) ?_
      refine hp_get hx hb hts ix12 hown hK hh (q := 0) rfl (hI.1 _ (by decide)) es1799_1803 rfl 2 (by decide) (hts _ tw_881) (fun _ h9 => h9) rfl dX12_entryOf_40 ?_
      refine lv_iload_n hx hb dX12_entryOf_43 rfl (lv_at hl 2 rfl) ?_
      refine lv_imul hx hb dX12_entryOf_44 ?_
      rw [pk_mul wd A_1802]
      refine lv_iadd hx hb dX12_entryOf_45 ?_
      rw [nI_add (9 * v_1804) (wd * A_1802)]
      refine lv_iload_n hx hb dX12_entryOf_46 rfl (lv_at hl 3 rfl) ?_
      refine lv_iadd hx hb dX12_entryOf_47 ?_
      rw [nI_add ((9 * v_1804) + (wd * A_1802)) B_1802]
      have hi_1805 : wd * A_1802 + B_1802 < 9 := mdr (by omega) (by omega) (by omega)
      obtain ⟨f_1806, es1806⟩ := getr_lv hI_1803
      refine hp_lald hx hb hK hh (q := 6) rfl (hI.1 _ (by decide)) es1806 (vp_in_nI (n := (((9 * v_1804) + (wd * A_1802)) + B_1802)) (by omega) (by decide)) dX12_entryOf_48 ?_
      rw [nI_clamp (n := (((9 * v_1804) + (wd * A_1802)) + B_1802)) (by omega)]
      exact hp_lretM hx hb hr hlocks hh (⟨hI_1803, hf_1803⟩) dX12_entryOf_49
    · obtain rfl : r_1802 = 0 := Eq.trans hw_1802 (if_neg hp_1802)
      refine lv_if_ne (tgt := 21) hx hb dX12_entryOf_14 (by decide) (fun c_0 => absurd c_0 (by decide)) (fun _ => ?_)
      refine lv_ldc2 hx hb hown (hts _ tw_1015) dX12_entryOf_17 ?_
      exact hp_lretM hx hb hr hlocks hh (⟨hI, hf0⟩) dX12_entryOf_20
  · obtain rfl : r_1801 = 0 := Eq.trans hw_1801 (if_neg hp_1801)
    refine lv_if_eq (tgt := 17) hx hb dX12_entryOf_5 (by decide) (fun _ => ?_) (fun c_0 => absurd c_0 (by decide))
    refine lv_ldc2 hx hb hown (hts _ tw_1015) dX12_entryOf_17 ?_
    exact hp_lretM hx hb hr hlocks hh (⟨hI, hf0⟩) dX12_entryOf_20
theorem kw_X12_entryOf {R : Room} {s : State} {args : Array Value} {own : String} {idx : Nat} (hts : ∀ w ∈ TB, w.before args s = true) (hl : Cond.methodLink own idx yX12_entryOf ∈ TB) (hR : 3 + 1 ≤ R.frames ∧ 8 + (4 + 11) + 40 * 3 ≤ R.locals) : CallW R s args own RX12 idx yX12_entryOf cX12_entryOf 4 (some .long) (Cond.code yX12_entryOf cX12_entryOf 4 (some .long) :: TB) (rmN 3) 0 0 3 := cwV 3 hts (TB_V hl tw_1188 tw_1189 tw_9 tw_1190) rfl rfl rfl (by decide +kernel) hR
set_option maxHeartbeats 4000000 in
set_option maxRecDepth 100000 in
/-- size -/
theorem c_X12_size (l : Launch) (D : va_G) (cy : Nat → ClassId) (sz : Nat) (cs : List Nat) (ad : Nat → Nat) (en : Nat → va_E) (hI : RX cy cs ad en) (w9 z9 : Int32)   : Met l yX12_size (Cond.code yX12_size cX12_size 3 (some .long) :: TB) (rmN 3) (va_Pc [.ref (ad 0), .int w9, .int z9] (Pre D cy cs ad en sz)) (va_Ql (S := Nat → va_E) (fun r en1 => RX cy cs ad en1 ∧ (∀ c, (c ≠ 6) → en1 c = en c)) (PostM D cs ad) (Af cs ad sz)) 0 0 (Af cs ad sz) := by
  refine Met.ofW (cc := cX12_size) (maxL := 3) (ret := (some .long)) (by decide) rfl ?_
  intro p e s m args below meth c s₁ B hml hv
  obtain ⟨rfl, hsz, hP, hK, hD0⟩ := hv
  have hx := B.exec
  have hb := B.bytes
  have hr := B.returns
  have hts : ∀ w ∈ TB, w.before _ s = true := fun w h => atoms_spec (ws := _ :: TB) B.pre w (List.mem_cons_of_mem _ h)
  have hown : s.vm.findClass RX12 = some m.cls := findClass_of_methodNamed B.named
  have hlocks := B.notSynchronized
  have hh : Hp D (Af cs ad sz) (Af cs ad sz) s.heap s.heap [] cs ad en := ⟨hP, Af_self hD0, va_S.rf⟩
  have hA : ∀ q : Nat, s.heap.size ≤ q → Af cs ad sz q := fun q h => Or.inr (by rw [hsz] at h; exact h)
  have hl := lv_entry ([.ref (ad 0), .int w9, .int z9]) (n := 3) (Nat.le_of_ble_eq_true rfl)
  rw [lg_entry_eq]
  generalize (lg_sl ([.ref (ad 0), .int w9, .int z9]) ++ List.replicate (3 - (lg_sl ([.ref (ad 0), .int w9, .int z9])).length) Slot.unset).toArray = ls at hl ⊢
  have hl : lv_has ls 3 [(0, .ref (ad 0)), (1, .int w9), (2, .int z9)] := hl
  have hf0 : ∀ c, (c ≠ 6) → en c = en c := fun _ _ => rfl
  obtain ⟨fa, hi, wd, mo, tb, dp, many, grt, lst, nou, rm, rb, pr, wo, es1807, hwd2, hwd3, hmo, htb, hwo⟩ := getr_M hI
  obtain ⟨f_1808, es1808, p0_1808⟩ := getr_wl hI
  refine lv_aload_n hx hb dX12_size_0 rfl (lv_at hl 0 rfl) ?_
  refine lv_iload_n hx hb dX12_size_1 rfl (lv_at hl 1 rfl) ?_
  refine hp_callRi (va_runV (As := [.int w9]) (rest := []) ⟨hx, hb, hml, hown, hts⟩ (c_X12_isWord l D cy _ cs ad en hI w9 ) (kw_X12_isWord hts tw_1175 ⟨by decide, by decide⟩) (preV_of hh hK (hI.1 _ (by decide)) es1807 rfl) rfl rfl hl.1 rfl (lv_room (Nat.le_of_ble_eq_true rfl)) dX12_size_2 ⟨Nat.le_of_ble_eq_true rfl, Nat.le_of_ble_eq_true rfl⟩) hh hA (fun r_1809 H locs hw_1809 hh => ?_)
  rw [show rdI (en 0) 30 = (nI wo) from by rw [es1807]; rfl, nI_toInt (n := wo) (by omega)] at hw_1809
  rcases Decidable.em (0 ≤ w9.toInt ∧ w9.toInt < (wo : Int)) with hp_1809 | hp_1809
  · obtain rfl : r_1809 = 1 := Eq.trans hw_1809 (if_pos hp_1809)
    obtain ⟨T_1809, rfl, hT_1809⟩ := has_nat hp_1809
    refine lv_if_eq (tgt := 18) hx hb dX12_size_5 (by decide) (fun c_0 => absurd c_0 (by decide)) (fun _ => ?_)
    refine lv_iload_n hx hb dX12_size_8 rfl (lv_at hl 2 rfl) ?_
    refine lv_i2l hx hb dX12_size_9 rfl ?_
    refine lv_lconst (v := 0) hx hb dX12_size_10 (by decide) ?_
    refine lv_lconst (v := 1) hx hb dX12_size_11 (by decide) ?_
    refine hp_callRi (va_runS (As := [.long z9.toInt64, .long 0, .long 1]) (rest := []) ⟨hx, hb, hml, hown, hts⟩ (c_X12_within l D cy _ cs ad en z9.toInt64 0 1) (kw_X12_within hts tw_985 ⟨by decide, by decide⟩) (preS_of hh hK) rfl rfl hl.1 rfl (lv_room (Nat.le_of_ble_eq_true rfl)) dX12_size_12 ⟨Nat.le_of_ble_eq_true rfl, Nat.le_of_ble_eq_true rfl⟩) hh hA (fun r_1810 H locs hw_1810 hh => ?_)
    rcases Decidable.em (wi z9 0 1) with hp_1810 | hp_1810
    · obtain rfl : r_1810 = 1 := Eq.trans hw_1810 (if_pos ((wj_32 (by decide) (by decide)).mpr hp_1810))
      obtain ⟨N_1810, rfl, hA_1810, hB_1810⟩ := wi_natB hp_1810 0 1 (by decide) (by decide)
      refine lv_if_ne (tgt := 22) hx hb dX12_size_15 (by decide) (fun _ => ?_) (fun c_0 => absurd c_0 (by decide))
      refine lv_aload_n hx hb dX12_size_22 rfl (lv_at hl 0 rfl) ?_
      refine lv_iload_n hx hb dX12_size_23 rfl (lv_at hl 1 rfl) ?_
      refine hp_callMv (va_runV (As := [.int (nI T_1809)]) (rest := []) ⟨hx, hb, hml, hown, hts⟩ (c_X12_multiplyOut l D cy _ cs ad en hI T_1809 (by omega)) (kw_X12_multiplyOut hts tw_1191 ⟨by decide, by decide⟩) (preV_of hh hK (hI.1 _ (by decide)) es1807 rfl) rfl rfl hl.1 rfl (lv_room (Nat.le_of_ble_eq_true rfl)) dX12_size_24 ⟨Nat.le_of_ble_eq_true rfl, Nat.le_of_ble_eq_true rfl⟩) hh hA (fun H locs en_1811 hw_1811 hh => ?_)
      obtain ⟨hI_1811, hu_1811⟩ := hw_1811
      have es1807_1811 : en_1811 0 = .inr (11, [.int fa, .int hi, .int (nI wd), .int (nI mo), .int (nI tb), .ref (ad 1), .ref (ad 2), .ref (ad 3), .ref (ad 4), .ref (ad 5), .ref (ad 6), .ref (ad 7), .ref (ad 8), .ref (ad 9), .int dp, .long many, .long grt, .long lst, .long nou, .ref (ad 10), .ref (ad 11), .ref (ad 12), .int rm, .long rb, .ref (ad 13), .int pr, .ref (ad 14), .ref (ad 15), .ref (ad 16), .ref (ad 17), .int (nI wo), .ref (ad 18), .ref (ad 19)]) := (hu_1811 0 (by omega)).trans es1807
      have es1808_1811 : en_1811 19 = .inl (cy 0, 10, .inl f_1808) := (hu_1811 19 (by omega)).trans es1808
      have hf_1811 : ∀ c, (c ≠ 6) → en_1811 c = en c := fun c hc => (hu_1811 c (by omega)).trans (hf0 c hc)
      refine lv_iload_n hx hb dX12_size_27 rfl (lv_at hl 2 rfl) ?_
      refine lv_if_ne (tgt := 44) hx hb dX12_size_28 (by decide) (fun c_1812 => ?_) (fun c_1812 => ?_)
      · have n_1812 : N_1810 ≠ 0 := n_neq (a := N_1810) (b := 0) c_1812 (by omega) (by decide)
        refine lv_aload_n hx hb dX12_size_44 rfl (lv_at hl 0 rfl) ?_
        refine lv_aload_n hx hb dX12_size_45 rfl (lv_at hl 0 rfl) ?_
        refine hp_get hx hb hts ix12 hown hK hh (q := 0) rfl (hI.1 _ (by decide)) es1807_1811 rfl 32 (by decide) (hts _ tw_911) (fun _ h9 => h9) rfl dX12_size_46 ?_
        refine lv_iload_n hx hb dX12_size_49 rfl (lv_at hl 1 rfl) ?_
        refine hp_iald hx hb hK hh (q := 19) rfl (hI.1 _ (by decide)) es1808_1811 (vp_in_nI (n := T_1809) (by omega) (by decide)) dX12_size_50 ?_
        rw [nI_clamp (n := T_1809) (by omega)]
        obtain ⟨v_1813, hv_1813, hfv_1813⟩ := p0_1808 T_1809 (by omega)
        rw [hfv_1813]
        refine hp_callRl (va_runV (As := [.int (nI v_1813)]) (rest := []) ⟨hx, hb, hml, hown, hts⟩ (c_X12_trackAt l D cy _ cs ad en_1811 hI_1811 v_1813 (by omega)) (kw_X12_trackAt hts tw_1093 ⟨by decide, by decide⟩) (preV_of hh hK (hI.1 _ (by decide)) es1807_1811 rfl) rfl rfl hl.1 rfl (lv_room (Nat.le_of_ble_eq_true rfl)) dX12_size_51 ⟨Nat.le_of_ble_eq_true rfl, Nat.le_of_ble_eq_true rfl⟩) hh hA (fun r_1814 H locs hw_1814 hh => ?_)
        exact hp_lretM hx hb hr hlocks hh (⟨hI_1811, hf_1811⟩) dX12_size_54
      · have n_1812 : N_1810 = 0 := n_eq (a := N_1810) (b := 0) c_1812 (by omega) (by decide)
        refine lv_aload_n hx hb dX12_size_31 rfl (lv_at hl 0 rfl) ?_
        refine lv_aload_n hx hb dX12_size_32 rfl (lv_at hl 0 rfl) ?_
        refine hp_get hx hb hts ix12 hown hK hh (q := 0) rfl (hI.1 _ (by decide)) es1807_1811 rfl 32 (by decide) (hts _ tw_911) (fun _ h9 => h9) rfl dX12_size_33 ?_
        refine lv_iload_n hx hb dX12_size_36 rfl (lv_at hl 1 rfl) ?_
        refine hp_iald hx hb hK hh (q := 19) rfl (hI.1 _ (by decide)) es1808_1811 (vp_in_nI (n := T_1809) (by omega) (by decide)) dX12_size_37 ?_
        rw [nI_clamp (n := T_1809) (by omega)]
        obtain ⟨v_1815, hv_1815, hfv_1815⟩ := p0_1808 T_1809 (by omega)
        rw [hfv_1815]
        refine hp_callRl (va_runV (As := [.int (nI v_1815)]) (rest := []) ⟨hx, hb, hml, hown, hts⟩ (c_X12_normAt l D cy _ cs ad en_1811 hI_1811 v_1815 (by omega)) (kw_X12_normAt hts tw_1058 ⟨by decide, by decide⟩) (preV_of hh hK (hI.1 _ (by decide)) es1807_1811 rfl) rfl rfl hl.1 rfl (lv_room (Nat.le_of_ble_eq_true rfl)) dX12_size_38 ⟨Nat.le_of_ble_eq_true rfl, Nat.le_of_ble_eq_true rfl⟩) hh hA (fun r_1816 H locs hw_1816 hh => ?_)
        refine lv_goto (tgt := 54) hx hb dX12_size_41 (by decide) ?_
        exact hp_lretM hx hb hr hlocks hh (⟨hI_1811, hf_1811⟩) dX12_size_54
    · obtain rfl : r_1810 = 0 := Eq.trans hw_1810 (if_neg (fun q => hp_1810 ((wj_32 (by decide) (by decide)).mp q)))
      refine lv_if_ne (tgt := 22) hx hb dX12_size_15 (by decide) (fun c_0 => absurd c_0 (by decide)) (fun _ => ?_)
      refine lv_ldc2 hx hb hown (hts _ tw_1015) dX12_size_18 ?_
      exact hp_lretM hx hb hr hlocks hh (⟨hI, hf0⟩) dX12_size_21
  · obtain rfl : r_1809 = 0 := Eq.trans hw_1809 (if_neg hp_1809)
    refine lv_if_eq (tgt := 18) hx hb dX12_size_5 (by decide) (fun _ => ?_) (fun c_0 => absurd c_0 (by decide))
    refine lv_ldc2 hx hb hown (hts _ tw_1015) dX12_size_18 ?_
    exact hp_lretM hx hb hr hlocks hh (⟨hI, hf0⟩) dX12_size_21
theorem kw_X12_size {R : Room} {s : State} {args : Array Value} {own : String} {idx : Nat} (hts : ∀ w ∈ TB, w.before args s = true) (hl : Cond.methodLink own idx yX12_size ∈ TB) (hR : 3 + 1 ≤ R.frames ∧ 8 + (3 + 11) + 40 * 3 ≤ R.locals) : CallW R s args own RX12 idx yX12_size cX12_size 3 (some .long) (Cond.code yX12_size cX12_size 3 (some .long) :: TB) (rmN 3) 0 0 2 := cwV 2 hts (TB_V hl tw_1196 tw_1197 tw_9 tw_1198) rfl rfl rfl (by decide +kernel) hR
set_option maxHeartbeats 4000000 in
set_option maxRecDepth 100000 in
/-- about -/
theorem c_X12_about (l : Launch) (D : va_G) (cy : Nat → ClassId) (sz : Nat) (cs : List Nat) (ad : Nat → Nat) (en : Nat → va_E) (hI : RX cy cs ad en) (w9 z9 : Int32) (hRW : RWX en)   : Met l yX12_about (Cond.code yX12_about cX12_about 5 (some .int) :: TB) (rmN 3) (va_Pc [.ref (ad 0), .int w9, .int z9] (Pre D cy cs ad en sz)) (va_Qi (S := Nat → va_E) (fun r en1 => RX cy cs ad en1 ∧ (∀ c, (c ≠ 12) → en1 c = en c)) (PostM D cs ad) (Af cs ad sz)) 0 0 (Af cs ad sz) := by
  refine Met.ofW (cc := cX12_about) (maxL := 5) (ret := (some .int)) (by decide) rfl ?_
  intro p e s m args below meth c s₁ B hml hv
  obtain ⟨rfl, hsz, hP, hK, hD0⟩ := hv
  have hx := B.exec
  have hb := B.bytes
  have hr := B.returns
  have hts : ∀ w ∈ TB, w.before _ s = true := fun w h => atoms_spec (ws := _ :: TB) B.pre w (List.mem_cons_of_mem _ h)
  have hown : s.vm.findClass RX12 = some m.cls := findClass_of_methodNamed B.named
  have hlocks := B.notSynchronized
  have hh : Hp D (Af cs ad sz) (Af cs ad sz) s.heap s.heap [] cs ad en := ⟨hP, Af_self hD0, va_S.rf⟩
  have hA : ∀ q : Nat, s.heap.size ≤ q → Af cs ad sz q := fun q h => Or.inr (by rw [hsz] at h; exact h)
  have hl := lv_entry ([.ref (ad 0), .int w9, .int z9]) (n := 5) (Nat.le_of_ble_eq_true rfl)
  rw [lg_entry_eq]
  generalize (lg_sl ([.ref (ad 0), .int w9, .int z9]) ++ List.replicate (5 - (lg_sl ([.ref (ad 0), .int w9, .int z9])).length) Slot.unset).toArray = ls at hl ⊢
  have hl : lv_has ls 5 [(0, .ref (ad 0)), (1, .int w9), (2, .int z9)] := hl
  have hf0 : ∀ c, (c ≠ 12) → en c = en c := fun _ _ => rfl
  obtain ⟨fa, hi, wd, mo, tb, dp, many, grt, lst, nou, rm, rb, pr, wo, es1817, hwd2, hwd3, hmo, htb, hwo⟩ := getr_M hI
  obtain ⟨f_1818, es1818, p0_1818⟩ := getr_lt hI
  obtain ⟨f_1819, es1819, p0_1819⟩ := getr_wl hI
  refine lv_aload_n hx hb dX12_about_0 rfl (lv_at hl 0 rfl) ?_
  refine lv_iload_n hx hb dX12_about_1 rfl (lv_at hl 1 rfl) ?_
  refine hp_callRi (va_runV (As := [.int w9]) (rest := []) ⟨hx, hb, hml, hown, hts⟩ (c_X12_isWord l D cy _ cs ad en hI w9 ) (kw_X12_isWord hts tw_1175 ⟨by decide, by decide⟩) (preV_of hh hK (hI.1 _ (by decide)) es1817 rfl) rfl rfl hl.1 rfl (lv_room (Nat.le_of_ble_eq_true rfl)) dX12_about_2 ⟨Nat.le_of_ble_eq_true rfl, Nat.le_of_ble_eq_true rfl⟩) hh hA (fun r_1820 H locs hw_1820 hh => ?_)
  rw [show rdI (en 0) 30 = (nI wo) from by rw [es1817]; rfl, nI_toInt (n := wo) (by omega)] at hw_1820
  rcases Decidable.em (0 ≤ w9.toInt ∧ w9.toInt < (wo : Int)) with hp_1820 | hp_1820
  · obtain rfl : r_1820 = 1 := Eq.trans hw_1820 (if_pos hp_1820)
    obtain ⟨T_1820, rfl, hT_1820⟩ := has_nat hp_1820
    refine lv_if_ne (tgt := 10) hx hb dX12_about_5 (by decide) (fun _ => ?_) (fun c_0 => absurd c_0 (by decide))
    refine lv_aload_n hx hb dX12_about_10 rfl (lv_at hl 0 rfl) ?_
    refine hp_get hx hb hts ix12 hown hK hh (q := 0) rfl (hI.1 _ (by decide)) es1817 rfl 32 (by decide) (hts _ tw_911) (fun _ h9 => h9) rfl dX12_about_11 ?_
    refine lv_iload_n hx hb dX12_about_14 rfl (lv_at hl 1 rfl) ?_
    refine hp_iald hx hb hK hh (q := 19) rfl (hI.1 _ (by decide)) es1819 (vp_in_nI (n := T_1820) (by omega) (by decide)) dX12_about_15 ?_
    rw [nI_clamp (n := T_1820) (by omega)]
    obtain ⟨v_1821, hv_1821, hfv_1821⟩ := p0_1819 T_1820 (by omega)
    rw [hfv_1821]
    refine lv_istore_n (lv' := [(3, .int (nI v_1821)), (0, .ref (ad 0)), (1, .int (nI T_1820)), (2, .int z9)]) hx hb dX12_about_16 rfl hl (by decide) rfl (fun ls hl => ?_)
    have hlen : 1 ≤ v_1821 := RWX_1 hRW (show rdI (en 0) 30 = nI wo from by rw [es1817]; rfl) hwo (w := T_1820) (by omega) (show rdF (en 19) = f_1819 from by rw [es1819]; rfl) hfv_1821 (by omega)
    refine lv_iconst (v := 0) hx hb dX12_about_17 (by decide) ?_
    refine lv_istore (lv' := [(4, .int 0), (3, .int (nI v_1821)), (0, .ref (ad 0)), (1, .int (nI T_1820)), (2, .int z9)]) hx hb dX12_about_18 hl (by decide) rfl (fun ls hl => ?_)
    have loop_1822 : ∀ (fu j1822 : Nat)  (en_1822 : Nat → va_E) (ls : Array Slot) (H : Heap) (locs : List Loc), 0 ≤ j1822 → j1822 ≤ v_1821 → v_1821 < j1822 + fu → RX cy cs ad en_1822 → (∀ c, (c ≠ 12) → en_1822 c = en c) →  lv_has ls 5 [(4, .int (nI j1822)), (3, .int (nI v_1821)), (0, .ref (ad 0)), (1, .int (nI T_1820)), (2, .int z9)] → Hp D (Af cs ad sz) (Af cs ad sz) s.heap H locs cs ad en_1822 → W p l e (headSpec (Cond.code yX12_about cX12_about 5 (some .int) :: TB) (rmN 3)).room s m ([.ref (ad 0), .int (nI T_1820), .int z9] : List Value).toArray below meth c H locs 0 0 (MQ below (va_Qi (S := Nat → va_E) (fun r en1 => RX cy cs ad en1 ∧ (∀ c, (c ≠ 12) → en1 c = en c)) (PostM D cs ad) (Af cs ad sz)) ([.ref (ad 0), .int (nI T_1820), .int z9] : List Value).toArray s 0 0 (Af cs ad sz)) (F0 m 20 ls []) := by
      intro fu
      induction fu with
      | zero => intro j1822  en_1822 ls H locs h0 h1 h2; exact absurd h2 (by omega)
      | succ fu ih_1822 =>
        intro j1822  en_1822 ls H locs hj0_1822 hj_1822 hfu_1822 hI_1822 hf_1822  hl hh
        refine lv_iload hx hb dX12_about_20 (lv_at hl 0 rfl) ?_
        refine lv_iload_n hx hb dX12_about_22 rfl (lv_at hl 1 rfl) ?_
        refine lv_icmp_ge (tgt := 51) hx hb dX12_about_23 (by decide) (fun c_1823 => ?_) (fun c_1823 => ?_)
        · have n_1823 : v_1821 ≤ j1822 := n_le (a := v_1821) (b := j1822) c_1823 (by omega) (by omega)
          refine lv_iload_n hx hb dX12_about_51 rfl (lv_at hl 4 rfl) ?_
          by_cases q_1824_0 : z9 = 0
          · refine lv_tableIn (off := 32) (tgt := 84) hx hb dX12_about_52 (by rw [q_1824_0]; decide) (by rw [q_1824_0]; decide) (by rw [q_1824_0]; decide) (by decide) ?_
            refine lv_iload_n hx hb dX12_about_84 rfl (lv_at hl 1 rfl) ?_
            exact hp_iretM hx hb hr rfl hlocks hh (⟨hI_1822, hf_1822⟩) dX12_about_85
          by_cases q_1824_1 : z9 = 1
          · refine lv_tableIn (off := 34) (tgt := 86) hx hb dX12_about_52 (by rw [q_1824_1]; decide) (by rw [q_1824_1]; decide) (by rw [q_1824_1]; decide) (by decide) ?_
            refine lv_aload_n hx hb dX12_about_86 rfl (lv_at hl 2 rfl) ?_
            refine lv_iload_n hx hb dX12_about_87 rfl (lv_at hl 1 rfl) ?_
            have es1817_1825 : en_1822 0 = .inr (11, [.int fa, .int hi, .int (nI wd), .int (nI mo), .int (nI tb), .ref (ad 1), .ref (ad 2), .ref (ad 3), .ref (ad 4), .ref (ad 5), .ref (ad 6), .ref (ad 7), .ref (ad 8), .ref (ad 9), .int dp, .long many, .long grt, .long lst, .long nou, .ref (ad 10), .ref (ad 11), .ref (ad 12), .int rm, .long rb, .ref (ad 13), .int pr, .ref (ad 14), .ref (ad 15), .ref (ad 16), .ref (ad 17), .int (nI wo), .ref (ad 18), .ref (ad 19)]) := (hf_1822 0 (by omega)).trans es1817
            refine hp_callRi (va_runV (As := [.int (nI v_1821)]) (rest := []) ⟨hx, hb, hml, hown, hts⟩ (c_X12_isAllowed l D cy _ cs ad en_1822 hI_1822 v_1821 (by omega) (by omega)) (kw_X12_isAllowed hts tw_1081 ⟨by decide, by decide⟩) (preV_of hh hK (hI.1 _ (by decide)) es1817_1825 rfl) rfl rfl hl.1 rfl (lv_room (Nat.le_of_ble_eq_true rfl)) dX12_about_88 ⟨Nat.le_of_ble_eq_true rfl, Nat.le_of_ble_eq_true rfl⟩) hh hA (fun r_1826 H locs hw_1826 hh => ?_)
            rcases hw_1826 with hb_1826 | hb_1826
            · obtain rfl : r_1826 = 0 := hb_1826
              refine lv_if_eq (tgt := 98) hx hb dX12_about_91 (by decide) (fun _ => ?_) (fun c_0 => absurd c_0 (by decide))
              refine lv_iconst (v := 0) hx hb dX12_about_98 (by decide) ?_
              exact hp_iretM hx hb hr rfl hlocks hh (⟨hI_1822, hf_1822⟩) dX12_about_99
            · obtain rfl : r_1826 = 1 := hb_1826
              refine lv_if_eq (tgt := 98) hx hb dX12_about_91 (by decide) (fun c_0 => absurd c_0 (by decide)) (fun _ => ?_)
              refine lv_iconst (v := 1) hx hb dX12_about_94 (by decide) ?_
              refine lv_goto (tgt := 99) hx hb dX12_about_95 (by decide) ?_
              exact hp_iretM hx hb hr rfl hlocks hh (⟨hI_1822, hf_1822⟩) dX12_about_99
          by_cases q_1824_2 : z9 = 2
          · refine lv_tableIn (off := 48) (tgt := 100) hx hb dX12_about_52 (by rw [q_1824_2]; decide) (by rw [q_1824_2]; decide) (by rw [q_1824_2]; decide) (by decide) ?_
            refine lv_aload_n hx hb dX12_about_100 rfl (lv_at hl 2 rfl) ?_
            refine lv_iload_n hx hb dX12_about_101 rfl (lv_at hl 1 rfl) ?_
            have es1817_1827 : en_1822 0 = .inr (11, [.int fa, .int hi, .int (nI wd), .int (nI mo), .int (nI tb), .ref (ad 1), .ref (ad 2), .ref (ad 3), .ref (ad 4), .ref (ad 5), .ref (ad 6), .ref (ad 7), .ref (ad 8), .ref (ad 9), .int dp, .long many, .long grt, .long lst, .long nou, .ref (ad 10), .ref (ad 11), .ref (ad 12), .int rm, .long rb, .ref (ad 13), .int pr, .ref (ad 14), .ref (ad 15), .ref (ad 16), .ref (ad 17), .int (nI wo), .ref (ad 18), .ref (ad 19)]) := (hf_1822 0 (by omega)).trans es1817
            refine hp_callRi (va_runV (As := [.int (nI v_1821)]) (rest := []) ⟨hx, hb, hml, hown, hts⟩ (c_X12_isRing l D cy _ cs ad en_1822 hI_1822 v_1821 (by omega) (by omega)) (kw_X12_isRing hts tw_1077 ⟨by decide, by decide⟩) (preV_of hh hK (hI.1 _ (by decide)) es1817_1827 rfl) rfl rfl hl.1 rfl (lv_room (Nat.le_of_ble_eq_true rfl)) dX12_about_102 ⟨Nat.le_of_ble_eq_true rfl, Nat.le_of_ble_eq_true rfl⟩) hh hA (fun r_1828 H locs hw_1828 hh => ?_)
            rcases hw_1828 with hb_1828 | hb_1828
            · obtain rfl : r_1828 = 0 := hb_1828
              refine lv_if_eq (tgt := 112) hx hb dX12_about_105 (by decide) (fun _ => ?_) (fun c_0 => absurd c_0 (by decide))
              refine lv_iconst (v := 0) hx hb dX12_about_112 (by decide) ?_
              exact hp_iretM hx hb hr rfl hlocks hh (⟨hI_1822, hf_1822⟩) dX12_about_113
            · obtain rfl : r_1828 = 1 := hb_1828
              refine lv_if_eq (tgt := 112) hx hb dX12_about_105 (by decide) (fun c_0 => absurd c_0 (by decide)) (fun _ => ?_)
              refine lv_iconst (v := 1) hx hb dX12_about_108 (by decide) ?_
              refine lv_goto (tgt := 113) hx hb dX12_about_109 (by decide) ?_
              exact hp_iretM hx hb hr rfl hlocks hh (⟨hI_1822, hf_1822⟩) dX12_about_113
          by_cases q_1824_3 : z9 = 3
          · refine lv_tableIn (off := 62) (tgt := 114) hx hb dX12_about_52 (by rw [q_1824_3]; decide) (by rw [q_1824_3]; decide) (by rw [q_1824_3]; decide) (by decide) ?_
            refine lv_aload_n hx hb dX12_about_114 rfl (lv_at hl 2 rfl) ?_
            refine lv_iload_n hx hb dX12_about_115 rfl (lv_at hl 1 rfl) ?_
            have es1817_1829 : en_1822 0 = .inr (11, [.int fa, .int hi, .int (nI wd), .int (nI mo), .int (nI tb), .ref (ad 1), .ref (ad 2), .ref (ad 3), .ref (ad 4), .ref (ad 5), .ref (ad 6), .ref (ad 7), .ref (ad 8), .ref (ad 9), .int dp, .long many, .long grt, .long lst, .long nou, .ref (ad 10), .ref (ad 11), .ref (ad 12), .int rm, .long rb, .ref (ad 13), .int pr, .ref (ad 14), .ref (ad 15), .ref (ad 16), .ref (ad 17), .int (nI wo), .ref (ad 18), .ref (ad 19)]) := (hf_1822 0 (by omega)).trans es1817
            refine hp_callRi (va_runV (As := [.int (nI v_1821)]) (rest := []) ⟨hx, hb, hml, hown, hts⟩ (c_X12_timesOf l D cy _ cs ad en_1822 hI_1822 v_1821 (by omega) (by omega)) (kw_X12_timesOf hts tw_1085 ⟨by decide, by decide⟩) (preV_of hh hK (hI.1 _ (by decide)) es1817_1829 rfl) rfl rfl hl.1 rfl (lv_room (Nat.le_of_ble_eq_true rfl)) dX12_about_116 ⟨Nat.le_of_ble_eq_true rfl, Nat.le_of_ble_eq_true rfl⟩) hh hA (fun r_1830 H locs hw_1830 hh => ?_)
            exact hp_iretM hx hb hr rfl hlocks hh (⟨hI_1822, hf_1822⟩) dX12_about_119
          refine lv_tableOut (tgt := 120) hx hb dX12_about_52 (tb_out 4 (by decide) (by decide) (fun j hj => by rcases (show j = 0 ∨ j = 1 ∨ j = 2 ∨ j = 3 by omega) with rfl | rfl | rfl | rfl <;> first | exact lv_neT q_1824_0 (by decide) | exact lv_neT q_1824_1 (by decide) | exact lv_neT q_1824_2 (by decide) | exact lv_neT q_1824_3 (by decide))) (by decide) ?_
          refine lv_bipush (v := (-2)) hx hb dX12_about_120 (by decide) ?_
          exact hp_iretM hx hb hr rfl hlocks hh (⟨hI_1822, hf_1822⟩) dX12_about_122
        · have n_1823 : j1822 < v_1821 := n_nle (a := v_1821) (b := j1822) c_1823 (by omega) (by omega)
          refine lv_aload_n hx hb dX12_about_26 rfl (lv_at hl 2 rfl) ?_
          have es1817_1831 : en_1822 0 = .inr (11, [.int fa, .int hi, .int (nI wd), .int (nI mo), .int (nI tb), .ref (ad 1), .ref (ad 2), .ref (ad 3), .ref (ad 4), .ref (ad 5), .ref (ad 6), .ref (ad 7), .ref (ad 8), .ref (ad 9), .int dp, .long many, .long grt, .long lst, .long nou, .ref (ad 10), .ref (ad 11), .ref (ad 12), .int rm, .long rb, .ref (ad 13), .int pr, .ref (ad 14), .ref (ad 15), .ref (ad 16), .ref (ad 17), .int (nI wo), .ref (ad 18), .ref (ad 19)]) := (hf_1822 0 (by omega)).trans es1817
          refine hp_get hx hb hts ix12 hown hK hh (q := 0) rfl (hI.1 _ (by decide)) es1817_1831 rfl 21 (by decide) (hts _ tw_900) (fun _ h9 => h9) rfl dX12_about_27 ?_
          refine lv_iload hx hb dX12_about_30 (lv_at hl 0 rfl) ?_
          refine lv_aload_n hx hb dX12_about_32 rfl (lv_at hl 2 rfl) ?_
          refine hp_get hx hb hts ix12 hown hK hh (q := 0) rfl (hI.1 _ (by decide)) es1817_1831 rfl 31 (by decide) (hts _ tw_910) (fun _ h9 => h9) rfl dX12_about_33 ?_
          refine lv_bipush (v := 12) hx hb dX12_about_36 (by decide) ?_
          refine lv_iload_n hx hb dX12_about_38 rfl (lv_at hl 3 rfl) ?_
          refine lv_imul hx hb dX12_about_39 ?_
          rw [show (12 : Int32) = nI 12 from rfl, pk_mul 12 T_1820]
          refine lv_iload hx hb dX12_about_40 (lv_at hl 0 rfl) ?_
          refine lv_iadd hx hb dX12_about_42 ?_
          rw [nI_add (12 * T_1820) j1822]
          have es1818_1832 : en_1822 18 = .inl (cy 0, 120, .inl f_1818) := (hf_1822 18 (by omega)).trans es1818
          refine hp_iald hx hb hK hh (q := 18) rfl (hI.1 _ (by decide)) es1818_1832 (vp_in_nI (n := ((12 * T_1820) + j1822)) (by omega) (by decide)) dX12_about_43 ?_
          rw [nI_clamp (n := ((12 * T_1820) + j1822)) (by omega)]
          obtain ⟨v_1833, hv_1833, hfv_1833⟩ := p0_1818 ((12 * T_1820) + j1822) (by omega)
          rw [hfv_1833]
          obtain ⟨f_1834, es1834, p0_1834⟩ := getr_ak hI_1822
          refine hp_iast hx hb hK hh (q := 12) rfl (hI.1 _ (by decide)) es1834 (vp_in_nI (n := j1822) (by omega) (by decide)) dX12_about_44 (fun H locs en_1835 hen_1835 hh => ?_)
          rw [nI_clamp (n := j1822) (by omega)] at hen_1835
          have es1817_1835 : en_1835 0 = .inr (11, [.int fa, .int hi, .int (nI wd), .int (nI mo), .int (nI tb), .ref (ad 1), .ref (ad 2), .ref (ad 3), .ref (ad 4), .ref (ad 5), .ref (ad 6), .ref (ad 7), .ref (ad 8), .ref (ad 9), .int dp, .long many, .long grt, .long lst, .long nou, .ref (ad 10), .ref (ad 11), .ref (ad 12), .int rm, .long rb, .ref (ad 13), .int pr, .ref (ad 14), .ref (ad 15), .ref (ad 16), .ref (ad 17), .int (nI wo), .ref (ad 18), .ref (ad 19)]) := by rw [hen_1835, va_up_ne _ _ (by decide)]; exact es1817_1831
          have es1818_1835 : en_1835 18 = .inl (cy 0, 120, .inl f_1818) := by rw [hen_1835, va_up_ne _ _ (by decide)]; exact es1818_1832
          have es1834_1835 : en_1835 12 = .inl (cy 0, 12, .inl (upd f_1834 j1822 (nI v_1833))) := by rw [hen_1835]; exact va_up_self _ _ _
          have hI_1835 : RX cy cs ad en_1835 := by rw [hen_1835]; exact upr_ak hI_1822 ⟨(upd f_1834 j1822 (nI v_1833)), rfl, (vals_updB p0_1834 (by omega))⟩
          have hf_1835 : ∀ c, (c ≠ 12) → en_1835 c = en c := fun c hc => Eq.trans (show en_1835 c = en_1822 c from by rw [hen_1835, va_up_ne _ _ (by omega)]) (hf_1822 c hc)
          refine lv_iinc (v := (nI (j1822 + 1))) (lv' := [(4, .int (nI (j1822 + 1))), (3, .int (nI v_1821)), (0, .ref (ad 0)), (1, .int (nI T_1820)), (2, .int z9)]) hx hb dX12_about_45 hl (k := 0) rfl (nI_1 _) (by decide) rfl (fun ls hl => ?_)
          refine lv_goto (tgt := 20) hx hb dX12_about_48 (by decide) ?_
          exact ih_1822 ((j1822 + 1))  en_1835 ls H locs (by omega) (by omega) (by omega) hI_1835 hf_1835  (lv_sub hl [0, 1, 2, 3, 4] rfl) hh
    exact loop_1822 (v_1821 + 1) 0  en ls _ _ (Nat.le_refl _) (by omega) (by omega) hI hf0  (lv_sub hl [0, 1, 2, 3, 4] rfl) hh
  · obtain rfl : r_1820 = 0 := Eq.trans hw_1820 (if_neg hp_1820)
    refine lv_if_ne (tgt := 10) hx hb dX12_about_5 (by decide) (fun c_0 => absurd c_0 (by decide)) (fun _ => ?_)
    refine lv_iconst (v := (-1)) hx hb dX12_about_8 (by decide) ?_
    exact hp_iretM hx hb hr rfl hlocks hh (⟨hI, hf0⟩) dX12_about_9
theorem kw_X12_about {R : Room} {s : State} {args : Array Value} {own : String} {idx : Nat} (hts : ∀ w ∈ TB, w.before args s = true) (hl : Cond.methodLink own idx yX12_about ∈ TB) (hR : 3 + 1 ≤ R.frames ∧ 8 + (5 + 11) + 40 * 3 ≤ R.locals) : CallW R s args own RX12 idx yX12_about cX12_about 5 (some .int) (Cond.code yX12_about cX12_about 5 (some .int) :: TB) (rmN 3) 0 0 2 := cwV 2 hts (TB_V hl tw_1184 tw_1185 tw_9 tw_1186) rfl rfl rfl (by decide +kernel) hR
set_option maxHeartbeats 4000000 in
set_option maxRecDepth 100000 in
/-- X12_word -/
theorem c_X12_word (l : Launch) (D : va_G) (cy : Nat → ClassId) (sz : Nat) (cs : List Nat) (ad : Nat → Nat) (en : Nat → va_E) (hI : RX cy cs ad en) (k9 la9 i9 n9 : Int32) (hRW : RWX en)   : Met l yX12_word (Cond.code yX12_word cX12_word 7 (some .int) :: TB) (rmN 2) (va_Pc [.ref (ad 0), .int k9, .int la9, .int i9, .int n9] (Pre D cy cs ad en sz)) (va_Qi (S := Nat → va_E) (fun r en1 => RX cy cs ad en1 ∧ (∀ c, (c ≠ 0 ∧ c ≠ 18 ∧ c ≠ 19) → en1 c = en c) ∧ RWX en1 ∧ KPw en en1) (PostM D cs ad) (Af cs ad sz)) 0 0 (Af cs ad sz) := by
  refine Met.ofW (cc := cX12_word) (maxL := 7) (ret := (some .int)) (by decide) rfl ?_
  intro p e s m args below meth c s₁ B hml hv
  obtain ⟨rfl, hsz, hP, hK, hD0⟩ := hv
  have hx := B.exec
  have hb := B.bytes
  have hr := B.returns
  have hts : ∀ w ∈ TB, w.before _ s = true := fun w h => atoms_spec (ws := _ :: TB) B.pre w (List.mem_cons_of_mem _ h)
  have hown : s.vm.findClass RX12 = some m.cls := findClass_of_methodNamed B.named
  have hlocks := B.notSynchronized
  have hh : Hp D (Af cs ad sz) (Af cs ad sz) s.heap s.heap [] cs ad en := ⟨hP, Af_self hD0, va_S.rf⟩
  have hA : ∀ q : Nat, s.heap.size ≤ q → Af cs ad sz q := fun q h => Or.inr (by rw [hsz] at h; exact h)
  have hl := lv_entry ([.ref (ad 0), .int k9, .int la9, .int i9, .int n9]) (n := 7) (Nat.le_of_ble_eq_true rfl)
  rw [lg_entry_eq]
  generalize (lg_sl ([.ref (ad 0), .int k9, .int la9, .int i9, .int n9]) ++ List.replicate (7 - (lg_sl ([.ref (ad 0), .int k9, .int la9, .int i9, .int n9])).length) Slot.unset).toArray = ls at hl ⊢
  have hl : lv_has ls 7 [(0, .ref (ad 0)), (1, .int k9), (2, .int la9), (3, .int i9), (4, .int n9)] := hl
  have hf0 : ∀ c, (c ≠ 0 ∧ c ≠ 18 ∧ c ≠ 19) → en c = en c := fun _ _ => rfl
  obtain ⟨fa, hi, wd, mo, tb, dp, many, grt, lst, nou, rm, rb, pr, wo, es1836, hwd2, hwd3, hmo, htb, hwo⟩ := getr_M hI
  obtain ⟨f_1837, es1837, p0_1837⟩ := getr_sl hI
  obtain ⟨f_1838, es1838⟩ := getr_ce hI
  obtain ⟨f_1839, es1839, p0_1839⟩ := getr_wl hI
  refine lv_aload_n hx hb dX12_word_0 rfl (lv_at hl 0 rfl) ?_
  refine lv_iconst (v := 0) hx hb dX12_word_1 (by decide) ?_
  refine hp_put hx hb hts ix12 tyX12 tyX12_ok nmX12 hown hK hh (q := 0) rfl (hI.1 _ (by decide)) es1836 rfl 0 (by decide) (hts _ tw_879) (fun _ h9 => h9) rfl (ty := .int) (by decide +kernel) rfl rfl (Nat.le_of_ble_eq_true rfl) dX12_word_2 (fun H locs en_1840 hen_1840 hh => ?_)
  have es1837_1840 : en_1840 4 = .inl (cy 0, 4, .inl f_1837) := by rw [hen_1840, va_up_ne _ _ (by decide)]; exact es1837
  have es1838_1840 : en_1840 5 = .inl (cy 0, 160, .inl f_1838) := by rw [hen_1840, va_up_ne _ _ (by decide)]; exact es1838
  have es1839_1840 : en_1840 19 = .inl (cy 0, 10, .inl f_1839) := by rw [hen_1840, va_up_ne _ _ (by decide)]; exact es1839
  have es1836_1840 : en_1840 0 = .inr (11, [.int 0, .int hi, .int (nI wd), .int (nI mo), .int (nI tb), .ref (ad 1), .ref (ad 2), .ref (ad 3), .ref (ad 4), .ref (ad 5), .ref (ad 6), .ref (ad 7), .ref (ad 8), .ref (ad 9), .int dp, .long many, .long grt, .long lst, .long nou, .ref (ad 10), .ref (ad 11), .ref (ad 12), .int rm, .long rb, .ref (ad 13), .int pr, .ref (ad 14), .ref (ad 15), .ref (ad 16), .ref (ad 17), .int (nI wo), .ref (ad 18), .ref (ad 19)]) := by rw [hen_1840]; exact va_up_self _ _ _
  have hI_1840 : RX cy cs ad en_1840 := by rw [hen_1840]; exact upr_M hI ⟨0, hi, wd, mo, tb, dp, many, grt, lst, nou, rm, rb, pr, wo, rfl, hwd2, hwd3, hmo, htb, hwo⟩
  have hf_1840 : ∀ c, (c ≠ 0 ∧ c ≠ 18 ∧ c ≠ 19) → en_1840 c = en c := fun c hc => Eq.trans (show en_1840 c = en c from by rw [hen_1840, va_up_ne _ _ (by omega)]) (hf0 c hc)
  have hkc19_1840 : en_1840 19 = en 19 := (show en_1840 19 = en 19 from by rw [hen_1840, va_up_ne _ _ (by decide)]).trans rfl
  have hkp_1840 : KP en en_1840 := KP_fv (KP_rf en) es1836 es1836_1840 hi (nI wd) (nI mo) (nI tb) pr (nI wo) rfl rfl rfl rfl rfl rfl rfl rfl rfl rfl rfl rfl
  refine lv_aload_n hx hb dX12_word_5 rfl (lv_at hl 0 rfl) ?_
  refine lv_iload_n hx hb dX12_word_6 rfl (lv_at hl 1 rfl) ?_
  refine lv_iload_n hx hb dX12_word_7 rfl (lv_at hl 2 rfl) ?_
  refine hp_callMi (va_runV (As := [.int k9, .int la9]) (rest := []) ⟨hx, hb, hml, hown, hts⟩ (c_X12_against l D cy _ cs ad en_1840 hI_1840 k9 la9 ) (kw_X12_against hts tw_993 ⟨by decide, by decide⟩) (preV_of hh hK (hI.1 _ (by decide)) es1836_1840 rfl) rfl rfl hl.1 rfl (lv_room (Nat.le_of_ble_eq_true rfl)) dX12_word_8 ⟨Nat.le_of_ble_eq_true rfl, Nat.le_of_ble_eq_true rfl⟩) hh hA (fun r_1841 H locs en_1841 hw_1841 hh => ?_)
  obtain ⟨hI_1841, hu_1841, hr_1841, h0_1841, hkq_1841⟩ := hw_1841
  rcases Decidable.em (r_1841 = 0) with hz_1841 | hz_1841
  · have he_1841 : en_1841 = en_1840 := h0_1841 hz_1841
    rw [he_1841] at hh
    have hag_1841 := agF_0 (hr_1841.symm.trans hz_1841)
    rw [hz_1841]
    refine lv_istore (lv' := [(5, .int 0), (0, .ref (ad 0)), (1, .int k9), (2, .int la9), (3, .int i9), (4, .int n9)]) hx hb dX12_word_11 hl (by decide) rfl (fun ls hl => ?_)
    refine lv_iload hx hb dX12_word_13 (lv_at hl 0 rfl) ?_
    refine lv_if_eq (tgt := 21) hx hb dX12_word_15 (by decide) (fun _ => ?_) (fun c_0 => absurd c_0 (by decide))
    obtain ⟨K9, rfl, -, hK9⟩ := wi_natB hag_1841.1 0 3 (by decide) (by decide)
    refine lv_iload hx hb dX12_word_21 (lv_at hl 5 rfl) ?_
    refine lv_if_ge (tgt := 32) hx hb dX12_word_23 (by decide) (fun c_1842 => ?_) (fun c_1842 => ?_)
    · obtain ⟨N9, hN9, rfl⟩ := nat_of (Int32.not_lt.mpr c_1842)
      refine lv_iload_n hx hb dX12_word_32 rfl (lv_at hl 4 rfl) ?_
      refine lv_if_lt (tgt := 59) hx hb dX12_word_33 (by decide) (fun c_1843 => ?_) (fun c_1843 => ?_)
      · refine lv_aload_n hx hb dX12_word_59 rfl (lv_at hl 1 rfl) ?_
        refine lv_iconst (v := 3) hx hb dX12_word_60 (by decide) ?_
        refine hp_callMi (va_runV (As := [.int 3]) (rest := []) ⟨hx, hb, hml, hown, hts⟩ (c_X12_fails l D cy _ cs ad en_1840 (hI.1 _ (by decide)) 0 hi wd mo tb dp many grt lst nou rm rb pr wo 3 es1836_1840) (kw_X12_fails hts tw_997 ⟨by decide, by decide⟩) (preV_of hh hK (hI.1 _ (by decide)) es1836_1840 rfl) rfl rfl hl.1 rfl (lv_room (Nat.le_of_ble_eq_true rfl)) dX12_word_61 ⟨Nat.le_of_ble_eq_true rfl, Nat.le_of_ble_eq_true rfl⟩) hh hA (fun r_1844 H locs en_1844 hw_1844 hh => ?_)
        obtain ⟨hr_1844, hen_1844⟩ := hw_1844
        have es1837_1844 : en_1844 4 = .inl (cy 0, 4, .inl f_1837) := by rw [hen_1844, va_up_ne _ _ (by decide)]; exact es1837_1840
        have es1838_1844 : en_1844 5 = .inl (cy 0, 160, .inl f_1838) := by rw [hen_1844, va_up_ne _ _ (by decide)]; exact es1838_1840
        have es1839_1844 : en_1844 19 = .inl (cy 0, 10, .inl f_1839) := by rw [hen_1844, va_up_ne _ _ (by decide)]; exact es1839_1840
        have es1836_1844 : en_1844 0 = .inr (11, [.int 3, .int hi, .int (nI wd), .int (nI mo), .int (nI tb), .ref (ad 1), .ref (ad 2), .ref (ad 3), .ref (ad 4), .ref (ad 5), .ref (ad 6), .ref (ad 7), .ref (ad 8), .ref (ad 9), .int dp, .long many, .long grt, .long lst, .long nou, .ref (ad 10), .ref (ad 11), .ref (ad 12), .int rm, .long rb, .ref (ad 13), .int pr, .ref (ad 14), .ref (ad 15), .ref (ad 16), .ref (ad 17), .int (nI wo), .ref (ad 18), .ref (ad 19)]) := by rw [hen_1844]; exact va_up_self _ _ _
        have hI_1844 : RX cy cs ad en_1844 := by rw [hen_1844]; exact upr_M hI_1840 ⟨3, hi, wd, mo, tb, dp, many, grt, lst, nou, rm, rb, pr, wo, rfl, hwd2, hwd3, hmo, htb, hwo⟩
        have hf_1844 : ∀ c, (c ≠ 0 ∧ c ≠ 18 ∧ c ≠ 19) → en_1844 c = en c := fun c hc => Eq.trans (show en_1844 c = en_1840 c from by rw [hen_1844, va_up_ne _ _ (by omega)]) (hf_1840 c hc)
        have hkc19_1844 : en_1844 19 = en 19 := (show en_1844 19 = en_1840 19 from by rw [hen_1844, va_up_ne _ _ (by decide)]).trans hkc19_1840
        have hkp_1844 : KP en en_1844 := KP_fv hkp_1840 es1836_1840 es1836_1844 hi (nI wd) (nI mo) (nI tb) pr (nI wo) rfl rfl rfl rfl rfl rfl rfl rfl rfl rfl rfl rfl
        obtain rfl : r_1844 = (-13) := hr_1844.trans (by decide)
        exact hp_iretM hx hb hr rfl hlocks hh (⟨hI_1844, hf_1844, RWX_keep hRW hkp_1844.2.2.2.2.2 hkc19_1844, KPw_of hkp_1844⟩) dX12_word_64
      · obtain ⟨I9, hI9, rfl⟩ := nat_of c_1843
        refine lv_iload_n hx hb dX12_word_36 rfl (lv_at hl 4 rfl) ?_
        refine lv_aload_n hx hb dX12_word_37 rfl (lv_at hl 1 rfl) ?_
        refine hp_get hx hb hts ix12 hown hK hh (q := 0) rfl (hI.1 _ (by decide)) es1836_1840 rfl 8 (by decide) (hts _ tw_887) (fun _ h9 => h9) rfl dX12_word_38 ?_
        refine lv_iload_n hx hb dX12_word_41 rfl (lv_at hl 2 rfl) ?_
        refine hp_iald hx hb hK hh (q := 4) rfl (hI.1 _ (by decide)) es1837_1840 (vp_in_nI (n := K9) (by omega) (by decide)) dX12_word_42 ?_
        rw [nI_clamp (n := K9) (by omega)]
        obtain ⟨v_1845, hv_1845, hfv_1845⟩ := p0_1837 K9 (by omega)
        rw [hfv_1845]
        refine lv_icmp_gt (tgt := 59) hx hb dX12_word_43 (by decide) (fun c_1846 => ?_) (fun c_1846 => ?_)
        · have n_1846 : v_1845 < I9 := n_lt (a := v_1845) (b := I9) c_1846 (by omega) (by omega)
          refine lv_aload_n hx hb dX12_word_59 rfl (lv_at hl 1 rfl) ?_
          refine lv_iconst (v := 3) hx hb dX12_word_60 (by decide) ?_
          refine hp_callMi (va_runV (As := [.int 3]) (rest := []) ⟨hx, hb, hml, hown, hts⟩ (c_X12_fails l D cy _ cs ad en_1840 (hI.1 _ (by decide)) 0 hi wd mo tb dp many grt lst nou rm rb pr wo 3 es1836_1840) (kw_X12_fails hts tw_997 ⟨by decide, by decide⟩) (preV_of hh hK (hI.1 _ (by decide)) es1836_1840 rfl) rfl rfl hl.1 rfl (lv_room (Nat.le_of_ble_eq_true rfl)) dX12_word_61 ⟨Nat.le_of_ble_eq_true rfl, Nat.le_of_ble_eq_true rfl⟩) hh hA (fun r_1847 H locs en_1847 hw_1847 hh => ?_)
          obtain ⟨hr_1847, hen_1847⟩ := hw_1847
          have es1837_1847 : en_1847 4 = .inl (cy 0, 4, .inl f_1837) := by rw [hen_1847, va_up_ne _ _ (by decide)]; exact es1837_1840
          have es1838_1847 : en_1847 5 = .inl (cy 0, 160, .inl f_1838) := by rw [hen_1847, va_up_ne _ _ (by decide)]; exact es1838_1840
          have es1839_1847 : en_1847 19 = .inl (cy 0, 10, .inl f_1839) := by rw [hen_1847, va_up_ne _ _ (by decide)]; exact es1839_1840
          have es1836_1847 : en_1847 0 = .inr (11, [.int 3, .int hi, .int (nI wd), .int (nI mo), .int (nI tb), .ref (ad 1), .ref (ad 2), .ref (ad 3), .ref (ad 4), .ref (ad 5), .ref (ad 6), .ref (ad 7), .ref (ad 8), .ref (ad 9), .int dp, .long many, .long grt, .long lst, .long nou, .ref (ad 10), .ref (ad 11), .ref (ad 12), .int rm, .long rb, .ref (ad 13), .int pr, .ref (ad 14), .ref (ad 15), .ref (ad 16), .ref (ad 17), .int (nI wo), .ref (ad 18), .ref (ad 19)]) := by rw [hen_1847]; exact va_up_self _ _ _
          have hI_1847 : RX cy cs ad en_1847 := by rw [hen_1847]; exact upr_M hI_1840 ⟨3, hi, wd, mo, tb, dp, many, grt, lst, nou, rm, rb, pr, wo, rfl, hwd2, hwd3, hmo, htb, hwo⟩
          have hf_1847 : ∀ c, (c ≠ 0 ∧ c ≠ 18 ∧ c ≠ 19) → en_1847 c = en c := fun c hc => Eq.trans (show en_1847 c = en_1840 c from by rw [hen_1847, va_up_ne _ _ (by omega)]) (hf_1840 c hc)
          have hkc19_1847 : en_1847 19 = en 19 := (show en_1847 19 = en_1840 19 from by rw [hen_1847, va_up_ne _ _ (by decide)]).trans hkc19_1840
          have hkp_1847 : KP en en_1847 := KP_fv hkp_1840 es1836_1840 es1836_1847 hi (nI wd) (nI mo) (nI tb) pr (nI wo) rfl rfl rfl rfl rfl rfl rfl rfl rfl rfl rfl rfl
          obtain rfl : r_1847 = (-13) := hr_1847.trans (by decide)
          exact hp_iretM hx hb hr rfl hlocks hh (⟨hI_1847, hf_1847, RWX_keep hRW hkp_1847.2.2.2.2.2 hkc19_1847, KPw_of hkp_1847⟩) dX12_word_64
        · have n_1846 : I9 ≤ v_1845 := n_nlt (a := v_1845) (b := I9) c_1846 (by omega) (by omega)
          refine lv_iload hx hb dX12_word_46 (lv_at hl 5 rfl) ?_
          refine lv_aload_n hx hb dX12_word_48 rfl (lv_at hl 1 rfl) ?_
          refine hp_get hx hb hts ix12 hown hK hh (q := 0) rfl (hI.1 _ (by decide)) es1836_1840 rfl 8 (by decide) (hts _ tw_887) (fun _ h9 => h9) rfl dX12_word_49 ?_
          refine lv_iload_n hx hb dX12_word_52 rfl (lv_at hl 2 rfl) ?_
          refine hp_iald hx hb hK hh (q := 4) rfl (hI.1 _ (by decide)) es1837_1840 (vp_in_nI (n := K9) (by omega) (by decide)) dX12_word_53 ?_
          rw [nI_clamp (n := K9) (by omega)]
          rw [hfv_1845]
          refine lv_iload_n hx hb dX12_word_54 rfl (lv_at hl 4 rfl) ?_
          refine lv_isub hx hb dX12_word_55 ?_
          rw [pk_sub (a := v_1845) (b := I9) (by omega)]
          refine lv_icmp_le (tgt := 65) hx hb dX12_word_56 (by decide) (fun c_1848 => ?_) (fun c_1848 => ?_)
          · have n_1848 : N9 ≤ (v_1845 - I9) := n_le (a := N9) (b := (v_1845 - I9)) c_1848 (by omega) (by omega)
            refine lv_iload hx hb dX12_word_65 (lv_at hl 5 rfl) ?_
            refine lv_i2l hx hb dX12_word_67 rfl ?_
            refine lv_lconst (v := 1) hx hb dX12_word_68 (by decide) ?_
            refine lv_ldc2 hx hb hown (hts _ tw_1170) dX12_word_69 ?_
            refine hp_callRi (va_runS (As := [.long ((nI N9).toInt64), .long 1, .long 12]) (rest := []) ⟨hx, hb, hml, hown, hts⟩ (c_X12_within l D cy _ cs ad en_1840 ((nI N9).toInt64) 1 12) (kw_X12_within hts tw_985 ⟨by decide, by decide⟩) (preS_of hh hK) rfl rfl hl.1 rfl (lv_room (Nat.le_of_ble_eq_true rfl)) dX12_word_72 ⟨Nat.le_of_ble_eq_true rfl, Nat.le_of_ble_eq_true rfl⟩) hh hA (fun r_1849 H locs hw_1849 hh => ?_)
            rcases Decidable.em (wi (nI N9) 1 12) with hp_1849 | hp_1849
            · obtain rfl : r_1849 = 1 := Eq.trans hw_1849 (if_pos ((wj_32 (by decide) (by decide)).mpr hp_1849))
              have hN_1849 := wi_nn hp_1849 1 12 (by decide) (by decide) (by omega)
              refine lv_if_ne (tgt := 81) hx hb dX12_word_75 (by decide) (fun _ => ?_) (fun c_0 => absurd c_0 (by decide))
              refine lv_iconst (v := 0) hx hb dX12_word_81 (by decide) ?_
              refine lv_istore (lv' := [(6, .int 0), (5, .int 0), (0, .ref (ad 0)), (1, .int (nI K9)), (2, .int la9), (3, .int (nI I9)), (4, .int (nI N9))]) hx hb dX12_word_82 hl (by decide) rfl (fun ls hl => ?_)
              have loop_1850 : ∀ (fu j1850 : Nat)   (ls : Array Slot) (H : Heap) (locs : List Loc), 0 ≤ j1850 → j1850 ≤ N9 → N9 < j1850 + fu →  (∀ x, x < j1850 → ∃ v, v < 6 ∧ f_1838 (((40 * K9) + I9) + x) = nI v) → lv_has ls 7 [(6, .int (nI j1850)), (5, .int 0), (0, .ref (ad 0)), (1, .int (nI K9)), (2, .int la9), (3, .int (nI I9)), (4, .int (nI N9))] → Hp D (Af cs ad sz) (Af cs ad sz) s.heap H locs cs ad en_1840 → W p l e (headSpec (Cond.code yX12_word cX12_word 7 (some .int) :: TB) (rmN 2)).room s m ([.ref (ad 0), .int (nI K9), .int la9, .int (nI I9), .int (nI N9)] : List Value).toArray below meth c H locs 0 0 (MQ below (va_Qi (S := Nat → va_E) (fun r en1 => RX cy cs ad en1 ∧ (∀ c, (c ≠ 0 ∧ c ≠ 18 ∧ c ≠ 19) → en1 c = en c) ∧ RWX en1 ∧ KPw en en1) (PostM D cs ad) (Af cs ad sz)) ([.ref (ad 0), .int (nI K9), .int la9, .int (nI I9), .int (nI N9)] : List Value).toArray s 0 0 (Af cs ad sz)) (F0 m 84 ls []) := by
                intro fu
                induction fu with
                | zero => intro j1850  ls H locs h0 h1 h2; exact absurd h2 (by omega)
                | succ fu ih_1850 =>
                  intro j1850  ls H locs hj0_1850 hj_1850 hfu_1850 i0_1850 hl hh
                  refine lv_iload hx hb dX12_word_84 (lv_at hl 0 rfl) ?_
                  refine lv_iload hx hb dX12_word_86 (lv_at hl 6 rfl) ?_
                  refine lv_icmp_ge (tgt := 120) hx hb dX12_word_88 (by decide) (fun c_1851 => ?_) (fun c_1851 => ?_)
                  · have n_1851 : N9 ≤ j1850 := n_le (a := N9) (b := j1850) c_1851 (by omega) (by omega)
                    have hcl9 : ∀ x, x < N9 → ∃ v, v < 6 ∧ f_1838 (((40 * K9) + I9) + x) = nI v := fun x hx => i0_1850 x (by omega)
                    refine lv_aload_n hx hb dX12_word_120 rfl (lv_at hl 2 rfl) ?_
                    refine hp_get hx hb hts ix12 hown hK hh (q := 0) rfl (hI.1 _ (by decide)) es1836_1840 rfl 30 (by decide) (hts _ tw_909) (fun _ h9 => h9) rfl dX12_word_121 ?_
                    refine lv_bipush (v := 10) hx hb dX12_word_124 (by decide) ?_
                    refine lv_icmp_ne (tgt := 132) hx hb dX12_word_126 (by decide) (fun c_1852 => ?_) (fun c_1852 => ?_)
                    · have n_1852 : wo ≠ 10 := n_neq (a := wo) (b := 10) c_1852 (by omega) (by decide)
                      have hwo9 : wo < 10 := by omega
                      refine lv_iconst (v := 0) hx hb dX12_word_132 (by decide) ?_
                      refine lv_istore (lv' := [(6, .int 0), (5, .int 0), (0, .ref (ad 0)), (1, .int (nI K9)), (2, .int la9), (3, .int (nI I9)), (4, .int (nI N9))]) hx hb dX12_word_133 hl (by decide) rfl (fun ls hl => ?_)
                      have loop_1853 : ∀ (fu j1853 : Nat)  (en_1853 : Nat → va_E) (ls : Array Slot) (H : Heap) (locs : List Loc), 0 ≤ j1853 → j1853 ≤ N9 → N9 < j1853 + fu → RX cy cs ad en_1853 → (∀ c, (c ≠ 0 ∧ c ≠ 18 ∧ c ≠ 19) → en_1853 c = en c) → (KP en en_1853) → (en_1853 19 = en 19) → lv_has ls 7 [(6, .int (nI j1853)), (5, .int 0), (0, .ref (ad 0)), (1, .int (nI K9)), (2, .int la9), (3, .int (nI I9)), (4, .int (nI N9))] → Hp D (Af cs ad sz) (Af cs ad sz) s.heap H locs cs ad en_1853 → W p l e (headSpec (Cond.code yX12_word cX12_word 7 (some .int) :: TB) (rmN 2)).room s m ([.ref (ad 0), .int (nI K9), .int la9, .int (nI I9), .int (nI N9)] : List Value).toArray below meth c H locs 0 0 (MQ below (va_Qi (S := Nat → va_E) (fun r en1 => RX cy cs ad en1 ∧ (∀ c, (c ≠ 0 ∧ c ≠ 18 ∧ c ≠ 19) → en1 c = en c) ∧ RWX en1 ∧ KPw en en1) (PostM D cs ad) (Af cs ad sz)) ([.ref (ad 0), .int (nI K9), .int la9, .int (nI I9), .int (nI N9)] : List Value).toArray s 0 0 (Af cs ad sz)) (F0 m 135 ls []) := by
                        intro fu
                        induction fu with
                        | zero => intro j1853  en_1853 ls H locs h0 h1 h2; exact absurd h2 (by omega)
                        | succ fu ih_1853 =>
                          intro j1853  en_1853 ls H locs hj0_1853 hj_1853 hfu_1853 hI_1853 hf_1853 i0_1853 i1_1853 hl hh
                          refine lv_iload hx hb dX12_word_135 (lv_at hl 0 rfl) ?_
                          refine lv_iload hx hb dX12_word_137 (lv_at hl 6 rfl) ?_
                          refine lv_icmp_ge (tgt := 177) hx hb dX12_word_139 (by decide) (fun c_1854 => ?_) (fun c_1854 => ?_)
                          · have n_1854 : N9 ≤ j1853 := n_le (a := N9) (b := j1853) c_1854 (by omega) (by omega)
                            refine lv_aload_n hx hb dX12_word_177 rfl (lv_at hl 2 rfl) ?_
                            obtain ⟨fa_1855, hi_1855, wd_1855, mo_1855, tb_1855, dp_1855, many_1855, grt_1855, lst_1855, nou_1855, rm_1855, rb_1855, pr_1855, wo_1855, es1855, p0_1855, p1_1855, p2_1855, p3_1855, p4_1855⟩ := getr_M hI_1853
                            have hq2_1856 : wd_1855 = wd := n_eq ((show nI wd_1855 = rdI (en_1853 0) 2 from by rw [es1855]; rfl).trans (i0_1853.2.1.trans (show rdI (en 0) 2 = nI wd from by rw [es1836]; rfl))) (by omega) (by omega)
                            have hq3_1856 : mo_1855 = mo := n_eq ((show nI mo_1855 = rdI (en_1853 0) 3 from by rw [es1855]; rfl).trans (i0_1853.2.2.1.trans (show rdI (en 0) 3 = nI mo from by rw [es1836]; rfl))) (by omega) (by omega)
                            have hq4_1856 : tb_1855 = tb := n_eq ((show nI tb_1855 = rdI (en_1853 0) 4 from by rw [es1855]; rfl).trans (i0_1853.2.2.2.1.trans (show rdI (en 0) 4 = nI tb from by rw [es1836]; rfl))) (by omega) (by omega)
                            have hq30_1856 : wo_1855 = wo := n_eq ((show nI wo_1855 = rdI (en_1853 0) 30 from by rw [es1855]; rfl).trans (i0_1853.2.2.2.2.2.trans (show rdI (en 0) 30 = nI wo from by rw [es1836]; rfl))) (by omega) (by omega)
                            rw [hq2_1856, hq3_1856, hq4_1856, hq30_1856] at es1855
                            refine hp_get hx hb hts ix12 hown hK hh (q := 0) rfl (hI.1 _ (by decide)) es1855 rfl 32 (by decide) (hts _ tw_911) (fun _ h9 => h9) rfl dX12_word_178 ?_
                            refine lv_aload_n hx hb dX12_word_181 rfl (lv_at hl 2 rfl) ?_
                            refine hp_get hx hb hts ix12 hown hK hh (q := 0) rfl (hI.1 _ (by decide)) es1855 rfl 30 (by decide) (hts _ tw_909) (fun _ h9 => h9) rfl dX12_word_182 ?_
                            refine lv_iload hx hb dX12_word_185 (lv_at hl 6 rfl) ?_
                            have es1839_1857 : en_1853 19 = .inl (cy 0, 10, .inl f_1839) := i1_1853.trans es1839
                            refine hp_iast hx hb hK hh (q := 19) rfl (hI.1 _ (by decide)) es1839_1857 (vp_in_nI (n := wo) (by omega) (by decide)) dX12_word_187 (fun H locs en_1858 hen_1858 hh => ?_)
                            rw [nI_clamp (n := wo) (by omega)] at hen_1858
                            have es1855_1858 : en_1858 0 = .inr (11, [.int fa_1855, .int hi_1855, .int (nI wd), .int (nI mo), .int (nI tb), .ref (ad 1), .ref (ad 2), .ref (ad 3), .ref (ad 4), .ref (ad 5), .ref (ad 6), .ref (ad 7), .ref (ad 8), .ref (ad 9), .int dp_1855, .long many_1855, .long grt_1855, .long lst_1855, .long nou_1855, .ref (ad 10), .ref (ad 11), .ref (ad 12), .int rm_1855, .long rb_1855, .ref (ad 13), .int pr_1855, .ref (ad 14), .ref (ad 15), .ref (ad 16), .ref (ad 17), .int (nI wo), .ref (ad 18), .ref (ad 19)]) := by rw [hen_1858, va_up_ne _ _ (by decide)]; exact es1855
                            have es1839_1858 : en_1858 19 = .inl (cy 0, 10, .inl (upd f_1839 wo (nI N9))) := by rw [hen_1858]; exact va_up_self _ _ _
                            have hI_1858 : RX cy cs ad en_1858 := by rw [hen_1858]; exact upr_wl hI_1853 ⟨(upd f_1839 wo (nI N9)), rfl, (vals_updB p0_1839 (by omega))⟩
                            have hf_1858 : ∀ c, (c ≠ 0 ∧ c ≠ 18 ∧ c ≠ 19) → en_1858 c = en c := fun c hc => Eq.trans (show en_1858 c = en_1853 c from by rw [hen_1858, va_up_ne _ _ (by omega)]) (hf_1853 c hc)
                            have hkp_1858 : KP en en_1858 := KP_same i0_1853 (show en_1858 0 = en_1853 0 from by rw [hen_1858, va_up_ne _ _ (by decide)])
                            refine lv_aload_n hx hb dX12_word_188 rfl (lv_at hl 2 rfl) ?_
                            refine lv_dup hx hb dX12_word_189 rfl ?_
                            refine hp_get hx hb hts ix12 hown hK hh (q := 0) rfl (hI.1 _ (by decide)) es1855_1858 rfl 30 (by decide) (hts _ tw_909) (fun _ h9 => h9) rfl dX12_word_190 ?_
                            refine lv_iconst (v := 1) hx hb dX12_word_193 (by decide) ?_
                            refine lv_iadd hx hb dX12_word_194 ?_
                            rw [show (1 : Int32) = nI 1 from rfl, nI_add wo 1]
                            refine hp_put hx hb hts ix12 tyX12 tyX12_ok nmX12 hown hK hh (q := 0) rfl (hI.1 _ (by decide)) es1855_1858 rfl 30 (by decide) (hts _ tw_909) (fun _ h9 => h9) rfl (ty := .int) (by decide +kernel) rfl rfl (Nat.le_of_ble_eq_true rfl) dX12_word_195 (fun H locs en_1859 hen_1859 hh => ?_)
                            have es1839_1859 : en_1859 19 = .inl (cy 0, 10, .inl (upd f_1839 wo (nI N9))) := by rw [hen_1859, va_up_ne _ _ (by decide)]; exact es1839_1858
                            have es1855_1859 : en_1859 0 = .inr (11, [.int fa_1855, .int hi_1855, .int (nI wd), .int (nI mo), .int (nI tb), .ref (ad 1), .ref (ad 2), .ref (ad 3), .ref (ad 4), .ref (ad 5), .ref (ad 6), .ref (ad 7), .ref (ad 8), .ref (ad 9), .int dp_1855, .long many_1855, .long grt_1855, .long lst_1855, .long nou_1855, .ref (ad 10), .ref (ad 11), .ref (ad 12), .int rm_1855, .long rb_1855, .ref (ad 13), .int pr_1855, .ref (ad 14), .ref (ad 15), .ref (ad 16), .ref (ad 17), .int (nI (wo + 1)), .ref (ad 18), .ref (ad 19)]) := by rw [hen_1859]; exact va_up_self _ _ _
                            have hI_1859 : RX cy cs ad en_1859 := by rw [hen_1859]; exact upr_M hI_1858 ⟨fa_1855, hi_1855, wd, mo, tb, dp_1855, many_1855, grt_1855, lst_1855, nou_1855, rm_1855, rb_1855, pr_1855, (wo + 1), rfl, hwd2, hwd3, hmo, htb, (by omega)⟩
                            have hf_1859 : ∀ c, (c ≠ 0 ∧ c ≠ 18 ∧ c ≠ 19) → en_1859 c = en c := fun c hc => Eq.trans (show en_1859 c = en_1858 c from by rw [hen_1859, va_up_ne _ _ (by omega)]) (hf_1858 c hc)
                            refine lv_aload_n hx hb dX12_word_198 rfl (lv_at hl 2 rfl) ?_
                            refine hp_get hx hb hts ix12 hown hK hh (q := 0) rfl (hI.1 _ (by decide)) es1855_1859 rfl 30 (by decide) (hts _ tw_909) (fun _ h9 => h9) rfl dX12_word_199 ?_
                            refine lv_iconst (v := 1) hx hb dX12_word_202 (by decide) ?_
                            refine lv_isub hx hb dX12_word_203 ?_
                            rw [show (1 : Int32) = nI 1 from rfl, pk_sub (a := (wo + 1)) (b := 1) (by omega)]
                            exact hp_iretM hx hb hr rfl hlocks hh (⟨hI_1859, hf_1859, RWX_add hRW (wo := wo) hwo9 (show rdI (en 0) 30 = nI wo from by rw [es1836]; rfl) (show rdI (en_1859 0) 30 = nI (wo + 1) from by rw [es1855_1859]; rfl) (N := N9) (by omega) (by omega) (show rdF (en_1859 19) = upd (rdF (en 19)) wo (nI N9) from by rw [es1839_1859, es1839]; rfl), KPw_fv (KPw_of hkp_1858) es1855_1858 es1855_1859 hi_1855 (nI wd) (nI mo) (nI tb) pr_1855 rfl rfl rfl rfl rfl rfl rfl rfl rfl rfl⟩) dX12_word_204
                          · have n_1854 : j1853 < N9 := n_nle (a := N9) (b := j1853) c_1854 (by omega) (by omega)
                            refine lv_aload_n hx hb dX12_word_142 rfl (lv_at hl 2 rfl) ?_
                            obtain ⟨fa_1860, hi_1860, wd_1860, mo_1860, tb_1860, dp_1860, many_1860, grt_1860, lst_1860, nou_1860, rm_1860, rb_1860, pr_1860, wo_1860, es1860, p0_1860, p1_1860, p2_1860, p3_1860, p4_1860⟩ := getr_M hI_1853
                            have hq2_1861 : wd_1860 = wd := n_eq ((show nI wd_1860 = rdI (en_1853 0) 2 from by rw [es1860]; rfl).trans (i0_1853.2.1.trans (show rdI (en 0) 2 = nI wd from by rw [es1836]; rfl))) (by omega) (by omega)
                            have hq3_1861 : mo_1860 = mo := n_eq ((show nI mo_1860 = rdI (en_1853 0) 3 from by rw [es1860]; rfl).trans (i0_1853.2.2.1.trans (show rdI (en 0) 3 = nI mo from by rw [es1836]; rfl))) (by omega) (by omega)
                            have hq4_1861 : tb_1860 = tb := n_eq ((show nI tb_1860 = rdI (en_1853 0) 4 from by rw [es1860]; rfl).trans (i0_1853.2.2.2.1.trans (show rdI (en 0) 4 = nI tb from by rw [es1836]; rfl))) (by omega) (by omega)
                            have hq30_1861 : wo_1860 = wo := n_eq ((show nI wo_1860 = rdI (en_1853 0) 30 from by rw [es1860]; rfl).trans (i0_1853.2.2.2.2.2.trans (show rdI (en 0) 30 = nI wo from by rw [es1836]; rfl))) (by omega) (by omega)
                            rw [hq2_1861, hq3_1861, hq4_1861, hq30_1861] at es1860
                            refine hp_get hx hb hts ix12 hown hK hh (q := 0) rfl (hI.1 _ (by decide)) es1860 rfl 31 (by decide) (hts _ tw_910) (fun _ h9 => h9) rfl dX12_word_143 ?_
                            refine lv_bipush (v := 12) hx hb dX12_word_146 (by decide) ?_
                            refine lv_aload_n hx hb dX12_word_148 rfl (lv_at hl 2 rfl) ?_
                            refine hp_get hx hb hts ix12 hown hK hh (q := 0) rfl (hI.1 _ (by decide)) es1860 rfl 30 (by decide) (hts _ tw_909) (fun _ h9 => h9) rfl dX12_word_149 ?_
                            refine lv_imul hx hb dX12_word_152 ?_
                            rw [show (12 : Int32) = nI 12 from rfl, pk_mul 12 wo]
                            refine lv_iload hx hb dX12_word_153 (lv_at hl 0 rfl) ?_
                            refine lv_iadd hx hb dX12_word_155 ?_
                            rw [nI_add (12 * wo) j1853]
                            refine lv_aload_n hx hb dX12_word_156 rfl (lv_at hl 2 rfl) ?_
                            refine hp_get hx hb hts ix12 hown hK hh (q := 0) rfl (hI.1 _ (by decide)) es1860 rfl 9 (by decide) (hts _ tw_888) (fun _ h9 => h9) rfl dX12_word_157 ?_
                            refine lv_bipush (v := 40) hx hb dX12_word_160 (by decide) ?_
                            refine lv_iload_n hx hb dX12_word_162 rfl (lv_at hl 3 rfl) ?_
                            refine lv_imul hx hb dX12_word_163 ?_
                            rw [show (40 : Int32) = nI 40 from rfl, pk_mul 40 K9]
                            refine lv_iload_n hx hb dX12_word_164 rfl (lv_at hl 5 rfl) ?_
                            refine lv_iadd hx hb dX12_word_165 ?_
                            rw [nI_add (40 * K9) I9]
                            refine lv_iload hx hb dX12_word_166 (lv_at hl 0 rfl) ?_
                            refine lv_iadd hx hb dX12_word_168 ?_
                            rw [nI_add ((40 * K9) + I9) j1853]
                            have es1838_1862 : en_1853 5 = .inl (cy 0, 160, .inl f_1838) := (hf_1853 5 (by omega)).trans es1838
                            refine hp_iald hx hb hK hh (q := 5) rfl (hI.1 _ (by decide)) es1838_1862 (vp_in_nI (n := (((40 * K9) + I9) + j1853)) (by omega) (by decide)) dX12_word_169 ?_
                            rw [nI_clamp (n := (((40 * K9) + I9) + j1853)) (by omega)]
                            obtain ⟨v_1863, hv_1863, hve_1863⟩ := hcl9 j1853 (by omega)
                            rw [show (f_1838 (((40 * K9) + I9) + j1853)) = nI v_1863 from hve_1863]
                            obtain ⟨f_1864, es1864, p0_1864⟩ := getr_lt hI_1853
                            refine hp_iast hx hb hK hh (q := 18) rfl (hI.1 _ (by decide)) es1864 (vp_in_nI (n := ((12 * wo) + j1853)) (by omega) (by decide)) dX12_word_170 (fun H locs en_1865 hen_1865 hh => ?_)
                            rw [nI_clamp (n := ((12 * wo) + j1853)) (by omega)] at hen_1865
                            have es1860_1865 : en_1865 0 = .inr (11, [.int fa_1860, .int hi_1860, .int (nI wd), .int (nI mo), .int (nI tb), .ref (ad 1), .ref (ad 2), .ref (ad 3), .ref (ad 4), .ref (ad 5), .ref (ad 6), .ref (ad 7), .ref (ad 8), .ref (ad 9), .int dp_1860, .long many_1860, .long grt_1860, .long lst_1860, .long nou_1860, .ref (ad 10), .ref (ad 11), .ref (ad 12), .int rm_1860, .long rb_1860, .ref (ad 13), .int pr_1860, .ref (ad 14), .ref (ad 15), .ref (ad 16), .ref (ad 17), .int (nI wo), .ref (ad 18), .ref (ad 19)]) := by rw [hen_1865, va_up_ne _ _ (by decide)]; exact es1860
                            have es1838_1865 : en_1865 5 = .inl (cy 0, 160, .inl f_1838) := by rw [hen_1865, va_up_ne _ _ (by decide)]; exact es1838_1862
                            have es1864_1865 : en_1865 18 = .inl (cy 0, 120, .inl (upd f_1864 ((12 * wo) + j1853) (nI v_1863))) := by rw [hen_1865]; exact va_up_self _ _ _
                            have hI_1865 : RX cy cs ad en_1865 := by rw [hen_1865]; exact upr_lt hI_1853 ⟨(upd f_1864 ((12 * wo) + j1853) (nI v_1863)), rfl, (vals_updB p0_1864 (by omega))⟩
                            have hf_1865 : ∀ c, (c ≠ 0 ∧ c ≠ 18 ∧ c ≠ 19) → en_1865 c = en c := fun c hc => Eq.trans (show en_1865 c = en_1853 c from by rw [hen_1865, va_up_ne _ _ (by omega)]) (hf_1853 c hc)
                            have hkc19_1865 : en_1865 19 = en 19 := (show en_1865 19 = en_1853 19 from by rw [hen_1865, va_up_ne _ _ (by decide)]).trans i1_1853
                            have hkp_1865 : KP en en_1865 := KP_same i0_1853 (show en_1865 0 = en_1853 0 from by rw [hen_1865, va_up_ne _ _ (by decide)])
                            refine lv_iinc (v := (nI (j1853 + 1))) (lv' := [(6, .int (nI (j1853 + 1))), (5, .int 0), (0, .ref (ad 0)), (1, .int (nI K9)), (2, .int la9), (3, .int (nI I9)), (4, .int (nI N9))]) hx hb dX12_word_171 hl (k := 0) rfl (nI_1 _) (by decide) rfl (fun ls hl => ?_)
                            refine lv_goto (tgt := 135) hx hb dX12_word_174 (by decide) ?_
                            exact ih_1853 ((j1853 + 1))  en_1865 ls H locs (by omega) (by omega) (by omega) hI_1865 hf_1865 (hkp_1865) (hkc19_1865) (lv_sub hl [0, 1, 2, 3, 4, 5, 6] rfl) hh
                      exact loop_1853 (N9 + 1) 0  en_1840 ls _ _ (Nat.le_refl _) (by omega) (by omega) hI_1840 hf_1840 (hkp_1840) (hkc19_1840) (lv_sub hl [0, 1, 2, 3, 4, 5, 6] rfl) hh
                    · have n_1852 : wo = 10 := n_eq (a := wo) (b := 10) c_1852 (by omega) (by decide)
                      refine lv_bipush (v := (-4)) hx hb dX12_word_129 (by decide) ?_
                      exact hp_iretM hx hb hr rfl hlocks hh (⟨hI_1840, hf_1840, RWX_keep hRW hkp_1840.2.2.2.2.2 hkc19_1840, KPw_of hkp_1840⟩) dX12_word_131
                  · have n_1851 : j1850 < N9 := n_nle (a := N9) (b := j1850) c_1851 (by omega) (by omega)
                    refine lv_aload_n hx hb dX12_word_91 rfl (lv_at hl 2 rfl) ?_
                    refine lv_aload_n hx hb dX12_word_92 rfl (lv_at hl 2 rfl) ?_
                    refine hp_get hx hb hts ix12 hown hK hh (q := 0) rfl (hI.1 _ (by decide)) es1836_1840 rfl 9 (by decide) (hts _ tw_888) (fun _ h9 => h9) rfl dX12_word_93 ?_
                    refine lv_bipush (v := 40) hx hb dX12_word_96 (by decide) ?_
                    refine lv_iload_n hx hb dX12_word_98 rfl (lv_at hl 3 rfl) ?_
                    refine lv_imul hx hb dX12_word_99 ?_
                    rw [show (40 : Int32) = nI 40 from rfl, pk_mul 40 K9]
                    refine lv_iload_n hx hb dX12_word_100 rfl (lv_at hl 5 rfl) ?_
                    refine lv_iadd hx hb dX12_word_101 ?_
                    rw [nI_add (40 * K9) I9]
                    refine lv_iload hx hb dX12_word_102 (lv_at hl 0 rfl) ?_
                    refine lv_iadd hx hb dX12_word_104 ?_
                    rw [nI_add ((40 * K9) + I9) j1850]
                    refine hp_iald hx hb hK hh (q := 5) rfl (hI.1 _ (by decide)) es1838_1840 (vp_in_nI (n := (((40 * K9) + I9) + j1850)) (by omega) (by decide)) dX12_word_105 ?_
                    rw [nI_clamp (n := (((40 * K9) + I9) + j1850)) (by omega)]
                    refine hp_callRi (va_runV (As := [.int (f_1838 (((40 * K9) + I9) + j1850))]) (rest := []) ⟨hx, hb, hml, hown, hts⟩ (c_X12_isTable l D cy _ cs ad en_1840 hI_1840 (f_1838 (((40 * K9) + I9) + j1850)) ) (kw_X12_isTable hts tw_1007 ⟨by decide, by decide⟩) (preV_of hh hK (hI.1 _ (by decide)) es1836_1840 rfl) rfl rfl hl.1 rfl (lv_room (Nat.le_of_ble_eq_true rfl)) dX12_word_106 ⟨Nat.le_of_ble_eq_true rfl, Nat.le_of_ble_eq_true rfl⟩) hh hA (fun r_1866 H locs hw_1866 hh => ?_)
                    rw [show rdI (en_1840 0) 4 = (nI tb) from by rw [es1836_1840]; rfl, nI_toInt (n := tb) (by omega)] at hw_1866
                    rcases Decidable.em (0 ≤ (f_1838 (((40 * K9) + I9) + j1850)).toInt ∧ (f_1838 (((40 * K9) + I9) + j1850)).toInt < (tb : Int)) with hp_1866 | hp_1866
                    · obtain rfl : r_1866 = 1 := Eq.trans hw_1866 (if_pos hp_1866)
                      refine lv_if_ne (tgt := 114) hx hb dX12_word_109 (by decide) (fun _ => ?_) (fun c_0 => absurd c_0 (by decide))
                      refine lv_iinc (v := (nI (j1850 + 1))) (lv' := [(6, .int (nI (j1850 + 1))), (5, .int 0), (0, .ref (ad 0)), (1, .int (nI K9)), (2, .int la9), (3, .int (nI I9)), (4, .int (nI N9))]) hx hb dX12_word_114 hl (k := 0) rfl (nI_1 _) (by decide) rfl (fun ls hl => ?_)
                      refine lv_goto (tgt := 84) hx hb dX12_word_117 (by decide) ?_
                      exact ih_1850 ((j1850 + 1))  ls H locs (by omega) (by omega) (by omega) (fun x hx => by rcases Nat.lt_or_ge x j1850 with h9 | h9; exact i0_1850 x h9; obtain rfl : x = j1850 := (by omega); obtain ⟨v, e9, h8⟩ := has_nat hp_1866; exact ⟨v, by omega, e9⟩) (lv_sub hl [0, 1, 2, 3, 4, 5, 6] rfl) hh
                    · obtain rfl : r_1866 = 0 := Eq.trans hw_1866 (if_neg hp_1866)
                      refine lv_if_ne (tgt := 114) hx hb dX12_word_109 (by decide) (fun c_0 => absurd c_0 (by decide)) (fun _ => ?_)
                      refine lv_iconst (v := (-1)) hx hb dX12_word_112 (by decide) ?_
                      exact hp_iretM hx hb hr rfl hlocks hh (⟨hI_1840, hf_1840, RWX_keep hRW hkp_1840.2.2.2.2.2 hkc19_1840, KPw_of hkp_1840⟩) dX12_word_113
              exact loop_1850 (N9 + 1) 0  ls _ _ (Nat.le_refl _) (by omega) (by omega) (fun x h => absurd h (Nat.not_lt_zero x)) (lv_sub hl [0, 1, 2, 3, 4, 5, 6] rfl) hh
            · obtain rfl : r_1849 = 0 := Eq.trans hw_1849 (if_neg (fun q => hp_1849 ((wj_32 (by decide) (by decide)).mp q)))
              refine lv_if_ne (tgt := 81) hx hb dX12_word_75 (by decide) (fun c_0 => absurd c_0 (by decide)) (fun _ => ?_)
              refine lv_bipush (v := (-2)) hx hb dX12_word_78 (by decide) ?_
              exact hp_iretM hx hb hr rfl hlocks hh (⟨hI_1840, hf_1840, RWX_keep hRW hkp_1840.2.2.2.2.2 hkc19_1840, KPw_of hkp_1840⟩) dX12_word_80
          · have n_1848 : (v_1845 - I9) < N9 := n_nle (a := N9) (b := (v_1845 - I9)) c_1848 (by omega) (by omega)
            refine lv_aload_n hx hb dX12_word_59 rfl (lv_at hl 1 rfl) ?_
            refine lv_iconst (v := 3) hx hb dX12_word_60 (by decide) ?_
            refine hp_callMi (va_runV (As := [.int 3]) (rest := []) ⟨hx, hb, hml, hown, hts⟩ (c_X12_fails l D cy _ cs ad en_1840 (hI.1 _ (by decide)) 0 hi wd mo tb dp many grt lst nou rm rb pr wo 3 es1836_1840) (kw_X12_fails hts tw_997 ⟨by decide, by decide⟩) (preV_of hh hK (hI.1 _ (by decide)) es1836_1840 rfl) rfl rfl hl.1 rfl (lv_room (Nat.le_of_ble_eq_true rfl)) dX12_word_61 ⟨Nat.le_of_ble_eq_true rfl, Nat.le_of_ble_eq_true rfl⟩) hh hA (fun r_1867 H locs en_1867 hw_1867 hh => ?_)
            obtain ⟨hr_1867, hen_1867⟩ := hw_1867
            have es1837_1867 : en_1867 4 = .inl (cy 0, 4, .inl f_1837) := by rw [hen_1867, va_up_ne _ _ (by decide)]; exact es1837_1840
            have es1838_1867 : en_1867 5 = .inl (cy 0, 160, .inl f_1838) := by rw [hen_1867, va_up_ne _ _ (by decide)]; exact es1838_1840
            have es1839_1867 : en_1867 19 = .inl (cy 0, 10, .inl f_1839) := by rw [hen_1867, va_up_ne _ _ (by decide)]; exact es1839_1840
            have es1836_1867 : en_1867 0 = .inr (11, [.int 3, .int hi, .int (nI wd), .int (nI mo), .int (nI tb), .ref (ad 1), .ref (ad 2), .ref (ad 3), .ref (ad 4), .ref (ad 5), .ref (ad 6), .ref (ad 7), .ref (ad 8), .ref (ad 9), .int dp, .long many, .long grt, .long lst, .long nou, .ref (ad 10), .ref (ad 11), .ref (ad 12), .int rm, .long rb, .ref (ad 13), .int pr, .ref (ad 14), .ref (ad 15), .ref (ad 16), .ref (ad 17), .int (nI wo), .ref (ad 18), .ref (ad 19)]) := by rw [hen_1867]; exact va_up_self _ _ _
            have hI_1867 : RX cy cs ad en_1867 := by rw [hen_1867]; exact upr_M hI_1840 ⟨3, hi, wd, mo, tb, dp, many, grt, lst, nou, rm, rb, pr, wo, rfl, hwd2, hwd3, hmo, htb, hwo⟩
            have hf_1867 : ∀ c, (c ≠ 0 ∧ c ≠ 18 ∧ c ≠ 19) → en_1867 c = en c := fun c hc => Eq.trans (show en_1867 c = en_1840 c from by rw [hen_1867, va_up_ne _ _ (by omega)]) (hf_1840 c hc)
            have hkc19_1867 : en_1867 19 = en 19 := (show en_1867 19 = en_1840 19 from by rw [hen_1867, va_up_ne _ _ (by decide)]).trans hkc19_1840
            have hkp_1867 : KP en en_1867 := KP_fv hkp_1840 es1836_1840 es1836_1867 hi (nI wd) (nI mo) (nI tb) pr (nI wo) rfl rfl rfl rfl rfl rfl rfl rfl rfl rfl rfl rfl
            obtain rfl : r_1867 = (-13) := hr_1867.trans (by decide)
            exact hp_iretM hx hb hr rfl hlocks hh (⟨hI_1867, hf_1867, RWX_keep hRW hkp_1867.2.2.2.2.2 hkc19_1867, KPw_of hkp_1867⟩) dX12_word_64
    · refine lv_aload_n hx hb dX12_word_26 rfl (lv_at hl 1 rfl) ?_
      refine lv_iconst (v := 4) hx hb dX12_word_27 (by decide) ?_
      refine hp_callMi (va_runV (As := [.int 4]) (rest := []) ⟨hx, hb, hml, hown, hts⟩ (c_X12_fails l D cy _ cs ad en_1840 (hI.1 _ (by decide)) 0 hi wd mo tb dp many grt lst nou rm rb pr wo 4 es1836_1840) (kw_X12_fails hts tw_997 ⟨by decide, by decide⟩) (preV_of hh hK (hI.1 _ (by decide)) es1836_1840 rfl) rfl rfl hl.1 rfl (lv_room (Nat.le_of_ble_eq_true rfl)) dX12_word_28 ⟨Nat.le_of_ble_eq_true rfl, Nat.le_of_ble_eq_true rfl⟩) hh hA (fun r_1868 H locs en_1868 hw_1868 hh => ?_)
      obtain ⟨hr_1868, hen_1868⟩ := hw_1868
      have es1837_1868 : en_1868 4 = .inl (cy 0, 4, .inl f_1837) := by rw [hen_1868, va_up_ne _ _ (by decide)]; exact es1837_1840
      have es1838_1868 : en_1868 5 = .inl (cy 0, 160, .inl f_1838) := by rw [hen_1868, va_up_ne _ _ (by decide)]; exact es1838_1840
      have es1839_1868 : en_1868 19 = .inl (cy 0, 10, .inl f_1839) := by rw [hen_1868, va_up_ne _ _ (by decide)]; exact es1839_1840
      have es1836_1868 : en_1868 0 = .inr (11, [.int 4, .int hi, .int (nI wd), .int (nI mo), .int (nI tb), .ref (ad 1), .ref (ad 2), .ref (ad 3), .ref (ad 4), .ref (ad 5), .ref (ad 6), .ref (ad 7), .ref (ad 8), .ref (ad 9), .int dp, .long many, .long grt, .long lst, .long nou, .ref (ad 10), .ref (ad 11), .ref (ad 12), .int rm, .long rb, .ref (ad 13), .int pr, .ref (ad 14), .ref (ad 15), .ref (ad 16), .ref (ad 17), .int (nI wo), .ref (ad 18), .ref (ad 19)]) := by rw [hen_1868]; exact va_up_self _ _ _
      have hI_1868 : RX cy cs ad en_1868 := by rw [hen_1868]; exact upr_M hI_1840 ⟨4, hi, wd, mo, tb, dp, many, grt, lst, nou, rm, rb, pr, wo, rfl, hwd2, hwd3, hmo, htb, hwo⟩
      have hf_1868 : ∀ c, (c ≠ 0 ∧ c ≠ 18 ∧ c ≠ 19) → en_1868 c = en c := fun c hc => Eq.trans (show en_1868 c = en_1840 c from by rw [hen_1868, va_up_ne _ _ (by omega)]) (hf_1840 c hc)
      have hkc19_1868 : en_1868 19 = en 19 := (show en_1868 19 = en_1840 19 from by rw [hen_1868, va_up_ne _ _ (by decide)]).trans hkc19_1840
      have hkp_1868 : KP en en_1868 := KP_fv hkp_1840 es1836_1840 es1836_1868 hi (nI wd) (nI mo) (nI tb) pr (nI wo) rfl rfl rfl rfl rfl rfl rfl rfl rfl rfl rfl rfl
      obtain rfl : r_1868 = (-14) := hr_1868.trans (by decide)
      exact hp_iretM hx hb hr rfl hlocks hh (⟨hI_1868, hf_1868, RWX_keep hRW hkp_1868.2.2.2.2.2 hkc19_1868, KPw_of hkp_1868⟩) dX12_word_31
  · have hI_1841a := hI_1841
    have hf_1841 : ∀ c, (c ≠ 0 ∧ c ≠ 18 ∧ c ≠ 19) → en_1841 c = en c := fun c hc => (hu_1841 c (by omega)).trans (hf_1840 c hc)
    have hkp_1841 : KP en en_1841 := KP_tr hkp_1840 hkq_1841
    have hkc19_1841 : en_1841 19 = en 19 := (hu_1841 19 (by omega)).trans hkc19_1840
    refine lv_istore (lv' := [(5, .int r_1841), (0, .ref (ad 0)), (1, .int k9), (2, .int la9), (3, .int i9), (4, .int n9)]) hx hb dX12_word_11 hl (by decide) rfl (fun ls hl => ?_)
    refine lv_iload hx hb dX12_word_13 (lv_at hl 0 rfl) ?_
    refine lv_if_eq (tgt := 21) hx hb dX12_word_15 (by decide) (fun c_0 => absurd c_0 (hz_1841)) (fun _ => ?_)
    refine lv_iload hx hb dX12_word_18 (lv_at hl 0 rfl) ?_
    exact hp_iretM hx hb hr rfl hlocks hh (⟨hI_1841, hf_1841, RWX_keep hRW hkp_1841.2.2.2.2.2 hkc19_1841, KPw_of hkp_1841⟩) dX12_word_20
theorem kw_X12_word {R : Room} {s : State} {args : Array Value} {own : String} {idx : Nat} (hts : ∀ w ∈ TB, w.before args s = true) (hl : Cond.methodLink own idx yX12_word ∈ TB) (hR : 2 + 1 ≤ R.frames ∧ 8 + (7 + 11) + 40 * 2 ≤ R.locals) : CallW R s args own RX12 idx yX12_word cX12_word 7 (some .int) (Cond.code yX12_word cX12_word 7 (some .int) :: TB) (rmN 2) 0 0 4 := cwV 4 hts (TB_V hl tw_1167 tw_1168 tw_9 tw_1169) rfl rfl rfl (by decide +kernel) hR
set_option maxHeartbeats 4000000 in
set_option maxRecDepth 100000 in
/-- X12_join -/
theorem c_X12_join (l : Launch) (D : va_G) (cy : Nat → ClassId) (sz : Nat) (cs : List Nat) (ad : Nat → Nat) (en : Nat → va_E) (hI : RX cy cs ad en) (a9 b9 : Int32) (hRW : RWX en)   : Met l yX12_join (Cond.code yX12_join cX12_join 4 (some .int) :: TB) (rmN 1) (va_Pc [.ref (ad 0), .int a9, .int b9] (Pre D cy cs ad en sz)) (va_Qi (S := Nat → va_E) (fun r en1 => RX cy cs ad en1 ∧ (∀ c, (c ≠ 0 ∧ c ≠ 18 ∧ c ≠ 19) → en1 c = en c) ∧ RWX en1 ∧ KPw en en1) (PostM D cs ad) (Af cs ad sz)) 0 0 (Af cs ad sz) := by
  refine Met.ofW (cc := cX12_join) (maxL := 4) (ret := (some .int)) (by decide) rfl ?_
  intro p e s m args below meth c s₁ B hml hv
  obtain ⟨rfl, hsz, hP, hK, hD0⟩ := hv
  have hx := B.exec
  have hb := B.bytes
  have hr := B.returns
  have hts : ∀ w ∈ TB, w.before _ s = true := fun w h => atoms_spec (ws := _ :: TB) B.pre w (List.mem_cons_of_mem _ h)
  have hown : s.vm.findClass RX12 = some m.cls := findClass_of_methodNamed B.named
  have hlocks := B.notSynchronized
  have hh : Hp D (Af cs ad sz) (Af cs ad sz) s.heap s.heap [] cs ad en := ⟨hP, Af_self hD0, va_S.rf⟩
  have hA : ∀ q : Nat, s.heap.size ≤ q → Af cs ad sz q := fun q h => Or.inr (by rw [hsz] at h; exact h)
  have hl := lv_entry ([.ref (ad 0), .int a9, .int b9]) (n := 4) (Nat.le_of_ble_eq_true rfl)
  rw [lg_entry_eq]
  generalize (lg_sl ([.ref (ad 0), .int a9, .int b9]) ++ List.replicate (4 - (lg_sl ([.ref (ad 0), .int a9, .int b9])).length) Slot.unset).toArray = ls at hl ⊢
  have hl : lv_has ls 4 [(0, .ref (ad 0)), (1, .int a9), (2, .int b9)] := hl
  have hf0 : ∀ c, (c ≠ 0 ∧ c ≠ 18 ∧ c ≠ 19) → en c = en c := fun _ _ => rfl
  obtain ⟨fa, hi, wd, mo, tb, dp, many, grt, lst, nou, rm, rb, pr, wo, es1869, hwd2, hwd3, hmo, htb, hwo⟩ := getr_M hI
  obtain ⟨f_1870, es1870, p0_1870⟩ := getr_wl hI
  refine lv_aload_n hx hb dX12_join_0 rfl (lv_at hl 0 rfl) ?_
  refine lv_iload_n hx hb dX12_join_1 rfl (lv_at hl 1 rfl) ?_
  refine hp_callRi (va_runV (As := [.int a9]) (rest := []) ⟨hx, hb, hml, hown, hts⟩ (c_X12_isWord l D cy _ cs ad en hI a9 ) (kw_X12_isWord hts tw_1175 ⟨by decide, by decide⟩) (preV_of hh hK (hI.1 _ (by decide)) es1869 rfl) rfl rfl hl.1 rfl (lv_room (Nat.le_of_ble_eq_true rfl)) dX12_join_2 ⟨Nat.le_of_ble_eq_true rfl, Nat.le_of_ble_eq_true rfl⟩) hh hA (fun r_1871 H locs hw_1871 hh => ?_)
  rw [show rdI (en 0) 30 = (nI wo) from by rw [es1869]; rfl, nI_toInt (n := wo) (by omega)] at hw_1871
  rcases Decidable.em (0 ≤ a9.toInt ∧ a9.toInt < (wo : Int)) with hp_1871 | hp_1871
  · obtain rfl : r_1871 = 1 := Eq.trans hw_1871 (if_pos hp_1871)
    obtain ⟨T_1871, rfl, hT_1871⟩ := has_nat hp_1871
    refine lv_if_eq (tgt := 16) hx hb dX12_join_5 (by decide) (fun c_0 => absurd c_0 (by decide)) (fun _ => ?_)
    refine lv_aload_n hx hb dX12_join_8 rfl (lv_at hl 0 rfl) ?_
    refine lv_iload_n hx hb dX12_join_9 rfl (lv_at hl 2 rfl) ?_
    refine hp_callRi (va_runV (As := [.int b9]) (rest := []) ⟨hx, hb, hml, hown, hts⟩ (c_X12_isWord l D cy _ cs ad en hI b9 ) (kw_X12_isWord hts tw_1175 ⟨by decide, by decide⟩) (preV_of hh hK (hI.1 _ (by decide)) es1869 rfl) rfl rfl hl.1 rfl (lv_room (Nat.le_of_ble_eq_true rfl)) dX12_join_10 ⟨Nat.le_of_ble_eq_true rfl, Nat.le_of_ble_eq_true rfl⟩) hh hA (fun r_1872 H locs hw_1872 hh => ?_)
    rw [show rdI (en 0) 30 = (nI wo) from by rw [es1869]; rfl, nI_toInt (n := wo) (by omega)] at hw_1872
    rcases Decidable.em (0 ≤ b9.toInt ∧ b9.toInt < (wo : Int)) with hp_1872 | hp_1872
    · obtain rfl : r_1872 = 1 := Eq.trans hw_1872 (if_pos hp_1872)
      obtain ⟨T_1872, rfl, hT_1872⟩ := has_nat hp_1872
      refine lv_if_ne (tgt := 18) hx hb dX12_join_13 (by decide) (fun _ => ?_) (fun c_0 => absurd c_0 (by decide))
      refine lv_aload_n hx hb dX12_join_18 rfl (lv_at hl 0 rfl) ?_
      refine hp_get hx hb hts ix12 hown hK hh (q := 0) rfl (hI.1 _ (by decide)) es1869 rfl 32 (by decide) (hts _ tw_911) (fun _ h9 => h9) rfl dX12_join_19 ?_
      refine lv_iload_n hx hb dX12_join_22 rfl (lv_at hl 1 rfl) ?_
      refine hp_iald hx hb hK hh (q := 19) rfl (hI.1 _ (by decide)) es1870 (vp_in_nI (n := T_1871) (by omega) (by decide)) dX12_join_23 ?_
      rw [nI_clamp (n := T_1871) (by omega)]
      obtain ⟨v_1873, hv_1873, hfv_1873⟩ := p0_1870 T_1871 (by omega)
      rw [hfv_1873]
      refine lv_aload_n hx hb dX12_join_24 rfl (lv_at hl 0 rfl) ?_
      refine hp_get hx hb hts ix12 hown hK hh (q := 0) rfl (hI.1 _ (by decide)) es1869 rfl 32 (by decide) (hts _ tw_911) (fun _ h9 => h9) rfl dX12_join_25 ?_
      refine lv_iload_n hx hb dX12_join_28 rfl (lv_at hl 2 rfl) ?_
      refine hp_iald hx hb hK hh (q := 19) rfl (hI.1 _ (by decide)) es1870 (vp_in_nI (n := T_1872) (by omega) (by decide)) dX12_join_29 ?_
      rw [nI_clamp (n := T_1872) (by omega)]
      obtain ⟨v_1874, hv_1874, hfv_1874⟩ := p0_1870 T_1872 (by omega)
      rw [hfv_1874]
      refine lv_iadd hx hb dX12_join_30 ?_
      rw [nI_add v_1873 v_1874]
      refine lv_bipush (v := 12) hx hb dX12_join_31 (by decide) ?_
      refine lv_icmp_le (tgt := 39) hx hb dX12_join_33 (by decide) (fun c_1875 => ?_) (fun c_1875 => ?_)
      · have n_1875 : (v_1873 + v_1874) ≤ 12 := n_le (a := (v_1873 + v_1874)) (b := 12) c_1875 (by omega) (by decide)
        refine lv_aload_n hx hb dX12_join_39 rfl (lv_at hl 0 rfl) ?_
        refine hp_get hx hb hts ix12 hown hK hh (q := 0) rfl (hI.1 _ (by decide)) es1869 rfl 30 (by decide) (hts _ tw_909) (fun _ h9 => h9) rfl dX12_join_40 ?_
        refine lv_bipush (v := 10) hx hb dX12_join_43 (by decide) ?_
        refine lv_icmp_ne (tgt := 51) hx hb dX12_join_45 (by decide) (fun c_1876 => ?_) (fun c_1876 => ?_)
        · have n_1876 : wo ≠ 10 := n_neq (a := wo) (b := 10) c_1876 (by omega) (by decide)
          have hwo9 : wo < 10 := by omega
          have hln_1873 : 1 ≤ v_1873 := RWX_1 hRW (show rdI (en 0) 30 = nI wo from by rw [es1869]; rfl) hwo (w := T_1871) (by omega) (show rdF (en 19) = f_1870 from by rw [es1870]; rfl) hfv_1873 (by omega)
          have hln_1874 : 1 ≤ v_1874 := RWX_1 hRW (show rdI (en 0) 30 = nI wo from by rw [es1869]; rfl) hwo (w := T_1872) (by omega) (show rdF (en 19) = f_1870 from by rw [es1870]; rfl) hfv_1874 (by omega)
          refine lv_iconst (v := 0) hx hb dX12_join_51 (by decide) ?_
          refine lv_istore_n (lv' := [(3, .int 0), (0, .ref (ad 0)), (1, .int (nI T_1871)), (2, .int (nI T_1872))]) hx hb dX12_join_52 rfl hl (by decide) rfl (fun ls hl => ?_)
          have loop_1877 : ∀ (fu j1877 : Nat)  (en_1877 : Nat → va_E) (ls : Array Slot) (H : Heap) (locs : List Loc), 0 ≤ j1877 → j1877 ≤ 12 → 12 < j1877 + fu → RX cy cs ad en_1877 → (∀ c, (c ≠ 0 ∧ c ≠ 18 ∧ c ≠ 19) → en_1877 c = en c) → (KP en en_1877) → (en_1877 19 = en 19) → lv_has ls 4 [(3, .int (nI j1877)), (0, .ref (ad 0)), (1, .int (nI T_1871)), (2, .int (nI T_1872))] → Hp D (Af cs ad sz) (Af cs ad sz) s.heap H locs cs ad en_1877 → W p l e (headSpec (Cond.code yX12_join cX12_join 4 (some .int) :: TB) (rmN 1)).room s m ([.ref (ad 0), .int (nI T_1871), .int (nI T_1872)] : List Value).toArray below meth c H locs 0 0 (MQ below (va_Qi (S := Nat → va_E) (fun r en1 => RX cy cs ad en1 ∧ (∀ c, (c ≠ 0 ∧ c ≠ 18 ∧ c ≠ 19) → en1 c = en c) ∧ RWX en1 ∧ KPw en en1) (PostM D cs ad) (Af cs ad sz)) ([.ref (ad 0), .int (nI T_1871), .int (nI T_1872)] : List Value).toArray s 0 0 (Af cs ad sz)) (F0 m 53 ls []) := by
            intro fu
            induction fu with
            | zero => intro j1877  en_1877 ls H locs h0 h1 h2; exact absurd h2 (by omega)
            | succ fu ih_1877 =>
              intro j1877  en_1877 ls H locs hj0_1877 hj_1877 hfu_1877 hI_1877 hf_1877 i0_1877 i1_1877 hl hh
              refine lv_iload_n hx hb dX12_join_53 rfl (lv_at hl 0 rfl) ?_
              refine lv_aload_n hx hb dX12_join_54 rfl (lv_at hl 1 rfl) ?_
              obtain ⟨fa_1878, hi_1878, wd_1878, mo_1878, tb_1878, dp_1878, many_1878, grt_1878, lst_1878, nou_1878, rm_1878, rb_1878, pr_1878, wo_1878, es1878, p0_1878, p1_1878, p2_1878, p3_1878, p4_1878⟩ := getr_M hI_1877
              have hq2_1879 : wd_1878 = wd := n_eq ((show nI wd_1878 = rdI (en_1877 0) 2 from by rw [es1878]; rfl).trans (i0_1877.2.1.trans (show rdI (en 0) 2 = nI wd from by rw [es1869]; rfl))) (by omega) (by omega)
              have hq3_1879 : mo_1878 = mo := n_eq ((show nI mo_1878 = rdI (en_1877 0) 3 from by rw [es1878]; rfl).trans (i0_1877.2.2.1.trans (show rdI (en 0) 3 = nI mo from by rw [es1869]; rfl))) (by omega) (by omega)
              have hq4_1879 : tb_1878 = tb := n_eq ((show nI tb_1878 = rdI (en_1877 0) 4 from by rw [es1878]; rfl).trans (i0_1877.2.2.2.1.trans (show rdI (en 0) 4 = nI tb from by rw [es1869]; rfl))) (by omega) (by omega)
              have hq30_1879 : wo_1878 = wo := n_eq ((show nI wo_1878 = rdI (en_1877 0) 30 from by rw [es1878]; rfl).trans (i0_1877.2.2.2.2.2.trans (show rdI (en 0) 30 = nI wo from by rw [es1869]; rfl))) (by omega) (by omega)
              rw [hq2_1879, hq3_1879, hq4_1879, hq30_1879] at es1878
              refine hp_get hx hb hts ix12 hown hK hh (q := 0) rfl (hI.1 _ (by decide)) es1878 rfl 32 (by decide) (hts _ tw_911) (fun _ h9 => h9) rfl dX12_join_55 ?_
              refine lv_iload_n hx hb dX12_join_58 rfl (lv_at hl 2 rfl) ?_
              have es1870_1880 : en_1877 19 = .inl (cy 0, 10, .inl f_1870) := i1_1877.trans es1870
              refine hp_iald hx hb hK hh (q := 19) rfl (hI.1 _ (by decide)) es1870_1880 (vp_in_nI (n := T_1871) (by omega) (by decide)) dX12_join_59 ?_
              rw [nI_clamp (n := T_1871) (by omega)]
              rw [hfv_1873]
              refine lv_icmp_ge (tgt := 94) hx hb dX12_join_60 (by decide) (fun c_1881 => ?_) (fun c_1881 => ?_)
              · have n_1881 : v_1873 ≤ j1877 := n_le (a := v_1873) (b := j1877) c_1881 (by omega) (by omega)
                refine lv_iconst (v := 0) hx hb dX12_join_94 (by decide) ?_
                refine lv_istore_n (lv' := [(3, .int 0), (0, .ref (ad 0)), (1, .int (nI T_1871)), (2, .int (nI T_1872))]) hx hb dX12_join_95 rfl hl (by decide) rfl (fun ls hl => ?_)
                have loop_1882 : ∀ (fu j1882 : Nat)  (en_1882 : Nat → va_E) (ls : Array Slot) (H : Heap) (locs : List Loc), 0 ≤ j1882 → j1882 ≤ 12 → 12 < j1882 + fu → RX cy cs ad en_1882 → (∀ c, (c ≠ 0 ∧ c ≠ 18 ∧ c ≠ 19) → en_1882 c = en c) → (KP en en_1882) → (en_1882 19 = en 19) → lv_has ls 4 [(3, .int (nI j1882)), (0, .ref (ad 0)), (1, .int (nI T_1871)), (2, .int (nI T_1872))] → Hp D (Af cs ad sz) (Af cs ad sz) s.heap H locs cs ad en_1882 → W p l e (headSpec (Cond.code yX12_join cX12_join 4 (some .int) :: TB) (rmN 1)).room s m ([.ref (ad 0), .int (nI T_1871), .int (nI T_1872)] : List Value).toArray below meth c H locs 0 0 (MQ below (va_Qi (S := Nat → va_E) (fun r en1 => RX cy cs ad en1 ∧ (∀ c, (c ≠ 0 ∧ c ≠ 18 ∧ c ≠ 19) → en1 c = en c) ∧ RWX en1 ∧ KPw en en1) (PostM D cs ad) (Af cs ad sz)) ([.ref (ad 0), .int (nI T_1871), .int (nI T_1872)] : List Value).toArray s 0 0 (Af cs ad sz)) (F0 m 96 ls []) := by
                  intro fu
                  induction fu with
                  | zero => intro j1882  en_1882 ls H locs h0 h1 h2; exact absurd h2 (by omega)
                  | succ fu ih_1882 =>
                    intro j1882  en_1882 ls H locs hj0_1882 hj_1882 hfu_1882 hI_1882 hf_1882 i0_1882 i1_1882 hl hh
                    refine lv_iload_n hx hb dX12_join_96 rfl (lv_at hl 0 rfl) ?_
                    refine lv_aload_n hx hb dX12_join_97 rfl (lv_at hl 1 rfl) ?_
                    obtain ⟨fa_1883, hi_1883, wd_1883, mo_1883, tb_1883, dp_1883, many_1883, grt_1883, lst_1883, nou_1883, rm_1883, rb_1883, pr_1883, wo_1883, es1883, p0_1883, p1_1883, p2_1883, p3_1883, p4_1883⟩ := getr_M hI_1882
                    have hq2_1884 : wd_1883 = wd := n_eq ((show nI wd_1883 = rdI (en_1882 0) 2 from by rw [es1883]; rfl).trans (i0_1882.2.1.trans (show rdI (en 0) 2 = nI wd from by rw [es1869]; rfl))) (by omega) (by omega)
                    have hq3_1884 : mo_1883 = mo := n_eq ((show nI mo_1883 = rdI (en_1882 0) 3 from by rw [es1883]; rfl).trans (i0_1882.2.2.1.trans (show rdI (en 0) 3 = nI mo from by rw [es1869]; rfl))) (by omega) (by omega)
                    have hq4_1884 : tb_1883 = tb := n_eq ((show nI tb_1883 = rdI (en_1882 0) 4 from by rw [es1883]; rfl).trans (i0_1882.2.2.2.1.trans (show rdI (en 0) 4 = nI tb from by rw [es1869]; rfl))) (by omega) (by omega)
                    have hq30_1884 : wo_1883 = wo := n_eq ((show nI wo_1883 = rdI (en_1882 0) 30 from by rw [es1883]; rfl).trans (i0_1882.2.2.2.2.2.trans (show rdI (en 0) 30 = nI wo from by rw [es1869]; rfl))) (by omega) (by omega)
                    rw [hq2_1884, hq3_1884, hq4_1884, hq30_1884] at es1883
                    refine hp_get hx hb hts ix12 hown hK hh (q := 0) rfl (hI.1 _ (by decide)) es1883 rfl 32 (by decide) (hts _ tw_911) (fun _ h9 => h9) rfl dX12_join_98 ?_
                    refine lv_iload_n hx hb dX12_join_101 rfl (lv_at hl 3 rfl) ?_
                    have es1870_1885 : en_1882 19 = .inl (cy 0, 10, .inl f_1870) := i1_1882.trans es1870
                    refine hp_iald hx hb hK hh (q := 19) rfl (hI.1 _ (by decide)) es1870_1885 (vp_in_nI (n := T_1872) (by omega) (by decide)) dX12_join_102 ?_
                    rw [nI_clamp (n := T_1872) (by omega)]
                    rw [hfv_1874]
                    refine lv_icmp_ge (tgt := 144) hx hb dX12_join_103 (by decide) (fun c_1886 => ?_) (fun c_1886 => ?_)
                    · have n_1886 : v_1874 ≤ j1882 := n_le (a := v_1874) (b := j1882) c_1886 (by omega) (by omega)
                      refine lv_aload_n hx hb dX12_join_144 rfl (lv_at hl 1 rfl) ?_
                      refine hp_get hx hb hts ix12 hown hK hh (q := 0) rfl (hI.1 _ (by decide)) es1883 rfl 32 (by decide) (hts _ tw_911) (fun _ h9 => h9) rfl dX12_join_145 ?_
                      refine lv_aload_n hx hb dX12_join_148 rfl (lv_at hl 1 rfl) ?_
                      refine hp_get hx hb hts ix12 hown hK hh (q := 0) rfl (hI.1 _ (by decide)) es1883 rfl 30 (by decide) (hts _ tw_909) (fun _ h9 => h9) rfl dX12_join_149 ?_
                      refine lv_aload_n hx hb dX12_join_152 rfl (lv_at hl 1 rfl) ?_
                      refine hp_get hx hb hts ix12 hown hK hh (q := 0) rfl (hI.1 _ (by decide)) es1883 rfl 32 (by decide) (hts _ tw_911) (fun _ h9 => h9) rfl dX12_join_153 ?_
                      refine lv_iload_n hx hb dX12_join_156 rfl (lv_at hl 2 rfl) ?_
                      refine hp_iald hx hb hK hh (q := 19) rfl (hI.1 _ (by decide)) es1870_1885 (vp_in_nI (n := T_1871) (by omega) (by decide)) dX12_join_157 ?_
                      rw [nI_clamp (n := T_1871) (by omega)]
                      rw [hfv_1873]
                      refine lv_aload_n hx hb dX12_join_158 rfl (lv_at hl 1 rfl) ?_
                      refine hp_get hx hb hts ix12 hown hK hh (q := 0) rfl (hI.1 _ (by decide)) es1883 rfl 32 (by decide) (hts _ tw_911) (fun _ h9 => h9) rfl dX12_join_159 ?_
                      refine lv_iload_n hx hb dX12_join_162 rfl (lv_at hl 3 rfl) ?_
                      refine hp_iald hx hb hK hh (q := 19) rfl (hI.1 _ (by decide)) es1870_1885 (vp_in_nI (n := T_1872) (by omega) (by decide)) dX12_join_163 ?_
                      rw [nI_clamp (n := T_1872) (by omega)]
                      rw [hfv_1874]
                      refine lv_iadd hx hb dX12_join_164 ?_
                      rw [nI_add v_1873 v_1874]
                      refine hp_iast hx hb hK hh (q := 19) rfl (hI.1 _ (by decide)) es1870_1885 (vp_in_nI (n := wo) (by omega) (by decide)) dX12_join_165 (fun H locs en_1887 hen_1887 hh => ?_)
                      rw [nI_clamp (n := wo) (by omega)] at hen_1887
                      have es1883_1887 : en_1887 0 = .inr (11, [.int fa_1883, .int hi_1883, .int (nI wd), .int (nI mo), .int (nI tb), .ref (ad 1), .ref (ad 2), .ref (ad 3), .ref (ad 4), .ref (ad 5), .ref (ad 6), .ref (ad 7), .ref (ad 8), .ref (ad 9), .int dp_1883, .long many_1883, .long grt_1883, .long lst_1883, .long nou_1883, .ref (ad 10), .ref (ad 11), .ref (ad 12), .int rm_1883, .long rb_1883, .ref (ad 13), .int pr_1883, .ref (ad 14), .ref (ad 15), .ref (ad 16), .ref (ad 17), .int (nI wo), .ref (ad 18), .ref (ad 19)]) := by rw [hen_1887, va_up_ne _ _ (by decide)]; exact es1883
                      have es1870_1887 : en_1887 19 = .inl (cy 0, 10, .inl (upd f_1870 wo (nI (v_1873 + v_1874)))) := by rw [hen_1887]; exact va_up_self _ _ _
                      have hI_1887 : RX cy cs ad en_1887 := by rw [hen_1887]; exact upr_wl hI_1882 ⟨(upd f_1870 wo (nI (v_1873 + v_1874))), rfl, (vals_updB p0_1870 (by omega))⟩
                      have hf_1887 : ∀ c, (c ≠ 0 ∧ c ≠ 18 ∧ c ≠ 19) → en_1887 c = en c := fun c hc => Eq.trans (show en_1887 c = en_1882 c from by rw [hen_1887, va_up_ne _ _ (by omega)]) (hf_1882 c hc)
                      have hkp_1887 : KP en en_1887 := KP_same i0_1882 (show en_1887 0 = en_1882 0 from by rw [hen_1887, va_up_ne _ _ (by decide)])
                      refine lv_aload_n hx hb dX12_join_166 rfl (lv_at hl 1 rfl) ?_
                      refine lv_dup hx hb dX12_join_167 rfl ?_
                      refine hp_get hx hb hts ix12 hown hK hh (q := 0) rfl (hI.1 _ (by decide)) es1883_1887 rfl 30 (by decide) (hts _ tw_909) (fun _ h9 => h9) rfl dX12_join_168 ?_
                      refine lv_iconst (v := 1) hx hb dX12_join_171 (by decide) ?_
                      refine lv_iadd hx hb dX12_join_172 ?_
                      rw [show (1 : Int32) = nI 1 from rfl, nI_add wo 1]
                      refine hp_put hx hb hts ix12 tyX12 tyX12_ok nmX12 hown hK hh (q := 0) rfl (hI.1 _ (by decide)) es1883_1887 rfl 30 (by decide) (hts _ tw_909) (fun _ h9 => h9) rfl (ty := .int) (by decide +kernel) rfl rfl (Nat.le_of_ble_eq_true rfl) dX12_join_173 (fun H locs en_1888 hen_1888 hh => ?_)
                      have es1870_1888 : en_1888 19 = .inl (cy 0, 10, .inl (upd f_1870 wo (nI (v_1873 + v_1874)))) := by rw [hen_1888, va_up_ne _ _ (by decide)]; exact es1870_1887
                      have es1883_1888 : en_1888 0 = .inr (11, [.int fa_1883, .int hi_1883, .int (nI wd), .int (nI mo), .int (nI tb), .ref (ad 1), .ref (ad 2), .ref (ad 3), .ref (ad 4), .ref (ad 5), .ref (ad 6), .ref (ad 7), .ref (ad 8), .ref (ad 9), .int dp_1883, .long many_1883, .long grt_1883, .long lst_1883, .long nou_1883, .ref (ad 10), .ref (ad 11), .ref (ad 12), .int rm_1883, .long rb_1883, .ref (ad 13), .int pr_1883, .ref (ad 14), .ref (ad 15), .ref (ad 16), .ref (ad 17), .int (nI (wo + 1)), .ref (ad 18), .ref (ad 19)]) := by rw [hen_1888]; exact va_up_self _ _ _
                      have hI_1888 : RX cy cs ad en_1888 := by rw [hen_1888]; exact upr_M hI_1887 ⟨fa_1883, hi_1883, wd, mo, tb, dp_1883, many_1883, grt_1883, lst_1883, nou_1883, rm_1883, rb_1883, pr_1883, (wo + 1), rfl, hwd2, hwd3, hmo, htb, (by omega)⟩
                      have hf_1888 : ∀ c, (c ≠ 0 ∧ c ≠ 18 ∧ c ≠ 19) → en_1888 c = en c := fun c hc => Eq.trans (show en_1888 c = en_1887 c from by rw [hen_1888, va_up_ne _ _ (by omega)]) (hf_1887 c hc)
                      refine lv_aload_n hx hb dX12_join_176 rfl (lv_at hl 1 rfl) ?_
                      refine hp_get hx hb hts ix12 hown hK hh (q := 0) rfl (hI.1 _ (by decide)) es1883_1888 rfl 30 (by decide) (hts _ tw_909) (fun _ h9 => h9) rfl dX12_join_177 ?_
                      refine lv_iconst (v := 1) hx hb dX12_join_180 (by decide) ?_
                      refine lv_isub hx hb dX12_join_181 ?_
                      rw [show (1 : Int32) = nI 1 from rfl, pk_sub (a := (wo + 1)) (b := 1) (by omega)]
                      exact hp_iretM hx hb hr rfl hlocks hh (⟨hI_1888, hf_1888, RWX_add hRW (wo := wo) hwo9 (show rdI (en 0) 30 = nI wo from by rw [es1869]; rfl) (show rdI (en_1888 0) 30 = nI (wo + 1) from by rw [es1883_1888]; rfl) (N := (v_1873 + v_1874)) (by omega) (by omega) (show rdF (en_1888 19) = upd (rdF (en 19)) wo (nI (v_1873 + v_1874)) from by rw [es1870_1888, es1870]; rfl), KPw_fv (KPw_of hkp_1887) es1883_1887 es1883_1888 hi_1883 (nI wd) (nI mo) (nI tb) pr_1883 rfl rfl rfl rfl rfl rfl rfl rfl rfl rfl⟩) dX12_join_182
                    · have n_1886 : j1882 < v_1874 := n_nle (a := v_1874) (b := j1882) c_1886 (by omega) (by omega)
                      refine lv_aload_n hx hb dX12_join_106 rfl (lv_at hl 1 rfl) ?_
                      refine hp_get hx hb hts ix12 hown hK hh (q := 0) rfl (hI.1 _ (by decide)) es1883 rfl 31 (by decide) (hts _ tw_910) (fun _ h9 => h9) rfl dX12_join_107 ?_
                      refine lv_bipush (v := 12) hx hb dX12_join_110 (by decide) ?_
                      refine lv_aload_n hx hb dX12_join_112 rfl (lv_at hl 1 rfl) ?_
                      refine hp_get hx hb hts ix12 hown hK hh (q := 0) rfl (hI.1 _ (by decide)) es1883 rfl 30 (by decide) (hts _ tw_909) (fun _ h9 => h9) rfl dX12_join_113 ?_
                      refine lv_imul hx hb dX12_join_116 ?_
                      rw [show (12 : Int32) = nI 12 from rfl, pk_mul 12 wo]
                      refine lv_aload_n hx hb dX12_join_117 rfl (lv_at hl 1 rfl) ?_
                      refine hp_get hx hb hts ix12 hown hK hh (q := 0) rfl (hI.1 _ (by decide)) es1883 rfl 32 (by decide) (hts _ tw_911) (fun _ h9 => h9) rfl dX12_join_118 ?_
                      refine lv_iload_n hx hb dX12_join_121 rfl (lv_at hl 2 rfl) ?_
                      refine hp_iald hx hb hK hh (q := 19) rfl (hI.1 _ (by decide)) es1870_1885 (vp_in_nI (n := T_1871) (by omega) (by decide)) dX12_join_122 ?_
                      rw [nI_clamp (n := T_1871) (by omega)]
                      rw [hfv_1873]
                      refine lv_iadd hx hb dX12_join_123 ?_
                      rw [nI_add (12 * wo) v_1873]
                      refine lv_iload_n hx hb dX12_join_124 rfl (lv_at hl 0 rfl) ?_
                      refine lv_iadd hx hb dX12_join_125 ?_
                      rw [nI_add ((12 * wo) + v_1873) j1882]
                      refine lv_aload_n hx hb dX12_join_126 rfl (lv_at hl 1 rfl) ?_
                      refine hp_get hx hb hts ix12 hown hK hh (q := 0) rfl (hI.1 _ (by decide)) es1883 rfl 31 (by decide) (hts _ tw_910) (fun _ h9 => h9) rfl dX12_join_127 ?_
                      refine lv_bipush (v := 12) hx hb dX12_join_130 (by decide) ?_
                      refine lv_iload_n hx hb dX12_join_132 rfl (lv_at hl 3 rfl) ?_
                      refine lv_imul hx hb dX12_join_133 ?_
                      rw [show (12 : Int32) = nI 12 from rfl, pk_mul 12 T_1872]
                      refine lv_iload_n hx hb dX12_join_134 rfl (lv_at hl 0 rfl) ?_
                      refine lv_iadd hx hb dX12_join_135 ?_
                      rw [nI_add (12 * T_1872) j1882]
                      obtain ⟨f_1889, es1889, p0_1889⟩ := getr_lt hI_1882
                      refine hp_iald hx hb hK hh (q := 18) rfl (hI.1 _ (by decide)) es1889 (vp_in_nI (n := ((12 * T_1872) + j1882)) (by omega) (by decide)) dX12_join_136 ?_
                      rw [nI_clamp (n := ((12 * T_1872) + j1882)) (by omega)]
                      obtain ⟨v_1890, hv_1890, hfv_1890⟩ := p0_1889 ((12 * T_1872) + j1882) (by omega)
                      rw [hfv_1890]
                      refine hp_iast hx hb hK hh (q := 18) rfl (hI.1 _ (by decide)) es1889 (vp_in_nI (n := (((12 * wo) + v_1873) + j1882)) (by omega) (by decide)) dX12_join_137 (fun H locs en_1891 hen_1891 hh => ?_)
                      rw [nI_clamp (n := (((12 * wo) + v_1873) + j1882)) (by omega)] at hen_1891
                      have es1883_1891 : en_1891 0 = .inr (11, [.int fa_1883, .int hi_1883, .int (nI wd), .int (nI mo), .int (nI tb), .ref (ad 1), .ref (ad 2), .ref (ad 3), .ref (ad 4), .ref (ad 5), .ref (ad 6), .ref (ad 7), .ref (ad 8), .ref (ad 9), .int dp_1883, .long many_1883, .long grt_1883, .long lst_1883, .long nou_1883, .ref (ad 10), .ref (ad 11), .ref (ad 12), .int rm_1883, .long rb_1883, .ref (ad 13), .int pr_1883, .ref (ad 14), .ref (ad 15), .ref (ad 16), .ref (ad 17), .int (nI wo), .ref (ad 18), .ref (ad 19)]) := by rw [hen_1891, va_up_ne _ _ (by decide)]; exact es1883
                      have es1870_1891 : en_1891 19 = .inl (cy 0, 10, .inl f_1870) := by rw [hen_1891, va_up_ne _ _ (by decide)]; exact es1870_1885
                      have es1889_1891 : en_1891 18 = .inl (cy 0, 120, .inl (upd f_1889 (((12 * wo) + v_1873) + j1882) (nI v_1890))) := by rw [hen_1891]; exact va_up_self _ _ _
                      have hI_1891 : RX cy cs ad en_1891 := by rw [hen_1891]; exact upr_lt hI_1882 ⟨(upd f_1889 (((12 * wo) + v_1873) + j1882) (nI v_1890)), rfl, (vals_updB p0_1889 (by omega))⟩
                      have hf_1891 : ∀ c, (c ≠ 0 ∧ c ≠ 18 ∧ c ≠ 19) → en_1891 c = en c := fun c hc => Eq.trans (show en_1891 c = en_1882 c from by rw [hen_1891, va_up_ne _ _ (by omega)]) (hf_1882 c hc)
                      have hkc19_1891 : en_1891 19 = en 19 := (show en_1891 19 = en_1882 19 from by rw [hen_1891, va_up_ne _ _ (by decide)]).trans i1_1882
                      have hkp_1891 : KP en en_1891 := KP_same i0_1882 (show en_1891 0 = en_1882 0 from by rw [hen_1891, va_up_ne _ _ (by decide)])
                      refine lv_iinc (v := (nI (j1882 + 1))) (lv' := [(3, .int (nI (j1882 + 1))), (0, .ref (ad 0)), (1, .int (nI T_1871)), (2, .int (nI T_1872))]) hx hb dX12_join_138 hl (k := 0) rfl (nI_1 _) (by decide) rfl (fun ls hl => ?_)
                      refine lv_goto (tgt := 96) hx hb dX12_join_141 (by decide) ?_
                      exact ih_1882 ((j1882 + 1))  en_1891 ls H locs (by omega) (by omega) (by omega) hI_1891 hf_1891 (hkp_1891) (hkc19_1891) (lv_sub hl [0, 1, 2, 3] rfl) hh
                exact loop_1882 (12 + 1) 0  en_1877 ls _ _ (Nat.le_refl _) (by omega) (by omega) hI_1877 hf_1877 (i0_1877) (i1_1877) (lv_sub hl [0, 1, 2, 3] rfl) hh
              · have n_1881 : j1877 < v_1873 := n_nle (a := v_1873) (b := j1877) c_1881 (by omega) (by omega)
                refine lv_aload_n hx hb dX12_join_63 rfl (lv_at hl 1 rfl) ?_
                refine hp_get hx hb hts ix12 hown hK hh (q := 0) rfl (hI.1 _ (by decide)) es1878 rfl 31 (by decide) (hts _ tw_910) (fun _ h9 => h9) rfl dX12_join_64 ?_
                refine lv_bipush (v := 12) hx hb dX12_join_67 (by decide) ?_
                refine lv_aload_n hx hb dX12_join_69 rfl (lv_at hl 1 rfl) ?_
                refine hp_get hx hb hts ix12 hown hK hh (q := 0) rfl (hI.1 _ (by decide)) es1878 rfl 30 (by decide) (hts _ tw_909) (fun _ h9 => h9) rfl dX12_join_70 ?_
                refine lv_imul hx hb dX12_join_73 ?_
                rw [show (12 : Int32) = nI 12 from rfl, pk_mul 12 wo]
                refine lv_iload_n hx hb dX12_join_74 rfl (lv_at hl 0 rfl) ?_
                refine lv_iadd hx hb dX12_join_75 ?_
                rw [nI_add (12 * wo) j1877]
                refine lv_aload_n hx hb dX12_join_76 rfl (lv_at hl 1 rfl) ?_
                refine hp_get hx hb hts ix12 hown hK hh (q := 0) rfl (hI.1 _ (by decide)) es1878 rfl 31 (by decide) (hts _ tw_910) (fun _ h9 => h9) rfl dX12_join_77 ?_
                refine lv_bipush (v := 12) hx hb dX12_join_80 (by decide) ?_
                refine lv_iload_n hx hb dX12_join_82 rfl (lv_at hl 2 rfl) ?_
                refine lv_imul hx hb dX12_join_83 ?_
                rw [show (12 : Int32) = nI 12 from rfl, pk_mul 12 T_1871]
                refine lv_iload_n hx hb dX12_join_84 rfl (lv_at hl 0 rfl) ?_
                refine lv_iadd hx hb dX12_join_85 ?_
                rw [nI_add (12 * T_1871) j1877]
                obtain ⟨f_1892, es1892, p0_1892⟩ := getr_lt hI_1877
                refine hp_iald hx hb hK hh (q := 18) rfl (hI.1 _ (by decide)) es1892 (vp_in_nI (n := ((12 * T_1871) + j1877)) (by omega) (by decide)) dX12_join_86 ?_
                rw [nI_clamp (n := ((12 * T_1871) + j1877)) (by omega)]
                obtain ⟨v_1893, hv_1893, hfv_1893⟩ := p0_1892 ((12 * T_1871) + j1877) (by omega)
                rw [hfv_1893]
                refine hp_iast hx hb hK hh (q := 18) rfl (hI.1 _ (by decide)) es1892 (vp_in_nI (n := ((12 * wo) + j1877)) (by omega) (by decide)) dX12_join_87 (fun H locs en_1894 hen_1894 hh => ?_)
                rw [nI_clamp (n := ((12 * wo) + j1877)) (by omega)] at hen_1894
                have es1878_1894 : en_1894 0 = .inr (11, [.int fa_1878, .int hi_1878, .int (nI wd), .int (nI mo), .int (nI tb), .ref (ad 1), .ref (ad 2), .ref (ad 3), .ref (ad 4), .ref (ad 5), .ref (ad 6), .ref (ad 7), .ref (ad 8), .ref (ad 9), .int dp_1878, .long many_1878, .long grt_1878, .long lst_1878, .long nou_1878, .ref (ad 10), .ref (ad 11), .ref (ad 12), .int rm_1878, .long rb_1878, .ref (ad 13), .int pr_1878, .ref (ad 14), .ref (ad 15), .ref (ad 16), .ref (ad 17), .int (nI wo), .ref (ad 18), .ref (ad 19)]) := by rw [hen_1894, va_up_ne _ _ (by decide)]; exact es1878
                have es1870_1894 : en_1894 19 = .inl (cy 0, 10, .inl f_1870) := by rw [hen_1894, va_up_ne _ _ (by decide)]; exact es1870_1880
                have es1892_1894 : en_1894 18 = .inl (cy 0, 120, .inl (upd f_1892 ((12 * wo) + j1877) (nI v_1893))) := by rw [hen_1894]; exact va_up_self _ _ _
                have hI_1894 : RX cy cs ad en_1894 := by rw [hen_1894]; exact upr_lt hI_1877 ⟨(upd f_1892 ((12 * wo) + j1877) (nI v_1893)), rfl, (vals_updB p0_1892 (by omega))⟩
                have hf_1894 : ∀ c, (c ≠ 0 ∧ c ≠ 18 ∧ c ≠ 19) → en_1894 c = en c := fun c hc => Eq.trans (show en_1894 c = en_1877 c from by rw [hen_1894, va_up_ne _ _ (by omega)]) (hf_1877 c hc)
                have hkc19_1894 : en_1894 19 = en 19 := (show en_1894 19 = en_1877 19 from by rw [hen_1894, va_up_ne _ _ (by decide)]).trans i1_1877
                have hkp_1894 : KP en en_1894 := KP_same i0_1877 (show en_1894 0 = en_1877 0 from by rw [hen_1894, va_up_ne _ _ (by decide)])
                refine lv_iinc (v := (nI (j1877 + 1))) (lv' := [(3, .int (nI (j1877 + 1))), (0, .ref (ad 0)), (1, .int (nI T_1871)), (2, .int (nI T_1872))]) hx hb dX12_join_88 hl (k := 0) rfl (nI_1 _) (by decide) rfl (fun ls hl => ?_)
                refine lv_goto (tgt := 53) hx hb dX12_join_91 (by decide) ?_
                exact ih_1877 ((j1877 + 1))  en_1894 ls H locs (by omega) (by omega) (by omega) hI_1894 hf_1894 (hkp_1894) (hkc19_1894) (lv_sub hl [0, 1, 2, 3] rfl) hh
          exact loop_1877 (12 + 1) 0  en ls _ _ (Nat.le_refl _) (by omega) (by omega) hI hf0 ((KP_rf en)) (rfl) (lv_sub hl [0, 1, 2, 3] rfl) hh
        · have n_1876 : wo = 10 := n_eq (a := wo) (b := 10) c_1876 (by omega) (by decide)
          refine lv_bipush (v := (-4)) hx hb dX12_join_48 (by decide) ?_
          exact hp_iretM hx hb hr rfl hlocks hh (⟨hI, hf0, RWX_keep hRW (KP_rf en).2.2.2.2.2 rfl, KPw_of (KP_rf en)⟩) dX12_join_50
      · have n_1875 : 12 < (v_1873 + v_1874) := n_nle (a := (v_1873 + v_1874)) (b := 12) c_1875 (by omega) (by decide)
        refine lv_bipush (v := (-2)) hx hb dX12_join_36 (by decide) ?_
        exact hp_iretM hx hb hr rfl hlocks hh (⟨hI, hf0, RWX_keep hRW (KP_rf en).2.2.2.2.2 rfl, KPw_of (KP_rf en)⟩) dX12_join_38
    · obtain rfl : r_1872 = 0 := Eq.trans hw_1872 (if_neg hp_1872)
      refine lv_if_ne (tgt := 18) hx hb dX12_join_13 (by decide) (fun c_0 => absurd c_0 (by decide)) (fun _ => ?_)
      refine lv_iconst (v := (-1)) hx hb dX12_join_16 (by decide) ?_
      exact hp_iretM hx hb hr rfl hlocks hh (⟨hI, hf0, RWX_keep hRW (KP_rf en).2.2.2.2.2 rfl, KPw_of (KP_rf en)⟩) dX12_join_17
  · obtain rfl : r_1871 = 0 := Eq.trans hw_1871 (if_neg hp_1871)
    refine lv_if_eq (tgt := 16) hx hb dX12_join_5 (by decide) (fun _ => ?_) (fun c_0 => absurd c_0 (by decide))
    refine lv_iconst (v := (-1)) hx hb dX12_join_16 (by decide) ?_
    exact hp_iretM hx hb hr rfl hlocks hh (⟨hI, hf0, RWX_keep hRW (KP_rf en).2.2.2.2.2 rfl, KPw_of (KP_rf en)⟩) dX12_join_17
theorem kw_X12_join {R : Room} {s : State} {args : Array Value} {own : String} {idx : Nat} (hts : ∀ w ∈ TB, w.before args s = true) (hl : Cond.methodLink own idx yX12_join ∈ TB) (hR : 1 + 1 ≤ R.frames ∧ 8 + (4 + 11) + 40 * 1 ≤ R.locals) : CallW R s args own RX12 idx yX12_join cX12_join 4 (some .int) (Cond.code yX12_join cX12_join 4 (some .int) :: TB) (rmN 1) 0 0 2 := cwV 2 hts (TB_V hl tw_1172 tw_1173 tw_9 tw_1174) rfl rfl rfl (by decide +kernel) hR
