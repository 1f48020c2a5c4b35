set_option maxHeartbeats 4000000 in
set_option maxRecDepth 100000 in
/-- closed -/
theorem c_X12_closed (l : Launch) (D : va_G) (cy : Nat → ClassId) (sz : Nat) (cs : List Nat) (ad : Nat → Nat) (en : Nat → va_E) (hI : RX cy cs ad en) (z9 : Int32) (hCX : CHX en)   : Met l yX12_closed (Cond.code yX12_closed cX12_closed 4 (some .int) :: TB) (rmN 2) (va_Pc [.ref (ad 0), .int z9] (Pre D cy cs ad en sz)) (va_Qi (S := Nat → va_E) (fun r en1 => RX cy cs ad en1 ∧ (∀ c, (c ≠ 6) → en1 c = en c)) (PostM D cs ad) (Af cs ad sz)) 0 0 (Af cs ad sz) := by
  refine Met.ofW (cc := cX12_closed) (maxL := 4) (ret := (some .int)) (by decide) rfl ?_
  intro p e s m args below meth c s₁ B hml hv
  obtain ⟨rfl, hsz, hP, hK, hD0⟩ := hv
  have hx := B.exec
  have hb := B.bytes
  have hr := B.returns
  have hts : ∀ w ∈ TB, w.before _ s = true := fun w h => atoms_spec (ws := _ :: TB) B.pre w (List.mem_cons_of_mem _ h)
  have hown : s.vm.findClass RX12 = some m.cls := findClass_of_methodNamed B.named
  have hlocks := B.notSynchronized
  have hh : Hp D (Af cs ad sz) (Af cs ad sz) s.heap s.heap [] cs ad en := ⟨hP, Af_self hD0, va_S.rf⟩
  have hA : ∀ q : Nat, s.heap.size ≤ q → Af cs ad sz q := fun q h => Or.inr (by rw [hsz] at h; exact h)
  have hl := lv_entry ([.ref (ad 0), .int z9]) (n := 4) (Nat.le_of_ble_eq_true rfl)
  rw [lg_entry_eq]
  generalize (lg_sl ([.ref (ad 0), .int z9]) ++ List.replicate (4 - (lg_sl ([.ref (ad 0), .int z9])).length) Slot.unset).toArray = ls at hl ⊢
  have hl : lv_has ls 4 [(0, .ref (ad 0)), (1, .int z9)] := hl
  have hf0 : ∀ c, (c ≠ 6) → en c = en c := fun _ _ => rfl
  obtain ⟨fa, hi, wd, mo, tb, dp, many, grt, lst, nou, rm, rb, pr, wo, es1750, hwd2, hwd3, hmo, htb, hwo⟩ := getr_M hI
  refine lv_iload_n hx hb dX12_closed_0 rfl (lv_at hl 1 rfl) ?_
  refine lv_i2l hx hb dX12_closed_1 rfl ?_
  refine lv_lconst (v := 0) hx hb dX12_closed_2 (by decide) ?_
  refine lv_ldc2 hx hb hown (hts _ tw_1141) dX12_closed_3 ?_
  refine hp_callRi (va_runS (As := [.long z9.toInt64, .long 0, .long 4]) (rest := []) ⟨hx, hb, hml, hown, hts⟩ (c_X12_within l D cy _ cs ad en z9.toInt64 0 4) (kw_X12_within hts tw_985 ⟨by decide, by decide⟩) (preS_of hh hK) rfl rfl hl.1 rfl (lv_room (Nat.le_of_ble_eq_true rfl)) dX12_closed_6 ⟨Nat.le_of_ble_eq_true rfl, Nat.le_of_ble_eq_true rfl⟩) hh hA (fun r_1751 H locs hw_1751 hh => ?_)
  rcases Decidable.em (wi z9 0 4) with hp_1751 | hp_1751
  · obtain rfl : r_1751 = 1 := Eq.trans hw_1751 (if_pos ((wj_32 (by decide) (by decide)).mpr hp_1751))
    obtain ⟨N_1751, rfl, hA_1751, hB_1751⟩ := wi_natB hp_1751 0 4 (by decide) (by decide)
    refine lv_if_ne (tgt := 15) hx hb dX12_closed_9 (by decide) (fun _ => ?_) (fun c_0 => absurd c_0 (by decide))
    refine lv_aload_n hx hb dX12_closed_15 rfl (lv_at hl 0 rfl) ?_
    refine hp_get hx hb hts ix12 hown hK hh (q := 0) rfl (hI.1 _ (by decide)) es1750 rfl 25 (by decide) (hts _ tw_904) (fun _ h9 => h9) rfl dX12_closed_16 ?_
    refine lv_bipush (v := (-9)) hx hb dX12_closed_19 (by decide) ?_
    refine lv_icmp_ne (tgt := 27) hx hb dX12_closed_21 (by decide) (fun c_1752 => ?_) (fun c_1752 => ?_)
    · obtain ⟨P9, hP1, hP2, hPe, hCH⟩ := CHX_n9 hCX (show rdI (en 0) 25 = pr from by rw [es1750]; rfl) c_1752
      have hfx_1753 : pr = nI P9 := (show pr = rdI (en 0) 25 from by rw [es1750]; rfl).trans (hCH.2.1)
      rw [hfx_1753] at es1750
      refine lv_iconst (v := 0) hx hb dX12_closed_27 (by decide) ?_
      refine lv_istore_n (lv' := [(2, .int 0), (0, .ref (ad 0)), (1, .int (nI N_1751))]) hx hb dX12_closed_28 rfl hl (by decide) rfl (fun ls hl => ?_)
      refine lv_iload_n hx hb dX12_closed_29 rfl (lv_at hl 2 rfl) ?_
      by_cases q_1754_0 : (nI N_1751) = 0
      · refine lv_tableIn (off := 30) (tgt := 60) hx hb dX12_closed_30 (by rw [q_1754_0]; decide) (by rw [q_1754_0]; decide) (by rw [q_1754_0]; decide) (by decide) ?_
        refine lv_aload_n hx hb dX12_closed_60 rfl (lv_at hl 1 rfl) ?_
        refine hp_get hx hb hts ix12 hown hK hh (q := 0) rfl (hI.1 _ (by decide)) es1750 rfl 25 (by decide) (hts _ tw_904) (fun _ h9 => h9) rfl dX12_closed_61 ?_
        exact hp_iretM hx hb hr rfl hlocks hh (⟨hI, hf0⟩) dX12_closed_64
      by_cases q_1754_1 : (nI N_1751) = 1
      · refine lv_tableIn (off := 35) (tgt := 65) hx hb dX12_closed_30 (by rw [q_1754_1]; decide) (by rw [q_1754_1]; decide) (by rw [q_1754_1]; decide) (by decide) ?_
        refine lv_iconst (v := 0) hx hb dX12_closed_65 (by decide) ?_
        refine lv_istore_n (lv' := [(3, .int 0), (2, .int 0), (0, .ref (ad 0)), (1, .int (nI N_1751))]) hx hb dX12_closed_66 rfl hl (by decide) rfl (fun ls hl => ?_)
        have loop_1755 : ∀ (fu j1755 : Nat) (no1755 : Int32)  (ls : Array Slot) (H : Heap) (locs : List Loc), 0 ≤ j1755 → j1755 ≤ P9 → P9 < j1755 + fu →   lv_has ls 4 [(3, .int (nI j1755)), (2, .int no1755), (0, .ref (ad 0)), (1, .int (nI N_1751))] → Hp D (Af cs ad sz) (Af cs ad sz) s.heap H locs cs ad en → W p l e (headSpec (Cond.code yX12_closed cX12_closed 4 (some .int) :: TB) (rmN 2)).room s m ([.ref (ad 0), .int (nI N_1751)] : List Value).toArray below meth c H locs 0 0 (MQ below (va_Qi (S := Nat → va_E) (fun r en1 => RX cy cs ad en1 ∧ (∀ c, (c ≠ 6) → en1 c = en c)) (PostM D cs ad) (Af cs ad sz)) ([.ref (ad 0), .int (nI N_1751)] : List Value).toArray s 0 0 (Af cs ad sz)) (F0 m 67 ls []) := by
          intro fu
          induction fu with
          | zero => intro j1755 no1755 ls H locs h0 h1 h2; exact absurd h2 (by omega)
          | succ fu ih_1755 =>
            intro j1755 no1755 ls H locs hj0_1755 hj_1755 hfu_1755  hl hh
            refine lv_iload_n hx hb dX12_closed_67 rfl (lv_at hl 0 rfl) ?_
            refine lv_aload_n hx hb dX12_closed_68 rfl (lv_at hl 2 rfl) ?_
            refine hp_get hx hb hts ix12 hown hK hh (q := 0) rfl (hI.1 _ (by decide)) es1750 rfl 25 (by decide) (hts _ tw_904) (fun _ h9 => h9) rfl dX12_closed_69 ?_
            refine lv_icmp_ge (tgt := 97) hx hb dX12_closed_72 (by decide) (fun c_1756 => ?_) (fun c_1756 => ?_)
            · have n_1756 : P9 ≤ j1755 := n_le (a := P9) (b := j1755) c_1756 (by omega) (by omega)
              refine lv_iload_n hx hb dX12_closed_97 rfl (lv_at hl 1 rfl) ?_
              exact hp_iretM hx hb hr rfl hlocks hh (⟨hI, hf0⟩) dX12_closed_98
            · have n_1756 : j1755 < P9 := n_nle (a := P9) (b := j1755) c_1756 (by omega) (by omega)
              refine lv_iload_n hx hb dX12_closed_75 rfl (lv_at hl 1 rfl) ?_
              refine lv_aload_n hx hb dX12_closed_76 rfl (lv_at hl 2 rfl) ?_
              refine lv_iload_n hx hb dX12_closed_77 rfl (lv_at hl 0 rfl) ?_
              refine hp_callRi (va_runV (As := [.int (nI j1755)]) (rest := [.int no1755]) ⟨hx, hb, hml, hown, hts⟩ (c_X12_isNought l D cy _ cs ad en hI j1755 (by omega)) (kw_X12_isNought hts tw_1142 ⟨by decide, by decide⟩) (preV_of hh hK (hI.1 _ (by decide)) es1750 rfl) rfl rfl hl.1 rfl (lv_room (Nat.le_of_ble_eq_true rfl)) dX12_closed_78 ⟨Nat.le_of_ble_eq_true rfl, Nat.le_of_ble_eq_true rfl⟩) hh hA (fun r_1757 H locs hw_1757 hh => ?_)
              rcases hw_1757 with hb_1757 | hb_1757
              · obtain rfl : r_1757 = 0 := hb_1757
                refine lv_if_eq (tgt := 88) hx hb dX12_closed_81 (by decide) (fun _ => ?_) (fun c_0 => absurd c_0 (by decide))
                refine lv_iconst (v := 0) hx hb dX12_closed_88 (by decide) ?_
                refine lv_ior hx hb dX12_closed_89 ?_
                refine lv_istore_n (lv' := [(2, .int (no1755 ||| 0)), (3, .int (nI j1755)), (0, .ref (ad 0)), (1, .int (nI N_1751))]) hx hb dX12_closed_90 rfl hl (by decide) rfl (fun ls hl => ?_)
                refine lv_iinc (v := (nI (j1755 + 1))) (lv' := [(3, .int (nI (j1755 + 1))), (2, .int (no1755 ||| 0)), (0, .ref (ad 0)), (1, .int (nI N_1751))]) hx hb dX12_closed_91 hl (k := 1) rfl (nI_1 _) (by decide) rfl (fun ls hl => ?_)
                refine lv_goto (tgt := 67) hx hb dX12_closed_94 (by decide) ?_
                exact ih_1755 ((j1755 + 1)) (no1755 ||| 0) ls H locs (by omega) (by omega) (by omega)  (lv_sub hl [0, 1, 2, 3] rfl) hh
              · obtain rfl : r_1757 = 1 := hb_1757
                refine lv_if_eq (tgt := 88) hx hb dX12_closed_81 (by decide) (fun c_0 => absurd c_0 (by decide)) (fun _ => ?_)
                refine lv_iconst (v := 1) hx hb dX12_closed_84 (by decide) ?_
                refine lv_goto (tgt := 89) hx hb dX12_closed_85 (by decide) ?_
                refine lv_ior hx hb dX12_closed_89 ?_
                refine lv_istore_n (lv' := [(2, .int (no1755 ||| 1)), (3, .int (nI j1755)), (0, .ref (ad 0)), (1, .int (nI N_1751))]) hx hb dX12_closed_90 rfl hl (by decide) rfl (fun ls hl => ?_)
                refine lv_iinc (v := (nI (j1755 + 1))) (lv' := [(3, .int (nI (j1755 + 1))), (2, .int (no1755 ||| 1)), (0, .ref (ad 0)), (1, .int (nI N_1751))]) hx hb dX12_closed_91 hl (k := 1) rfl (nI_1 _) (by decide) rfl (fun ls hl => ?_)
                refine lv_goto (tgt := 67) hx hb dX12_closed_94 (by decide) ?_
                exact ih_1755 ((j1755 + 1)) (no1755 ||| 1) ls H locs (by omega) (by omega) (by omega)  (lv_sub hl [0, 1, 2, 3] rfl) hh
        exact loop_1755 (P9 + 1) 0 0 ls _ _ (Nat.le_refl _) (by omega) (by omega)  (lv_sub hl [0, 1, 2, 3] rfl) hh
      by_cases q_1754_2 : (nI N_1751) = 2
      · refine lv_tableIn (off := 69) (tgt := 99) hx hb dX12_closed_30 (by rw [q_1754_2]; decide) (by rw [q_1754_2]; decide) (by rw [q_1754_2]; decide) (by decide) ?_
        refine lv_iconst (v := 0) hx hb dX12_closed_99 (by decide) ?_
        refine lv_istore_n (lv' := [(3, .int 0), (2, .int 0), (0, .ref (ad 0)), (1, .int (nI N_1751))]) hx hb dX12_closed_100 rfl hl (by decide) rfl (fun ls hl => ?_)
        have loop_1758 : ∀ (fu j1758 : Nat)   (ls : Array Slot) (H : Heap) (locs : List Loc), 0 ≤ j1758 → j1758 ≤ P9 → P9 < j1758 + fu →   lv_has ls 4 [(3, .int (nI j1758)), (2, .int 0), (0, .ref (ad 0)), (1, .int (nI N_1751))] → Hp D (Af cs ad sz) (Af cs ad sz) s.heap H locs cs ad en → W p l e (headSpec (Cond.code yX12_closed cX12_closed 4 (some .int) :: TB) (rmN 2)).room s m ([.ref (ad 0), .int (nI N_1751)] : List Value).toArray below meth c H locs 0 0 (MQ below (va_Qi (S := Nat → va_E) (fun r en1 => RX cy cs ad en1 ∧ (∀ c, (c ≠ 6) → en1 c = en c)) (PostM D cs ad) (Af cs ad sz)) ([.ref (ad 0), .int (nI N_1751)] : List Value).toArray s 0 0 (Af cs ad sz)) (F0 m 101 ls []) := by
          intro fu
          induction fu with
          | zero => intro j1758  ls H locs h0 h1 h2; exact absurd h2 (by omega)
          | succ fu ih_1758 =>
            intro j1758  ls H locs hj0_1758 hj_1758 hfu_1758  hl hh
            refine lv_iload_n hx hb dX12_closed_101 rfl (lv_at hl 0 rfl) ?_
            refine lv_aload_n hx hb dX12_closed_102 rfl (lv_at hl 2 rfl) ?_
            refine hp_get hx hb hts ix12 hown hK hh (q := 0) rfl (hI.1 _ (by decide)) es1750 rfl 25 (by decide) (hts _ tw_904) (fun _ h9 => h9) rfl dX12_closed_103 ?_
            refine lv_icmp_ge (tgt := 125) hx hb dX12_closed_106 (by decide) (fun c_1759 => ?_) (fun c_1759 => ?_)
            · have n_1759 : P9 ≤ j1758 := n_le (a := P9) (b := j1758) c_1759 (by omega) (by omega)
              refine lv_bipush (v := (-9)) hx hb dX12_closed_125 (by decide) ?_
              exact hp_iretM hx hb hr rfl hlocks hh (⟨hI, hf0⟩) dX12_closed_127
            · have n_1759 : j1758 < P9 := n_nle (a := P9) (b := j1758) c_1759 (by omega) (by omega)
              refine lv_aload_n hx hb dX12_closed_109 rfl (lv_at hl 2 rfl) ?_
              refine lv_iload_n hx hb dX12_closed_110 rfl (lv_at hl 0 rfl) ?_
              refine hp_callRi (va_runV (As := [.int (nI j1758)]) (rest := []) ⟨hx, hb, hml, hown, hts⟩ (c_X12_isOne l D cy _ cs ad en hI j1758 (by omega)) (kw_X12_isOne hts tw_1146 ⟨by decide, by decide⟩) (preV_of hh hK (hI.1 _ (by decide)) es1750 rfl) rfl rfl hl.1 rfl (lv_room (Nat.le_of_ble_eq_true rfl)) dX12_closed_111 ⟨Nat.le_of_ble_eq_true rfl, Nat.le_of_ble_eq_true rfl⟩) hh hA (fun r_1760 H locs hw_1760 hh => ?_)
              rcases hw_1760 with hb_1760 | hb_1760
              · obtain rfl : r_1760 = 0 := hb_1760
                refine lv_if_eq (tgt := 119) hx hb dX12_closed_114 (by decide) (fun _ => ?_) (fun c_0 => absurd c_0 (by decide))
                refine lv_iinc (v := (nI (j1758 + 1))) (lv' := [(3, .int (nI (j1758 + 1))), (2, .int 0), (0, .ref (ad 0)), (1, .int (nI N_1751))]) hx hb dX12_closed_119 hl (k := 0) rfl (nI_1 _) (by decide) rfl (fun ls hl => ?_)
                refine lv_goto (tgt := 101) hx hb dX12_closed_122 (by decide) ?_
                exact ih_1758 ((j1758 + 1))  ls H locs (by omega) (by omega) (by omega)  (lv_sub hl [0, 1, 2, 3] rfl) hh
              · obtain rfl : r_1760 = 1 := hb_1760
                refine lv_if_eq (tgt := 119) hx hb dX12_closed_114 (by decide) (fun c_0 => absurd c_0 (by decide)) (fun _ => ?_)
                refine lv_iload_n hx hb dX12_closed_117 rfl (lv_at hl 0 rfl) ?_
                exact hp_iretM hx hb hr rfl hlocks hh (⟨hI, hf0⟩) dX12_closed_118
        exact loop_1758 (P9 + 1) 0  ls _ _ (Nat.le_refl _) (by omega) (by omega)  (lv_sub hl [0, 1, 2, 3] rfl) hh
      by_cases q_1754_3 : (nI N_1751) = 3
      · refine lv_tableIn (off := 98) (tgt := 128) hx hb dX12_closed_30 (by rw [q_1754_3]; decide) (by rw [q_1754_3]; decide) (by rw [q_1754_3]; decide) (by decide) ?_
        refine lv_iconst (v := 0) hx hb dX12_closed_128 (by decide) ?_
        refine lv_istore_n (lv' := [(3, .int 0), (2, .int 0), (0, .ref (ad 0)), (1, .int (nI N_1751))]) hx hb dX12_closed_129 rfl hl (by decide) rfl (fun ls hl => ?_)
        have loop_1761 : ∀ (fu j1761 : Nat) (no1761 : Int32) (en_1761 : Nat → va_E) (ls : Array Slot) (H : Heap) (locs : List Loc), 0 ≤ j1761 → j1761 ≤ P9 → P9 < j1761 + fu → RX cy cs ad en_1761 → (∀ c, (c ≠ 6) → en_1761 c = en c) →  lv_has ls 4 [(3, .int (nI j1761)), (2, .int no1761), (0, .ref (ad 0)), (1, .int (nI N_1751))] → Hp D (Af cs ad sz) (Af cs ad sz) s.heap H locs cs ad en_1761 → W p l e (headSpec (Cond.code yX12_closed cX12_closed 4 (some .int) :: TB) (rmN 2)).room s m ([.ref (ad 0), .int (nI N_1751)] : List Value).toArray below meth c H locs 0 0 (MQ below (va_Qi (S := Nat → va_E) (fun r en1 => RX cy cs ad en1 ∧ (∀ c, (c ≠ 6) → en1 c = en c)) (PostM D cs ad) (Af cs ad sz)) ([.ref (ad 0), .int (nI N_1751)] : List Value).toArray s 0 0 (Af cs ad sz)) (F0 m 130 ls []) := by
          intro fu
          induction fu with
          | zero => intro j1761 no1761 en_1761 ls H locs h0 h1 h2; exact absurd h2 (by omega)
          | succ fu ih_1761 =>
            intro j1761 no1761 en_1761 ls H locs hj0_1761 hj_1761 hfu_1761 hI_1761 hf_1761  hl hh
            refine lv_iload_n hx hb dX12_closed_130 rfl (lv_at hl 0 rfl) ?_
            refine lv_aload_n hx hb dX12_closed_131 rfl (lv_at hl 2 rfl) ?_
            have es1750_1762 : en_1761 0 = .inr (11, [.int fa, .int hi, .int (nI wd), .int (nI mo), .int (nI tb), .ref (ad 1), .ref (ad 2), .ref (ad 3), .ref (ad 4), .ref (ad 5), .ref (ad 6), .ref (ad 7), .ref (ad 8), .ref (ad 9), .int dp, .long many, .long grt, .long lst, .long nou, .ref (ad 10), .ref (ad 11), .ref (ad 12), .int rm, .long rb, .ref (ad 13), .int (nI P9), .ref (ad 14), .ref (ad 15), .ref (ad 16), .ref (ad 17), .int (nI wo), .ref (ad 18), .ref (ad 19)]) := (hf_1761 0 (by omega)).trans es1750
            refine hp_get hx hb hts ix12 hown hK hh (q := 0) rfl (hI.1 _ (by decide)) es1750_1762 rfl 25 (by decide) (hts _ tw_904) (fun _ h9 => h9) rfl dX12_closed_132 ?_
            refine lv_icmp_ge (tgt := 167) hx hb dX12_closed_135 (by decide) (fun c_1763 => ?_) (fun c_1763 => ?_)
            · have n_1763 : P9 ≤ j1761 := n_le (a := P9) (b := j1761) c_1763 (by omega) (by omega)
              refine lv_iload_n hx hb dX12_closed_167 rfl (lv_at hl 1 rfl) ?_
              exact hp_iretM hx hb hr rfl hlocks hh (⟨hI_1761, hf_1761⟩) dX12_closed_168
            · have n_1763 : j1761 < P9 := n_nle (a := P9) (b := j1761) c_1763 (by omega) (by omega)
              refine lv_aload_n hx hb dX12_closed_138 rfl (lv_at hl 2 rfl) ?_
              refine lv_iload_n hx hb dX12_closed_139 rfl (lv_at hl 0 rfl) ?_
              refine lv_iload_n hx hb dX12_closed_140 rfl (lv_at hl 0 rfl) ?_
              refine hp_callMv (va_runV (As := [.int (nI j1761), .int (nI j1761)]) (rest := []) ⟨hx, hb, hml, hown, hts⟩ (c_X12_multiply l D cy _ cs ad en_1761 hI_1761 j1761 j1761 (by omega) (by omega)) (kw_X12_multiply hts tw_1150 ⟨by decide, by decide⟩) (preV_of hh hK (hI.1 _ (by decide)) es1750_1762 rfl) rfl rfl hl.1 rfl (lv_room (Nat.le_of_ble_eq_true rfl)) dX12_closed_141 ⟨Nat.le_of_ble_eq_true rfl, Nat.le_of_ble_eq_true rfl⟩) hh hA (fun H locs en_1764 hw_1764 hh => ?_)
              obtain ⟨hI_1764, hu_1764⟩ := hw_1764
              have es1750_1764 : en_1764 0 = .inr (11, [.int fa, .int hi, .int (nI wd), .int (nI mo), .int (nI tb), .ref (ad 1), .ref (ad 2), .ref (ad 3), .ref (ad 4), .ref (ad 5), .ref (ad 6), .ref (ad 7), .ref (ad 8), .ref (ad 9), .int dp, .long many, .long grt, .long lst, .long nou, .ref (ad 10), .ref (ad 11), .ref (ad 12), .int rm, .long rb, .ref (ad 13), .int (nI P9), .ref (ad 14), .ref (ad 15), .ref (ad 16), .ref (ad 17), .int (nI wo), .ref (ad 18), .ref (ad 19)]) := (hu_1764 0 (by omega)).trans es1750_1762
              have hf_1764 : ∀ c, (c ≠ 6) → en_1764 c = en c := fun c hc => (hu_1764 c (by omega)).trans (hf_1761 c hc)
              refine lv_iload_n hx hb dX12_closed_144 rfl (lv_at hl 1 rfl) ?_
              refine lv_aload_n hx hb dX12_closed_145 rfl (lv_at hl 2 rfl) ?_
              refine lv_iconst (v := 1) hx hb dX12_closed_146 (by decide) ?_
              refine hp_callRi (va_runV (As := [.int 1]) (rest := [.int no1761]) ⟨hx, hb, hml, hown, hts⟩ (c_X12_findAt l D cy _ cs ad en_1764 hI_1764 1 (by omega) P9 (CH_keep hCH (by rw [hf_1764 0 (by omega)]) (hf_1764 16 (by omega)) (hf_1764 17 (by omega)))) (kw_X12_findAt hts tw_1123 ⟨by decide, by decide⟩) (preV_of hh hK (hI.1 _ (by decide)) es1750_1764 rfl) rfl rfl hl.1 rfl (lv_room (Nat.le_of_ble_eq_true rfl)) dX12_closed_147 ⟨Nat.le_of_ble_eq_true rfl, Nat.le_of_ble_eq_true rfl⟩) hh hA (fun r_1765 H locs hw_1765 hh => ?_)
              refine lv_iload_n hx hb dX12_closed_150 rfl (lv_at hl 0 rfl) ?_
              refine lv_icmp_ne (tgt := 158) hx hb dX12_closed_151 (by decide) (fun c_1766 => ?_) (fun c_1766 => ?_)
              · refine lv_iconst (v := 0) hx hb dX12_closed_158 (by decide) ?_
                refine lv_iadd hx hb dX12_closed_159 ?_
                refine lv_istore_n (lv' := [(2, .int (no1761 + 0)), (3, .int (nI j1761)), (0, .ref (ad 0)), (1, .int (nI N_1751))]) hx hb dX12_closed_160 rfl hl (by decide) rfl (fun ls hl => ?_)
                refine lv_iinc (v := (nI (j1761 + 1))) (lv' := [(3, .int (nI (j1761 + 1))), (2, .int (no1761 + 0)), (0, .ref (ad 0)), (1, .int (nI N_1751))]) hx hb dX12_closed_161 hl (k := 1) rfl (nI_1 _) (by decide) rfl (fun ls hl => ?_)
                refine lv_goto (tgt := 130) hx hb dX12_closed_164 (by decide) ?_
                exact ih_1761 ((j1761 + 1)) (no1761 + 0) en_1764 ls H locs (by omega) (by omega) (by omega) hI_1764 hf_1764  (lv_sub hl [0, 1, 2, 3] rfl) hh
              · refine lv_iconst (v := 1) hx hb dX12_closed_154 (by decide) ?_
                refine lv_goto (tgt := 159) hx hb dX12_closed_155 (by decide) ?_
                refine lv_iadd hx hb dX12_closed_159 ?_
                refine lv_istore_n (lv' := [(2, .int (no1761 + 1)), (3, .int (nI j1761)), (0, .ref (ad 0)), (1, .int (nI N_1751))]) hx hb dX12_closed_160 rfl hl (by decide) rfl (fun ls hl => ?_)
                refine lv_iinc (v := (nI (j1761 + 1))) (lv' := [(3, .int (nI (j1761 + 1))), (2, .int (no1761 + 1)), (0, .ref (ad 0)), (1, .int (nI N_1751))]) hx hb dX12_closed_161 hl (k := 1) rfl (nI_1 _) (by decide) rfl (fun ls hl => ?_)
                refine lv_goto (tgt := 130) hx hb dX12_closed_164 (by decide) ?_
                exact ih_1761 ((j1761 + 1)) (no1761 + 1) en_1764 ls H locs (by omega) (by omega) (by omega) hI_1764 hf_1764  (lv_sub hl [0, 1, 2, 3] rfl) hh
        exact loop_1761 (P9 + 1) 0 0 en ls _ _ (Nat.le_refl _) (by omega) (by omega) hI hf0  (lv_sub hl [0, 1, 2, 3] rfl) hh
      refine lv_tableOut (tgt := 169) hx hb dX12_closed_30 (tb_out 4 (by decide) (by decide) (fun j hj => by rcases (show j = 0 ∨ j = 1 ∨ j = 2 ∨ j = 3 by omega) with rfl | rfl | rfl | rfl <;> first | exact lv_neT q_1754_0 (by decide) | exact lv_neT q_1754_1 (by decide) | exact lv_neT q_1754_2 (by decide) | exact lv_neT q_1754_3 (by decide))) (by decide) ?_
      refine lv_aload_n hx hb dX12_closed_169 rfl (lv_at hl 1 rfl) ?_
      refine hp_get hx hb hts ix12 hown hK hh (q := 0) rfl (hI.1 _ (by decide)) es1750 rfl 27 (by decide) (hts _ tw_906) (fun _ h9 => h9) rfl dX12_closed_170 ?_
      refine lv_aload_n hx hb dX12_closed_173 rfl (lv_at hl 1 rfl) ?_
      refine hp_get hx hb hts ix12 hown hK hh (q := 0) rfl (hI.1 _ (by decide)) es1750 rfl 25 (by decide) (hts _ tw_904) (fun _ h9 => h9) rfl dX12_closed_174 ?_
      refine lv_iconst (v := 1) hx hb dX12_closed_177 (by decide) ?_
      refine lv_isub hx hb dX12_closed_178 ?_
      rw [show (1 : Int32) = nI 1 from rfl, pk_sub (a := P9) (b := 1) (by omega)]
      obtain ⟨f_1767, es1767⟩ := getr_ln hI
      refine hp_iald hx hb hK hh (q := 15) rfl (hI.1 _ (by decide)) es1767 (vp_in_nI (n := (P9 - 1)) (by omega) (by decide)) dX12_closed_179 ?_
      rw [nI_clamp (n := (P9 - 1)) (by omega)]
      exact hp_iretM hx hb hr rfl hlocks hh (⟨hI, hf0⟩) dX12_closed_180
    · refine lv_bipush (v := (-3)) hx hb dX12_closed_24 (by decide) ?_
      exact hp_iretM hx hb hr rfl hlocks hh (⟨hI, hf0⟩) dX12_closed_26
  · obtain rfl : r_1751 = 0 := Eq.trans hw_1751 (if_neg (fun q => hp_1751 ((wj_32 (by decide) (by decide)).mp q)))
    refine lv_if_ne (tgt := 15) hx hb dX12_closed_9 (by decide) (fun c_0 => absurd c_0 (by decide)) (fun _ => ?_)
    refine lv_bipush (v := (-2)) hx hb dX12_closed_12 (by decide) ?_
    exact hp_iretM hx hb hr rfl hlocks hh (⟨hI, hf0⟩) dX12_closed_14
theorem kw_X12_closed {R : Room} {s : State} {args : Array Value} {own : String} {idx : Nat} (hts : ∀ w ∈ TB, w.before args s = true) (hl : Cond.methodLink own idx yX12_closed ∈ TB) (hR : 2 + 1 ≤ R.frames ∧ 8 + (4 + 11) + 40 * 2 ≤ R.locals) : CallW R s args own RX12 idx yX12_closed cX12_closed 4 (some .int) (Cond.code yX12_closed cX12_closed 4 (some .int) :: TB) (rmN 2) 0 0 1 := cwV 1 hts (TB_V hl tw_1138 tw_1139 tw_9 tw_1140) rfl rfl rfl (by decide +kernel) hR
set_option maxHeartbeats 4000000 in
set_option maxRecDepth 100000 in
/-- product -/
theorem c_X12_product (l : Launch) (D : va_G) (cy : Nat → ClassId) (sz : Nat) (cs : List Nat) (ad : Nat → Nat) (en : Nat → va_E) (hI : RX cy cs ad en) (k9 a9 b9 : Int32) (hCX : CHX en)   : Met l yX12_product (Cond.code yX12_product cX12_product 4 (some .long) :: TB) (rmN 2) (va_Pc [.ref (ad 0), .int k9, .int a9, .int b9] (Pre D cy cs ad en sz)) (va_Ql (S := Unit) (fun _ _ => True) (fun _ _ => True) (Nf sz)) 0 0 (Nf sz) := by
  refine Met.ofW (cc := cX12_product) (maxL := 4) (ret := (some .long)) (by decide) rfl ?_
  intro p e s m args below meth c s₁ B hml hv
  obtain ⟨rfl, hsz, hP, hK, hD0⟩ := hv
  have hx := B.exec
  have hb := B.bytes
  have hr := B.returns
  have hts : ∀ w ∈ TB, w.before _ s = true := fun w h => atoms_spec (ws := _ :: TB) B.pre w (List.mem_cons_of_mem _ h)
  have hown : s.vm.findClass RX12 = some m.cls := findClass_of_methodNamed B.named
  have hlocks := B.notSynchronized
  have hh : Hp D (Nf sz) (fun _ => True) s.heap s.heap [] cs ad en := ⟨hP, hD0, va_S.rf⟩
  have hA : ∀ q : Nat, s.heap.size ≤ q → Nf sz q := fun q h => by rw [hsz] at h; exact h
  have hl := lv_entry ([.ref (ad 0), .int k9, .int a9, .int b9]) (n := 4) (Nat.le_of_ble_eq_true rfl)
  rw [lg_entry_eq]
  generalize (lg_sl ([.ref (ad 0), .int k9, .int a9, .int b9]) ++ List.replicate (4 - (lg_sl ([.ref (ad 0), .int k9, .int a9, .int b9])).length) Slot.unset).toArray = ls at hl ⊢
  have hl : lv_has ls 4 [(0, .ref (ad 0)), (1, .int k9), (2, .int a9), (3, .int b9)] := hl
  obtain ⟨fa, hi, wd, mo, tb, dp, many, grt, lst, nou, rm, rb, pr, wo, es1768, hwd2, hwd3, hmo, htb, hwo⟩ := getr_M hI
  refine lv_aload_n hx hb dX12_product_0 rfl (lv_at hl 0 rfl) ?_
  refine lv_iload_n hx hb dX12_product_1 rfl (lv_at hl 1 rfl) ?_
  refine hp_callRi (va_runV (As := [.int k9]) (rest := []) ⟨hx, hb, hml, hown, hts⟩ (c_X12_isProduct l D cy _ cs ad en hI k9 ) (kw_X12_isProduct hts tw_1158 ⟨by decide, by decide⟩) (preV_of hh hK (hI.1 _ (by decide)) es1768 rfl) rfl rfl hl.1 rfl (lv_room (Nat.le_of_ble_eq_true rfl)) dX12_product_2 ⟨Nat.le_of_ble_eq_true rfl, Nat.le_of_ble_eq_true rfl⟩) hh hA (fun r_1769 H locs hw_1769 hh => ?_)
  rw [show rdI (en 0) 25 = pr from by rw [es1768]; rfl] at hw_1769
  rcases Decidable.em (0 ≤ k9.toInt ∧ k9.toInt < pr.toInt) with hp_1769 | hp_1769
  · obtain rfl : r_1769 = 1 := Eq.trans hw_1769 (if_pos hp_1769)
    obtain ⟨P_1769, K_1769, hPe_1769, hP_1769, hCH_1769, hKe_1769, hK_1769⟩ := CHX_lt hCX (show rdI (en 0) 25 = pr from by rw [es1768]; rfl) hp_1769
    subst hKe_1769
    refine lv_if_eq (tgt := 38) hx hb dX12_product_5 (by decide) (fun c_0 => absurd c_0 (by decide)) (fun _ => ?_)
    refine lv_aload_n hx hb dX12_product_8 rfl (lv_at hl 0 rfl) ?_
    refine lv_iload_n hx hb dX12_product_9 rfl (lv_at hl 2 rfl) ?_
    refine lv_iload_n hx hb dX12_product_10 rfl (lv_at hl 3 rfl) ?_
    refine hp_callRi (va_runV (As := [.int a9, .int b9]) (rest := []) ⟨hx, hb, hml, hown, hts⟩ (c_X12_isPlace l D cy _ cs ad en hI a9 b9 ) (kw_X12_isPlace hts tw_1011 ⟨by decide, by decide⟩) (preV_of hh hK (hI.1 _ (by decide)) es1768 rfl) rfl rfl hl.1 rfl (lv_room (Nat.le_of_ble_eq_true rfl)) dX12_product_11 ⟨Nat.le_of_ble_eq_true rfl, Nat.le_of_ble_eq_true rfl⟩) hh hA (fun r_1770 H locs hw_1770 hh => ?_)
    rw [show (rdI (en 0) 2).toInt = (wd : Int) from by rw [es1768]; exact nI_toInt (by omega)] at hw_1770
    rcases Decidable.em ((0 ≤ a9.toInt ∧ a9.toInt < (wd : Int)) ∧ 0 ≤ b9.toInt ∧ b9.toInt < (wd : Int)) with hp_1770 | hp_1770
    · obtain rfl : r_1770 = 1 := Eq.trans hw_1770 (if_pos hp_1770)
      obtain ⟨A_1770, rfl, hA_1770⟩ := has_nat hp_1770.1
      obtain ⟨B_1770, rfl, hB_1770⟩ := has_nat hp_1770.2
      refine lv_if_eq (tgt := 38) hx hb dX12_product_14 (by decide) (fun c_0 => absurd c_0 (by decide)) (fun _ => ?_)
      refine lv_aload_n hx hb dX12_product_17 rfl (lv_at hl 0 rfl) ?_
      refine hp_get hx hb hts ix12 hown hK hh (q := 0) rfl (hI.1 _ (by decide)) es1768 rfl 26 (by decide) (hts _ tw_905) (fun _ h9 => h9) rfl dX12_product_18 ?_
      refine lv_bipush (v := 9) hx hb dX12_product_21 (by decide) ?_
      refine lv_iload_n hx hb dX12_product_23 rfl (lv_at hl 1 rfl) ?_
      refine lv_imul hx hb dX12_product_24 ?_
      rw [show (9 : Int32) = nI 9 from rfl, pk_mul 9 K_1769]
      refine lv_aload_n hx hb dX12_product_25 rfl (lv_at hl 0 rfl) ?_
      refine hp_get hx hb hts ix12 hown hK hh (q := 0) rfl (hI.1 _ (by decide)) es1768 rfl 2 (by decide) (hts _ tw_881) (fun _ h9 => h9) rfl dX12_product_26 ?_
      refine lv_iload_n hx hb dX12_product_29 rfl (lv_at hl 2 rfl) ?_
      refine lv_imul hx hb dX12_product_30 ?_
      rw [pk_mul wd A_1770]
      refine lv_iadd hx hb dX12_product_31 ?_
      rw [nI_add (9 * K_1769) (wd * A_1770)]
      refine lv_iload_n hx hb dX12_product_32 rfl (lv_at hl 3 rfl) ?_
      refine lv_iadd hx hb dX12_product_33 ?_
      rw [nI_add ((9 * K_1769) + (wd * A_1770)) B_1770]
      have hi_1771 : wd * A_1770 + B_1770 < 9 := mdr (by omega) (by omega) (by omega)
      obtain ⟨f_1772, es1772⟩ := getr_pd hI
      refine hp_lald hx hb hK hh (q := 14) rfl (hI.1 _ (by decide)) es1772 (vp_in_nI (n := (((9 * K_1769) + (wd * A_1770)) + B_1770)) (by omega) (by decide)) dX12_product_34 ?_
      rw [nI_clamp (n := (((9 * K_1769) + (wd * A_1770)) + B_1770)) (by omega)]
      refine lv_goto (tgt := 41) hx hb dX12_product_35 (by decide) ?_
      exact hp_lretR hx hb hr hlocks hsz hh (trivial) dX12_product_41
    · obtain rfl : r_1770 = 0 := Eq.trans hw_1770 (if_neg hp_1770)
      refine lv_if_eq (tgt := 38) hx hb dX12_product_14 (by decide) (fun _ => ?_) (fun c_0 => absurd c_0 (by decide))
      refine lv_ldc2 hx hb hown (hts _ tw_1015) dX12_product_38 ?_
      exact hp_lretR hx hb hr hlocks hsz hh (trivial) dX12_product_41
  · obtain rfl : r_1769 = 0 := Eq.trans hw_1769 (if_neg hp_1769)
    refine lv_if_eq (tgt := 38) hx hb dX12_product_5 (by decide) (fun _ => ?_) (fun c_0 => absurd c_0 (by decide))
    refine lv_ldc2 hx hb hown (hts _ tw_1015) dX12_product_38 ?_
    exact hp_lretR hx hb hr hlocks hsz hh (trivial) dX12_product_41
theorem kw_X12_product {R : Room} {s : State} {args : Array Value} {own : String} {idx : Nat} (hts : ∀ w ∈ TB, w.before args s = true) (hl : Cond.methodLink own idx yX12_product ∈ TB) (hR : 2 + 1 ≤ R.frames ∧ 8 + (4 + 11) + 40 * 2 ≤ R.locals) : CallW R s args own RX12 idx yX12_product cX12_product 4 (some .long) (Cond.code yX12_product cX12_product 4 (some .long) :: TB) (rmN 2) 0 0 3 := cwV 3 hts (TB_V hl tw_1155 tw_1156 tw_9 tw_1157) rfl rfl rfl (by decide +kernel) hR
set_option maxHeartbeats 4000000 in
set_option maxRecDepth 100000 in
/-- times -/
theorem c_X12_times (l : Launch) (D : va_G) (cy : Nat → ClassId) (sz : Nat) (cs : List Nat) (ad : Nat → Nat) (en : Nat → va_E) (hI : RX cy cs ad en) (k9 j9 : Int32) (hCX : CHX en)   : Met l yX12_times (Cond.code yX12_times cX12_times 3 (some .int) :: TB) (rmN 2) (va_Pc [.ref (ad 0), .int k9, .int j9] (Pre D cy cs ad en sz)) (va_Qi (S := Nat → va_E) (fun r en1 => RX cy cs ad en1 ∧ (∀ c, (c ≠ 6) → en1 c = en c)) (PostM D cs ad) (Af cs ad sz)) 0 0 (Af cs ad sz) := by
  refine Met.ofW (cc := cX12_times) (maxL := 3) (ret := (some .int)) (by decide) rfl ?_
  intro p e s m args below meth c s₁ B hml hv
  obtain ⟨rfl, hsz, hP, hK, hD0⟩ := hv
  have hx := B.exec
  have hb := B.bytes
  have hr := B.returns
  have hts : ∀ w ∈ TB, w.before _ s = true := fun w h => atoms_spec (ws := _ :: TB) B.pre w (List.mem_cons_of_mem _ h)
  have hown : s.vm.findClass RX12 = some m.cls := findClass_of_methodNamed B.named
  have hlocks := B.notSynchronized
  have hh : Hp D (Af cs ad sz) (Af cs ad sz) s.heap s.heap [] cs ad en := ⟨hP, Af_self hD0, va_S.rf⟩
  have hA : ∀ q : Nat, s.heap.size ≤ q → Af cs ad sz q := fun q h => Or.inr (by rw [hsz] at h; exact h)
  have hl := lv_entry ([.ref (ad 0), .int k9, .int j9]) (n := 3) (Nat.le_of_ble_eq_true rfl)
  rw [lg_entry_eq]
  generalize (lg_sl ([.ref (ad 0), .int k9, .int j9]) ++ List.replicate (3 - (lg_sl ([.ref (ad 0), .int k9, .int j9])).length) Slot.unset).toArray = ls at hl ⊢
  have hl : lv_has ls 3 [(0, .ref (ad 0)), (1, .int k9), (2, .int j9)] := hl
  have hf0 : ∀ c, (c ≠ 6) → en c = en c := fun _ _ => rfl
  obtain ⟨fa, hi, wd, mo, tb, dp, many, grt, lst, nou, rm, rb, pr, wo, es1773, hwd2, hwd3, hmo, htb, hwo⟩ := getr_M hI
  refine lv_aload_n hx hb dX12_times_0 rfl (lv_at hl 0 rfl) ?_
  refine lv_iload_n hx hb dX12_times_1 rfl (lv_at hl 1 rfl) ?_
  refine hp_callRi (va_runV (As := [.int k9]) (rest := []) ⟨hx, hb, hml, hown, hts⟩ (c_X12_isProduct l D cy _ cs ad en hI k9 ) (kw_X12_isProduct hts tw_1158 ⟨by decide, by decide⟩) (preV_of hh hK (hI.1 _ (by decide)) es1773 rfl) rfl rfl hl.1 rfl (lv_room (Nat.le_of_ble_eq_true rfl)) dX12_times_2 ⟨Nat.le_of_ble_eq_true rfl, Nat.le_of_ble_eq_true rfl⟩) hh hA (fun r_1774 H locs hw_1774 hh => ?_)
  rw [show rdI (en 0) 25 = pr from by rw [es1773]; rfl] at hw_1774
  rcases Decidable.em (0 ≤ k9.toInt ∧ k9.toInt < pr.toInt) with hp_1774 | hp_1774
  · obtain rfl : r_1774 = 1 := Eq.trans hw_1774 (if_pos hp_1774)
    obtain ⟨P_1774, K_1774, hPe_1774, hP_1774, hCH_1774, hKe_1774, hK_1774⟩ := CHX_lt hCX (show rdI (en 0) 25 = pr from by rw [es1773]; rfl) hp_1774
    subst hKe_1774
    refine lv_if_eq (tgt := 16) hx hb dX12_times_5 (by decide) (fun c_0 => absurd c_0 (by decide)) (fun _ => ?_)
    refine lv_aload_n hx hb dX12_times_8 rfl (lv_at hl 0 rfl) ?_
    refine lv_iload_n hx hb dX12_times_9 rfl (lv_at hl 2 rfl) ?_
    refine hp_callRi (va_runV (As := [.int j9]) (rest := []) ⟨hx, hb, hml, hown, hts⟩ (c_X12_isProduct l D cy _ cs ad en hI j9 ) (kw_X12_isProduct hts tw_1158 ⟨by decide, by decide⟩) (preV_of hh hK (hI.1 _ (by decide)) es1773 rfl) rfl rfl hl.1 rfl (lv_room (Nat.le_of_ble_eq_true rfl)) dX12_times_10 ⟨Nat.le_of_ble_eq_true rfl, Nat.le_of_ble_eq_true rfl⟩) hh hA (fun r_1775 H locs hw_1775 hh => ?_)
    rw [show rdI (en 0) 25 = pr from by rw [es1773]; rfl] at hw_1775
    rcases Decidable.em (0 ≤ j9.toInt ∧ j9.toInt < pr.toInt) with hp_1775 | hp_1775
    · obtain rfl : r_1775 = 1 := Eq.trans hw_1775 (if_pos hp_1775)
      obtain ⟨P_1775, K_1775, hPe_1775, hP_1775, hCH_1775, hKe_1775, hK_1775⟩ := CHX_lt hCX (show rdI (en 0) 25 = pr from by rw [es1773]; rfl) hp_1775
      subst hKe_1775
      refine lv_if_ne (tgt := 18) hx hb dX12_times_13 (by decide) (fun _ => ?_) (fun c_0 => absurd c_0 (by decide))
      refine lv_aload_n hx hb dX12_times_18 rfl (lv_at hl 0 rfl) ?_
      refine lv_iload_n hx hb dX12_times_19 rfl (lv_at hl 1 rfl) ?_
      refine lv_iload_n hx hb dX12_times_20 rfl (lv_at hl 2 rfl) ?_
      refine hp_callMv (va_runV (As := [.int (nI K_1774), .int (nI K_1775)]) (rest := []) ⟨hx, hb, hml, hown, hts⟩ (c_X12_multiply l D cy _ cs ad en hI K_1774 K_1775 (by omega) (by omega)) (kw_X12_multiply hts tw_1150 ⟨by decide, by decide⟩) (preV_of hh hK (hI.1 _ (by decide)) es1773 rfl) rfl rfl hl.1 rfl (lv_room (Nat.le_of_ble_eq_true rfl)) dX12_times_21 ⟨Nat.le_of_ble_eq_true rfl, Nat.le_of_ble_eq_true rfl⟩) hh hA (fun H locs en_1776 hw_1776 hh => ?_)
      obtain ⟨hI_1776, hu_1776⟩ := hw_1776
      have es1773_1776 : en_1776 0 = .inr (11, [.int fa, .int hi, .int (nI wd), .int (nI mo), .int (nI tb), .ref (ad 1), .ref (ad 2), .ref (ad 3), .ref (ad 4), .ref (ad 5), .ref (ad 6), .ref (ad 7), .ref (ad 8), .ref (ad 9), .int dp, .long many, .long grt, .long lst, .long nou, .ref (ad 10), .ref (ad 11), .ref (ad 12), .int rm, .long rb, .ref (ad 13), .int pr, .ref (ad 14), .ref (ad 15), .ref (ad 16), .ref (ad 17), .int (nI wo), .ref (ad 18), .ref (ad 19)]) := (hu_1776 0 (by omega)).trans es1773
      have hf_1776 : ∀ c, (c ≠ 6) → en_1776 c = en c := fun c hc => (hu_1776 c (by omega)).trans (hf0 c hc)
      refine lv_aload_n hx hb dX12_times_24 rfl (lv_at hl 0 rfl) ?_
      refine lv_iconst (v := 1) hx hb dX12_times_25 (by decide) ?_
      refine hp_callRi (va_runV (As := [.int 1]) (rest := []) ⟨hx, hb, hml, hown, hts⟩ (c_X12_findAt l D cy _ cs ad en_1776 hI_1776 1 (by omega) P_1775 (CH_keep hCH_1775 (by rw [hf_1776 0 (by omega)]) (hf_1776 16 (by omega)) (hf_1776 17 (by omega)))) (kw_X12_findAt hts tw_1123 ⟨by decide, by decide⟩) (preV_of hh hK (hI.1 _ (by decide)) es1773_1776 rfl) rfl rfl hl.1 rfl (lv_room (Nat.le_of_ble_eq_true rfl)) dX12_times_26 ⟨Nat.le_of_ble_eq_true rfl, Nat.le_of_ble_eq_true rfl⟩) hh hA (fun r_1777 H locs hw_1777 hh => ?_)
      exact hp_iretM hx hb hr rfl hlocks hh (⟨hI_1776, hf_1776⟩) dX12_times_29
    · obtain rfl : r_1775 = 0 := Eq.trans hw_1775 (if_neg hp_1775)
      refine lv_if_ne (tgt := 18) hx hb dX12_times_13 (by decide) (fun c_0 => absurd c_0 (by decide)) (fun _ => ?_)
      refine lv_iconst (v := (-1)) hx hb dX12_times_16 (by decide) ?_
      exact hp_iretM hx hb hr rfl hlocks hh (⟨hI, hf0⟩) dX12_times_17
  · obtain rfl : r_1774 = 0 := Eq.trans hw_1774 (if_neg hp_1774)
    refine lv_if_eq (tgt := 16) hx hb dX12_times_5 (by decide) (fun _ => ?_) (fun c_0 => absurd c_0 (by decide))
    refine lv_iconst (v := (-1)) hx hb dX12_times_16 (by decide) ?_
    exact hp_iretM hx hb hr rfl hlocks hh (⟨hI, hf0⟩) dX12_times_17
theorem kw_X12_times {R : Room} {s : State} {args : Array Value} {own : String} {idx : Nat} (hts : ∀ w ∈ TB, w.before args s = true) (hl : Cond.methodLink own idx yX12_times ∈ TB) (hR : 2 + 1 ≤ R.frames ∧ 8 + (3 + 11) + 40 * 2 ≤ R.locals) : CallW R s args own RX12 idx yX12_times cX12_times 3 (some .int) (Cond.code yX12_times cX12_times 3 (some .int) :: TB) (rmN 2) 0 0 2 := cwV 2 hts (TB_V hl tw_1163 tw_1164 tw_9 tw_1165) rfl rfl rfl (by decide +kernel) hR
set_option maxHeartbeats 4000000 in
set_option maxRecDepth 100000 in
/-- multiplyOut -/
theorem c_X12_multiplyOut (l : Launch) (D : va_G) (cy : Nat → ClassId) (sz : Nat) (cs : List Nat) (ad : Nat → Nat) (en : Nat → va_E) (hI : RX cy cs ad en) (w9 : Nat) (hw9 : w9 < 10)   : Met l yX12_multiplyOut (Cond.code yX12_multiplyOut cX12_multiplyOut 3 none :: TB) (rmN 2) (va_Pc [.ref (ad 0), .int (nI w9)] (Pre D cy cs ad en sz)) (va_Qv (S := Nat → va_E) (fun en1 => RX cy cs ad en1 ∧ (∀ c, (c ≠ 6) → en1 c = en c)) (PostM D cs ad) (Af cs ad sz)) 0 0 (Af cs ad sz) := by
  refine Met.ofW (cc := cX12_multiplyOut) (maxL := 3) (ret := none) (by decide) rfl ?_
  intro p e s m args below meth c s₁ B hml hv
  obtain ⟨rfl, hsz, hP, hK, hD0⟩ := hv
  have hx := B.exec
  have hb := B.bytes
  have hr := B.returns
  have hts : ∀ w ∈ TB, w.before _ s = true := fun w h => atoms_spec (ws := _ :: TB) B.pre w (List.mem_cons_of_mem _ h)
  have hown : s.vm.findClass RX12 = some m.cls := findClass_of_methodNamed B.named
  have hlocks := B.notSynchronized
  have hh : Hp D (Af cs ad sz) (Af cs ad sz) s.heap s.heap [] cs ad en := ⟨hP, Af_self hD0, va_S.rf⟩
  have hA : ∀ q : Nat, s.heap.size ≤ q → Af cs ad sz q := fun q h => Or.inr (by rw [hsz] at h; exact h)
  have hl := lv_entry ([.ref (ad 0), .int (nI w9)]) (n := 3) (Nat.le_of_ble_eq_true rfl)
  rw [lg_entry_eq]
  generalize (lg_sl ([.ref (ad 0), .int (nI w9)]) ++ List.replicate (3 - (lg_sl ([.ref (ad 0), .int (nI w9)])).length) Slot.unset).toArray = ls at hl ⊢
  have hl : lv_has ls 3 [(0, .ref (ad 0)), (1, .int (nI w9))] := hl
  have hf0 : ∀ c, (c ≠ 6) → en c = en c := fun _ _ => rfl
  obtain ⟨fa, hi, wd, mo, tb, dp, many, grt, lst, nou, rm, rb, pr, wo, es1778, hwd2, hwd3, hmo, htb, hwo⟩ := getr_M hI
  obtain ⟨f_1779, es1779, p0_1779⟩ := getr_lt hI
  obtain ⟨f_1780, es1780, p0_1780⟩ := getr_wl hI
  refine lv_aload_n hx hb dX12_multiplyOut_0 rfl (lv_at hl 0 rfl) ?_
  refine hp_callMv (va_runV (As := []) (rest := []) ⟨hx, hb, hml, hown, hts⟩ (c_X12_beginLevels l D cy _ cs ad en hI  ) (kw_X12_beginLevels hts tw_1042 ⟨by decide, by decide⟩) (preV_of hh hK (hI.1 _ (by decide)) es1778 rfl) rfl rfl hl.1 rfl (lv_room (Nat.le_of_ble_eq_true rfl)) dX12_multiplyOut_1 ⟨Nat.le_of_ble_eq_true rfl, Nat.le_of_ble_eq_true rfl⟩) hh hA (fun H locs en_1781 hw_1781 hh => ?_)
  obtain ⟨hI_1781, hu_1781⟩ := hw_1781
  have es1778_1781 : en_1781 0 = .inr (11, [.int fa, .int hi, .int (nI wd), .int (nI mo), .int (nI tb), .ref (ad 1), .ref (ad 2), .ref (ad 3), .ref (ad 4), .ref (ad 5), .ref (ad 6), .ref (ad 7), .ref (ad 8), .ref (ad 9), .int dp, .long many, .long grt, .long lst, .long nou, .ref (ad 10), .ref (ad 11), .ref (ad 12), .int rm, .long rb, .ref (ad 13), .int pr, .ref (ad 14), .ref (ad 15), .ref (ad 16), .ref (ad 17), .int (nI wo), .ref (ad 18), .ref (ad 19)]) := (hu_1781 0 (by omega)).trans es1778
  have es1779_1781 : en_1781 18 = .inl (cy 0, 120, .inl f_1779) := (hu_1781 18 (by omega)).trans es1779
  have es1780_1781 : en_1781 19 = .inl (cy 0, 10, .inl f_1780) := (hu_1781 19 (by omega)).trans es1780
  have hf_1781 : ∀ c, (c ≠ 6) → en_1781 c = en c := fun c hc => (hu_1781 c (by omega)).trans (hf0 c hc)
  refine lv_iconst (v := 0) hx hb dX12_multiplyOut_4 (by decide) ?_
  refine lv_istore_n (lv' := [(2, .int 0), (0, .ref (ad 0)), (1, .int (nI w9))]) hx hb dX12_multiplyOut_5 rfl hl (by decide) rfl (fun ls hl => ?_)
  have loop_1782 : ∀ (fu j1782 : Nat)  (en_1782 : Nat → va_E) (ls : Array Slot) (H : Heap) (locs : List Loc), 0 ≤ j1782 → j1782 ≤ 12 → 12 < j1782 + fu → RX cy cs ad en_1782 → (∀ c, (c ≠ 6) → en_1782 c = en c) →  lv_has ls 3 [(2, .int (nI j1782)), (0, .ref (ad 0)), (1, .int (nI w9))] → Hp D (Af cs ad sz) (Af cs ad sz) s.heap H locs cs ad en_1782 → W p l e (headSpec (Cond.code yX12_multiplyOut cX12_multiplyOut 3 none :: TB) (rmN 2)).room s m ([.ref (ad 0), .int (nI w9)] : List Value).toArray below meth c H locs 0 0 (MQ below (va_Qv (S := Nat → va_E) (fun en1 => RX cy cs ad en1 ∧ (∀ c, (c ≠ 6) → en1 c = en c)) (PostM D cs ad) (Af cs ad sz)) ([.ref (ad 0), .int (nI w9)] : List Value).toArray s 0 0 (Af cs ad sz)) (F0 m 6 ls []) := by
    intro fu
    induction fu with
    | zero => intro j1782  en_1782 ls H locs h0 h1 h2; exact absurd h2 (by omega)
    | succ fu ih_1782 =>
      intro j1782  en_1782 ls H locs hj0_1782 hj_1782 hfu_1782 hI_1782 hf_1782  hl hh
      refine lv_iload_n hx hb dX12_multiplyOut_6 rfl (lv_at hl 0 rfl) ?_
      refine lv_aload_n hx hb dX12_multiplyOut_7 rfl (lv_at hl 1 rfl) ?_
      have es1778_1783 : en_1782 0 = .inr (11, [.int fa, .int hi, .int (nI wd), .int (nI mo), .int (nI tb), .ref (ad 1), .ref (ad 2), .ref (ad 3), .ref (ad 4), .ref (ad 5), .ref (ad 6), .ref (ad 7), .ref (ad 8), .ref (ad 9), .int dp, .long many, .long grt, .long lst, .long nou, .ref (ad 10), .ref (ad 11), .ref (ad 12), .int rm, .long rb, .ref (ad 13), .int pr, .ref (ad 14), .ref (ad 15), .ref (ad 16), .ref (ad 17), .int (nI wo), .ref (ad 18), .ref (ad 19)]) := (hf_1782 0 (by omega)).trans es1778
      refine hp_get hx hb hts ix12 hown hK hh (q := 0) rfl (hI.1 _ (by decide)) es1778_1783 rfl 32 (by decide) (hts _ tw_911) (fun _ h9 => h9) rfl dX12_multiplyOut_8 ?_
      refine lv_iload_n hx hb dX12_multiplyOut_11 rfl (lv_at hl 2 rfl) ?_
      have es1780_1784 : en_1782 19 = .inl (cy 0, 10, .inl f_1780) := (hf_1782 19 (by omega)).trans es1780
      refine hp_iald hx hb hK hh (q := 19) rfl (hI.1 _ (by decide)) es1780_1784 (vp_in_nI (n := w9) (by omega) (by decide)) dX12_multiplyOut_12 ?_
      rw [nI_clamp (n := w9) (by omega)]
      obtain ⟨v_1785, hv_1785, hfv_1785⟩ := p0_1780 w9 (by omega)
      rw [hfv_1785]
      refine lv_icmp_ge (tgt := 38) hx hb dX12_multiplyOut_13 (by decide) (fun c_1786 => ?_) (fun c_1786 => ?_)
      · have n_1786 : v_1785 ≤ j1782 := n_le (a := v_1785) (b := j1782) c_1786 (by omega) (by omega)
        exact hp_vretM hx hb hr hlocks hh (⟨hI_1782, hf_1782⟩) dX12_multiplyOut_38
      · have n_1786 : j1782 < v_1785 := n_nle (a := v_1785) (b := j1782) c_1786 (by omega) (by omega)
        refine lv_aload_n hx hb dX12_multiplyOut_16 rfl (lv_at hl 1 rfl) ?_
        refine lv_iload_n hx hb dX12_multiplyOut_17 rfl (lv_at hl 0 rfl) ?_
        refine lv_aload_n hx hb dX12_multiplyOut_18 rfl (lv_at hl 1 rfl) ?_
        refine hp_get hx hb hts ix12 hown hK hh (q := 0) rfl (hI.1 _ (by decide)) es1778_1783 rfl 31 (by decide) (hts _ tw_910) (fun _ h9 => h9) rfl dX12_multiplyOut_19 ?_
        refine lv_bipush (v := 12) hx hb dX12_multiplyOut_22 (by decide) ?_
        refine lv_iload_n hx hb dX12_multiplyOut_24 rfl (lv_at hl 2 rfl) ?_
        refine lv_imul hx hb dX12_multiplyOut_25 ?_
        rw [show (12 : Int32) = nI 12 from rfl, pk_mul 12 w9]
        refine lv_iload_n hx hb dX12_multiplyOut_26 rfl (lv_at hl 0 rfl) ?_
        refine lv_iadd hx hb dX12_multiplyOut_27 ?_
        rw [nI_add (12 * w9) j1782]
        have es1779_1787 : en_1782 18 = .inl (cy 0, 120, .inl f_1779) := (hf_1782 18 (by omega)).trans es1779
        refine hp_iald hx hb hK hh (q := 18) rfl (hI.1 _ (by decide)) es1779_1787 (vp_in_nI (n := ((12 * w9) + j1782)) (by omega) (by decide)) dX12_multiplyOut_28 ?_
        rw [nI_clamp (n := ((12 * w9) + j1782)) (by omega)]
        obtain ⟨v_1788, hv_1788, hfv_1788⟩ := p0_1779 ((12 * w9) + j1782) (by omega)
        rw [hfv_1788]
        refine hp_callMv (va_runV (As := [.int (nI j1782), .int (nI v_1788)]) (rest := []) ⟨hx, hb, hml, hown, hts⟩ (c_X12_goOn l D cy _ cs ad en_1782 hI_1782 j1782 v_1788 (by omega) (by omega)) (kw_X12_goOn hts tw_1050 ⟨by decide, by decide⟩) (preV_of hh hK (hI.1 _ (by decide)) es1778_1783 rfl) rfl rfl hl.1 rfl (lv_room (Nat.le_of_ble_eq_true rfl)) dX12_multiplyOut_29 ⟨Nat.le_of_ble_eq_true rfl, Nat.le_of_ble_eq_true rfl⟩) hh hA (fun H locs en_1789 hw_1789 hh => ?_)
        obtain ⟨hI_1789, hu_1789⟩ := hw_1789
        have es1778_1789 : en_1789 0 = .inr (11, [.int fa, .int hi, .int (nI wd), .int (nI mo), .int (nI tb), .ref (ad 1), .ref (ad 2), .ref (ad 3), .ref (ad 4), .ref (ad 5), .ref (ad 6), .ref (ad 7), .ref (ad 8), .ref (ad 9), .int dp, .long many, .long grt, .long lst, .long nou, .ref (ad 10), .ref (ad 11), .ref (ad 12), .int rm, .long rb, .ref (ad 13), .int pr, .ref (ad 14), .ref (ad 15), .ref (ad 16), .ref (ad 17), .int (nI wo), .ref (ad 18), .ref (ad 19)]) := (hu_1789 0 (by omega)).trans es1778_1783
        have es1780_1789 : en_1789 19 = .inl (cy 0, 10, .inl f_1780) := (hu_1789 19 (by omega)).trans es1780_1784
        have es1779_1789 : en_1789 18 = .inl (cy 0, 120, .inl f_1779) := (hu_1789 18 (by omega)).trans es1779_1787
        have hf_1789 : ∀ c, (c ≠ 6) → en_1789 c = en c := fun c hc => (hu_1789 c (by omega)).trans (hf_1782 c hc)
        refine lv_iinc (v := (nI (j1782 + 1))) (lv' := [(2, .int (nI (j1782 + 1))), (0, .ref (ad 0)), (1, .int (nI w9))]) hx hb dX12_multiplyOut_32 hl (k := 0) rfl (nI_1 _) (by decide) rfl (fun ls hl => ?_)
        refine lv_goto (tgt := 6) hx hb dX12_multiplyOut_35 (by decide) ?_
        exact ih_1782 ((j1782 + 1))  en_1789 ls H locs (by omega) (by omega) (by omega) hI_1789 hf_1789  (lv_sub hl [0, 1, 2] rfl) hh
  exact loop_1782 (12 + 1) 0  en_1781 ls _ _ (Nat.le_refl _) (by omega) (by omega) hI_1781 hf_1781  (lv_sub hl [0, 1, 2] rfl) hh
theorem kw_X12_multiplyOut {R : Room} {s : State} {args : Array Value} {own : String} {idx : Nat} (hts : ∀ w ∈ TB, w.before args s = true) (hl : Cond.methodLink own idx yX12_multiplyOut ∈ TB) (hR : 2 + 1 ≤ R.frames ∧ 8 + (3 + 11) + 40 * 2 ≤ R.locals) : CallW R s args own RX12 idx yX12_multiplyOut cX12_multiplyOut 3 none (Cond.code yX12_multiplyOut cX12_multiplyOut 3 none :: TB) (rmN 2) 0 0 1 := cwV 1 hts (TB_V hl tw_1193 ts_59 tw_9 tw_1194) rfl rfl rfl (by decide +kernel) hR
set_option maxHeartbeats 4000000 in
set_option maxRecDepth 100000 in
/-- entryOf -/
theorem c_X12_entryOf (l : Launch) (D : va_G) (cy : Nat → ClassId) (sz : Nat) (cs : List Nat) (ad : Nat → Nat) (en : Nat → va_E) (hI : RX cy cs ad en) (w9 a9 b9 : Int32)   : Met l yX12_entryOf (Cond.code yX12_entryOf cX12_entryOf 4 (some .long) :: TB) (rmN 3) (va_Pc [.ref (ad 0), .int w9, .int a9, .int b9] (Pre D cy cs ad en sz)) (va_Ql (S := Nat → va_E) (fun r en1 => RX cy cs ad en1 ∧ (∀ c, (c ≠ 6) → en1 c = en c)) (PostM D cs ad) (Af cs ad sz)) 0 0 (Af cs ad sz) := by
  refine Met.ofW (cc := cX12_entryOf) (maxL := 4) (ret := (some .long)) (by decide) rfl ?_
  intro p e s m args below meth c s₁ B hml hv
  obtain ⟨rfl, hsz, hP, hK, hD0⟩ := hv
  have hx := B.exec
  have hb := B.bytes
  have hr := B.returns
  have hts : ∀ w ∈ TB, w.before _ s = true := fun w h => atoms_spec (ws := _ :: TB) B.pre w (List.mem_cons_of_mem _ h)
  have hown : s.vm.findClass RX12 = some m.cls := findClass_of_methodNamed B.named
  have hlocks := B.notSynchronized
  have hh : Hp D (Af cs ad sz) (Af cs ad sz) s.heap s.heap [] cs ad en := ⟨hP, Af_self hD0, va_S.rf⟩
  have hA : ∀ q : Nat, s.heap.size ≤ q → Af cs ad sz q := fun q h => Or.inr (by rw [hsz] at h; exact h)
  have hl := lv_entry ([.ref (ad 0), .int w9, .int a9, .int b9]) (n := 4) (Nat.le_of_ble_eq_true rfl)
  rw [lg_entry_eq]
  generalize (lg_sl ([.ref (ad 0), .int w9, .int a9, .int b9]) ++ List.replicate (4 - (lg_sl ([.ref (ad 0), .int w9, .int a9, .int b9])).length) Slot.unset).toArray = ls at hl ⊢
  have hl : lv_has ls 4 [(0, .ref (ad 0)), (1, .int w9), (2, .int a9), (3, .int b9)] := hl
  have hf0 : ∀ c, (c ≠ 6) → en c = en c := fun _ _ => rfl
  obtain ⟨fa, hi, wd, mo, tb, dp, many, grt, lst, nou, rm, rb, pr, wo, es1790, hwd2, hwd3, hmo, htb, hwo⟩ := getr_M hI
  obtain ⟨f_1791, es1791, p0_1791⟩ := getr_wl hI
  refine lv_aload_n hx hb dX12_entryOf_0 rfl (lv_at hl 0 rfl) ?_
  refine lv_iload_n hx hb dX12_entryOf_1 rfl (lv_at hl 1 rfl) ?_
  refine hp_callRi (va_runV (As := [.int w9]) (rest := []) ⟨hx, hb, hml, hown, hts⟩ (c_X12_isWord l D cy _ cs ad en hI w9 ) (kw_X12_isWord hts tw_1175 ⟨by decide, by decide⟩) (preV_of hh hK (hI.1 _ (by decide)) es1790 rfl) rfl rfl hl.1 rfl (lv_room (Nat.le_of_ble_eq_true rfl)) dX12_entryOf_2 ⟨Nat.le_of_ble_eq_true rfl, Nat.le_of_ble_eq_true rfl⟩) hh hA (fun r_1792 H locs hw_1792 hh => ?_)
  rw [show rdI (en 0) 30 = (nI wo) from by rw [es1790]; rfl, nI_toInt (n := wo) (by omega)] at hw_1792
  rcases Decidable.em (0 ≤ w9.toInt ∧ w9.toInt < (wo : Int)) with hp_1792 | hp_1792
  · obtain rfl : r_1792 = 1 := Eq.trans hw_1792 (if_pos hp_1792)
    obtain ⟨T_1792, rfl, hT_1792⟩ := has_nat hp_1792
    refine lv_if_eq (tgt := 17) hx hb dX12_entryOf_5 (by decide) (fun c_0 => absurd c_0 (by decide)) (fun _ => ?_)
    refine lv_aload_n hx hb dX12_entryOf_8 rfl (lv_at hl 0 rfl) ?_
    refine lv_iload_n hx hb dX12_entryOf_9 rfl (lv_at hl 2 rfl) ?_
    refine lv_iload_n hx hb dX12_entryOf_10 rfl (lv_at hl 3 rfl) ?_
    refine hp_callRi (va_runV (As := [.int a9, .int b9]) (rest := []) ⟨hx, hb, hml, hown, hts⟩ (c_X12_isPlace l D cy _ cs ad en hI a9 b9 ) (kw_X12_isPlace hts tw_1011 ⟨by decide, by decide⟩) (preV_of hh hK (hI.1 _ (by decide)) es1790 rfl) rfl rfl hl.1 rfl (lv_room (Nat.le_of_ble_eq_true rfl)) dX12_entryOf_11 ⟨Nat.le_of_ble_eq_true rfl, Nat.le_of_ble_eq_true rfl⟩) hh hA (fun r_1793 H locs hw_1793 hh => ?_)
    rw [show (rdI (en 0) 2).toInt = (wd : Int) from by rw [es1790]; exact nI_toInt (by omega)] at hw_1793
    rcases Decidable.em ((0 ≤ a9.toInt ∧ a9.toInt < (wd : Int)) ∧ 0 ≤ b9.toInt ∧ b9.toInt < (wd : Int)) with hp_1793 | hp_1793
    · obtain rfl : r_1793 = 1 := Eq.trans hw_1793 (if_pos hp_1793)
      obtain ⟨A_1793, rfl, hA_1793⟩ := has_nat hp_1793.1
      obtain ⟨B_1793, rfl, hB_1793⟩ := has_nat hp_1793.2
      refine lv_if_ne (tgt := 21) hx hb dX12_entryOf_14 (by decide) (fun _ => ?_) (fun c_0 => absurd c_0 (by decide))
      refine lv_aload_n hx hb dX12_entryOf_21 rfl (lv_at hl 0 rfl) ?_
      refine lv_iload_n hx hb dX12_entryOf_22 rfl (lv_at hl 1 rfl) ?_
      refine hp_callMv (va_runV (As := [.int (nI T_1792)]) (rest := []) ⟨hx, hb, hml, hown, hts⟩ (c_X12_multiplyOut l D cy _ cs ad en hI T_1792 (by omega)) (kw_X12_multiplyOut hts tw_1191 ⟨by decide, by decide⟩) (preV_of hh hK (hI.1 _ (by decide)) es1790 rfl) rfl rfl hl.1 rfl (lv_room (Nat.le_of_ble_eq_true rfl)) dX12_entryOf_23 ⟨Nat.le_of_ble_eq_true rfl, Nat.le_of_ble_eq_true rfl⟩) hh hA (fun H locs en_1794 hw_1794 hh => ?_)
      obtain ⟨hI_1794, hu_1794⟩ := hw_1794
      have es1790_1794 : en_1794 0 = .inr (11, [.int fa, .int hi, .int (nI wd), .int (nI mo), .int (nI tb), .ref (ad 1), .ref (ad 2), .ref (ad 3), .ref (ad 4), .ref (ad 5), .ref (ad 6), .ref (ad 7), .ref (ad 8), .ref (ad 9), .int dp, .long many, .long grt, .long lst, .long nou, .ref (ad 10), .ref (ad 11), .ref (ad 12), .int rm, .long rb, .ref (ad 13), .int pr, .ref (ad 14), .ref (ad 15), .ref (ad 16), .ref (ad 17), .int (nI wo), .ref (ad 18), .ref (ad 19)]) := (hu_1794 0 (by omega)).trans es1790
      have es1791_1794 : en_1794 19 = .inl (cy 0, 10, .inl f_1791) := (hu_1794 19 (by omega)).trans es1791
      have hf_1794 : ∀ c, (c ≠ 6) → en_1794 c = en c := fun c hc => (hu_1794 c (by omega)).trans (hf0 c hc)
      refine lv_aload_n hx hb dX12_entryOf_26 rfl (lv_at hl 0 rfl) ?_
      refine hp_get hx hb hts ix12 hown hK hh (q := 0) rfl (hI.1 _ (by decide)) es1790_1794 rfl 10 (by decide) (hts _ tw_889) (fun _ h9 => h9) rfl dX12_entryOf_27 ?_
      refine lv_bipush (v := 9) hx hb dX12_entryOf_30 (by decide) ?_
      refine lv_aload_n hx hb dX12_entryOf_32 rfl (lv_at hl 0 rfl) ?_
      refine hp_get hx hb hts ix12 hown hK hh (q := 0) rfl (hI.1 _ (by decide)) es1790_1794 rfl 32 (by decide) (hts _ tw_911) (fun _ h9 => h9) rfl dX12_entryOf_33 ?_
      refine lv_iload_n hx hb dX12_entryOf_36 rfl (lv_at hl 1 rfl) ?_
      refine hp_iald hx hb hK hh (q := 19) rfl (hI.1 _ (by decide)) es1791_1794 (vp_in_nI (n := T_1792) (by omega) (by decide)) dX12_entryOf_37 ?_
      rw [nI_clamp (n := T_1792) (by omega)]
      obtain ⟨v_1795, hv_1795, hfv_1795⟩ := p0_1791 T_1792 (by omega)
      rw [hfv_1795]
      refine lv_imul hx hb dX12_entryOf_38 ?_
      rw [show (9 : Int32) = nI 9 from rfl, pk_mul 9 v_1795]
      refine lv_aload_n hx hb dX12_entryOf_39 rfl (lv_at hl 0 rfl) ?_
      refine hp_get hx hb hts ix12 hown hK hh (q := 0) rfl (hI.1 _ (by decide)) es1790_1794 rfl 2 (by decide) (hts _ tw_881) (fun _ h9 => h9) rfl dX12_entryOf_40 ?_
      refine lv_iload_n hx hb dX12_entryOf_43 rfl (lv_at hl 2 rfl) ?_
      refine lv_imul hx hb dX12_entryOf_44 ?_
      rw [pk_mul wd A_1793]
      refine lv_iadd hx hb dX12_entryOf_45 ?_
      rw [nI_add (9 * v_1795) (wd * A_1793)]
      refine lv_iload_n hx hb dX12_entryOf_46 rfl (lv_at hl 3 rfl) ?_
      refine lv_iadd hx hb dX12_entryOf_47 ?_
      rw [nI_add ((9 * v_1795) + (wd * A_1793)) B_1793]
      have hi_1796 : wd * A_1793 + B_1793 < 9 := mdr (by omega) (by omega) (by omega)
      obtain ⟨f_1797, es1797⟩ := getr_lv hI_1794
      refine hp_lald hx hb hK hh (q := 6) rfl (hI.1 _ (by decide)) es1797 (vp_in_nI (n := (((9 * v_1795) + (wd * A_1793)) + B_1793)) (by omega) (by decide)) dX12_entryOf_48 ?_
      rw [nI_clamp (n := (((9 * v_1795) + (wd * A_1793)) + B_1793)) (by omega)]
      exact hp_lretM hx hb hr hlocks hh (⟨hI_1794, hf_1794⟩) dX12_entryOf_49
    · obtain rfl : r_1793 = 0 := Eq.trans hw_1793 (if_neg hp_1793)
      refine lv_if_ne (tgt := 21) hx hb dX12_entryOf_14 (by decide) (fun c_0 => absurd c_0 (by decide)) (fun _ => ?_)
      refine lv_ldc2 hx hb hown (hts _ tw_1015) dX12_entryOf_17 ?_
      exact hp_lretM hx hb hr hlocks hh (⟨hI, hf0⟩) dX12_entryOf_20
  · obtain rfl : r_1792 = 0 := Eq.trans hw_1792 (if_neg hp_1792)
    refine lv_if_eq (tgt := 17) hx hb dX12_entryOf_5 (by decide) (fun _ => ?_) (fun c_0 => absurd c_0 (by decide))
    refine lv_ldc2 hx hb hown (hts _ tw_1015) dX12_entryOf_17 ?_
    exact hp_lretM hx hb hr hlocks hh (⟨hI, hf0⟩) dX12_entryOf_20
theorem kw_X12_entryOf {R : Room} {s : State} {args : Array Value} {own : String} {idx : Nat} (hts : ∀ w ∈ TB, w.before args s = true) (hl : Cond.methodLink own idx yX12_entryOf ∈ TB) (hR : 3 + 1 ≤ R.frames ∧ 8 + (4 + 11) + 40 * 3 ≤ R.locals) : CallW R s args own RX12 idx yX12_entryOf cX12_entryOf 4 (some .long) (Cond.code yX12_entryOf cX12_entryOf 4 (some .long) :: TB) (rmN 3) 0 0 3 := cwV 3 hts (TB_V hl tw_1188 tw_1189 tw_9 tw_1190) rfl rfl rfl (by decide +kernel) hR
set_option maxHeartbeats 4000000 in
set_option maxRecDepth 100000 in
/-- size -/
theorem c_X12_size (l : Launch) (D : va_G) (cy : Nat → ClassId) (sz : Nat) (cs : List Nat) (ad : Nat → Nat) (en : Nat → va_E) (hI : RX cy cs ad en) (w9 z9 : Int32)   : Met l yX12_size (Cond.code yX12_size cX12_size 3 (some .long) :: TB) (rmN 3) (va_Pc [.ref (ad 0), .int w9, .int z9] (Pre D cy cs ad en sz)) (va_Ql (S := Nat → va_E) (fun r en1 => RX cy cs ad en1 ∧ (∀ c, (c ≠ 6) → en1 c = en c)) (PostM D cs ad) (Af cs ad sz)) 0 0 (Af cs ad sz) := by
  refine Met.ofW (cc := cX12_size) (maxL := 3) (ret := (some .long)) (by decide) rfl ?_
  intro p e s m args below meth c s₁ B hml hv
  obtain ⟨rfl, hsz, hP, hK, hD0⟩ := hv
  have hx := B.exec
  have hb := B.bytes
  have hr := B.returns
  have hts : ∀ w ∈ TB, w.before _ s = true := fun w h => atoms_spec (ws := _ :: TB) B.pre w (List.mem_cons_of_mem _ h)
  have hown : s.vm.findClass RX12 = some m.cls := findClass_of_methodNamed B.named
  have hlocks := B.notSynchronized
  have hh : Hp D (Af cs ad sz) (Af cs ad sz) s.heap s.heap [] cs ad en := ⟨hP, Af_self hD0, va_S.rf⟩
  have hA : ∀ q : Nat, s.heap.size ≤ q → Af cs ad sz q := fun q h => Or.inr (by rw [hsz] at h; exact h)
  have hl := lv_entry ([.ref (ad 0), .int w9, .int z9]) (n := 3) (Nat.le_of_ble_eq_true rfl)
  rw [lg_entry_eq]
  generalize (lg_sl ([.ref (ad 0), .int w9, .int z9]) ++ List.replicate (3 - (lg_sl ([.ref (ad 0), .int w9, .int z9])).length) Slot.unset).toArray = ls at hl ⊢
  have hl : lv_has ls 3 [(0, .ref (ad 0)), (1, .int w9), (2, .int z9)] := hl
  have hf0 : ∀ c, (c ≠ 6) → en c = en c := fun _ _ => rfl
  obtain ⟨fa, hi, wd, mo, tb, dp, many, grt, lst, nou, rm, rb, pr, wo, es1798, hwd2, hwd3, hmo, htb, hwo⟩ := getr_M hI
  obtain ⟨f_1799, es1799, p0_1799⟩ := getr_wl hI
  refine lv_aload_n hx hb dX12_size_0 rfl (lv_at hl 0 rfl) ?_
  refine lv_iload_n hx hb dX12_size_1 rfl (lv_at hl 1 rfl) ?_
  refine hp_callRi (va_runV (As := [.int w9]) (rest := []) ⟨hx, hb, hml, hown, hts⟩ (c_X12_isWord l D cy _ cs ad en hI w9 ) (kw_X12_isWord hts tw_1175 ⟨by decide, by decide⟩) (preV_of hh hK (hI.1 _ (by decide)) es1798 rfl) rfl rfl hl.1 rfl (lv_room (Nat.le_of_ble_eq_true rfl)) dX12_size_2 ⟨Nat.le_of_ble_eq_true rfl, Nat.le_of_ble_eq_true rfl⟩) hh hA (fun r_1800 H locs hw_1800 hh => ?_)
  rw [show rdI (en 0) 30 = (nI wo) from by rw [es1798]; rfl, nI_toInt (n := wo) (by omega)] at hw_1800
  rcases Decidable.em (0 ≤ w9.toInt ∧ w9.toInt < (wo : Int)) with hp_1800 | hp_1800
  · obtain rfl : r_1800 = 1 := Eq.trans hw_1800 (if_pos hp_1800)
    obtain ⟨T_1800, rfl, hT_1800⟩ := has_nat hp_1800
    refine lv_if_eq (tgt := 18) hx hb dX12_size_5 (by decide) (fun c_0 => absurd c_0 (by decide)) (fun _ => ?_)
    refine lv_iload_n hx hb dX12_size_8 rfl (lv_at hl 2 rfl) ?_
    refine lv_i2l hx hb dX12_size_9 rfl ?_
    refine lv_lconst (v := 0) hx hb dX12_size_10 (by decide) ?_
    refine lv_lconst (v := 1) hx hb dX12_size_11 (by decide) ?_
    refine hp_callRi (va_runS (As := [.long z9.toInt64, .long 0, .long 1]) (rest := []) ⟨hx, hb, hml, hown, hts⟩ (c_X12_within l D cy _ cs ad en z9.toInt64 0 1) (kw_X12_within hts tw_985 ⟨by decide, by decide⟩) (preS_of hh hK) rfl rfl hl.1 rfl (lv_room (Nat.le_of_ble_eq_true rfl)) dX12_size_12 ⟨Nat.le_of_ble_eq_true rfl, Nat.le_of_ble_eq_true rfl⟩) hh hA (fun r_1801 H locs hw_1801 hh => ?_)
    rcases Decidable.em (wi z9 0 1) with hp_1801 | hp_1801
    · obtain rfl : r_1801 = 1 := Eq.trans hw_1801 (if_pos ((wj_32 (by decide) (by decide)).mpr hp_1801))
      obtain ⟨N_1801, rfl, hA_1801, hB_1801⟩ := wi_natB hp_1801 0 1 (by decide) (by decide)
      refine lv_if_ne (tgt := 22) hx hb dX12_size_15 (by decide) (fun _ => ?_) (fun c_0 => absurd c_0 (by decide))
      refine lv_aload_n hx hb dX12_size_22 rfl (lv_at hl 0 rfl) ?_
      refine lv_iload_n hx hb dX12_size_23 rfl (lv_at hl 1 rfl) ?_
      refine hp_callMv (va_runV (As := [.int (nI T_1800)]) (rest := []) ⟨hx, hb, hml, hown, hts⟩ (c_X12_multiplyOut l D cy _ cs ad en hI T_1800 (by omega)) (kw_X12_multiplyOut hts tw_1191 ⟨by decide, by decide⟩) (preV_of hh hK (hI.1 _ (by decide)) es1798 rfl) rfl rfl hl.1 rfl (lv_room (Nat.le_of_ble_eq_true rfl)) dX12_size_24 ⟨Nat.le_of_ble_eq_true rfl, Nat.le_of_ble_eq_true rfl⟩) hh hA (fun H locs en_1802 hw_1802 hh => ?_)
      obtain ⟨hI_1802, hu_1802⟩ := hw_1802
      have es1798_1802 : en_1802 0 = .inr (11, [.int fa, .int hi, .int (nI wd), .int (nI mo), .int (nI tb), .ref (ad 1), .ref (ad 2), .ref (ad 3), .ref (ad 4), .ref (ad 5), .ref (ad 6), .ref (ad 7), .ref (ad 8), .ref (ad 9), .int dp, .long many, .long grt, .long lst, .long nou, .ref (ad 10), .ref (ad 11), .ref (ad 12), .int rm, .long rb, .ref (ad 13), .int pr, .ref (ad 14), .ref (ad 15), .ref (ad 16), .ref (ad 17), .int (nI wo), .ref (ad 18), .ref (ad 19)]) := (hu_1802 0 (by omega)).trans es1798
      have es1799_1802 : en_1802 19 = .inl (cy 0, 10, .inl f_1799) := (hu_1802 19 (by omega)).trans es1799
      have hf_1802 : ∀ c, (c ≠ 6) → en_1802 c = en c := fun c hc => (hu_1802 c (by omega)).trans (hf0 c hc)
      refine lv_iload_n hx hb dX12_size_27 rfl (lv_at hl 2 rfl) ?_
      refine lv_if_ne (tgt := 44) hx hb dX12_size_28 (by decide) (fun c_1803 => ?_) (fun c_1803 => ?_)
      · have n_1803 : N_1801 ≠ 0 := n_neq (a := N_1801) (b := 0) c_1803 (by omega) (by decide)
        refine lv_aload_n hx hb dX12_size_44 rfl (lv_at hl 0 rfl) ?_
        refine lv_aload_n hx hb dX12_size_45 rfl (lv_at hl 0 rfl) ?_
        refine hp_get hx hb hts ix12 hown hK hh (q := 0) rfl (hI.1 _ (by decide)) es1798_1802 rfl 32 (by decide) (hts _ tw_911) (fun _ h9 => h9) rfl dX12_size_46 ?_
        refine lv_iload_n hx hb dX12_size_49 rfl (lv_at hl 1 rfl) ?_
        refine hp_iald hx hb hK hh (q := 19) rfl (hI.1 _ (by decide)) es1799_1802 (vp_in_nI (n := T_1800) (by omega) (by decide)) dX12_size_50 ?_
        rw [nI_clamp (n := T_1800) (by omega)]
        obtain ⟨v_1804, hv_1804, hfv_1804⟩ := p0_1799 T_1800 (by omega)
        rw [hfv_1804]
        refine hp_callRl (va_runV (As := [.int (nI v_1804)]) (rest := []) ⟨hx, hb, hml, hown, hts⟩ (c_X12_trackAt l D cy _ cs ad en_1802 hI_1802 v_1804 (by omega)) (kw_X12_trackAt hts tw_1093 ⟨by decide, by decide⟩) (preV_of hh hK (hI.1 _ (by decide)) es1798_1802 rfl) rfl rfl hl.1 rfl (lv_room (Nat.le_of_ble_eq_true rfl)) dX12_size_51 ⟨Nat.le_of_ble_eq_true rfl, Nat.le_of_ble_eq_true rfl⟩) hh hA (fun r_1805 H locs hw_1805 hh => ?_)
        exact hp_lretM hx hb hr hlocks hh (⟨hI_1802, hf_1802⟩) dX12_size_54
      · have n_1803 : N_1801 = 0 := n_eq (a := N_1801) (b := 0) c_1803 (by omega) (by decide)
        refine lv_aload_n hx hb dX12_size_31 rfl (lv_at hl 0 rfl) ?_
        refine lv_aload_n hx hb dX12_size_32 rfl (lv_at hl 0 rfl) ?_
        refine hp_get hx hb hts ix12 hown hK hh (q := 0) rfl (hI.1 _ (by decide)) es1798_1802 rfl 32 (by decide) (hts _ tw_911) (fun _ h9 => h9) rfl dX12_size_33 ?_
        refine lv_iload_n hx hb dX12_size_36 rfl (lv_at hl 1 rfl) ?_
        refine hp_iald hx hb hK hh (q := 19) rfl (hI.1 _ (by decide)) es1799_1802 (vp_in_nI (n := T_1800) (by omega) (by decide)) dX12_size_37 ?_
        rw [nI_clamp (n := T_1800) (by omega)]
        obtain ⟨v_1806, hv_1806, hfv_1806⟩ := p0_1799 T_1800 (by omega)
        rw [hfv_1806]
        refine hp_callRl (va_runV (As := [.int (nI v_1806)]) (rest := []) ⟨hx, hb, hml, hown, hts⟩ (c_X12_normAt l D cy _ cs ad en_1802 hI_1802 v_1806 (by omega)) (kw_X12_normAt hts tw_1058 ⟨by decide, by decide⟩) (preV_of hh hK (hI.1 _ (by decide)) es1798_1802 rfl) rfl rfl hl.1 rfl (lv_room (Nat.le_of_ble_eq_true rfl)) dX12_size_38 ⟨Nat.le_of_ble_eq_true rfl, Nat.le_of_ble_eq_true rfl⟩) hh hA (fun r_1807 H locs hw_1807 hh => ?_)
        refine lv_goto (tgt := 54) hx hb dX12_size_41 (by decide) ?_
        exact hp_lretM hx hb hr hlocks hh (⟨hI_1802, hf_1802⟩) dX12_size_54
    · obtain rfl : r_1801 = 0 := Eq.trans hw_1801 (if_neg (fun q => hp_1801 ((wj_32 (by decide) (by decide)).mp q)))
      refine lv_if_ne (tgt := 22) hx hb dX12_size_15 (by decide) (fun c_0 => absurd c_0 (by decide)) (fun _ => ?_)
      refine lv_ldc2 hx hb hown (hts _ tw_1015) dX12_size_18 ?_
      exact hp_lretM hx hb hr hlocks hh (⟨hI, hf0⟩) dX12_size_21
  · obtain rfl : r_1800 = 0 := Eq.trans hw_1800 (if_neg hp_1800)
    refine lv_if_eq (tgt := 18) hx hb dX12_size_5 (by decide) (fun _ => ?_) (fun c_0 => absurd c_0 (by decide))
    refine lv_ldc2 hx hb hown (hts _ tw_1015) dX12_size_18 ?_
    exact hp_lretM hx hb hr hlocks hh (⟨hI, hf0⟩) dX12_size_21
theorem kw_X12_size {R : Room} {s : State} {args : Array Value} {own : String} {idx : Nat} (hts : ∀ w ∈ TB, w.before args s = true) (hl : Cond.methodLink own idx yX12_size ∈ TB) (hR : 3 + 1 ≤ R.frames ∧ 8 + (3 + 11) + 40 * 3 ≤ R.locals) : CallW R s args own RX12 idx yX12_size cX12_size 3 (some .long) (Cond.code yX12_size cX12_size 3 (some .long) :: TB) (rmN 3) 0 0 2 := cwV 2 hts (TB_V hl tw_1196 tw_1197 tw_9 tw_1198) rfl rfl rfl (by decide +kernel) hR
set_option maxHeartbeats 4000000 in
set_option maxRecDepth 100000 in
/-- about -/
theorem c_X12_about (l : Launch) (D : va_G) (cy : Nat → ClassId) (sz : Nat) (cs : List Nat) (ad : Nat → Nat) (en : Nat → va_E) (hI : RX cy cs ad en) (w9 z9 : Int32) (hRW : RWX en)   : Met l yX12_about (Cond.code yX12_about cX12_about 5 (some .int) :: TB) (rmN 3) (va_Pc [.ref (ad 0), .int w9, .int z9] (Pre D cy cs ad en sz)) (va_Qi (S := Nat → va_E) (fun r en1 => RX cy cs ad en1 ∧ (∀ c, (c ≠ 12) → en1 c = en c)) (PostM D cs ad) (Af cs ad sz)) 0 0 (Af cs ad sz) := by
  refine Met.ofW (cc := cX12_about) (maxL := 5) (ret := (some .int)) (by decide) rfl ?_
  intro p e s m args below meth c s₁ B hml hv
  obtain ⟨rfl, hsz, hP, hK, hD0⟩ := hv
  have hx := B.exec
  have hb := B.bytes
  have hr := B.returns
  have hts : ∀ w ∈ TB, w.before _ s = true := fun w h => atoms_spec (ws := _ :: TB) B.pre w (List.mem_cons_of_mem _ h)
  have hown : s.vm.findClass RX12 = some m.cls := findClass_of_methodNamed B.named
  have hlocks := B.notSynchronized
  have hh : Hp D (Af cs ad sz) (Af cs ad sz) s.heap s.heap [] cs ad en := ⟨hP, Af_self hD0, va_S.rf⟩
  have hA : ∀ q : Nat, s.heap.size ≤ q → Af cs ad sz q := fun q h => Or.inr (by rw [hsz] at h; exact h)
  have hl := lv_entry ([.ref (ad 0), .int w9, .int z9]) (n := 5) (Nat.le_of_ble_eq_true rfl)
  rw [lg_entry_eq]
  generalize (lg_sl ([.ref (ad 0), .int w9, .int z9]) ++ List.replicate (5 - (lg_sl ([.ref (ad 0), .int w9, .int z9])).length) Slot.unset).toArray = ls at hl ⊢
  have hl : lv_has ls 5 [(0, .ref (ad 0)), (1, .int w9), (2, .int z9)] := hl
  have hf0 : ∀ c, (c ≠ 12) → en c = en c := fun _ _ => rfl
  obtain ⟨fa, hi, wd, mo, tb, dp, many, grt, lst, nou, rm, rb, pr, wo, es1808, hwd2, hwd3, hmo, htb, hwo⟩ := getr_M hI
  obtain ⟨f_1809, es1809, p0_1809⟩ := getr_lt hI
  obtain ⟨f_1810, es1810, p0_1810⟩ := getr_wl hI
  refine lv_aload_n hx hb dX12_about_0 rfl (lv_at hl 0 rfl) ?_
  refine lv_iload_n hx hb dX12_about_1 rfl (lv_at hl 1 rfl) ?_
  refine hp_callRi (va_runV (As := [.int w9]) (rest := []) ⟨hx, hb, hml, hown, hts⟩ (c_X12_isWord l D cy _ cs ad en hI w9 ) (kw_X12_isWord hts tw_1175 ⟨by decide, by decide⟩) (preV_of hh hK (hI.1 _ (by decide)) es1808 rfl) rfl rfl hl.1 rfl (lv_room (Nat.le_of_ble_eq_true rfl)) dX12_about_2 ⟨Nat.le_of_ble_eq_true rfl, Nat.le_of_ble_eq_true rfl⟩) hh hA (fun r_1811 H locs hw_1811 hh => ?_)
  rw [show rdI (en 0) 30 = (nI wo) from by rw [es1808]; rfl, nI_toInt (n := wo) (by omega)] at hw_1811
  rcases Decidable.em (0 ≤ w9.toInt ∧ w9.toInt < (wo : Int)) with hp_1811 | hp_1811
  · obtain rfl : r_1811 = 1 := Eq.trans hw_1811 (if_pos hp_1811)
    obtain ⟨T_1811, rfl, hT_1811⟩ := has_nat hp_1811
    refine lv_if_ne (tgt := 10) hx hb dX12_about_5 (by decide) (fun _ => ?_) (fun c_0 => absurd c_0 (by decide))
    refine lv_aload_n hx hb dX12_about_10 rfl (lv_at hl 0 rfl) ?_
    refine hp_get hx hb hts ix12 hown hK hh (q := 0) rfl (hI.1 _ (by decide)) es1808 rfl 32 (by decide) (hts _ tw_911) (fun _ h9 => h9) rfl dX12_about_11 ?_
    refine lv_iload_n hx hb dX12_about_14 rfl (lv_at hl 1 rfl) ?_
    refine hp_iald hx hb hK hh (q := 19) rfl (hI.1 _ (by decide)) es1810 (vp_in_nI (n := T_1811) (by omega) (by decide)) dX12_about_15 ?_
    rw [nI_clamp (n := T_1811) (by omega)]
    obtain ⟨v_1812, hv_1812, hfv_1812⟩ := p0_1810 T_1811 (by omega)
    rw [hfv_1812]
    refine lv_istore_n (lv' := [(3, .int (nI v_1812)), (0, .ref (ad 0)), (1, .int (nI T_1811)), (2, .int z9)]) hx hb dX12_about_16 rfl hl (by decide) rfl (fun ls hl => ?_)
    have hlen : 1 ≤ v_1812 := RWX_1 hRW (show rdI (en 0) 30 = nI wo from by rw [es1808]; rfl) hwo (w := T_1811) (by omega) (show rdF (en 19) = f_1810 from by rw [es1810]; rfl) hfv_1812 (by omega)
    refine lv_iconst (v := 0) hx hb dX12_about_17 (by decide) ?_
    refine lv_istore (lv' := [(4, .int 0), (3, .int (nI v_1812)), (0, .ref (ad 0)), (1, .int (nI T_1811)), (2, .int z9)]) hx hb dX12_about_18 hl (by decide) rfl (fun ls hl => ?_)
    have loop_1813 : ∀ (fu j1813 : Nat)  (en_1813 : Nat → va_E) (ls : Array Slot) (H : Heap) (locs : List Loc), 0 ≤ j1813 → j1813 ≤ v_1812 → v_1812 < j1813 + fu → RX cy cs ad en_1813 → (∀ c, (c ≠ 12) → en_1813 c = en c) →  lv_has ls 5 [(4, .int (nI j1813)), (3, .int (nI v_1812)), (0, .ref (ad 0)), (1, .int (nI T_1811)), (2, .int z9)] → Hp D (Af cs ad sz) (Af cs ad sz) s.heap H locs cs ad en_1813 → W p l e (headSpec (Cond.code yX12_about cX12_about 5 (some .int) :: TB) (rmN 3)).room s m ([.ref (ad 0), .int (nI T_1811), .int z9] : List Value).toArray below meth c H locs 0 0 (MQ below (va_Qi (S := Nat → va_E) (fun r en1 => RX cy cs ad en1 ∧ (∀ c, (c ≠ 12) → en1 c = en c)) (PostM D cs ad) (Af cs ad sz)) ([.ref (ad 0), .int (nI T_1811), .int z9] : List Value).toArray s 0 0 (Af cs ad sz)) (F0 m 20 ls []) := by
      intro fu
      induction fu with
      | zero => intro j1813  en_1813 ls H locs h0 h1 h2; exact absurd h2 (by omega)
      | succ fu ih_1813 =>
        intro j1813  en_1813 ls H locs hj0_1813 hj_1813 hfu_1813 hI_1813 hf_1813  hl hh
        refine lv_iload hx hb dX12_about_20 (lv_at hl 0 rfl) ?_
        refine lv_iload_n hx hb dX12_about_22 rfl (lv_at hl 1 rfl) ?_
        refine lv_icmp_ge (tgt := 51) hx hb dX12_about_23 (by decide) (fun c_1814 => ?_) (fun c_1814 => ?_)
        · have n_1814 : v_1812 ≤ j1813 := n_le (a := v_1812) (b := j1813) c_1814 (by omega) (by omega)
          refine lv_iload_n hx hb dX12_about_51 rfl (lv_at hl 4 rfl) ?_
          by_cases q_1815_0 : z9 = 0
          · refine lv_tableIn (off := 32) (tgt := 84) hx hb dX12_about_52 (by rw [q_1815_0]; decide) (by rw [q_1815_0]; decide) (by rw [q_1815_0]; decide) (by decide) ?_
            refine lv_iload_n hx hb dX12_about_84 rfl (lv_at hl 1 rfl) ?_
            exact hp_iretM hx hb hr rfl hlocks hh (⟨hI_1813, hf_1813⟩) dX12_about_85
          by_cases q_1815_1 : z9 = 1
          · refine lv_tableIn (off := 34) (tgt := 86) hx hb dX12_about_52 (by rw [q_1815_1]; decide) (by rw [q_1815_1]; decide) (by rw [q_1815_1]; decide) (by decide) ?_
            refine lv_aload_n hx hb dX12_about_86 rfl (lv_at hl 2 rfl) ?_
            refine lv_iload_n hx hb dX12_about_87 rfl (lv_at hl 1 rfl) ?_
            have es1808_1816 : en_1813 0 = .inr (11, [.int fa, .int hi, .int (nI wd), .int (nI mo), .int (nI tb), .ref (ad 1), .ref (ad 2), .ref (ad 3), .ref (ad 4), .ref (ad 5), .ref (ad 6), .ref (ad 7), .ref (ad 8), .ref (ad 9), .int dp, .long many, .long grt, .long lst, .long nou, .ref (ad 10), .ref (ad 11), .ref (ad 12), .int rm, .long rb, .ref (ad 13), .int pr, .ref (ad 14), .ref (ad 15), .ref (ad 16), .ref (ad 17), .int (nI wo), .ref (ad 18), .ref (ad 19)]) := (hf_1813 0 (by omega)).trans es1808
            refine hp_callRi (va_runV (As := [.int (nI v_1812)]) (rest := []) ⟨hx, hb, hml, hown, hts⟩ (c_X12_isAllowed l D cy _ cs ad en_1813 hI_1813 v_1812 (by omega) (by omega)) (kw_X12_isAllowed hts tw_1081 ⟨by decide, by decide⟩) (preV_of hh hK (hI.1 _ (by decide)) es1808_1816 rfl) rfl rfl hl.1 rfl (lv_room (Nat.le_of_ble_eq_true rfl)) dX12_about_88 ⟨Nat.le_of_ble_eq_true rfl, Nat.le_of_ble_eq_true rfl⟩) hh hA (fun r_1817 H locs hw_1817 hh => ?_)
            rcases hw_1817 with hb_1817 | hb_1817
            · obtain rfl : r_1817 = 0 := hb_1817
              refine lv_if_eq (tgt := 98) hx hb dX12_about_91 (by decide) (fun _ => ?_) (fun c_0 => absurd c_0 (by decide))
              refine lv_iconst (v := 0) hx hb dX12_about_98 (by decide) ?_
              exact hp_iretM hx hb hr rfl hlocks hh (⟨hI_1813, hf_1813⟩) dX12_about_99
            · obtain rfl : r_1817 = 1 := hb_1817
              refine lv_if_eq (tgt := 98) hx hb dX12_about_91 (by decide) (fun c_0 => absurd c_0 (by decide)) (fun _ => ?_)
              refine lv_iconst (v := 1) hx hb dX12_about_94 (by decide) ?_
              refine lv_goto (tgt := 99) hx hb dX12_about_95 (by decide) ?_
              exact hp_iretM hx hb hr rfl hlocks hh (⟨hI_1813, hf_1813⟩) dX12_about_99
          by_cases q_1815_2 : z9 = 2
          · refine lv_tableIn (off := 48) (tgt := 100) hx hb dX12_about_52 (by rw [q_1815_2]; decide) (by rw [q_1815_2]; decide) (by rw [q_1815_2]; decide) (by decide) ?_
            refine lv_aload_n hx hb dX12_about_100 rfl (lv_at hl 2 rfl) ?_
            refine lv_iload_n hx hb dX12_about_101 rfl (lv_at hl 1 rfl) ?_
            have es1808_1818 : en_1813 0 = .inr (11, [.int fa, .int hi, .int (nI wd), .int (nI mo), .int (nI tb), .ref (ad 1), .ref (ad 2), .ref (ad 3), .ref (ad 4), .ref (ad 5), .ref (ad 6), .ref (ad 7), .ref (ad 8), .ref (ad 9), .int dp, .long many, .long grt, .long lst, .long nou, .ref (ad 10), .ref (ad 11), .ref (ad 12), .int rm, .long rb, .ref (ad 13), .int pr, .ref (ad 14), .ref (ad 15), .ref (ad 16), .ref (ad 17), .int (nI wo), .ref (ad 18), .ref (ad 19)]) := (hf_1813 0 (by omega)).trans es1808
            refine hp_callRi (va_runV (As := [.int (nI v_1812)]) (rest := []) ⟨hx, hb, hml, hown, hts⟩ (c_X12_isRing l D cy _ cs ad en_1813 hI_1813 v_1812 (by omega) (by omega)) (kw_X12_isRing hts tw_1077 ⟨by decide, by decide⟩) (preV_of hh hK (hI.1 _ (by decide)) es1808_1818 rfl) rfl rfl hl.1 rfl (lv_room (Nat.le_of_ble_eq_true rfl)) dX12_about_102 ⟨Nat.le_of_ble_eq_true rfl, Nat.le_of_ble_eq_true rfl⟩) hh hA (fun r_1819 H locs hw_1819 hh => ?_)
            rcases hw_1819 with hb_1819 | hb_1819
            · obtain rfl : r_1819 = 0 := hb_1819
              refine lv_if_eq (tgt := 112) hx hb dX12_about_105 (by decide) (fun _ => ?_) (fun c_0 => absurd c_0 (by decide))
              refine lv_iconst (v := 0) hx hb dX12_about_112 (by decide) ?_
              exact hp_iretM hx hb hr rfl hlocks hh (⟨hI_1813, hf_1813⟩) dX12_about_113
            · obtain rfl : r_1819 = 1 := hb_1819
              refine lv_if_eq (tgt := 112) hx hb dX12_about_105 (by decide) (fun c_0 => absurd c_0 (by decide)) (fun _ => ?_)
              refine lv_iconst (v := 1) hx hb dX12_about_108 (by decide) ?_
              refine lv_goto (tgt := 113) hx hb dX12_about_109 (by decide) ?_
              exact hp_iretM hx hb hr rfl hlocks hh (⟨hI_1813, hf_1813⟩) dX12_about_113
          by_cases q_1815_3 : z9 = 3
          · refine lv_tableIn (off := 62) (tgt := 114) hx hb dX12_about_52 (by rw [q_1815_3]; decide) (by rw [q_1815_3]; decide) (by rw [q_1815_3]; decide) (by decide) ?_
            refine lv_aload_n hx hb dX12_about_114 rfl (lv_at hl 2 rfl) ?_
            refine lv_iload_n hx hb dX12_about_115 rfl (lv_at hl 1 rfl) ?_
            have es1808_1820 : en_1813 0 = .inr (11, [.int fa, .int hi, .int (nI wd), .int (nI mo), .int (nI tb), .ref (ad 1), .ref (ad 2), .ref (ad 3), .ref (ad 4), .ref (ad 5), .ref (ad 6), .ref (ad 7), .ref (ad 8), .ref (ad 9), .int dp, .long many, .long grt, .long lst, .long nou, .ref (ad 10), .ref (ad 11), .ref (ad 12), .int rm, .long rb, .ref (ad 13), .int pr, .ref (ad 14), .ref (ad 15), .ref (ad 16), .ref (ad 17), .int (nI wo), .ref (ad 18), .ref (ad 19)]) := (hf_1813 0 (by omega)).trans es1808
            refine hp_callRi (va_runV (As := [.int (nI v_1812)]) (rest := []) ⟨hx, hb, hml, hown, hts⟩ (c_X12_timesOf l D cy _ cs ad en_1813 hI_1813 v_1812 (by omega) (by omega)) (kw_X12_timesOf hts tw_1085 ⟨by decide, by decide⟩) (preV_of hh hK (hI.1 _ (by decide)) es1808_1820 rfl) rfl rfl hl.1 rfl (lv_room (Nat.le_of_ble_eq_true rfl)) dX12_about_116 ⟨Nat.le_of_ble_eq_true rfl, Nat.le_of_ble_eq_true rfl⟩) hh hA (fun r_1821 H locs hw_1821 hh => ?_)
            exact hp_iretM hx hb hr rfl hlocks hh (⟨hI_1813, hf_1813⟩) dX12_about_119
          refine lv_tableOut (tgt := 120) hx hb dX12_about_52 (tb_out 4 (by decide) (by decide) (fun j hj => by rcases (show j = 0 ∨ j = 1 ∨ j = 2 ∨ j = 3 by omega) with rfl | rfl | rfl | rfl <;> first | exact lv_neT q_1815_0 (by decide) | exact lv_neT q_1815_1 (by decide) | exact lv_neT q_1815_2 (by decide) | exact lv_neT q_1815_3 (by decide))) (by decide) ?_
          refine lv_bipush (v := (-2)) hx hb dX12_about_120 (by decide) ?_
          exact hp_iretM hx hb hr rfl hlocks hh (⟨hI_1813, hf_1813⟩) dX12_about_122
        · have n_1814 : j1813 < v_1812 := n_nle (a := v_1812) (b := j1813) c_1814 (by omega) (by omega)
          refine lv_aload_n hx hb dX12_about_26 rfl (lv_at hl 2 rfl) ?_
          have es1808_1822 : en_1813 0 = .inr (11, [.int fa, .int hi, .int (nI wd), .int (nI mo), .int (nI tb), .ref (ad 1), .ref (ad 2), .ref (ad 3), .ref (ad 4), .ref (ad 5), .ref (ad 6), .ref (ad 7), .ref (ad 8), .ref (ad 9), .int dp, .long many, .long grt, .long lst, .long nou, .ref (ad 10), .ref (ad 11), .ref (ad 12), .int rm, .long rb, .ref (ad 13), .int pr, .ref (ad 14), .ref (ad 15), .ref (ad 16), .ref (ad 17), .int (nI wo), .ref (ad 18), .ref (ad 19)]) := (hf_1813 0 (by omega)).trans es1808
          refine hp_get hx hb hts ix12 hown hK hh (q := 0) rfl (hI.1 _ (by decide)) es1808_1822 rfl 21 (by decide) (hts _ tw_900) (fun _ h9 => h9) rfl dX12_about_27 ?_
          refine lv_iload hx hb dX12_about_30 (lv_at hl 0 rfl) ?_
          refine lv_aload_n hx hb dX12_about_32 rfl (lv_at hl 2 rfl) ?_
          refine hp_get hx hb hts ix12 hown hK hh (q := 0) rfl (hI.1 _ (by decide)) es1808_1822 rfl 31 (by decide) (hts _ tw_910) (fun _ h9 => h9) rfl dX12_about_33 ?_
          refine lv_bipush (v := 12) hx hb dX12_about_36 (by decide) ?_
          refine lv_iload_n hx hb dX12_about_38 rfl (lv_at hl 3 rfl) ?_
          refine lv_imul hx hb dX12_about_39 ?_
          rw [show (12 : Int32) = nI 12 from rfl, pk_mul 12 T_1811]
          refine lv_iload hx hb dX12_about_40 (lv_at hl 0 rfl) ?_
          refine lv_iadd hx hb dX12_about_42 ?_
          rw [nI_add (12 * T_1811) j1813]
          have es1809_1823 : en_1813 18 = .inl (cy 0, 120, .inl f_1809) := (hf_1813 18 (by omega)).trans es1809
          refine hp_iald hx hb hK hh (q := 18) rfl (hI.1 _ (by decide)) es1809_1823 (vp_in_nI (n := ((12 * T_1811) + j1813)) (by omega) (by decide)) dX12_about_43 ?_
          rw [nI_clamp (n := ((12 * T_1811) + j1813)) (by omega)]
          obtain ⟨v_1824, hv_1824, hfv_1824⟩ := p0_1809 ((12 * T_1811) + j1813) (by omega)
          rw [hfv_1824]
          obtain ⟨f_1825, es1825, p0_1825⟩ := getr_ak hI_1813
          refine hp_iast hx hb hK hh (q := 12) rfl (hI.1 _ (by decide)) es1825 (vp_in_nI (n := j1813) (by omega) (by decide)) dX12_about_44 (fun H locs en_1826 hen_1826 hh => ?_)
          rw [nI_clamp (n := j1813) (by omega)] at hen_1826
          have es1808_1826 : en_1826 0 = .inr (11, [.int fa, .int hi, .int (nI wd), .int (nI mo), .int (nI tb), .ref (ad 1), .ref (ad 2), .ref (ad 3), .ref (ad 4), .ref (ad 5), .ref (ad 6), .ref (ad 7), .ref (ad 8), .ref (ad 9), .int dp, .long many, .long grt, .long lst, .long nou, .ref (ad 10), .ref (ad 11), .ref (ad 12), .int rm, .long rb, .ref (ad 13), .int pr, .ref (ad 14), .ref (ad 15), .ref (ad 16), .ref (ad 17), .int (nI wo), .ref (ad 18), .ref (ad 19)]) := by rw [hen_1826, va_up_ne _ _ (by decide)]; exact es1808_1822
          have es1809_1826 : en_1826 18 = .inl (cy 0, 120, .inl f_1809) := by rw [hen_1826, va_up_ne _ _ (by decide)]; exact es1809_1823
          have es1825_1826 : en_1826 12 = .inl (cy 0, 12, .inl (upd f_1825 j1813 (nI v_1824))) := by rw [hen_1826]; exact va_up_self _ _ _
          have hI_1826 : RX cy cs ad en_1826 := by rw [hen_1826]; exact upr_ak hI_1813 ⟨(upd f_1825 j1813 (nI v_1824)), rfl, (vals_updB p0_1825 (by omega))⟩
          have hf_1826 : ∀ c, (c ≠ 12) → en_1826 c = en c := fun c hc => Eq.trans (show en_1826 c = en_1813 c from by rw [hen_1826, va_up_ne _ _ (by omega)]) (hf_1813 c hc)
          refine lv_iinc (v := (nI (j1813 + 1))) (lv' := [(4, .int (nI (j1813 + 1))), (3, .int (nI v_1812)), (0, .ref (ad 0)), (1, .int (nI T_1811)), (2, .int z9)]) hx hb dX12_about_45 hl (k := 0) rfl (nI_1 _) (by decide) rfl (fun ls hl => ?_)
          refine lv_goto (tgt := 20) hx hb dX12_about_48 (by decide) ?_
          exact ih_1813 ((j1813 + 1))  en_1826 ls H locs (by omega) (by omega) (by omega) hI_1826 hf_1826  (lv_sub hl [0, 1, 2, 3, 4] rfl) hh
    exact loop_1813 (v_1812 + 1) 0  en ls _ _ (Nat.le_refl _) (by omega) (by omega) hI hf0  (lv_sub hl [0, 1, 2, 3, 4] rfl) hh
  · obtain rfl : r_1811 = 0 := Eq.trans hw_1811 (if_neg hp_1811)
    refine lv_if_ne (tgt := 10) hx hb dX12_about_5 (by decide) (fun c_0 => absurd c_0 (by decide)) (fun _ => ?_)
    refine lv_iconst (v := (-1)) hx hb dX12_about_8 (by decide) ?_
    exact hp_iretM hx hb hr rfl hlocks hh (⟨hI, hf0⟩) dX12_about_9
theorem kw_X12_about {R : Room} {s : State} {args : Array Value} {own : String} {idx : Nat} (hts : ∀ w ∈ TB, w.before args s = true) (hl : Cond.methodLink own idx yX12_about ∈ TB) (hR : 3 + 1 ≤ R.frames ∧ 8 + (5 + 11) + 40 * 3 ≤ R.locals) : CallW R s args own RX12 idx yX12_about cX12_about 5 (some .int) (Cond.code yX12_about cX12_about 5 (some .int) :: TB) (rmN 3) 0 0 2 := cwV 2 hts (TB_V hl tw_1184 tw_1185 tw_9 tw_1186) rfl rfl rfl (by decide +kernel) hR
set_option maxHeartbeats 4000000 in
set_option maxRecDepth 100000 in
/-- X12_word -/
theorem c_X12_word (l : Launch) (D : va_G) (cy : Nat → ClassId) (sz : Nat) (cs : List Nat) (ad : Nat → Nat) (en : Nat → va_E) (hI : RX cy cs ad en) (k9 la9 i9 n9 : Int32) (hRW : RWX en)   : Met l yX12_word (Cond.code yX12_word cX12_word 7 (some .int) :: TB) (rmN 2) (va_Pc [.ref (ad 0), .int k9, .int la9, .int i9, .int n9] (Pre D cy cs ad en sz)) (va_Qi (S := Nat → va_E) (fun r en1 => RX cy cs ad en1 ∧ (∀ c, (c ≠ 0 ∧ c ≠ 18 ∧ c ≠ 19) → en1 c = en c) ∧ RWX en1 ∧ KPw en en1) (PostM D cs ad) (Af cs ad sz)) 0 0 (Af cs ad sz) := by
  refine Met.ofW (cc := cX12_word) (maxL := 7) (ret := (some .int)) (by decide) rfl ?_
  intro p e s m args below meth c s₁ B hml hv
  obtain ⟨rfl, hsz, hP, hK, hD0⟩ := hv
  have hx := B.exec
  have hb := B.bytes
  have hr := B.returns
  have hts : ∀ w ∈ TB, w.before _ s = true := fun w h => atoms_spec (ws := _ :: TB) B.pre w (List.mem_cons_of_mem _ h)
  have hown : s.vm.findClass RX12 = some m.cls := findClass_of_methodNamed B.named
  have hlocks := B.notSynchronized
  have hh : Hp D (Af cs ad sz) (Af cs ad sz) s.heap s.heap [] cs ad en := ⟨hP, Af_self hD0, va_S.rf⟩
  have hA : ∀ q : Nat, s.heap.size ≤ q → Af cs ad sz q := fun q h => Or.inr (by rw [hsz] at h; exact h)
  have hl := lv_entry ([.ref (ad 0), .int k9, .int la9, .int i9, .int n9]) (n := 7) (Nat.le_of_ble_eq_true rfl)
  rw [lg_entry_eq]
  generalize (lg_sl ([.ref (ad 0), .int k9, .int la9, .int i9, .int n9]) ++ List.replicate (7 - (lg_sl ([.ref (ad 0), .int k9, .int la9, .int i9, .int n9])).length) Slot.unset).toArray = ls at hl ⊢
  have hl : lv_has ls 7 [(0, .ref (ad 0)), (1, .int k9), (2, .int la9), (3, .int i9), (4, .int n9)] := hl
  have hf0 : ∀ c, (c ≠ 0 ∧ c ≠ 18 ∧ c ≠ 19) → en c = en c := fun _ _ => rfl
  obtain ⟨fa, hi, wd, mo, tb, dp, many, grt, lst, nou, rm, rb, pr, wo, es1827, hwd2, hwd3, hmo, htb, hwo⟩ := getr_M hI
  obtain ⟨f_1828, es1828, p0_1828⟩ := getr_sl hI
  obtain ⟨f_1829, es1829⟩ := getr_ce hI
  obtain ⟨f_1830, es1830, p0_1830⟩ := getr_wl hI
  refine lv_aload_n hx hb dX12_word_0 rfl (lv_at hl 0 rfl) ?_
  refine lv_iconst (v := 0) hx hb dX12_word_1 (by decide) ?_
  refine hp_put hx hb hts ix12 tyX12 tyX12_ok nmX12 hown hK hh (q := 0) rfl (hI.1 _ (by decide)) es1827 rfl 0 (by decide) (hts _ tw_879) (fun _ h9 => h9) rfl (ty := .int) (by decide +kernel) rfl rfl (Nat.le_of_ble_eq_true rfl) dX12_word_2 (fun H locs en_1831 hen_1831 hh => ?_)
  have es1828_1831 : en_1831 4 = .inl (cy 0, 4, .inl f_1828) := by rw [hen_1831, va_up_ne _ _ (by decide)]; exact es1828
  have es1829_1831 : en_1831 5 = .inl (cy 0, 160, .inl f_1829) := by rw [hen_1831, va_up_ne _ _ (by decide)]; exact es1829
  have es1830_1831 : en_1831 19 = .inl (cy 0, 10, .inl f_1830) := by rw [hen_1831, va_up_ne _ _ (by decide)]; exact es1830
  have es1827_1831 : en_1831 0 = .inr (11, [.int 0, .int hi, .int (nI wd), .int (nI mo), .int (nI tb), .ref (ad 1), .ref (ad 2), .ref (ad 3), .ref (ad 4), .ref (ad 5), .ref (ad 6), .ref (ad 7), .ref (ad 8), .ref (ad 9), .int dp, .long many, .long grt, .long lst, .long nou, .ref (ad 10), .ref (ad 11), .ref (ad 12), .int rm, .long rb, .ref (ad 13), .int pr, .ref (ad 14), .ref (ad 15), .ref (ad 16), .ref (ad 17), .int (nI wo), .ref (ad 18), .ref (ad 19)]) := by rw [hen_1831]; exact va_up_self _ _ _
  have hI_1831 : RX cy cs ad en_1831 := by rw [hen_1831]; exact upr_M hI ⟨0, hi, wd, mo, tb, dp, many, grt, lst, nou, rm, rb, pr, wo, rfl, hwd2, hwd3, hmo, htb, hwo⟩
  have hf_1831 : ∀ c, (c ≠ 0 ∧ c ≠ 18 ∧ c ≠ 19) → en_1831 c = en c := fun c hc => Eq.trans (show en_1831 c = en c from by rw [hen_1831, va_up_ne _ _ (by omega)]) (hf0 c hc)
  have hkc19_1831 : en_1831 19 = en 19 := (show en_1831 19 = en 19 from by rw [hen_1831, va_up_ne _ _ (by decide)]).trans rfl
  have hkp_1831 : KP en en_1831 := KP_fv (KP_rf en) es1827 es1827_1831 hi (nI wd) (nI mo) (nI tb) pr (nI wo) rfl rfl rfl rfl rfl rfl rfl rfl rfl rfl rfl rfl
  refine lv_aload_n hx hb dX12_word_5 rfl (lv_at hl 0 rfl) ?_
  refine lv_iload_n hx hb dX12_word_6 rfl (lv_at hl 1 rfl) ?_
  refine lv_iload_n hx hb dX12_word_7 rfl (lv_at hl 2 rfl) ?_
  refine hp_callMi (va_runV (As := [.int k9, .int la9]) (rest := []) ⟨hx, hb, hml, hown, hts⟩ (c_X12_against l D cy _ cs ad en_1831 hI_1831 k9 la9 ) (kw_X12_against hts tw_993 ⟨by decide, by decide⟩) (preV_of hh hK (hI.1 _ (by decide)) es1827_1831 rfl) rfl rfl hl.1 rfl (lv_room (Nat.le_of_ble_eq_true rfl)) dX12_word_8 ⟨Nat.le_of_ble_eq_true rfl, Nat.le_of_ble_eq_true rfl⟩) hh hA (fun r_1832 H locs en_1832 hw_1832 hh => ?_)
  obtain ⟨hI_1832, hu_1832, hr_1832, h0_1832, hkq_1832⟩ := hw_1832
  rcases Decidable.em (r_1832 = 0) with hz_1832 | hz_1832
  · have he_1832 : en_1832 = en_1831 := h0_1832 hz_1832
    rw [he_1832] at hh
    have hag_1832 := agF_0 (hr_1832.symm.trans hz_1832)
    rw [hz_1832]
    refine lv_istore (lv' := [(5, .int 0), (0, .ref (ad 0)), (1, .int k9), (2, .int la9), (3, .int i9), (4, .int n9)]) hx hb dX12_word_11 hl (by decide) rfl (fun ls hl => ?_)
    refine lv_iload hx hb dX12_word_13 (lv_at hl 0 rfl) ?_
    refine lv_if_eq (tgt := 21) hx hb dX12_word_15 (by decide) (fun _ => ?_) (fun c_0 => absurd c_0 (by decide))
    obtain ⟨K9, rfl, -, hK9⟩ := wi_natB hag_1832.1 0 3 (by decide) (by decide)
    refine lv_iload hx hb dX12_word_21 (lv_at hl 5 rfl) ?_
    refine lv_if_ge (tgt := 32) hx hb dX12_word_23 (by decide) (fun c_1833 => ?_) (fun c_1833 => ?_)
    · obtain ⟨N9, hN9, rfl⟩ := nat_of (Int32.not_lt.mpr c_1833)
      refine lv_iload_n hx hb dX12_word_32 rfl (lv_at hl 4 rfl) ?_
      refine lv_if_lt (tgt := 59) hx hb dX12_word_33 (by decide) (fun c_1834 => ?_) (fun c_1834 => ?_)
      · refine lv_aload_n hx hb dX12_word_59 rfl (lv_at hl 1 rfl) ?_
        refine lv_iconst (v := 3) hx hb dX12_word_60 (by decide) ?_
        refine hp_callMi (va_runV (As := [.int 3]) (rest := []) ⟨hx, hb, hml, hown, hts⟩ (c_X12_fails l D cy _ cs ad en_1831 (hI.1 _ (by decide)) 0 hi wd mo tb dp many grt lst nou rm rb pr wo 3 es1827_1831) (kw_X12_fails hts tw_997 ⟨by decide, by decide⟩) (preV_of hh hK (hI.1 _ (by decide)) es1827_1831 rfl) rfl rfl hl.1 rfl (lv_room (Nat.le_of_ble_eq_true rfl)) dX12_word_61 ⟨Nat.le_of_ble_eq_true rfl, Nat.le_of_ble_eq_true rfl⟩) hh hA (fun r_1835 H locs en_1835 hw_1835 hh => ?_)
        obtain ⟨hr_1835, hen_1835⟩ := hw_1835
        have es1828_1835 : en_1835 4 = .inl (cy 0, 4, .inl f_1828) := by rw [hen_1835, va_up_ne _ _ (by decide)]; exact es1828_1831
        have es1829_1835 : en_1835 5 = .inl (cy 0, 160, .inl f_1829) := by rw [hen_1835, va_up_ne _ _ (by decide)]; exact es1829_1831
        have es1830_1835 : en_1835 19 = .inl (cy 0, 10, .inl f_1830) := by rw [hen_1835, va_up_ne _ _ (by decide)]; exact es1830_1831
        have es1827_1835 : en_1835 0 = .inr (11, [.int 3, .int hi, .int (nI wd), .int (nI mo), .int (nI tb), .ref (ad 1), .ref (ad 2), .ref (ad 3), .ref (ad 4), .ref (ad 5), .ref (ad 6), .ref (ad 7), .ref (ad 8), .ref (ad 9), .int dp, .long many, .long grt, .long lst, .long nou, .ref (ad 10), .ref (ad 11), .ref (ad 12), .int rm, .long rb, .ref (ad 13), .int pr, .ref (ad 14), .ref (ad 15), .ref (ad 16), .ref (ad 17), .int (nI wo), .ref (ad 18), .ref (ad 19)]) := by rw [hen_1835]; exact va_up_self _ _ _
        have hI_1835 : RX cy cs ad en_1835 := by rw [hen_1835]; exact upr_M hI_1831 ⟨3, hi, wd, mo, tb, dp, many, grt, lst, nou, rm, rb, pr, wo, rfl, hwd2, hwd3, hmo, htb, hwo⟩
        have hf_1835 : ∀ c, (c ≠ 0 ∧ c ≠ 18 ∧ c ≠ 19) → en_1835 c = en c := fun c hc => Eq.trans (show en_1835 c = en_1831 c from by rw [hen_1835, va_up_ne _ _ (by omega)]) (hf_1831 c hc)
        have hkc19_1835 : en_1835 19 = en 19 := (show en_1835 19 = en_1831 19 from by rw [hen_1835, va_up_ne _ _ (by decide)]).trans hkc19_1831
        have hkp_1835 : KP en en_1835 := KP_fv hkp_1831 es1827_1831 es1827_1835 hi (nI wd) (nI mo) (nI tb) pr (nI wo) rfl rfl rfl rfl rfl rfl rfl rfl rfl rfl rfl rfl
        obtain rfl : r_1835 = (-13) := hr_1835.trans (by decide)
        exact hp_iretM hx hb hr rfl hlocks hh (⟨hI_1835, hf_1835, RWX_keep hRW hkp_1835.2.2.2.2.2 hkc19_1835, KPw_of hkp_1835⟩) dX12_word_64
      · obtain ⟨I9, hI9, rfl⟩ := nat_of c_1834
        refine lv_iload_n hx hb dX12_word_36 rfl (lv_at hl 4 rfl) ?_
        refine lv_aload_n hx hb dX12_word_37 rfl (lv_at hl 1 rfl) ?_
        refine hp_get hx hb hts ix12 hown hK hh (q := 0) rfl (hI.1 _ (by decide)) es1827_1831 rfl 8 (by decide) (hts _ tw_887) (fun _ h9 => h9) rfl dX12_word_38 ?_
        refine lv_iload_n hx hb dX12_word_41 rfl (lv_at hl 2 rfl) ?_
        refine hp_iald hx hb hK hh (q := 4) rfl (hI.1 _ (by decide)) es1828_1831 (vp_in_nI (n := K9) (by omega) (by decide)) dX12_word_42 ?_
        rw [nI_clamp (n := K9) (by omega)]
        obtain ⟨v_1836, hv_1836, hfv_1836⟩ := p0_1828 K9 (by omega)
        rw [hfv_1836]
        refine lv_icmp_gt (tgt := 59) hx hb dX12_word_43 (by decide) (fun c_1837 => ?_) (fun c_1837 => ?_)
        · have n_1837 : v_1836 < I9 := n_lt (a := v_1836) (b := I9) c_1837 (by omega) (by omega)
          refine lv_aload_n hx hb dX12_word_59 rfl (lv_at hl 1 rfl) ?_
          refine lv_iconst (v := 3) hx hb dX12_word_60 (by decide) ?_
          refine hp_callMi (va_runV (As := [.int 3]) (rest := []) ⟨hx, hb, hml, hown, hts⟩ (c_X12_fails l D cy _ cs ad en_1831 (hI.1 _ (by decide)) 0 hi wd mo tb dp many grt lst nou rm rb pr wo 3 es1827_1831) (kw_X12_fails hts tw_997 ⟨by decide, by decide⟩) (preV_of hh hK (hI.1 _ (by decide)) es1827_1831 rfl) rfl rfl hl.1 rfl (lv_room (Nat.le_of_ble_eq_true rfl)) dX12_word_61 ⟨Nat.le_of_ble_eq_true rfl, Nat.le_of_ble_eq_true rfl⟩) hh hA (fun r_1838 H locs en_1838 hw_1838 hh => ?_)
          obtain ⟨hr_1838, hen_1838⟩ := hw_1838
          have es1828_1838 : en_1838 4 = .inl (cy 0, 4, .inl f_1828) := by rw [hen_1838, va_up_ne _ _ (by decide)]; exact es1828_1831
          have es1829_1838 : en_1838 5 = .inl (cy 0, 160, .inl f_1829) := by rw [hen_1838, va_up_ne _ _ (by decide)]; exact es1829_1831
          have es1830_1838 : en_1838 19 = .inl (cy 0, 10, .inl f_1830) := by rw [hen_1838, va_up_ne _ _ (by decide)]; exact es1830_1831
          have es1827_1838 : en_1838 0 = .inr (11, [.int 3, .int hi, .int (nI wd), .int (nI mo), .int (nI tb), .ref (ad 1), .ref (ad 2), .ref (ad 3), .ref (ad 4), .ref (ad 5), .ref (ad 6), .ref (ad 7), .ref (ad 8), .ref (ad 9), .int dp, .long many, .long grt, .long lst, .long nou, .ref (ad 10), .ref (ad 11), .ref (ad 12), .int rm, .long rb, .ref (ad 13), .int pr, .ref (ad 14), .ref (ad 15), .ref (ad 16), .ref (ad 17), .int (nI wo), .ref (ad 18), .ref (ad 19)]) := by rw [hen_1838]; exact va_up_self _ _ _
          have hI_1838 : RX cy cs ad en_1838 := by rw [hen_1838]; exact upr_M hI_1831 ⟨3, hi, wd, mo, tb, dp, many, grt, lst, nou, rm, rb, pr, wo, rfl, hwd2, hwd3, hmo, htb, hwo⟩
          have hf_1838 : ∀ c, (c ≠ 0 ∧ c ≠ 18 ∧ c ≠ 19) → en_1838 c = en c := fun c hc => Eq.trans (show en_1838 c = en_1831 c from by rw [hen_1838, va_up_ne _ _ (by omega)]) (hf_1831 c hc)
          have hkc19_1838 : en_1838 19 = en 19 := (show en_1838 19 = en_1831 19 from by rw [hen_1838, va_up_ne _ _ (by decide)]).trans hkc19_1831
          have hkp_1838 : KP en en_1838 := KP_fv hkp_1831 es1827_1831 es1827_1838 hi (nI wd) (nI mo) (nI tb) pr (nI wo) rfl rfl rfl rfl rfl rfl rfl rfl rfl rfl rfl rfl
          obtain rfl : r_1838 = (-13) := hr_1838.trans (by decide)
          exact hp_iretM hx hb hr rfl hlocks hh (⟨hI_1838, hf_1838, RWX_keep hRW hkp_1838.2.2.2.2.2 hkc19_1838, KPw_of hkp_1838⟩) dX12_word_64
        · have n_1837 : I9 ≤ v_1836 := n_nlt (a := v_1836) (b := I9) c_1837 (by omega) (by omega)
          refine lv_iload hx hb dX12_word_46 (lv_at hl 5 rfl) ?_
          refine lv_aload_n hx hb dX12_word_48 rfl (lv_at hl 1 rfl) ?_
          refine hp_get hx hb hts ix12 hown hK hh (q := 0) rfl (hI.1 _ (by decide)) es1827_1831 rfl 8 (by decide) (hts _ tw_887) (fun _ h9 => h9) rfl dX12_word_49 ?_
          refine lv_iload_n hx hb dX12_word_52 rfl (lv_at hl 2 rfl) ?_
          refine hp_iald hx hb hK hh (q := 4) rfl (hI.1 _ (by decide)) es1828_1831 (vp_in_nI (n := K9) (by omega) (by decide)) dX12_word_53 ?_
          rw [nI_clamp (n := K9) (by omega)]
          rw [hfv_1836]
          refine lv_iload_n hx hb dX12_word_54 rfl (lv_at hl 4 rfl) ?_
          refine lv_isub hx hb dX12_word_55 ?_
          rw [pk_sub (a := v_1836) (b := I9) (by omega)]
          refine lv_icmp_le (tgt := 65) hx hb dX12_word_56 (by decide) (fun c_1839 => ?_) (fun c_1839 => ?_)
          · have n_1839 : N9 ≤ (v_1836 - I9) := n_le (a := N9) (b := (v_1836 - I9)) c_1839 (by omega) (by omega)
            refine lv_iload hx hb dX12_word_65 (lv_at hl 5 rfl) ?_
            refine lv_i2l hx hb dX12_word_67 rfl ?_
            refine lv_lconst (v := 1) hx hb dX12_word_68 (by decide) ?_
            refine lv_ldc2 hx hb hown (hts _ tw_1170) dX12_word_69 ?_
            refine hp_callRi (va_runS (As := [.long ((nI N9).toInt64), .long 1, .long 12]) (rest := []) ⟨hx, hb, hml, hown, hts⟩ (c_X12_within l D cy _ cs ad en_1831 ((nI N9).toInt64) 1 12) (kw_X12_within hts tw_985 ⟨by decide, by decide⟩) (preS_of hh hK) rfl rfl hl.1 rfl (lv_room (Nat.le_of_ble_eq_true rfl)) dX12_word_72 ⟨Nat.le_of_ble_eq_true rfl, Nat.le_of_ble_eq_true rfl⟩) hh hA (fun r_1840 H locs hw_1840 hh => ?_)
            rcases Decidable.em (wi (nI N9) 1 12) with hp_1840 | hp_1840
            · obtain rfl : r_1840 = 1 := Eq.trans hw_1840 (if_pos ((wj_32 (by decide) (by decide)).mpr hp_1840))
              have hN_1840 := wi_nn hp_1840 1 12 (by decide) (by decide) (by omega)
              refine lv_if_ne (tgt := 81) hx hb dX12_word_75 (by decide) (fun _ => ?_) (fun c_0 => absurd c_0 (by decide))
              refine lv_iconst (v := 0) hx hb dX12_word_81 (by decide) ?_
              refine lv_istore (lv' := [(6, .int 0), (5, .int 0), (0, .ref (ad 0)), (1, .int (nI K9)), (2, .int la9), (3, .int (nI I9)), (4, .int (nI N9))]) hx hb dX12_word_82 hl (by decide) rfl (fun ls hl => ?_)
              have loop_1841 : ∀ (fu j1841 : Nat)   (ls : Array Slot) (H : Heap) (locs : List Loc), 0 ≤ j1841 → j1841 ≤ N9 → N9 < j1841 + fu →  (∀ x, x < j1841 → ∃ v, v < 6 ∧ f_1829 (((40 * K9) + I9) + x) = nI v) → lv_has ls 7 [(6, .int (nI j1841)), (5, .int 0), (0, .ref (ad 0)), (1, .int (nI K9)), (2, .int la9), (3, .int (nI I9)), (4, .int (nI N9))] → Hp D (Af cs ad sz) (Af cs ad sz) s.heap H locs cs ad en_1831 → W p l e (headSpec (Cond.code yX12_word cX12_word 7 (some .int) :: TB) (rmN 2)).room s m ([.ref (ad 0), .int (nI K9), .int la9, .int (nI I9), .int (nI N9)] : List Value).toArray below meth c H locs 0 0 (MQ below (va_Qi (S := Nat → va_E) (fun r en1 => RX cy cs ad en1 ∧ (∀ c, (c ≠ 0 ∧ c ≠ 18 ∧ c ≠ 19) → en1 c = en c) ∧ RWX en1 ∧ KPw en en1) (PostM D cs ad) (Af cs ad sz)) ([.ref (ad 0), .int (nI K9), .int la9, .int (nI I9), .int (nI N9)] : List Value).toArray s 0 0 (Af cs ad sz)) (F0 m 84 ls []) := by
                intro fu
                induction fu with
                | zero => intro j1841  ls H locs h0 h1 h2; exact absurd h2 (by omega)
                | succ fu ih_1841 =>
                  intro j1841  ls H locs hj0_1841 hj_1841 hfu_1841 i0_1841 hl hh
                  refine lv_iload hx hb dX12_word_84 (lv_at hl 0 rfl) ?_
                  refine lv_iload hx hb dX12_word_86 (lv_at hl 6 rfl) ?_
                  refine lv_icmp_ge (tgt := 120) hx hb dX12_word_88 (by decide) (fun c_1842 => ?_) (fun c_1842 => ?_)
                  · have n_1842 : N9 ≤ j1841 := n_le (a := N9) (b := j1841) c_1842 (by omega) (by omega)
                    have hcl9 : ∀ x, x < N9 → ∃ v, v < 6 ∧ f_1829 (((40 * K9) + I9) + x) = nI v := fun x hx => i0_1841 x (by omega)
                    refine lv_aload_n hx hb dX12_word_120 rfl (lv_at hl 2 rfl) ?_
                    refine hp_get hx hb hts ix12 hown hK hh (q := 0) rfl (hI.1 _ (by decide)) es1827_1831 rfl 30 (by decide) (hts _ tw_909) (fun _ h9 => h9) rfl dX12_word_121 ?_
                    refine lv_bipush (v := 10) hx hb dX12_word_124 (by decide) ?_
                    refine lv_icmp_ne (tgt := 132) hx hb dX12_word_126 (by decide) (fun c_1843 => ?_) (fun c_1843 => ?_)
                    · have n_1843 : wo ≠ 10 := n_neq (a := wo) (b := 10) c_1843 (by omega) (by decide)
                      have hwo9 : wo < 10 := by omega
                      refine lv_iconst (v := 0) hx hb dX12_word_132 (by decide) ?_
                      refine lv_istore (lv' := [(6, .int 0), (5, .int 0), (0, .ref (ad 0)), (1, .int (nI K9)), (2, .int la9), (3, .int (nI I9)), (4, .int (nI N9))]) hx hb dX12_word_133 hl (by decide) rfl (fun ls hl => ?_)
                      have loop_1844 : ∀ (fu j1844 : Nat)  (en_1844 : Nat → va_E) (ls : Array Slot) (H : Heap) (locs : List Loc), 0 ≤ j1844 → j1844 ≤ N9 → N9 < j1844 + fu → RX cy cs ad en_1844 → (∀ c, (c ≠ 0 ∧ c ≠ 18 ∧ c ≠ 19) → en_1844 c = en c) → (KP en en_1844) → (en_1844 19 = en 19) → lv_has ls 7 [(6, .int (nI j1844)), (5, .int 0), (0, .ref (ad 0)), (1, .int (nI K9)), (2, .int la9), (3, .int (nI I9)), (4, .int (nI N9))] → Hp D (Af cs ad sz) (Af cs ad sz) s.heap H locs cs ad en_1844 → W p l e (headSpec (Cond.code yX12_word cX12_word 7 (some .int) :: TB) (rmN 2)).room s m ([.ref (ad 0), .int (nI K9), .int la9, .int (nI I9), .int (nI N9)] : List Value).toArray below meth c H locs 0 0 (MQ below (va_Qi (S := Nat → va_E) (fun r en1 => RX cy cs ad en1 ∧ (∀ c, (c ≠ 0 ∧ c ≠ 18 ∧ c ≠ 19) → en1 c = en c) ∧ RWX en1 ∧ KPw en en1) (PostM D cs ad) (Af cs ad sz)) ([.ref (ad 0), .int (nI K9), .int la9, .int (nI I9), .int (nI N9)] : List Value).toArray s 0 0 (Af cs ad sz)) (F0 m 135 ls []) := by
                        intro fu
                        induction fu with
                        | zero => intro j1844  en_1844 ls H locs h0 h1 h2; exact absurd h2 (by omega)
                        | succ fu ih_1844 =>
                          intro j1844  en_1844 ls H locs hj0_1844 hj_1844 hfu_1844 hI_1844 hf_1844 i0_1844 i1_1844 hl hh
                          refine lv_iload hx hb dX12_word_135 (lv_at hl 0 rfl) ?_
                          refine lv_iload hx hb dX12_word_137 (lv_at hl 6 rfl) ?_
                          refine lv_icmp_ge (tgt := 177) hx hb dX12_word_139 (by decide) (fun c_1845 => ?_) (fun c_1845 => ?_)
                          · have n_1845 : N9 ≤ j1844 := n_le (a := N9) (b := j1844) c_1845 (by omega) (by omega)
                            refine lv_aload_n hx hb dX12_word_177 rfl (lv_at hl 2 rfl) ?_
                            obtain ⟨fa_1846, hi_1846, wd_1846, mo_1846, tb_1846, dp_1846, many_1846, grt_1846, lst_1846, nou_1846, rm_1846, rb_1846, pr_1846, wo_1846, es1846, p0_1846, p1_1846, p2_1846, p3_1846, p4_1846⟩ := getr_M hI_1844
                            have hq2_1847 : wd_1846 = wd := n_eq ((show nI wd_1846 = rdI (en_1844 0) 2 from by rw [es1846]; rfl).trans (i0_1844.2.1.trans (show rdI (en 0) 2 = nI wd from by rw [es1827]; rfl))) (by omega) (by omega)
                            have hq3_1847 : mo_1846 = mo := n_eq ((show nI mo_1846 = rdI (en_1844 0) 3 from by rw [es1846]; rfl).trans (i0_1844.2.2.1.trans (show rdI (en 0) 3 = nI mo from by rw [es1827]; rfl))) (by omega) (by omega)
                            have hq4_1847 : tb_1846 = tb := n_eq ((show nI tb_1846 = rdI (en_1844 0) 4 from by rw [es1846]; rfl).trans (i0_1844.2.2.2.1.trans (show rdI (en 0) 4 = nI tb from by rw [es1827]; rfl))) (by omega) (by omega)
                            have hq30_1847 : wo_1846 = wo := n_eq ((show nI wo_1846 = rdI (en_1844 0) 30 from by rw [es1846]; rfl).trans (i0_1844.2.2.2.2.2.trans (show rdI (en 0) 30 = nI wo from by rw [es1827]; rfl))) (by omega) (by omega)
                            rw [hq2_1847, hq3_1847, hq4_1847, hq30_1847] at es1846
                            refine hp_get hx hb hts ix12 hown hK hh (q := 0) rfl (hI.1 _ (by decide)) es1846 rfl 32 (by decide) (hts _ tw_911) (fun _ h9 => h9) rfl dX12_word_178 ?_
                            refine lv_aload_n hx hb dX12_word_181 rfl (lv_at hl 2 rfl) ?_
                            refine hp_get hx hb hts ix12 hown hK hh (q := 0) rfl (hI.1 _ (by decide)) es1846 rfl 30 (by decide) (hts _ tw_909) (fun _ h9 => h9) rfl dX12_word_182 ?_
                            refine lv_iload hx hb dX12_word_185 (lv_at hl 6 rfl) ?_
                            have es1830_1848 : en_1844 19 = .inl (cy 0, 10, .inl f_1830) := i1_1844.trans es1830
                            refine hp_iast hx hb hK hh (q := 19) rfl (hI.1 _ (by decide)) es1830_1848 (vp_in_nI (n := wo) (by omega) (by decide)) dX12_word_187 (fun H locs en_1849 hen_1849 hh => ?_)
                            rw [nI_clamp (n := wo) (by omega)] at hen_1849
                            have es1846_1849 : en_1849 0 = .inr (11, [.int fa_1846, .int hi_1846, .int (nI wd), .int (nI mo), .int (nI tb), .ref (ad 1), .ref (ad 2), .ref (ad 3), .ref (ad 4), .ref (ad 5), .ref (ad 6), .ref (ad 7), .ref (ad 8), .ref (ad 9), .int dp_1846, .long many_1846, .long grt_1846, .long lst_1846, .long nou_1846, .ref (ad 10), .ref (ad 11), .ref (ad 12), .int rm_1846, .long rb_1846, .ref (ad 13), .int pr_1846, .ref (ad 14), .ref (ad 15), .ref (ad 16), .ref (ad 17), .int (nI wo), .ref (ad 18), .ref (ad 19)]) := by rw [hen_1849, va_up_ne _ _ (by decide)]; exact es1846
                            have es1830_1849 : en_1849 19 = .inl (cy 0, 10, .inl (upd f_1830 wo (nI N9))) := by rw [hen_1849]; exact va_up_self _ _ _
                            have hI_1849 : RX cy cs ad en_1849 := by rw [hen_1849]; exact upr_wl hI_1844 ⟨(upd f_1830 wo (nI N9)), rfl, (vals_updB p0_1830 (by omega))⟩
                            have hf_1849 : ∀ c, (c ≠ 0 ∧ c ≠ 18 ∧ c ≠ 19) → en_1849 c = en c := fun c hc => Eq.trans (show en_1849 c = en_1844 c from by rw [hen_1849, va_up_ne _ _ (by omega)]) (hf_1844 c hc)
                            have hkp_1849 : KP en en_1849 := KP_same i0_1844 (show en_1849 0 = en_1844 0 from by rw [hen_1849, va_up_ne _ _ (by decide)])
                            refine lv_aload_n hx hb dX12_word_188 rfl (lv_at hl 2 rfl) ?_
                            refine lv_dup hx hb dX12_word_189 rfl ?_
                            refine hp_get hx hb hts ix12 hown hK hh (q := 0) rfl (hI.1 _ (by decide)) es1846_1849 rfl 30 (by decide) (hts _ tw_909) (fun _ h9 => h9) rfl dX12_word_190 ?_
                            refine lv_iconst (v := 1) hx hb dX12_word_193 (by decide) ?_
                            refine lv_iadd hx hb dX12_word_194 ?_
                            rw [show (1 : Int32) = nI 1 from rfl, nI_add wo 1]
                            refine hp_put hx hb hts ix12 tyX12 tyX12_ok nmX12 hown hK hh (q := 0) rfl (hI.1 _ (by decide)) es1846_1849 rfl 30 (by decide) (hts _ tw_909) (fun _ h9 => h9) rfl (ty := .int) (by decide +kernel) rfl rfl (Nat.le_of_ble_eq_true rfl) dX12_word_195 (fun H locs en_1850 hen_1850 hh => ?_)
                            have es1830_1850 : en_1850 19 = .inl (cy 0, 10, .inl (upd f_1830 wo (nI N9))) := by rw [hen_1850, va_up_ne _ _ (by decide)]; exact es1830_1849
                            have es1846_1850 : en_1850 0 = .inr (11, [.int fa_1846, .int hi_1846, .int (nI wd), .int (nI mo), .int (nI tb), .ref (ad 1), .ref (ad 2), .ref (ad 3), .ref (ad 4), .ref (ad 5), .ref (ad 6), .ref (ad 7), .ref (ad 8), .ref (ad 9), .int dp_1846, .long many_1846, .long grt_1846, .long lst_1846, .long nou_1846, .ref (ad 10), .ref (ad 11), .ref (ad 12), .int rm_1846, .long rb_1846, .ref (ad 13), .int pr_1846, .ref (ad 14), .ref (ad 15), .ref (ad 16), .ref (ad 17), .int (nI (wo + 1)), .ref (ad 18), .ref (ad 19)]) := by rw [hen_1850]; exact va_up_self _ _ _
                            have hI_1850 : RX cy cs ad en_1850 := by rw [hen_1850]; exact upr_M hI_1849 ⟨fa_1846, hi_1846, wd, mo, tb, dp_1846, many_1846, grt_1846, lst_1846, nou_1846, rm_1846, rb_1846, pr_1846, (wo + 1), rfl, hwd2, hwd3, hmo, htb, (by omega)⟩
                            have hf_1850 : ∀ c, (c ≠ 0 ∧ c ≠ 18 ∧ c ≠ 19) → en_1850 c = en c := fun c hc => Eq.trans (show en_1850 c = en_1849 c from by rw [hen_1850, va_up_ne _ _ (by omega)]) (hf_1849 c hc)
                            refine lv_aload_n hx hb dX12_word_198 rfl (lv_at hl 2 rfl) ?_
                            refine hp_get hx hb hts ix12 hown hK hh (q := 0) rfl (hI.1 _ (by decide)) es1846_1850 rfl 30 (by decide) (hts _ tw_909) (fun _ h9 => h9) rfl dX12_word_199 ?_
                            refine lv_iconst (v := 1) hx hb dX12_word_202 (by decide) ?_
                            refine lv_isub hx hb dX12_word_203 ?_
                            rw [show (1 : Int32) = nI 1 from rfl, pk_sub (a := (wo + 1)) (b := 1) (by omega)]
                            exact hp_iretM hx hb hr rfl hlocks hh (⟨hI_1850, hf_1850, RWX_add hRW (wo := wo) hwo9 (show rdI (en 0) 30 = nI wo from by rw [es1827]; rfl) (show rdI (en_1850 0) 30 = nI (wo + 1) from by rw [es1846_1850]; rfl) (N := N9) (by omega) (by omega) (show rdF (en_1850 19) = upd (rdF (en 19)) wo (nI N9) from by rw [es1830_1850, es1830]; rfl), KPw_fv (KPw_of hkp_1849) es1846_1849 es1846_1850 hi_1846 (nI wd) (nI mo) (nI tb) pr_1846 rfl rfl rfl rfl rfl rfl rfl rfl rfl rfl⟩) dX12_word_204
                          · have n_1845 : j1844 < N9 := n_nle (a := N9) (b := j1844) c_1845 (by omega) (by omega)
                            refine lv_aload_n hx hb dX12_word_142 rfl (lv_at hl 2 rfl) ?_
                            obtain ⟨fa_1851, hi_1851, wd_1851, mo_1851, tb_1851, dp_1851, many_1851, grt_1851, lst_1851, nou_1851, rm_1851, rb_1851, pr_1851, wo_1851, es1851, p0_1851, p1_1851, p2_1851, p3_1851, p4_1851⟩ := getr_M hI_1844
                            have hq2_1852 : wd_1851 = wd := n_eq ((show nI wd_1851 = rdI (en_1844 0) 2 from by rw [es1851]; rfl).trans (i0_1844.2.1.trans (show rdI (en 0) 2 = nI wd from by rw [es1827]; rfl))) (by omega) (by omega)
                            have hq3_1852 : mo_1851 = mo := n_eq ((show nI mo_1851 = rdI (en_1844 0) 3 from by rw [es1851]; rfl).trans (i0_1844.2.2.1.trans (show rdI (en 0) 3 = nI mo from by rw [es1827]; rfl))) (by omega) (by omega)
                            have hq4_1852 : tb_1851 = tb := n_eq ((show nI tb_1851 = rdI (en_1844 0) 4 from by rw [es1851]; rfl).trans (i0_1844.2.2.2.1.trans (show rdI (en 0) 4 = nI tb from by rw [es1827]; rfl))) (by omega) (by omega)
                            have hq30_1852 : wo_1851 = wo := n_eq ((show nI wo_1851 = rdI (en_1844 0) 30 from by rw [es1851]; rfl).trans (i0_1844.2.2.2.2.2.trans (show rdI (en 0) 30 = nI wo from by rw [es1827]; rfl))) (by omega) (by omega)
                            rw [hq2_1852, hq3_1852, hq4_1852, hq30_1852] at es1851
                            refine hp_get hx hb hts ix12 hown hK hh (q := 0) rfl (hI.1 _ (by decide)) es1851 rfl 31 (by decide) (hts _ tw_910) (fun _ h9 => h9) rfl dX12_word_143 ?_
                            refine lv_bipush (v := 12) hx hb dX12_word_146 (by decide) ?_
                            refine lv_aload_n hx hb dX12_word_148 rfl (lv_at hl 2 rfl) ?_
                            refine hp_get hx hb hts ix12 hown hK hh (q := 0) rfl (hI.1 _ (by decide)) es1851 rfl 30 (by decide) (hts _ tw_909) (fun _ h9 => h9) rfl dX12_word_149 ?_
                            refine lv_imul hx hb dX12_word_152 ?_
                            rw [show (12 : Int32) = nI 12 from rfl, pk_mul 12 wo]
                            refine lv_iload hx hb dX12_word_153 (lv_at hl 0 rfl) ?_
                            refine lv_iadd hx hb dX12_word_155 ?_
                            rw [nI_add (12 * wo) j1844]
                            refine lv_aload_n hx hb dX12_word_156 rfl (lv_at hl 2 rfl) ?_
                            refine hp_get hx hb hts ix12 hown hK hh (q := 0) rfl (hI.1 _ (by decide)) es1851 rfl 9 (by decide) (hts _ tw_888) (fun _ h9 => h9) rfl dX12_word_157 ?_
                            refine lv_bipush (v := 40) hx hb dX12_word_160 (by decide) ?_
                            refine lv_iload_n hx hb dX12_word_162 rfl (lv_at hl 3 rfl) ?_
                            refine lv_imul hx hb dX12_word_163 ?_
                            rw [show (40 : Int32) = nI 40 from rfl, pk_mul 40 K9]
                            refine lv_iload_n hx hb dX12_word_164 rfl (lv_at hl 5 rfl) ?_
                            refine lv_iadd hx hb dX12_word_165 ?_
                            rw [nI_add (40 * K9) I9]
                            refine lv_iload hx hb dX12_word_166 (lv_at hl 0 rfl) ?_
                            refine lv_iadd hx hb dX12_word_168 ?_
                            rw [nI_add ((40 * K9) + I9) j1844]
                            have es1829_1853 : en_1844 5 = .inl (cy 0, 160, .inl f_1829) := (hf_1844 5 (by omega)).trans es1829
                            refine hp_iald hx hb hK hh (q := 5) rfl (hI.1 _ (by decide)) es1829_1853 (vp_in_nI (n := (((40 * K9) + I9) + j1844)) (by omega) (by decide)) dX12_word_169 ?_
                            rw [nI_clamp (n := (((40 * K9) + I9) + j1844)) (by omega)]
                            obtain ⟨v_1854, hv_1854, hve_1854⟩ := hcl9 j1844 (by omega)
                            rw [show (f_1829 (((40 * K9) + I9) + j1844)) = nI v_1854 from hve_1854]
                            obtain ⟨f_1855, es1855, p0_1855⟩ := getr_lt hI_1844
                            refine hp_iast hx hb hK hh (q := 18) rfl (hI.1 _ (by decide)) es1855 (vp_in_nI (n := ((12 * wo) + j1844)) (by omega) (by decide)) dX12_word_170 (fun H locs en_1856 hen_1856 hh => ?_)
                            rw [nI_clamp (n := ((12 * wo) + j1844)) (by omega)] at hen_1856
                            have es1851_1856 : en_1856 0 = .inr (11, [.int fa_1851, .int hi_1851, .int (nI wd), .int (nI mo), .int (nI tb), .ref (ad 1), .ref (ad 2), .ref (ad 3), .ref (ad 4), .ref (ad 5), .ref (ad 6), .ref (ad 7), .ref (ad 8), .ref (ad 9), .int dp_1851, .long many_1851, .long grt_1851, .long lst_1851, .long nou_1851, .ref (ad 10), .ref (ad 11), .ref (ad 12), .int rm_1851, .long rb_1851, .ref (ad 13), .int pr_1851, .ref (ad 14), .ref (ad 15), .ref (ad 16), .ref (ad 17), .int (nI wo), .ref (ad 18), .ref (ad 19)]) := by rw [hen_1856, va_up_ne _ _ (by decide)]; exact es1851
                            have es1829_1856 : en_1856 5 = .inl (cy 0, 160, .inl f_1829) := by rw [hen_1856, va_up_ne _ _ (by decide)]; exact es1829_1853
                            have es1855_1856 : en_1856 18 = .inl (cy 0, 120, .inl (upd f_1855 ((12 * wo) + j1844) (nI v_1854))) := by rw [hen_1856]; exact va_up_self _ _ _
                            have hI_1856 : RX cy cs ad en_1856 := by rw [hen_1856]; exact upr_lt hI_1844 ⟨(upd f_1855 ((12 * wo) + j1844) (nI v_1854)), rfl, (vals_updB p0_1855 (by omega))⟩
                            have hf_1856 : ∀ c, (c ≠ 0 ∧ c ≠ 18 ∧ c ≠ 19) → en_1856 c = en c := fun c hc => Eq.trans (show en_1856 c = en_1844 c from by rw [hen_1856, va_up_ne _ _ (by omega)]) (hf_1844 c hc)
                            have hkc19_1856 : en_1856 19 = en 19 := (show en_1856 19 = en_1844 19 from by rw [hen_1856, va_up_ne _ _ (by decide)]).trans i1_1844
                            have hkp_1856 : KP en en_1856 := KP_same i0_1844 (show en_1856 0 = en_1844 0 from by rw [hen_1856, va_up_ne _ _ (by decide)])
                            refine lv_iinc (v := (nI (j1844 + 1))) (lv' := [(6, .int (nI (j1844 + 1))), (5, .int 0), (0, .ref (ad 0)), (1, .int (nI K9)), (2, .int la9), (3, .int (nI I9)), (4, .int (nI N9))]) hx hb dX12_word_171 hl (k := 0) rfl (nI_1 _) (by decide) rfl (fun ls hl => ?_)
                            refine lv_goto (tgt := 135) hx hb dX12_word_174 (by decide) ?_
                            exact ih_1844 ((j1844 + 1))  en_1856 ls H locs (by omega) (by omega) (by omega) hI_1856 hf_1856 (hkp_1856) (hkc19_1856) (lv_sub hl [0, 1, 2, 3, 4, 5, 6] rfl) hh
                      exact loop_1844 (N9 + 1) 0  en_1831 ls _ _ (Nat.le_refl _) (by omega) (by omega) hI_1831 hf_1831 (hkp_1831) (hkc19_1831) (lv_sub hl [0, 1, 2, 3, 4, 5, 6] rfl) hh
                    · have n_1843 : wo = 10 := n_eq (a := wo) (b := 10) c_1843 (by omega) (by decide)
                      refine lv_bipush (v := (-4)) hx hb dX12_word_129 (by decide) ?_
                      exact hp_iretM hx hb hr rfl hlocks hh (⟨hI_1831, hf_1831, RWX_keep hRW hkp_1831.2.2.2.2.2 hkc19_1831, KPw_of hkp_1831⟩) dX12_word_131
                  · have n_1842 : j1841 < N9 := n_nle (a := N9) (b := j1841) c_1842 (by omega) (by omega)
                    refine lv_aload_n hx hb dX12_word_91 rfl (lv_at hl 2 rfl) ?_
                    refine lv_aload_n hx hb dX12_word_92 rfl (lv_at hl 2 rfl) ?_
                    refine hp_get hx hb hts ix12 hown hK hh (q := 0) rfl (hI.1 _ (by decide)) es1827_1831 rfl 9 (by decide) (hts _ tw_888) (fun _ h9 => h9) rfl dX12_word_93 ?_
                    refine lv_bipush (v := 40) hx hb dX12_word_96 (by decide) ?_
                    refine lv_iload_n hx hb dX12_word_98 rfl (lv_at hl 3 rfl) ?_
                    refine lv_imul hx hb dX12_word_99 ?_
                    rw [show (40 : Int32) = nI 40 from rfl, pk_mul 40 K9]
                    refine lv_iload_n hx hb dX12_word_100 rfl (lv_at hl 5 rfl) ?_
                    refine lv_iadd hx hb dX12_word_101 ?_
                    rw [nI_add (40 * K9) I9]
                    refine lv_iload hx hb dX12_word_102 (lv_at hl 0 rfl) ?_
                    refine lv_iadd hx hb dX12_word_104 ?_
                    rw [nI_add ((40 * K9) + I9) j1841]
                    refine hp_iald hx hb hK hh (q := 5) rfl (hI.1 _ (by decide)) es1829_1831 (vp_in_nI (n := (((40 * K9) + I9) + j1841)) (by omega) (by decide)) dX12_word_105 ?_
                    rw [nI_clamp (n := (((40 * K9) + I9) + j1841)) (by omega)]
                    refine hp_callRi (va_runV (As := [.int (f_1829 (((40 * K9) + I9) + j1841))]) (rest := []) ⟨hx, hb, hml, hown, hts⟩ (c_X12_isTable l D cy _ cs ad en_1831 hI_1831 (f_1829 (((40 * K9) + I9) + j1841)) ) (kw_X12_isTable hts tw_1007 ⟨by decide, by decide⟩) (preV_of hh hK (hI.1 _ (by decide)) es1827_1831 rfl) rfl rfl hl.1 rfl (lv_room (Nat.le_of_ble_eq_true rfl)) dX12_word_106 ⟨Nat.le_of_ble_eq_true rfl, Nat.le_of_ble_eq_true rfl⟩) hh hA (fun r_1857 H locs hw_1857 hh => ?_)
                    rw [show rdI (en_1831 0) 4 = (nI tb) from by rw [es1827_1831]; rfl, nI_toInt (n := tb) (by omega)] at hw_1857
                    rcases Decidable.em (0 ≤ (f_1829 (((40 * K9) + I9) + j1841)).toInt ∧ (f_1829 (((40 * K9) + I9) + j1841)).toInt < (tb : Int)) with hp_1857 | hp_1857
                    · obtain rfl : r_1857 = 1 := Eq.trans hw_1857 (if_pos hp_1857)
                      refine lv_if_ne (tgt := 114) hx hb dX12_word_109 (by decide) (fun _ => ?_) (fun c_0 => absurd c_0 (by decide))
                      refine lv_iinc (v := (nI (j1841 + 1))) (lv' := [(6, .int (nI (j1841 + 1))), (5, .int 0), (0, .ref (ad 0)), (1, .int (nI K9)), (2, .int la9), (3, .int (nI I9)), (4, .int (nI N9))]) hx hb dX12_word_114 hl (k := 0) rfl (nI_1 _) (by decide) rfl (fun ls hl => ?_)
                      refine lv_goto (tgt := 84) hx hb dX12_word_117 (by decide) ?_
                      exact ih_1841 ((j1841 + 1))  ls H locs (by omega) (by omega) (by omega) (fun x hx => by rcases Nat.lt_or_ge x j1841 with h9 | h9; exact i0_1841 x h9; obtain rfl : x = j1841 := (by omega); obtain ⟨v, e9, h8⟩ := has_nat hp_1857; exact ⟨v, by omega, e9⟩) (lv_sub hl [0, 1, 2, 3, 4, 5, 6] rfl) hh
                    · obtain rfl : r_1857 = 0 := Eq.trans hw_1857 (if_neg hp_1857)
                      refine lv_if_ne (tgt := 114) hx hb dX12_word_109 (by decide) (fun c_0 => absurd c_0 (by decide)) (fun _ => ?_)
                      refine lv_iconst (v := (-1)) hx hb dX12_word_112 (by decide) ?_
                      exact hp_iretM hx hb hr rfl hlocks hh (⟨hI_1831, hf_1831, RWX_keep hRW hkp_1831.2.2.2.2.2 hkc19_1831, KPw_of hkp_1831⟩) dX12_word_113
              exact loop_1841 (N9 + 1) 0  ls _ _ (Nat.le_refl _) (by omega) (by omega) (fun x h => absurd h (Nat.not_lt_zero x)) (lv_sub hl [0, 1, 2, 3, 4, 5, 6] rfl) hh
            · obtain rfl : r_1840 = 0 := Eq.trans hw_1840 (if_neg (fun q => hp_1840 ((wj_32 (by decide) (by decide)).mp q)))
              refine lv_if_ne (tgt := 81) hx hb dX12_word_75 (by decide) (fun c_0 => absurd c_0 (by decide)) (fun _ => ?_)
              refine lv_bipush (v := (-2)) hx hb dX12_word_78 (by decide) ?_
              exact hp_iretM hx hb hr rfl hlocks hh (⟨hI_1831, hf_1831, RWX_keep hRW hkp_1831.2.2.2.2.2 hkc19_1831, KPw_of hkp_1831⟩) dX12_word_80
          · have n_1839 : (v_1836 - I9) < N9 := n_nle (a := N9) (b := (v_1836 - I9)) c_1839 (by omega) (by omega)
            refine lv_aload_n hx hb dX12_word_59 rfl (lv_at hl 1 rfl) ?_
            refine lv_iconst (v := 3) hx hb dX12_word_60 (by decide) ?_
            refine hp_callMi (va_runV (As := [.int 3]) (rest := []) ⟨hx, hb, hml, hown, hts⟩ (c_X12_fails l D cy _ cs ad en_1831 (hI.1 _ (by decide)) 0 hi wd mo tb dp many grt lst nou rm rb pr wo 3 es1827_1831) (kw_X12_fails hts tw_997 ⟨by decide, by decide⟩) (preV_of hh hK (hI.1 _ (by decide)) es1827_1831 rfl) rfl rfl hl.1 rfl (lv_room (Nat.le_of_ble_eq_true rfl)) dX12_word_61 ⟨Nat.le_of_ble_eq_true rfl, Nat.le_of_ble_eq_true rfl⟩) hh hA (fun r_1858 H locs en_1858 hw_1858 hh => ?_)
            obtain ⟨hr_1858, hen_1858⟩ := hw_1858
            have es1828_1858 : en_1858 4 = .inl (cy 0, 4, .inl f_1828) := by rw [hen_1858, va_up_ne _ _ (by decide)]; exact es1828_1831
            have es1829_1858 : en_1858 5 = .inl (cy 0, 160, .inl f_1829) := by rw [hen_1858, va_up_ne _ _ (by decide)]; exact es1829_1831
            have es1830_1858 : en_1858 19 = .inl (cy 0, 10, .inl f_1830) := by rw [hen_1858, va_up_ne _ _ (by decide)]; exact es1830_1831
            have es1827_1858 : en_1858 0 = .inr (11, [.int 3, .int hi, .int (nI wd), .int (nI mo), .int (nI tb), .ref (ad 1), .ref (ad 2), .ref (ad 3), .ref (ad 4), .ref (ad 5), .ref (ad 6), .ref (ad 7), .ref (ad 8), .ref (ad 9), .int dp, .long many, .long grt, .long lst, .long nou, .ref (ad 10), .ref (ad 11), .ref (ad 12), .int rm, .long rb, .ref (ad 13), .int pr, .ref (ad 14), .ref (ad 15), .ref (ad 16), .ref (ad 17), .int (nI wo), .ref (ad 18), .ref (ad 19)]) := by rw [hen_1858]; exact va_up_self _ _ _
            have hI_1858 : RX cy cs ad en_1858 := by rw [hen_1858]; exact upr_M hI_1831 ⟨3, hi, wd, mo, tb, dp, many, grt, lst, nou, rm, rb, pr, wo, rfl, hwd2, hwd3, hmo, htb, hwo⟩
            have hf_1858 : ∀ c, (c ≠ 0 ∧ c ≠ 18 ∧ c ≠ 19) → en_1858 c = en c := fun c hc => Eq.trans (show en_1858 c = en_1831 c from by rw [hen_1858, va_up_ne _ _ (by omega)]) (hf_1831 c hc)
            have hkc19_1858 : en_1858 19 = en 19 := (show en_1858 19 = en_1831 19 from by rw [hen_1858, va_up_ne _ _ (by decide)]).trans hkc19_1831
            have hkp_1858 : KP en en_1858 := KP_fv hkp_1831 es1827_1831 es1827_1858 hi (nI wd) (nI mo) (nI tb) pr (nI wo) rfl rfl rfl rfl rfl rfl rfl rfl rfl rfl rfl rfl
            obtain rfl : r_1858 = (-13) := hr_1858.trans (by decide)
            exact hp_iretM hx hb hr rfl hlocks hh (⟨hI_1858, hf_1858, RWX_keep hRW hkp_1858.2.2.2.2.2 hkc19_1858, KPw_of hkp_1858⟩) dX12_word_64
    · refine lv_aload_n hx hb dX12_word_26 rfl (lv_at hl 1 rfl) ?_
      refine lv_iconst (v := 4) hx hb dX12_word_27 (by decide) ?_
      refine hp_callMi (va_runV (As := [.int 4]) (rest := []) ⟨hx, hb, hml, hown, hts⟩ (c_X12_fails l D cy _ cs ad en_1831 (hI.1 _ (by decide)) 0 hi wd mo tb dp many grt lst nou rm rb pr wo 4 es1827_1831) (kw_X12_fails hts tw_997 ⟨by decide, by decide⟩) (preV_of hh hK (hI.1 _ (by decide)) es1827_1831 rfl) rfl rfl hl.1 rfl (lv_room (Nat.le_of_ble_eq_true rfl)) dX12_word_28 ⟨Nat.le_of_ble_eq_true rfl, Nat.le_of_ble_eq_true rfl⟩) hh hA (fun r_1859 H locs en_1859 hw_1859 hh => ?_)
      obtain ⟨hr_1859, hen_1859⟩ := hw_1859
      have es1828_1859 : en_1859 4 = .inl (cy 0, 4, .inl f_1828) := by rw [hen_1859, va_up_ne _ _ (by decide)]; exact es1828_1831
      have es1829_1859 : en_1859 5 = .inl (cy 0, 160, .inl f_1829) := by rw [hen_1859, va_up_ne _ _ (by decide)]; exact es1829_1831
      have es1830_1859 : en_1859 19 = .inl (cy 0, 10, .inl f_1830) := by rw [hen_1859, va_up_ne _ _ (by decide)]; exact es1830_1831
      have es1827_1859 : en_1859 0 = .inr (11, [.int 4, .int hi, .int (nI wd), .int (nI mo), .int (nI tb), .ref (ad 1), .ref (ad 2), .ref (ad 3), .ref (ad 4), .ref (ad 5), .ref (ad 6), .ref (ad 7), .ref (ad 8), .ref (ad 9), .int dp, .long many, .long grt, .long lst, .long nou, .ref (ad 10), .ref (ad 11), .ref (ad 12), .int rm, .long rb, .ref (ad 13), .int pr, .ref (ad 14), .ref (ad 15), .ref (ad 16), .ref (ad 17), .int (nI wo), .ref (ad 18), .ref (ad 19)]) := by rw [hen_1859]; exact va_up_self _ _ _
      have hI_1859 : RX cy cs ad en_1859 := by rw [hen_1859]; exact upr_M hI_1831 ⟨4, hi, wd, mo, tb, dp, many, grt, lst, nou, rm, rb, pr, wo, rfl, hwd2, hwd3, hmo, htb, hwo⟩
      have hf_1859 : ∀ c, (c ≠ 0 ∧ c ≠ 18 ∧ c ≠ 19) → en_1859 c = en c := fun c hc => Eq.trans (show en_1859 c = en_1831 c from by rw [hen_1859, va_up_ne _ _ (by omega)]) (hf_1831 c hc)
      have hkc19_1859 : en_1859 19 = en 19 := (show en_1859 19 = en_1831 19 from by rw [hen_1859, va_up_ne _ _ (by decide)]).trans hkc19_1831
      have hkp_1859 : KP en en_1859 := KP_fv hkp_1831 es1827_1831 es1827_1859 hi (nI wd) (nI mo) (nI tb) pr (nI wo) rfl rfl rfl rfl rfl rfl rfl rfl rfl rfl rfl rfl
      obtain rfl : r_1859 = (-14) := hr_1859.trans (by decide)
      exact hp_iretM hx hb hr rfl hlocks hh (⟨hI_1859, hf_1859, RWX_keep hRW hkp_1859.2.2.2.2.2 hkc19_1859, KPw_of hkp_1859⟩) dX12_word_31
  · have hI_1832a := hI_1832
    have hf_1832 : ∀ c, (c ≠ 0 ∧ c ≠ 18 ∧ c ≠ 19) → en_1832 c = en c := fun c hc => (hu_1832 c (by omega)).trans (hf_1831 c hc)
    have hkp_1832 : KP en en_1832 := KP_tr hkp_1831 hkq_1832
    have hkc19_1832 : en_1832 19 = en 19 := (hu_1832 19 (by omega)).trans hkc19_1831
    refine lv_istore (lv' := [(5, .int r_1832), (0, .ref (ad 0)), (1, .int k9), (2, .int la9), (3, .int i9), (4, .int n9)]) hx hb dX12_word_11 hl (by decide) rfl (fun ls hl => ?_)
    refine lv_iload hx hb dX12_word_13 (lv_at hl 0 rfl) ?_
    refine lv_if_eq (tgt := 21) hx hb dX12_word_15 (by decide) (fun c_0 => absurd c_0 (hz_1832)) (fun _ => ?_)
    refine lv_iload hx hb dX12_word_18 (lv_at hl 0 rfl) ?_
    exact hp_iretM hx hb hr rfl hlocks hh (⟨hI_1832, hf_1832, RWX_keep hRW hkp_1832.2.2.2.2.2 hkc19_1832, KPw_of hkp_1832⟩) dX12_word_20
theorem kw_X12_word {R : Room} {s : State} {args : Array Value} {own : String} {idx : Nat} (hts : ∀ w ∈ TB, w.before args s = true) (hl : Cond.methodLink own idx yX12_word ∈ TB) (hR : 2 + 1 ≤ R.frames ∧ 8 + (7 + 11) + 40 * 2 ≤ R.locals) : CallW R s args own RX12 idx yX12_word cX12_word 7 (some .int) (Cond.code yX12_word cX12_word 7 (some .int) :: TB) (rmN 2) 0 0 4 := cwV 4 hts (TB_V hl tw_1167 tw_1168 tw_9 tw_1169) rfl rfl rfl (by decide +kernel) hR
set_option maxHeartbeats 4000000 in
set_option maxRecDepth 100000 in
/-- X12_join -/
theorem c_X12_join (l : Launch) (D : va_G) (cy : Nat → ClassId) (sz : Nat) (cs : List Nat) (ad : Nat → Nat) (en : Nat → va_E) (hI : RX cy cs ad en) (a9 b9 : Int32) (hRW : RWX en)   : Met l yX12_join (Cond.code yX12_join cX12_join 4 (some .int) :: TB) (rmN 1) (va_Pc [.ref (ad 0), .int a9, .int b9] (Pre D cy cs ad en sz)) (va_Qi (S := Nat → va_E) (fun r en1 => RX cy cs ad en1 ∧ (∀ c, (c ≠ 0 ∧ c ≠ 18 ∧ c ≠ 19) → en1 c = en c) ∧ RWX en1 ∧ KPw en en1) (PostM D cs ad) (Af cs ad sz)) 0 0 (Af cs ad sz) := by
  refine Met.ofW (cc := cX12_join) (maxL := 4) (ret := (some .int)) (by decide) rfl ?_
  intro p e s m args below meth c s₁ B hml hv
  obtain ⟨rfl, hsz, hP, hK, hD0⟩ := hv
  have hx := B.exec
  have hb := B.bytes
  have hr := B.returns
  have hts : ∀ w ∈ TB, w.before _ s = true := fun w h => atoms_spec (ws := _ :: TB) B.pre w (List.mem_cons_of_mem _ h)
  have hown : s.vm.findClass RX12 = some m.cls := findClass_of_methodNamed B.named
  have hlocks := B.notSynchronized
  have hh : Hp D (Af cs ad sz) (Af cs ad sz) s.heap s.heap [] cs ad en := ⟨hP, Af_self hD0, va_S.rf⟩
  have hA : ∀ q : Nat, s.heap.size ≤ q → Af cs ad sz q := fun q h => Or.inr (by rw [hsz] at h; exact h)
  have hl := lv_entry ([.ref (ad 0), .int a9, .int b9]) (n := 4) (Nat.le_of_ble_eq_true rfl)
  rw [lg_entry_eq]
  generalize (lg_sl ([.ref (ad 0), .int a9, .int b9]) ++ List.replicate (4 - (lg_sl ([.ref (ad 0), .int a9, .int b9])).length) Slot.unset).toArray = ls at hl ⊢
  have hl : lv_has ls 4 [(0, .ref (ad 0)), (1, .int a9), (2, .int b9)] := hl
  have hf0 : ∀ c, (c ≠ 0 ∧ c ≠ 18 ∧ c ≠ 19) → en c = en c := fun _ _ => rfl
  obtain ⟨fa, hi, wd, mo, tb, dp, many, grt, lst, nou, rm, rb, pr, wo, es1860, hwd2, hwd3, hmo, htb, hwo⟩ := getr_M hI
  obtain ⟨f_1861, es1861, p0_1861⟩ := getr_wl hI
  refine lv_aload_n hx hb dX12_join_0 rfl (lv_at hl 0 rfl) ?_
  refine lv_iload_n hx hb dX12_join_1 rfl (lv_at hl 1 rfl) ?_
  refine hp_callRi (va_runV (As := [.int a9]) (rest := []) ⟨hx, hb, hml, hown, hts⟩ (c_X12_isWord l D cy _ cs ad en hI a9 ) (kw_X12_isWord hts tw_1175 ⟨by decide, by decide⟩) (preV_of hh hK (hI.1 _ (by decide)) es1860 rfl) rfl rfl hl.1 rfl (lv_room (Nat.le_of_ble_eq_true rfl)) dX12_join_2 ⟨Nat.le_of_ble_eq_true rfl, Nat.le_of_ble_eq_true rfl⟩) hh hA (fun r_1862 H locs hw_1862 hh => ?_)
  rw [show rdI (en 0) 30 = (nI wo) from by rw [es1860]; rfl, nI_toInt (n := wo) (by omega)] at hw_1862
  rcases Decidable.em (0 ≤ a9.toInt ∧ a9.toInt < (wo : Int)) with hp_1862 | hp_1862
  · obtain rfl : r_1862 = 1 := Eq.trans hw_1862 (if_pos hp_1862)
    obtain ⟨T_1862, rfl, hT_1862⟩ := has_nat hp_1862
    refine lv_if_eq (tgt := 16) hx hb dX12_join_5 (by decide) (fun c_0 => absurd c_0 (by decide)) (fun _ => ?_)
    refine lv_aload_n hx hb dX12_join_8 rfl (lv_at hl 0 rfl) ?_
    refine lv_iload_n hx hb dX12_join_9 rfl (lv_at hl 2 rfl) ?_
    refine hp_callRi (va_runV (As := [.int b9]) (rest := []) ⟨hx, hb, hml, hown, hts⟩ (c_X12_isWord l D cy _ cs ad en hI b9 ) (kw_X12_isWord hts tw_1175 ⟨by decide, by decide⟩) (preV_of hh hK (hI.1 _ (by decide)) es1860 rfl) rfl rfl hl.1 rfl (lv_room (Nat.le_of_ble_eq_true rfl)) dX12_join_10 ⟨Nat.le_of_ble_eq_true rfl, Nat.le_of_ble_eq_true rfl⟩) hh hA (fun r_1863 H locs hw_1863 hh => ?_)
    rw [show rdI (en 0) 30 = (nI wo) from by rw [es1860]; rfl, nI_toInt (n := wo) (by omega)] at hw_1863
    rcases Decidable.em (0 ≤ b9.toInt ∧ b9.toInt < (wo : Int)) with hp_1863 | hp_1863
    · obtain rfl : r_1863 = 1 := Eq.trans hw_1863 (if_pos hp_1863)
      obtain ⟨T_1863, rfl, hT_1863⟩ := has_nat hp_1863
      refine lv_if_ne (tgt := 18) hx hb dX12_join_13 (by decide) (fun _ => ?_) (fun c_0 => absurd c_0 (by decide))
      refine lv_aload_n hx hb dX12_join_18 rfl (lv_at hl 0 rfl) ?_
      refine hp_get hx hb hts ix12 hown hK hh (q := 0) rfl (hI.1 _ (by decide)) es1860 rfl 32 (by decide) (hts _ tw_911) (fun _ h9 => h9) rfl dX12_join_19 ?_
      refine lv_iload_n hx hb dX12_join_22 rfl (lv_at hl 1 rfl) ?_
      refine hp_iald hx hb hK hh (q := 19) rfl (hI.1 _ (by decide)) es1861 (vp_in_nI (n := T_1862) (by omega) (by decide)) dX12_join_23 ?_
      rw [nI_clamp (n := T_1862) (by omega)]
      obtain ⟨v_1864, hv_1864, hfv_1864⟩ := p0_1861 T_1862 (by omega)
      rw [hfv_1864]
      refine lv_aload_n hx hb dX12_join_24 rfl (lv_at hl 0 rfl) ?_
      refine hp_get hx hb hts ix12 hown hK hh (q := 0) rfl (hI.1 _ (by decide)) es1860 rfl 32 (by decide) (hts _ tw_911) (fun _ h9 => h9) rfl dX12_join_25 ?_
      refine lv_iload_n hx hb dX12_join_28 rfl (lv_at hl 2 rfl) ?_
      refine hp_iald hx hb hK hh (q := 19) rfl (hI.1 _ (by decide)) es1861 (vp_in_nI (n := T_1863) (by omega) (by decide)) dX12_join_29 ?_
      rw [nI_clamp (n := T_1863) (by omega)]
      obtain ⟨v_1865, hv_1865, hfv_1865⟩ := p0_1861 T_1863 (by omega)
      rw [hfv_1865]
      refine lv_iadd hx hb dX12_join_30 ?_
      rw [nI_add v_1864 v_1865]
      refine lv_bipush (v := 12) hx hb dX12_join_31 (by decide) ?_
      refine lv_icmp_le (tgt := 39) hx hb dX12_join_33 (by decide) (fun c_1866 => ?_) (fun c_1866 => ?_)
      · have n_1866 : (v_1864 + v_1865) ≤ 12 := n_le (a := (v_1864 + v_1865)) (b := 12) c_1866 (by omega) (by decide)
        refine lv_aload_n hx hb dX12_join_39 rfl (lv_at hl 0 rfl) ?_
        refine hp_get hx hb hts ix12 hown hK hh (q := 0) rfl (hI.1 _ (by decide)) es1860 rfl 30 (by decide) (hts _ tw_909) (fun _ h9 => h9) rfl dX12_join_40 ?_
        refine lv_bipush (v := 10) hx hb dX12_join_43 (by decide) ?_
        refine lv_icmp_ne (tgt := 51) hx hb dX12_join_45 (by decide) (fun c_1867 => ?_) (fun c_1867 => ?_)
        · have n_1867 : wo ≠ 10 := n_neq (a := wo) (b := 10) c_1867 (by omega) (by decide)
          have hwo9 : wo < 10 := by omega
          have hln_1864 : 1 ≤ v_1864 := RWX_1 hRW (show rdI (en 0) 30 = nI wo from by rw [es1860]; rfl) hwo (w := T_1862) (by omega) (show rdF (en 19) = f_1861 from by rw [es1861]; rfl) hfv_1864 (by omega)
          have hln_1865 : 1 ≤ v_1865 := RWX_1 hRW (show rdI (en 0) 30 = nI wo from by rw [es1860]; rfl) hwo (w := T_1863) (by omega) (show rdF (en 19) = f_1861 from by rw [es1861]; rfl) hfv_1865 (by omega)
          refine lv_iconst (v := 0) hx hb dX12_join_51 (by decide) ?_
          refine lv_istore_n (lv' := [(3, .int 0), (0, .ref (ad 0)), (1, .int (nI T_1862)), (2, .int (nI T_1863))]) hx hb dX12_join_52 rfl hl (by decide) rfl (fun ls hl => ?_)
          have loop_1868 : ∀ (fu j1868 : Nat)  (en_1868 : Nat → va_E) (ls : Array Slot) (H : Heap) (locs : List Loc), 0 ≤ j1868 → j1868 ≤ 12 → 12 < j1868 + fu → RX cy cs ad en_1868 → (∀ c, (c ≠ 0 ∧ c ≠ 18 ∧ c ≠ 19) → en_1868 c = en c) → (KP en en_1868) → (en_1868 19 = en 19) → lv_has ls 4 [(3, .int (nI j1868)), (0, .ref (ad 0)), (1, .int (nI T_1862)), (2, .int (nI T_1863))] → Hp D (Af cs ad sz) (Af cs ad sz) s.heap H locs cs ad en_1868 → W p l e (headSpec (Cond.code yX12_join cX12_join 4 (some .int) :: TB) (rmN 1)).room s m ([.ref (ad 0), .int (nI T_1862), .int (nI T_1863)] : List Value).toArray below meth c H locs 0 0 (MQ below (va_Qi (S := Nat → va_E) (fun r en1 => RX cy cs ad en1 ∧ (∀ c, (c ≠ 0 ∧ c ≠ 18 ∧ c ≠ 19) → en1 c = en c) ∧ RWX en1 ∧ KPw en en1) (PostM D cs ad) (Af cs ad sz)) ([.ref (ad 0), .int (nI T_1862), .int (nI T_1863)] : List Value).toArray s 0 0 (Af cs ad sz)) (F0 m 53 ls []) := by
            intro fu
            induction fu with
            | zero => intro j1868  en_1868 ls H locs h0 h1 h2; exact absurd h2 (by omega)
            | succ fu ih_1868 =>
              intro j1868  en_1868 ls H locs hj0_1868 hj_1868 hfu_1868 hI_1868 hf_1868 i0_1868 i1_1868 hl hh
              refine lv_iload_n hx hb dX12_join_53 rfl (lv_at hl 0 rfl) ?_
              refine lv_aload_n hx hb dX12_join_54 rfl (lv_at hl 1 rfl) ?_
              obtain ⟨fa_1869, hi_1869, wd_1869, mo_1869, tb_1869, dp_1869, many_1869, grt_1869, lst_1869, nou_1869, rm_1869, rb_1869, pr_1869, wo_1869, es1869, p0_1869, p1_1869, p2_1869, p3_1869, p4_1869⟩ := getr_M hI_1868
              have hq2_1870 : wd_1869 = wd := n_eq ((show nI wd_1869 = rdI (en_1868 0) 2 from by rw [es1869]; rfl).trans (i0_1868.2.1.trans (show rdI (en 0) 2 = nI wd from by rw [es1860]; rfl))) (by omega) (by omega)
              have hq3_1870 : mo_1869 = mo := n_eq ((show nI mo_1869 = rdI (en_1868 0) 3 from by rw [es1869]; rfl).trans (i0_1868.2.2.1.trans (show rdI (en 0) 3 = nI mo from by rw [es1860]; rfl))) (by omega) (by omega)
              have hq4_1870 : tb_1869 = tb := n_eq ((show nI tb_1869 = rdI (en_1868 0) 4 from by rw [es1869]; rfl).trans (i0_1868.2.2.2.1.trans (show rdI (en 0) 4 = nI tb from by rw [es1860]; rfl))) (by omega) (by omega)
              have hq30_1870 : wo_1869 = wo := n_eq ((show nI wo_1869 = rdI (en_1868 0) 30 from by rw [es1869]; rfl).trans (i0_1868.2.2.2.2.2.trans (show rdI (en 0) 30 = nI wo from by rw [es1860]; rfl))) (by omega) (by omega)
              rw [hq2_1870, hq3_1870, hq4_1870, hq30_1870] at es1869
              refine hp_get hx hb hts ix12 hown hK hh (q := 0) rfl (hI.1 _ (by decide)) es1869 rfl 32 (by decide) (hts _ tw_911) (fun _ h9 => h9) rfl dX12_join_55 ?_
              refine lv_iload_n hx hb dX12_join_58 rfl (lv_at hl 2 rfl) ?_
              have es1861_1871 : en_1868 19 = .inl (cy 0, 10, .inl f_1861) := i1_1868.trans es1861
              refine hp_iald hx hb hK hh (q := 19) rfl (hI.1 _ (by decide)) es1861_1871 (vp_in_nI (n := T_1862) (by omega) (by decide)) dX12_join_59 ?_
              rw [nI_clamp (n := T_1862) (by omega)]
              rw [hfv_1864]
              refine lv_icmp_ge (tgt := 94) hx hb dX12_join_60 (by decide) (fun c_1872 => ?_) (fun c_1872 => ?_)
              · have n_1872 : v_1864 ≤ j1868 := n_le (a := v_1864) (b := j1868) c_1872 (by omega) (by omega)
                refine lv_iconst (v := 0) hx hb dX12_join_94 (by decide) ?_
                refine lv_istore_n (lv' := [(3, .int 0), (0, .ref (ad 0)), (1, .int (nI T_1862)), (2, .int (nI T_1863))]) hx hb dX12_join_95 rfl hl (by decide) rfl (fun ls hl => ?_)
                have loop_1873 : ∀ (fu j1873 : Nat)  (en_1873 : Nat → va_E) (ls : Array Slot) (H : Heap) (locs : List Loc), 0 ≤ j1873 → j1873 ≤ 12 → 12 < j1873 + fu → RX cy cs ad en_1873 → (∀ c, (c ≠ 0 ∧ c ≠ 18 ∧ c ≠ 19) → en_1873 c = en c) → (KP en en_1873) → (en_1873 19 = en 19) → lv_has ls 4 [(3, .int (nI j1873)), (0, .ref (ad 0)), (1, .int (nI T_1862)), (2, .int (nI T_1863))] → Hp D (Af cs ad sz) (Af cs ad sz) s.heap H locs cs ad en_1873 → W p l e (headSpec (Cond.code yX12_join cX12_join 4 (some .int) :: TB) (rmN 1)).room s m ([.ref (ad 0), .int (nI T_1862), .int (nI T_1863)] : List Value).toArray below meth c H locs 0 0 (MQ below (va_Qi (S := Nat → va_E) (fun r en1 => RX cy cs ad en1 ∧ (∀ c, (c ≠ 0 ∧ c ≠ 18 ∧ c ≠ 19) → en1 c = en c) ∧ RWX en1 ∧ KPw en en1) (PostM D cs ad) (Af cs ad sz)) ([.ref (ad 0), .int (nI T_1862), .int (nI T_1863)] : List Value).toArray s 0 0 (Af cs ad sz)) (F0 m 96 ls []) := by
                  intro fu
                  induction fu with
                  | zero => intro j1873  en_1873 ls H locs h0 h1 h2; exact absurd h2 (by omega)
                  | succ fu ih_1873 =>
                    intro j1873  en_1873 ls H locs hj0_1873 hj_1873 hfu_1873 hI_1873 hf_1873 i0_1873 i1_1873 hl hh
                    refine lv_iload_n hx hb dX12_join_96 rfl (lv_at hl 0 rfl) ?_
                    refine lv_aload_n hx hb dX12_join_97 rfl (lv_at hl 1 rfl) ?_
                    obtain ⟨fa_1874, hi_1874, wd_1874, mo_1874, tb_1874, dp_1874, many_1874, grt_1874, lst_1874, nou_1874, rm_1874, rb_1874, pr_1874, wo_1874, es1874, p0_1874, p1_1874, p2_1874, p3_1874, p4_1874⟩ := getr_M hI_1873
                    have hq2_1875 : wd_1874 = wd := n_eq ((show nI wd_1874 = rdI (en_1873 0) 2 from by rw [es1874]; rfl).trans (i0_1873.2.1.trans (show rdI (en 0) 2 = nI wd from by rw [es1860]; rfl))) (by omega) (by omega)
                    have hq3_1875 : mo_1874 = mo := n_eq ((show nI mo_1874 = rdI (en_1873 0) 3 from by rw [es1874]; rfl).trans (i0_1873.2.2.1.trans (show rdI (en 0) 3 = nI mo from by rw [es1860]; rfl))) (by omega) (by omega)
                    have hq4_1875 : tb_1874 = tb := n_eq ((show nI tb_1874 = rdI (en_1873 0) 4 from by rw [es1874]; rfl).trans (i0_1873.2.2.2.1.trans (show rdI (en 0) 4 = nI tb from by rw [es1860]; rfl))) (by omega) (by omega)
                    have hq30_1875 : wo_1874 = wo := n_eq ((show nI wo_1874 = rdI (en_1873 0) 30 from by rw [es1874]; rfl).trans (i0_1873.2.2.2.2.2.trans (show rdI (en 0) 30 = nI wo from by rw [es1860]; rfl))) (by omega) (by omega)
                    rw [hq2_1875, hq3_1875, hq4_1875, hq30_1875] at es1874
                    refine hp_get hx hb hts ix12 hown hK hh (q := 0) rfl (hI.1 _ (by decide)) es1874 rfl 32 (by decide) (hts _ tw_911) (fun _ h9 => h9) rfl dX12_join_98 ?_
                    refine lv_iload_n hx hb dX12_join_101 rfl (lv_at hl 3 rfl) ?_
                    have es1861_1876 : en_1873 19 = .inl (cy 0, 10, .inl f_1861) := i1_1873.trans es1861
                    refine hp_iald hx hb hK hh (q := 19) rfl (hI.1 _ (by decide)) es1861_1876 (vp_in_nI (n := T_1863) (by omega) (by decide)) dX12_join_102 ?_
                    rw [nI_clamp (n := T_1863) (by omega)]
                    rw [hfv_1865]
                    refine lv_icmp_ge (tgt := 144) hx hb dX12_join_103 (by decide) (fun c_1877 => ?_) (fun c_1877 => ?_)
                    · have n_1877 : v_1865 ≤ j1873 := n_le (a := v_1865) (b := j1873) c_1877 (by omega) (by omega)
                      refine lv_aload_n hx hb dX12_join_144 rfl (lv_at hl 1 rfl) ?_
                      refine hp_get hx hb hts ix12 hown hK hh (q := 0) rfl (hI.1 _ (by decide)) es1874 rfl 32 (by decide) (hts _ tw_911) (fun _ h9 => h9) rfl dX12_join_145 ?_
                      refine lv_aload_n hx hb dX12_join_148 rfl (lv_at hl 1 rfl) ?_
                      refine hp_get hx hb hts ix12 hown hK hh (q := 0) rfl (hI.1 _ (by decide)) es1874 rfl 30 (by decide) (hts _ tw_909) (fun _ h9 => h9) rfl dX12_join_149 ?_
                      refine lv_aload_n hx hb dX12_join_152 rfl (lv_at hl 1 rfl) ?_
                      refine hp_get hx hb hts ix12 hown hK hh (q := 0) rfl (hI.1 _ (by decide)) es1874 rfl 32 (by decide) (hts _ tw_911) (fun _ h9 => h9) rfl dX12_join_153 ?_
                      refine lv_iload_n hx hb dX12_join_156 rfl (lv_at hl 2 rfl) ?_
                      refine hp_iald hx hb hK hh (q := 19) rfl (hI.1 _ (by decide)) es1861_1876 (vp_in_nI (n := T_1862) (by omega) (by decide)) dX12_join_157 ?_
                      rw [nI_clamp (n := T_1862) (by omega)]
                      rw [hfv_1864]
                      refine lv_aload_n hx hb dX12_join_158 rfl (lv_at hl 1 rfl) ?_
                      refine hp_get hx hb hts ix12 hown hK hh (q := 0) rfl (hI.1 _ (by decide)) es1874 rfl 32 (by decide) (hts _ tw_911) (fun _ h9 => h9) rfl dX12_join_159 ?_
                      refine lv_iload_n hx hb dX12_join_162 rfl (lv_at hl 3 rfl) ?_
                      refine hp_iald hx hb hK hh (q := 19) rfl (hI.1 _ (by decide)) es1861_1876 (vp_in_nI (n := T_1863) (by omega) (by decide)) dX12_join_163 ?_
                      rw [nI_clamp (n := T_1863) (by omega)]
                      rw [hfv_1865]
                      refine lv_iadd hx hb dX12_join_164 ?_
                      rw [nI_add v_1864 v_1865]
                      refine hp_iast hx hb hK hh (q := 19) rfl (hI.1 _ (by decide)) es1861_1876 (vp_in_nI (n := wo) (by omega) (by decide)) dX12_join_165 (fun H locs en_1878 hen_1878 hh => ?_)
                      rw [nI_clamp (n := wo) (by omega)] at hen_1878
                      have es1874_1878 : en_1878 0 = .inr (11, [.int fa_1874, .int hi_1874, .int (nI wd), .int (nI mo), .int (nI tb), .ref (ad 1), .ref (ad 2), .ref (ad 3), .ref (ad 4), .ref (ad 5), .ref (ad 6), .ref (ad 7), .ref (ad 8), .ref (ad 9), .int dp_1874, .long many_1874, .long grt_1874, .long lst_1874, .long nou_1874, .ref (ad 10), .ref (ad 11), .ref (ad 12), .int rm_1874, .long rb_1874, .ref (ad 13), .int pr_1874, .ref (ad 14), .ref (ad 15), .ref (ad 16), .ref (ad 17), .int (nI wo), .ref (ad 18), .ref (ad 19)]) := by rw [hen_1878, va_up_ne _ _ (by decide)]; exact es1874
                      have es1861_1878 : en_1878 19 = .inl (cy 0, 10, .inl (upd f_1861 wo (nI (v_1864 + v_1865)))) := by rw [hen_1878]; exact va_up_self _ _ _
                      have hI_1878 : RX cy cs ad en_1878 := by rw [hen_1878]; exact upr_wl hI_1873 ⟨(upd f_1861 wo (nI (v_1864 + v_1865))), rfl, (vals_updB p0_1861 (by omega))⟩
                      have hf_1878 : ∀ c, (c ≠ 0 ∧ c ≠ 18 ∧ c ≠ 19) → en_1878 c = en c := fun c hc => Eq.trans (show en_1878 c = en_1873 c from by rw [hen_1878, va_up_ne _ _ (by omega)]) (hf_1873 c hc)
                      have hkp_1878 : KP en en_1878 := KP_same i0_1873 (show en_1878 0 = en_1873 0 from by rw [hen_1878, va_up_ne _ _ (by decide)])
                      refine lv_aload_n hx hb dX12_join_166 rfl (lv_at hl 1 rfl) ?_
                      refine lv_dup hx hb dX12_join_167 rfl ?_
                      refine hp_get hx hb hts ix12 hown hK hh (q := 0) rfl (hI.1 _ (by decide)) es1874_1878 rfl 30 (by decide) (hts _ tw_909) (fun _ h9 => h9) rfl dX12_join_168 ?_
                      refine lv_iconst (v := 1) hx hb dX12_join_171 (by decide) ?_
                      refine lv_iadd hx hb dX12_join_172 ?_
                      rw [show (1 : Int32) = nI 1 from rfl, nI_add wo 1]
                      refine hp_put hx hb hts ix12 tyX12 tyX12_ok nmX12 hown hK hh (q := 0) rfl (hI.1 _ (by decide)) es1874_1878 rfl 30 (by decide) (hts _ tw_909) (fun _ h9 => h9) rfl (ty := .int) (by decide +kernel) rfl rfl (Nat.le_of_ble_eq_true rfl) dX12_join_173 (fun H locs en_1879 hen_1879 hh => ?_)
                      have es1861_1879 : en_1879 19 = .inl (cy 0, 10, .inl (upd f_1861 wo (nI (v_1864 + v_1865)))) := by rw [hen_1879, va_up_ne _ _ (by decide)]; exact es1861_1878
                      have es1874_1879 : en_1879 0 = .inr (11, [.int fa_1874, .int hi_1874, .int (nI wd), .int (nI mo), .int (nI tb), .ref (ad 1), .ref (ad 2), .ref (ad 3), .ref (ad 4), .ref (ad 5), .ref (ad 6), .ref (ad 7), .ref (ad 8), .ref (ad 9), .int dp_1874, .long many_1874, .long grt_1874, .long lst_1874, .long nou_1874, .ref (ad 10), .ref (ad 11), .ref (ad 12), .int rm_1874, .long rb_1874, .ref (ad 13), .int pr_1874, .ref (ad 14), .ref (ad 15), .ref (ad 16), .ref (ad 17), .int (nI (wo + 1)), .ref (ad 18), .ref (ad 19)]) := by rw [hen_1879]; exact va_up_self _ _ _
                      have hI_1879 : RX cy cs ad en_1879 := by rw [hen_1879]; exact upr_M hI_1878 ⟨fa_1874, hi_1874, wd, mo, tb, dp_1874, many_1874, grt_1874, lst_1874, nou_1874, rm_1874, rb_1874, pr_1874, (wo + 1), rfl, hwd2, hwd3, hmo, htb, (by omega)⟩
                      have hf_1879 : ∀ c, (c ≠ 0 ∧ c ≠ 18 ∧ c ≠ 19) → en_1879 c = en c := fun c hc => Eq.trans (show en_1879 c = en_1878 c from by rw [hen_1879, va_up_ne _ _ (by omega)]) (hf_1878 c hc)
                      refine lv_aload_n hx hb dX12_join_176 rfl (lv_at hl 1 rfl) ?_
                      refine hp_get hx hb hts ix12 hown hK hh (q := 0) rfl (hI.1 _ (by decide)) es1874_1879 rfl 30 (by decide) (hts _ tw_909) (fun _ h9 => h9) rfl dX12_join_177 ?_
                      refine lv_iconst (v := 1) hx hb dX12_join_180 (by decide) ?_
                      refine lv_isub hx hb dX12_join_181 ?_
                      rw [show (1 : Int32) = nI 1 from rfl, pk_sub (a := (wo + 1)) (b := 1) (by omega)]
                      exact hp_iretM hx hb hr rfl hlocks hh (⟨hI_1879, hf_1879, RWX_add hRW (wo := wo) hwo9 (show rdI (en 0) 30 = nI wo from by rw [es1860]; rfl) (show rdI (en_1879 0) 30 = nI (wo + 1) from by rw [es1874_1879]; rfl) (N := (v_1864 + v_1865)) (by omega) (by omega) (show rdF (en_1879 19) = upd (rdF (en 19)) wo (nI (v_1864 + v_1865)) from by rw [es1861_1879, es1861]; rfl), KPw_fv (KPw_of hkp_1878) es1874_1878 es1874_1879 hi_1874 (nI wd) (nI mo) (nI tb) pr_1874 rfl rfl rfl rfl rfl rfl rfl rfl rfl rfl⟩) dX12_join_182
                    · have n_1877 : j1873 < v_1865 := n_nle (a := v_1865) (b := j1873) c_1877 (by omega) (by omega)
                      refine lv_aload_n hx hb dX12_join_106 rfl (lv_at hl 1 rfl) ?_
                      refine hp_get hx hb hts ix12 hown hK hh (q := 0) rfl (hI.1 _ (by decide)) es1874 rfl 31 (by decide) (hts _ tw_910) (fun _ h9 => h9) rfl dX12_join_107 ?_
                      refine lv_bipush (v := 12) hx hb dX12_join_110 (by decide) ?_
                      refine lv_aload_n hx hb dX12_join_112 rfl (lv_at hl 1 rfl) ?_
                      refine hp_get hx hb hts ix12 hown hK hh (q := 0) rfl (hI.1 _ (by decide)) es1874 rfl 30 (by decide) (hts _ tw_909) (fun _ h9 => h9) rfl dX12_join_113 ?_
                      refine lv_imul hx hb dX12_join_116 ?_
                      rw [show (12 : Int32) = nI 12 from rfl, pk_mul 12 wo]
                      refine lv_aload_n hx hb dX12_join_117 rfl (lv_at hl 1 rfl) ?_
                      refine hp_get hx hb hts ix12 hown hK hh (q := 0) rfl (hI.1 _ (by decide)) es1874 rfl 32 (by decide) (hts _ tw_911) (fun _ h9 => h9) rfl dX12_join_118 ?_
                      refine lv_iload_n hx hb dX12_join_121 rfl (lv_at hl 2 rfl) ?_
                      refine hp_iald hx hb hK hh (q := 19) rfl (hI.1 _ (by decide)) es1861_1876 (vp_in_nI (n := T_1862) (by omega) (by decide)) dX12_join_122 ?_
                      rw [nI_clamp (n := T_1862) (by omega)]
                      rw [hfv_1864]
                      refine lv_iadd hx hb dX12_join_123 ?_
                      rw [nI_add (12 * wo) v_1864]
                      refine lv_iload_n hx hb dX12_join_124 rfl (lv_at hl 0 rfl) ?_
                      refine lv_iadd hx hb dX12_join_125 ?_
                      rw [nI_add ((12 * wo) + v_1864) j1873]
                      refine lv_aload_n hx hb dX12_join_126 rfl (lv_at hl 1 rfl) ?_
                      refine hp_get hx hb hts ix12 hown hK hh (q := 0) rfl (hI.1 _ (by decide)) es1874 rfl 31 (by decide) (hts _ tw_910) (fun _ h9 => h9) rfl dX12_join_127 ?_
                      refine lv_bipush (v := 12) hx hb dX12_join_130 (by decide) ?_
                      refine lv_iload_n hx hb dX12_join_132 rfl (lv_at hl 3 rfl) ?_
                      refine lv_imul hx hb dX12_join_133 ?_
                      rw [show (12 : Int32) = nI 12 from rfl, pk_mul 12 T_1863]
                      refine lv_iload_n hx hb dX12_join_134 rfl (lv_at hl 0 rfl) ?_
                      refine lv_iadd hx hb dX12_join_135 ?_
                      rw [nI_add (12 * T_1863) j1873]
                      obtain ⟨f_1880, es1880, p0_1880⟩ := getr_lt hI_1873
                      refine hp_iald hx hb hK hh (q := 18) rfl (hI.1 _ (by decide)) es1880 (vp_in_nI (n := ((12 * T_1863) + j1873)) (by omega) (by decide)) dX12_join_136 ?_
                      rw [nI_clamp (n := ((12 * T_1863) + j1873)) (by omega)]
                      obtain ⟨v_1881, hv_1881, hfv_1881⟩ := p0_1880 ((12 * T_1863) + j1873) (by omega)
                      rw [hfv_1881]
                      refine hp_iast hx hb hK hh (q := 18) rfl (hI.1 _ (by decide)) es1880 (vp_in_nI (n := (((12 * wo) + v_1864) + j1873)) (by omega) (by decide)) dX12_join_137 (fun H locs en_1882 hen_1882 hh => ?_)
                      rw [nI_clamp (n := (((12 * wo) + v_1864) + j1873)) (by omega)] at hen_1882
                      have es1874_1882 : en_1882 0 = .inr (11, [.int fa_1874, .int hi_1874, .int (nI wd), .int (nI mo), .int (nI tb), .ref (ad 1), .ref (ad 2), .ref (ad 3), .ref (ad 4), .ref (ad 5), .ref (ad 6), .ref (ad 7), .ref (ad 8), .ref (ad 9), .int dp_1874, .long many_1874, .long grt_1874, .long lst_1874, .long nou_1874, .ref (ad 10), .ref (ad 11), .ref (ad 12), .int rm_1874, .long rb_1874, .ref (ad 13), .int pr_1874, .ref (ad 14), .ref (ad 15), .ref (ad 16), .ref (ad 17), .int (nI wo), .ref (ad 18), .ref (ad 19)]) := by rw [hen_1882, va_up_ne _ _ (by decide)]; exact es1874
                      have es1861_1882 : en_1882 19 = .inl (cy 0, 10, .inl f_1861) := by rw [hen_1882, va_up_ne _ _ (by decide)]; exact es1861_1876
                      have es1880_1882 : en_1882 18 = .inl (cy 0, 120, .inl (upd f_1880 (((12 * wo) + v_1864) + j1873) (nI v_1881))) := by rw [hen_1882]; exact va_up_self _ _ _
                      have hI_1882 : RX cy cs ad en_1882 := by rw [hen_1882]; exact upr_lt hI_1873 ⟨(upd f_1880 (((12 * wo) + v_1864) + j1873) (nI v_1881)), rfl, (vals_updB p0_1880 (by omega))⟩
                      have hf_1882 : ∀ c, (c ≠ 0 ∧ c ≠ 18 ∧ c ≠ 19) → en_1882 c = en c := fun c hc => Eq.trans (show en_1882 c = en_1873 c from by rw [hen_1882, va_up_ne _ _ (by omega)]) (hf_1873 c hc)
                      have hkc19_1882 : en_1882 19 = en 19 := (show en_1882 19 = en_1873 19 from by rw [hen_1882, va_up_ne _ _ (by decide)]).trans i1_1873
                      have hkp_1882 : KP en en_1882 := KP_same i0_1873 (show en_1882 0 = en_1873 0 from by rw [hen_1882, va_up_ne _ _ (by decide)])
                      refine lv_iinc (v := (nI (j1873 + 1))) (lv' := [(3, .int (nI (j1873 + 1))), (0, .ref (ad 0)), (1, .int (nI T_1862)), (2, .int (nI T_1863))]) hx hb dX12_join_138 hl (k := 0) rfl (nI_1 _) (by decide) rfl (fun ls hl => ?_)
                      refine lv_goto (tgt := 96) hx hb dX12_join_141 (by decide) ?_
                      exact ih_1873 ((j1873 + 1))  en_1882 ls H locs (by omega) (by omega) (by omega) hI_1882 hf_1882 (hkp_1882) (hkc19_1882) (lv_sub hl [0, 1, 2, 3] rfl) hh
                exact loop_1873 (12 + 1) 0  en_1868 ls _ _ (Nat.le_refl _) (by omega) (by omega) hI_1868 hf_1868 (i0_1868) (i1_1868) (lv_sub hl [0, 1, 2, 3] rfl) hh
              · have n_1872 : j1868 < v_1864 := n_nle (a := v_1864) (b := j1868) c_1872 (by omega) (by omega)
                refine lv_aload_n hx hb dX12_join_63 rfl (lv_at hl 1 rfl) ?_
                refine hp_get hx hb hts ix12 hown hK hh (q := 0) rfl (hI.1 _ (by decide)) es1869 rfl 31 (by decide) (hts _ tw_910) (fun _ h9 => h9) rfl dX12_join_64 ?_
                refine lv_bipush (v := 12) hx hb dX12_join_67 (by decide) ?_
                refine lv_aload_n hx hb dX12_join_69 rfl (lv_at hl 1 rfl) ?_
                refine hp_get hx hb hts ix12 hown hK hh (q := 0) rfl (hI.1 _ (by decide)) es1869 rfl 30 (by decide) (hts _ tw_909) (fun _ h9 => h9) rfl dX12_join_70 ?_
                refine lv_imul hx hb dX12_join_73 ?_
                rw [show (12 : Int32) = nI 12 from rfl, pk_mul 12 wo]
                refine lv_iload_n hx hb dX12_join_74 rfl (lv_at hl 0 rfl) ?_
                refine lv_iadd hx hb dX12_join_75 ?_
                rw [nI_add (12 * wo) j1868]
                refine lv_aload_n hx hb dX12_join_76 rfl (lv_at hl 1 rfl) ?_
                refine hp_get hx hb hts ix12 hown hK hh (q := 0) rfl (hI.1 _ (by decide)) es1869 rfl 31 (by decide) (hts _ tw_910) (fun _ h9 => h9) rfl dX12_join_77 ?_
                refine lv_bipush (v := 12) hx hb dX12_join_80 (by decide) ?_
                refine lv_iload_n hx hb dX12_join_82 rfl (lv_at hl 2 rfl) ?_
                refine lv_imul hx hb dX12_join_83 ?_
                rw [show (12 : Int32) = nI 12 from rfl, pk_mul 12 T_1862]
                refine lv_iload_n hx hb dX12_join_84 rfl (lv_at hl 0 rfl) ?_
                refine lv_iadd hx hb dX12_join_85 ?_
                rw [nI_add (12 * T_1862) j1868]
                obtain ⟨f_1883, es1883, p0_1883⟩ := getr_lt hI_1868
                refine hp_iald hx hb hK hh (q := 18) rfl (hI.1 _ (by decide)) es1883 (vp_in_nI (n := ((12 * T_1862) + j1868)) (by omega) (by decide)) dX12_join_86 ?_
                rw [nI_clamp (n := ((12 * T_1862) + j1868)) (by omega)]
                obtain ⟨v_1884, hv_1884, hfv_1884⟩ := p0_1883 ((12 * T_1862) + j1868) (by omega)
                rw [hfv_1884]
                refine hp_iast hx hb hK hh (q := 18) rfl (hI.1 _ (by decide)) es1883 (vp_in_nI (n := ((12 * wo) + j1868)) (by omega) (by decide)) dX12_join_87 (fun H locs en_1885 hen_1885 hh => ?_)
                rw [nI_clamp (n := ((12 * wo) + j1868)) (by omega)] at hen_1885
                have es1869_1885 : en_1885 0 = .inr (11, [.int fa_1869, .int hi_1869, .int (nI wd), .int (nI mo), .int (nI tb), .ref (ad 1), .ref (ad 2), .ref (ad 3), .ref (ad 4), .ref (ad 5), .ref (ad 6), .ref (ad 7), .ref (ad 8), .ref (ad 9), .int dp_1869, .long many_1869, .long grt_1869, .long lst_1869, .long nou_1869, .ref (ad 10), .ref (ad 11), .ref (ad 12), .int rm_1869, .long rb_1869, .ref (ad 13), .int pr_1869, .ref (ad 14), .ref (ad 15), .ref (ad 16), .ref (ad 17), .int (nI wo), .ref (ad 18), .ref (ad 19)]) := by rw [hen_1885, va_up_ne _ _ (by decide)]; exact es1869
                have es1861_1885 : en_1885 19 = .inl (cy 0, 10, .inl f_1861) := by rw [hen_1885, va_up_ne _ _ (by decide)]; exact es1861_1871
                have es1883_1885 : en_1885 18 = .inl (cy 0, 120, .inl (upd f_1883 ((12 * wo) + j1868) (nI v_1884))) := by rw [hen_1885]; exact va_up_self _ _ _
                have hI_1885 : RX cy cs ad en_1885 := by rw [hen_1885]; exact upr_lt hI_1868 ⟨(upd f_1883 ((12 * wo) + j1868) (nI v_1884)), rfl, (vals_updB p0_1883 (by omega))⟩
                have hf_1885 : ∀ c, (c ≠ 0 ∧ c ≠ 18 ∧ c ≠ 19) → en_1885 c = en c := fun c hc => Eq.trans (show en_1885 c = en_1868 c from by rw [hen_1885, va_up_ne _ _ (by omega)]) (hf_1868 c hc)
                have hkc19_1885 : en_1885 19 = en 19 := (show en_1885 19 = en_1868 19 from by rw [hen_1885, va_up_ne _ _ (by decide)]).trans i1_1868
                have hkp_1885 : KP en en_1885 := KP_same i0_1868 (show en_1885 0 = en_1868 0 from by rw [hen_1885, va_up_ne _ _ (by decide)])
                refine lv_iinc (v := (nI (j1868 + 1))) (lv' := [(3, .int (nI (j1868 + 1))), (0, .ref (ad 0)), (1, .int (nI T_1862)), (2, .int (nI T_1863))]) hx hb dX12_join_88 hl (k := 0) rfl (nI_1 _) (by decide) rfl (fun ls hl => ?_)
                refine lv_goto (tgt := 53) hx hb dX12_join_91 (by decide) ?_
                exact ih_1868 ((j1868 + 1))  en_1885 ls H locs (by omega) (by omega) (by omega) hI_1885 hf_1885 (hkp_1885) (hkc19_1885) (lv_sub hl [0, 1, 2, 3] rfl) hh
          exact loop_1868 (12 + 1) 0  en ls _ _ (Nat.le_refl _) (by omega) (by omega) hI hf0 ((KP_rf en)) (rfl) (lv_sub hl [0, 1, 2, 3] rfl) hh
        · have n_1867 : wo = 10 := n_eq (a := wo) (b := 10) c_1867 (by omega) (by decide)
          refine lv_bipush (v := (-4)) hx hb dX12_join_48 (by decide) ?_
          exact hp_iretM hx hb hr rfl hlocks hh (⟨hI, hf0, RWX_keep hRW (KP_rf en).2.2.2.2.2 rfl, KPw_of (KP_rf en)⟩) dX12_join_50
      · have n_1866 : 12 < (v_1864 + v_1865) := n_nle (a := (v_1864 + v_1865)) (b := 12) c_1866 (by omega) (by decide)
        refine lv_bipush (v := (-2)) hx hb dX12_join_36 (by decide) ?_
        exact hp_iretM hx hb hr rfl hlocks hh (⟨hI, hf0, RWX_keep hRW (KP_rf en).2.2.2.2.2 rfl, KPw_of (KP_rf en)⟩) dX12_join_38
    · obtain rfl : r_1863 = 0 := Eq.trans hw_1863 (if_neg hp_1863)
      refine lv_if_ne (tgt := 18) hx hb dX12_join_13 (by decide) (fun c_0 => absurd c_0 (by decide)) (fun _ => ?_)
      refine lv_iconst (v := (-1)) hx hb dX12_join_16 (by decide) ?_
      exact hp_iretM hx hb hr rfl hlocks hh (⟨hI, hf0, RWX_keep hRW (KP_rf en).2.2.2.2.2 rfl, KPw_of (KP_rf en)⟩) dX12_join_17
  · obtain rfl : r_1862 = 0 := Eq.trans hw_1862 (if_neg hp_1862)
    refine lv_if_eq (tgt := 16) hx hb dX12_join_5 (by decide) (fun _ => ?_) (fun c_0 => absurd c_0 (by decide))
    refine lv_iconst (v := (-1)) hx hb dX12_join_16 (by decide) ?_
    exact hp_iretM hx hb hr rfl hlocks hh (⟨hI, hf0, RWX_keep hRW (KP_rf en).2.2.2.2.2 rfl, KPw_of (KP_rf en)⟩) dX12_join_17
theorem kw_X12_join {R : Room} {s : State} {args : Array Value} {own : String} {idx : Nat} (hts : ∀ w ∈ TB, w.before args s = true) (hl : Cond.methodLink own idx yX12_join ∈ TB) (hR : 1 + 1 ≤ R.frames ∧ 8 + (4 + 11) + 40 * 1 ≤ R.locals) : CallW R s args own RX12 idx yX12_join cX12_join 4 (some .int) (Cond.code yX12_join cX12_join 4 (some .int) :: TB) (rmN 1) 0 0 2 := cwV 2 hts (TB_V hl tw_1172 tw_1173 tw_9 tw_1174) rfl rfl rfl (by decide +kernel) hR
