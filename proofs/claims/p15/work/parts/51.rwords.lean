set_option maxHeartbeats 4000000 in
set_option maxRecDepth 100000 in
/-- closed -/
theorem c_X12_closed (l : Launch) (D : va_G) (cy : Nat → ClassId) (sz : Nat) (cs : List Nat) (ad : Nat → Nat) (en : Nat → va_E) (hI : RX cy cs ad en) (z9 : Int32) (hRX : RQX en)   : Met l yX12_closed (Cond.code yX12_closed cX12_closed 4 (some .int) :: TB) (rmN 2) (va_Pc [.ref (ad 0), .int z9] (Pre D cy cs ad en sz)) (va_Qi (S := Nat → va_E) (fun r en1 => RX cy cs ad en1 ∧ (∀ c, (c ≠ 6) → en1 c = en c) ∧ RCD z9 r en) (PostM D cs ad) (Af cs ad sz)) 0 0 (Af cs ad sz) := by
  refine Met.ofW (cc := cX12_closed) (maxL := 4) (ret := (some .int)) (by decide) rfl ?_
  intro p e s m args below meth c s₁ B hml hv
  obtain ⟨rfl, hsz, hP, hK, hD0⟩ := hv
  have hx := B.exec
  have hb := B.bytes
  have hr := B.returns
  have hts : ∀ w ∈ TB, w.before _ s = true := fun w h => atoms_spec (ws := _ :: TB) B.pre w (List.mem_cons_of_mem _ h)
  have hown : s.vm.findClass RX12 = some m.cls := findClass_of_methodNamed B.named
  have hlocks := B.notSynchronized
  have hh : Hp D (Af cs ad sz) (Af cs ad sz) s.heap s.heap [] cs ad en := ⟨hP, Af_self hD0, va_S.rf⟩
  have hA : ∀ q : Nat, s.heap.size ≤ q → Af cs ad sz q := fun q h => Or.inr (by rw [hsz] at h; exact h)
  have hl := lv_entry ([.ref (ad 0), .int z9]) (n := 4) (Nat.le_of_ble_eq_true rfl)
  rw [lg_entry_eq]
  generalize (lg_sl ([.ref (ad 0), .int z9]) ++ List.replicate (4 - (lg_sl ([.ref (ad 0), .int z9])).length) Slot.unset).toArray = ls at hl ⊢
  have hl : lv_has ls 4 [(0, .ref (ad 0)), (1, .int z9)] := hl
  have hf0 : ∀ c, (c ≠ 6) → en c = en c := fun _ _ => rfl
  obtain ⟨fa, hi, wd, mo, tb, dp, many, grt, lst, nou, rm, rb, pr, wo, es1747, hwd2, hwd3, hmo, htb, hwo⟩ := getr_M hI
  refine lv_iload_n hx hb dX12_closed_0 rfl (lv_at hl 1 rfl) ?_
  refine lv_i2l hx hb dX12_closed_1 rfl ?_
  refine lv_lconst (v := 0) hx hb dX12_closed_2 (by decide) ?_
  refine lv_ldc2 hx hb hown (hts _ tw_1141) dX12_closed_3 ?_
  refine hp_callRi (va_runS (As := [.long z9.toInt64, .long 0, .long 4]) (rest := []) ⟨hx, hb, hml, hown, hts⟩ (c_X12_within l D cy _ cs ad en z9.toInt64 0 4) (kw_X12_within hts tw_985 ⟨by decide, by decide⟩) (preS_of hh hK) rfl rfl hl.1 rfl (lv_room (Nat.le_of_ble_eq_true rfl)) dX12_closed_6 ⟨Nat.le_of_ble_eq_true rfl, Nat.le_of_ble_eq_true rfl⟩) hh hA (fun r_1748 H locs hw_1748 hh => ?_)
  rcases Decidable.em (wi z9 0 4) with hp_1748 | hp_1748
  · obtain rfl : r_1748 = 1 := Eq.trans hw_1748 (if_pos ((wj_32 (by decide) (by decide)).mpr hp_1748))
    obtain ⟨N_1748, rfl, hA_1748, hB_1748⟩ := wi_natB hp_1748 0 4 (by decide) (by decide)
    refine lv_if_ne (tgt := 15) hx hb dX12_closed_9 (by decide) (fun _ => ?_) (fun c_0 => absurd c_0 (by decide))
    refine lv_aload_n hx hb dX12_closed_15 rfl (lv_at hl 0 rfl) ?_
    refine hp_get hx hb hts ix12 hown hK hh (q := 0) rfl (hI.1 _ (by decide)) es1747 rfl 25 (by decide) (hts _ tw_904) (fun _ h9 => h9) rfl dX12_closed_16 ?_
    refine lv_bipush (v := (-9)) hx hb dX12_closed_19 (by decide) ?_
    refine lv_icmp_ne (tgt := 27) hx hb dX12_closed_21 (by decide) (fun c_1749 => ?_) (fun c_1749 => ?_)
    · have hdq : dQ en = wd := by unfold dQ; rw [show rdI (en 0) 2 = nI wd from by rw [es1747]; rfl]; exact nI_clamp (by omega)
      have hmq : mQ en = mo := by unfold mQ; rw [show rdI (en 0) 3 = nI mo from by rw [es1747]; rfl]; exact nI_clamp (by omega)
      have hkq : kQ en = tb := by unfold kQ; rw [show rdI (en 0) 4 = nI tb from by rw [es1747]; rfl]; exact nI_clamp (by omega)
      have hww : wd * wd ≤ 9 := mww (by omega)
      obtain ⟨S9, hS1, hS2, hcl9, hRC⟩ := RQX_n9 hRX (show rdI (en 0) 25 = pr from by rw [es1747]; rfl) c_1749
      have hfx_1750 : pr = nI S9.length := (show pr = rdI (en 0) 25 from by rw [es1747]; rfl).trans (hRC.1)
      rw [hfx_1750] at es1747
      refine lv_iconst (v := 0) hx hb dX12_closed_27 (by decide) ?_
      refine lv_istore_n (lv' := [(2, .int 0), (0, .ref (ad 0)), (1, .int (nI N_1748))]) hx hb dX12_closed_28 rfl hl (by decide) rfl (fun ls hl => ?_)
      refine lv_iload_n hx hb dX12_closed_29 rfl (lv_at hl 2 rfl) ?_
      by_cases q_1751_0 : (nI N_1748) = 0
      · refine lv_tableIn (off := 30) (tgt := 60) hx hb dX12_closed_30 (by rw [q_1751_0]; decide) (by rw [q_1751_0]; decide) (by rw [q_1751_0]; decide) (by decide) ?_
        refine lv_aload_n hx hb dX12_closed_60 rfl (lv_at hl 1 rfl) ?_
        refine hp_get hx hb hts ix12 hown hK hh (q := 0) rfl (hI.1 _ (by decide)) es1747 rfl 25 (by decide) (hts _ tw_904) (fun _ h9 => h9) rfl dX12_closed_61 ?_
        exact hp_iretM hx hb hr rfl hlocks hh (⟨hI, hf0, Or.inr (Or.inr ⟨hp_1748, n25 hRC, S9, hcl9, (by rw [hdq, hmq]; exact Or.inl ⟨q_1751_0, rfl⟩)⟩)⟩) dX12_closed_64
      by_cases q_1751_1 : (nI N_1748) = 1
      · refine lv_tableIn (off := 35) (tgt := 65) hx hb dX12_closed_30 (by rw [q_1751_1]; decide) (by rw [q_1751_1]; decide) (by rw [q_1751_1]; decide) (by decide) ?_
        refine lv_iconst (v := 0) hx hb dX12_closed_65 (by decide) ?_
        refine lv_istore_n (lv' := [(3, .int 0), (2, .int 0), (0, .ref (ad 0)), (1, .int (nI N_1748))]) hx hb dX12_closed_66 rfl hl (by decide) rfl (fun ls hl => ?_)
        have loop_1752 : ∀ (fu j1752 : Nat) (no1752 : Int32)  (ls : Array Slot) (H : Heap) (locs : List Loc), 0 ≤ j1752 → j1752 ≤ S9.length → S9.length < j1752 + fu →  (bI no1752 (nouR wd S9 j1752)) → lv_has ls 4 [(3, .int (nI j1752)), (2, .int no1752), (0, .ref (ad 0)), (1, .int (nI N_1748))] → Hp D (Af cs ad sz) (Af cs ad sz) s.heap H locs cs ad en → W p l e (headSpec (Cond.code yX12_closed cX12_closed 4 (some .int) :: TB) (rmN 2)).room s m ([.ref (ad 0), .int (nI N_1748)] : List Value).toArray below meth c H locs 0 0 (MQ below (va_Qi (S := Nat → va_E) (fun r en1 => RX cy cs ad en1 ∧ (∀ c, (c ≠ 6) → en1 c = en c) ∧ RCD (nI N_1748) r en) (PostM D cs ad) (Af cs ad sz)) ([.ref (ad 0), .int (nI N_1748)] : List Value).toArray s 0 0 (Af cs ad sz)) (F0 m 67 ls []) := by
          intro fu
          induction fu with
          | zero => intro j1752 no1752 ls H locs h0 h1 h2; exact absurd h2 (by omega)
          | succ fu ih_1752 =>
            intro j1752 no1752 ls H locs hj0_1752 hj_1752 hfu_1752 i0_1752 hl hh
            refine lv_iload_n hx hb dX12_closed_67 rfl (lv_at hl 0 rfl) ?_
            refine lv_aload_n hx hb dX12_closed_68 rfl (lv_at hl 2 rfl) ?_
            refine hp_get hx hb hts ix12 hown hK hh (q := 0) rfl (hI.1 _ (by decide)) es1747 rfl 25 (by decide) (hts _ tw_904) (fun _ h9 => h9) rfl dX12_closed_69 ?_
            refine lv_icmp_ge (tgt := 97) hx hb dX12_closed_72 (by decide) (fun c_1753 => ?_) (fun c_1753 => ?_)
            · have n_1753 : S9.length ≤ j1752 := n_le (a := S9.length) (b := j1752) c_1753 (by omega) (by omega)
              refine lv_iload_n hx hb dX12_closed_97 rfl (lv_at hl 1 rfl) ?_
              exact hp_iretM hx hb hr rfl hlocks hh (⟨hI, hf0, Or.inr (Or.inr ⟨hp_1748, n25 hRC, S9, hcl9, (by rw [hdq, hmq]; exact Or.inr (Or.inl ⟨q_1751_1, (by have e9 : j1752 = S9.length := (by omega); rw [e9] at i0_1752; exact i0_1752)⟩))⟩)⟩) dX12_closed_98
            · have n_1753 : j1752 < S9.length := n_nle (a := S9.length) (b := j1752) c_1753 (by omega) (by omega)
              refine lv_iload_n hx hb dX12_closed_75 rfl (lv_at hl 1 rfl) ?_
              refine lv_aload_n hx hb dX12_closed_76 rfl (lv_at hl 2 rfl) ?_
              refine lv_iload_n hx hb dX12_closed_77 rfl (lv_at hl 0 rfl) ?_
              obtain ⟨x_1752, hgx_1752⟩ := ge_some (S := S9) (k := j1752) (by omega)
              refine hp_callRi (va_runV (As := [.int (nI j1752)]) (rest := [.int no1752]) ⟨hx, hb, hml, hown, hts⟩ (c_X12_isNought l D cy _ cs ad en hI j1752 (by omega)) (kw_X12_isNought hts tw_1142 ⟨by decide, by decide⟩) (preV_of hh hK (hI.1 _ (by decide)) es1747 rfl) rfl rfl hl.1 rfl (lv_room (Nat.le_of_ble_eq_true rfl)) dX12_closed_78 ⟨Nat.le_of_ble_eq_true rfl, Nat.le_of_ble_eq_true rfl⟩) hh hA (fun r_1754 H locs hw_1754 hh => ?_)
              rcases hw_1754 with ⟨hb_1754, hy_1754⟩ | ⟨hb_1754, hy_1754⟩
              · obtain rfl : r_1754 = 1 := hb_1754
                refine lv_if_eq (tgt := 88) hx hb dX12_closed_81 (by decide) (fun c_0 => absurd c_0 (by decide)) (fun _ => ?_)
                refine lv_iconst (v := 1) hx hb dX12_closed_84 (by decide) ?_
                refine lv_goto (tgt := 89) hx hb dX12_closed_85 (by decide) ?_
                refine lv_ior hx hb dX12_closed_89 ?_
                refine lv_istore_n (lv' := [(2, .int (no1752 ||| 1)), (3, .int (nI j1752)), (0, .ref (ad 0)), (1, .int (nI N_1748))]) hx hb dX12_closed_90 rfl hl (by decide) rfl (fun ls hl => ?_)
                refine lv_iinc (v := (nI (j1752 + 1))) (lv' := [(3, .int (nI (j1752 + 1))), (2, .int (no1752 ||| 1)), (0, .ref (ad 0)), (1, .int (nI N_1748))]) hx hb dX12_closed_91 hl (k := 1) rfl (nI_1 _) (by decide) rfl (fun ls hl => ?_)
                refine lv_goto (tgt := 67) hx hb dX12_closed_94 (by decide) ?_
                exact ih_1752 ((j1752 + 1)) (no1752 ||| 1) ls H locs (by omega) (by omega) (by omega) (nouR_p i0_1752 hgx_1752 (fun c hc => (RC_row hRC hgx_1752 c (by rw [hdq]; exact hc)).symm.trans (hy_1754 c (by rw [hdq]; exact hc)))) (lv_sub hl [0, 1, 2, 3] rfl) hh
              · obtain rfl : r_1754 = 0 := hb_1754
                refine lv_if_eq (tgt := 88) hx hb dX12_closed_81 (by decide) (fun _ => ?_) (fun c_0 => absurd c_0 (by decide))
                refine lv_iconst (v := 0) hx hb dX12_closed_88 (by decide) ?_
                refine lv_ior hx hb dX12_closed_89 ?_
                refine lv_istore_n (lv' := [(2, .int (no1752 ||| 0)), (3, .int (nI j1752)), (0, .ref (ad 0)), (1, .int (nI N_1748))]) hx hb dX12_closed_90 rfl hl (by decide) rfl (fun ls hl => ?_)
                refine lv_iinc (v := (nI (j1752 + 1))) (lv' := [(3, .int (nI (j1752 + 1))), (2, .int (no1752 ||| 0)), (0, .ref (ad 0)), (1, .int (nI N_1748))]) hx hb dX12_closed_91 hl (k := 1) rfl (nI_1 _) (by decide) rfl (fun ls hl => ?_)
                refine lv_goto (tgt := 67) hx hb dX12_closed_94 (by decide) ?_
                exact ih_1752 ((j1752 + 1)) (no1752 ||| 0) ls H locs (by omega) (by omega) (by omega) (nouR_n i0_1752 hgx_1752 (fun q => hy_1754 (fun c hc9 => by have hc : c < wd * wd := (by rw [hdq] at hc9; exact hc9); exact (RC_row hRC hgx_1752 c (by rw [hdq]; exact hc)).trans (q c hc)))) (lv_sub hl [0, 1, 2, 3] rfl) hh
        exact loop_1752 (S9.length + 1) 0 0 ls _ _ (Nat.le_refl _) (by omega) (by omega) (Or.inr ⟨rfl, fun q => by obtain ⟨i, x, h, -⟩ := q; exact absurd h (Nat.not_lt_zero i)⟩) (lv_sub hl [0, 1, 2, 3] rfl) hh
      by_cases q_1751_2 : (nI N_1748) = 2
      · refine lv_tableIn (off := 69) (tgt := 99) hx hb dX12_closed_30 (by rw [q_1751_2]; decide) (by rw [q_1751_2]; decide) (by rw [q_1751_2]; decide) (by decide) ?_
        refine lv_iconst (v := 0) hx hb dX12_closed_99 (by decide) ?_
        refine lv_istore_n (lv' := [(3, .int 0), (2, .int 0), (0, .ref (ad 0)), (1, .int (nI N_1748))]) hx hb dX12_closed_100 rfl hl (by decide) rfl (fun ls hl => ?_)
        have loop_1755 : ∀ (fu j1755 : Nat)   (ls : Array Slot) (H : Heap) (locs : List Loc), 0 ≤ j1755 → j1755 ≤ S9.length → S9.length < j1755 + fu →  (∀ k9 : Nat, k9 < j1755 → ∀ x9 : List Int64 × Int32, S9[k9]? = some x9 → ¬ ∀ c, c < wd * wd → vg x9.1 c = uV wd c) → lv_has ls 4 [(3, .int (nI j1755)), (2, .int 0), (0, .ref (ad 0)), (1, .int (nI N_1748))] → Hp D (Af cs ad sz) (Af cs ad sz) s.heap H locs cs ad en → W p l e (headSpec (Cond.code yX12_closed cX12_closed 4 (some .int) :: TB) (rmN 2)).room s m ([.ref (ad 0), .int (nI N_1748)] : List Value).toArray below meth c H locs 0 0 (MQ below (va_Qi (S := Nat → va_E) (fun r en1 => RX cy cs ad en1 ∧ (∀ c, (c ≠ 6) → en1 c = en c) ∧ RCD (nI N_1748) r en) (PostM D cs ad) (Af cs ad sz)) ([.ref (ad 0), .int (nI N_1748)] : List Value).toArray s 0 0 (Af cs ad sz)) (F0 m 101 ls []) := by
          intro fu
          induction fu with
          | zero => intro j1755  ls H locs h0 h1 h2; exact absurd h2 (by omega)
          | succ fu ih_1755 =>
            intro j1755  ls H locs hj0_1755 hj_1755 hfu_1755 i0_1755 hl hh
            refine lv_iload_n hx hb dX12_closed_101 rfl (lv_at hl 0 rfl) ?_
            refine lv_aload_n hx hb dX12_closed_102 rfl (lv_at hl 2 rfl) ?_
            refine hp_get hx hb hts ix12 hown hK hh (q := 0) rfl (hI.1 _ (by decide)) es1747 rfl 25 (by decide) (hts _ tw_904) (fun _ h9 => h9) rfl dX12_closed_103 ?_
            refine lv_icmp_ge (tgt := 125) hx hb dX12_closed_106 (by decide) (fun c_1756 => ?_) (fun c_1756 => ?_)
            · have n_1756 : S9.length ≤ j1755 := n_le (a := S9.length) (b := j1755) c_1756 (by omega) (by omega)
              refine lv_bipush (v := (-9)) hx hb dX12_closed_125 (by decide) ?_
              exact hp_iretM hx hb hr rfl hlocks hh (⟨hI, hf0, Or.inr (Or.inr ⟨hp_1748, n25 hRC, S9, hcl9, (by rw [hdq, hmq]; exact Or.inr (Or.inr (Or.inl ⟨q_1751_2, Or.inl ⟨rfl, fun k9 x9 hx9 => i0_1755 k9 (by have := ge_lt hx9; omega) x9 hx9⟩⟩)))⟩)⟩) dX12_closed_127
            · have n_1756 : j1755 < S9.length := n_nle (a := S9.length) (b := j1755) c_1756 (by omega) (by omega)
              refine lv_aload_n hx hb dX12_closed_109 rfl (lv_at hl 2 rfl) ?_
              refine lv_iload_n hx hb dX12_closed_110 rfl (lv_at hl 0 rfl) ?_
              obtain ⟨x_1755, hgx_1755⟩ := ge_some (S := S9) (k := j1755) (by omega)
              refine hp_callRi (va_runV (As := [.int (nI j1755)]) (rest := []) ⟨hx, hb, hml, hown, hts⟩ (c_X12_isOne l D cy _ cs ad en hI j1755 (by omega)) (kw_X12_isOne hts tw_1146 ⟨by decide, by decide⟩) (preV_of hh hK (hI.1 _ (by decide)) es1747 rfl) rfl rfl hl.1 rfl (lv_room (Nat.le_of_ble_eq_true rfl)) dX12_closed_111 ⟨Nat.le_of_ble_eq_true rfl, Nat.le_of_ble_eq_true rfl⟩) hh hA (fun r_1757 H locs hw_1757 hh => ?_)
              rcases hw_1757 with ⟨hb_1757, hy_1757⟩ | ⟨hb_1757, hy_1757⟩
              · obtain rfl : r_1757 = 1 := hb_1757
                refine lv_if_eq (tgt := 119) hx hb dX12_closed_114 (by decide) (fun c_0 => absurd c_0 (by decide)) (fun _ => ?_)
                refine lv_iload_n hx hb dX12_closed_117 rfl (lv_at hl 0 rfl) ?_
                exact hp_iretM hx hb hr rfl hlocks hh (⟨hI, hf0, Or.inr (Or.inr ⟨hp_1748, n25 hRC, S9, hcl9, (by rw [hdq, hmq]; exact Or.inr (Or.inr (Or.inl ⟨q_1751_2, Or.inr ⟨j1755, x_1755, hgx_1755, (fun c hc => (RC_row hRC hgx_1755 c (by rw [hdq]; exact hc)).symm.trans (by have h9 := hy_1757 c (by rw [hdq]; exact hc); rw [hdq] at h9; exact h9)), rfl⟩⟩)))⟩)⟩) dX12_closed_118
              · obtain rfl : r_1757 = 0 := hb_1757
                refine lv_if_eq (tgt := 119) hx hb dX12_closed_114 (by decide) (fun _ => ?_) (fun c_0 => absurd c_0 (by decide))
                refine lv_iinc (v := (nI (j1755 + 1))) (lv' := [(3, .int (nI (j1755 + 1))), (2, .int 0), (0, .ref (ad 0)), (1, .int (nI N_1748))]) hx hb dX12_closed_119 hl (k := 0) rfl (nI_1 _) (by decide) rfl (fun ls hl => ?_)
                refine lv_goto (tgt := 101) hx hb dX12_closed_122 (by decide) ?_
                exact ih_1755 ((j1755 + 1))  ls H locs (by omega) (by omega) (by omega) (fun k9 h9 x9 hx9 q => (Nat.lt_or_ge k9 j1755).elim (fun h8 => i0_1755 k9 h8 x9 hx9 q) (fun h8 => by obtain rfl : k9 = j1755 := (by omega); exact hy_1757 (fun c hc => (RC_row hRC hx9 c hc).trans (by rw [hdq]; exact q c (by rw [← hdq]; exact hc))))) (lv_sub hl [0, 1, 2, 3] rfl) hh
        exact loop_1755 (S9.length + 1) 0  ls _ _ (Nat.le_refl _) (by omega) (by omega) (fun k9 h => absurd h (Nat.not_lt_zero k9)) (lv_sub hl [0, 1, 2, 3] rfl) hh
      by_cases q_1751_3 : (nI N_1748) = 3
      · refine lv_tableIn (off := 98) (tgt := 128) hx hb dX12_closed_30 (by rw [q_1751_3]; decide) (by rw [q_1751_3]; decide) (by rw [q_1751_3]; decide) (by decide) ?_
        refine lv_iconst (v := 0) hx hb dX12_closed_128 (by decide) ?_
        refine lv_istore_n (lv' := [(3, .int 0), (2, .int 0), (0, .ref (ad 0)), (1, .int (nI N_1748))]) hx hb dX12_closed_129 rfl hl (by decide) rfl (fun ls hl => ?_)
        have loop_1758 : ∀ (fu j1758 : Nat) (no1758 : Int32) (en_1758 : Nat → va_E) (ls : Array Slot) (H : Heap) (locs : List Loc), 0 ≤ j1758 → j1758 ≤ S9.length → S9.length < j1758 + fu → RX cy cs ad en_1758 → (∀ c, (c ≠ 6) → en_1758 c = en c) → (no1758 = owR wd mo S9 j1758) → lv_has ls 4 [(3, .int (nI j1758)), (2, .int no1758), (0, .ref (ad 0)), (1, .int (nI N_1748))] → Hp D (Af cs ad sz) (Af cs ad sz) s.heap H locs cs ad en_1758 → W p l e (headSpec (Cond.code yX12_closed cX12_closed 4 (some .int) :: TB) (rmN 2)).room s m ([.ref (ad 0), .int (nI N_1748)] : List Value).toArray below meth c H locs 0 0 (MQ below (va_Qi (S := Nat → va_E) (fun r en1 => RX cy cs ad en1 ∧ (∀ c, (c ≠ 6) → en1 c = en c) ∧ RCD (nI N_1748) r en) (PostM D cs ad) (Af cs ad sz)) ([.ref (ad 0), .int (nI N_1748)] : List Value).toArray s 0 0 (Af cs ad sz)) (F0 m 130 ls []) := by
          intro fu
          induction fu with
          | zero => intro j1758 no1758 en_1758 ls H locs h0 h1 h2; exact absurd h2 (by omega)
          | succ fu ih_1758 =>
            intro j1758 no1758 en_1758 ls H locs hj0_1758 hj_1758 hfu_1758 hI_1758 hf_1758 i0_1758 hl hh
            have hRC_1758 := RC_k (e1 := en_1758) hRC (by rw [hf_1758 0 (by omega)]) (hf_1758 14 (by omega)) (hf_1758 15 (by omega)) (hf_1758 16 (by omega)) (hf_1758 17 (by omega))
            refine lv_iload_n hx hb dX12_closed_130 rfl (lv_at hl 0 rfl) ?_
            refine lv_aload_n hx hb dX12_closed_131 rfl (lv_at hl 2 rfl) ?_
            have es1747_1759 : en_1758 0 = .inr (11, [.int fa, .int hi, .int (nI wd), .int (nI mo), .int (nI tb), .ref (ad 1), .ref (ad 2), .ref (ad 3), .ref (ad 4), .ref (ad 5), .ref (ad 6), .ref (ad 7), .ref (ad 8), .ref (ad 9), .int dp, .long many, .long grt, .long lst, .long nou, .ref (ad 10), .ref (ad 11), .ref (ad 12), .int rm, .long rb, .ref (ad 13), .int (nI S9.length), .ref (ad 14), .ref (ad 15), .ref (ad 16), .ref (ad 17), .int (nI wo), .ref (ad 18), .ref (ad 19)]) := (hf_1758 0 (by omega)).trans es1747
            refine hp_get hx hb hts ix12 hown hK hh (q := 0) rfl (hI.1 _ (by decide)) es1747_1759 rfl 25 (by decide) (hts _ tw_904) (fun _ h9 => h9) rfl dX12_closed_132 ?_
            refine lv_icmp_ge (tgt := 167) hx hb dX12_closed_135 (by decide) (fun c_1761 => ?_) (fun c_1761 => ?_)
            · have n_1761 : S9.length ≤ j1758 := n_le (a := S9.length) (b := j1758) c_1761 (by omega) (by omega)
              refine lv_iload_n hx hb dX12_closed_167 rfl (lv_at hl 1 rfl) ?_
              exact hp_iretM hx hb hr rfl hlocks hh (⟨hI_1758, hf_1758, Or.inr (Or.inr ⟨hp_1748, n25 hRC, S9, hcl9, (by rw [hdq, hmq]; exact Or.inr (Or.inr (Or.inr (Or.inl ⟨q_1751_3, (by have e9 : j1758 = S9.length := (by omega); rw [e9] at i0_1758; exact i0_1758)⟩))))⟩)⟩) dX12_closed_168
            · have n_1761 : j1758 < S9.length := n_nle (a := S9.length) (b := j1758) c_1761 (by omega) (by omega)
              refine lv_aload_n hx hb dX12_closed_138 rfl (lv_at hl 2 rfl) ?_
              refine lv_iload_n hx hb dX12_closed_139 rfl (lv_at hl 0 rfl) ?_
              refine lv_iload_n hx hb dX12_closed_140 rfl (lv_at hl 0 rfl) ?_
              obtain ⟨x_1758, hgx_1758⟩ := ge_some (S := S9) (k := j1758) (by omega)
              refine hp_callMv (va_runV (As := [.int (nI j1758), .int (nI j1758)]) (rest := []) ⟨hx, hb, hml, hown, hts⟩ (c_X12_multiply l D cy _ cs ad en_1758 hI_1758 j1758 j1758 (by omega) (by omega)) (kw_X12_multiply hts tw_1150 ⟨by decide, by decide⟩) (preV_of hh hK (hI.1 _ (by decide)) es1747_1759 rfl) rfl rfl hl.1 rfl (lv_room (Nat.le_of_ble_eq_true rfl)) dX12_closed_141 ⟨Nat.le_of_ble_eq_true rfl, Nat.le_of_ble_eq_true rfl⟩) hh hA (fun H locs en_1762 hw_1762 hh => ?_)
              obtain ⟨hI_1762, hu_1762, hx_1762⟩ := hw_1762
              have es1747_1762 : en_1762 0 = .inr (11, [.int fa, .int hi, .int (nI wd), .int (nI mo), .int (nI tb), .ref (ad 1), .ref (ad 2), .ref (ad 3), .ref (ad 4), .ref (ad 5), .ref (ad 6), .ref (ad 7), .ref (ad 8), .ref (ad 9), .int dp, .long many, .long grt, .long lst, .long nou, .ref (ad 10), .ref (ad 11), .ref (ad 12), .int rm, .long rb, .ref (ad 13), .int (nI S9.length), .ref (ad 14), .ref (ad 15), .ref (ad 16), .ref (ad 17), .int (nI wo), .ref (ad 18), .ref (ad 19)]) := (hu_1762 0 (by omega)).trans es1747_1759
              have hf_1762 : ∀ c, (c ≠ 6) → en_1762 c = en c := fun c hc => (hu_1762 c (by omega)).trans (hf_1758 c hc)
              have hRC_1762 := RC_k (e1 := en_1762) hRC_1758 (by rw [hu_1762 0 (by omega)]) (hu_1762 14 (by omega)) (hu_1762 15 (by omega)) (hu_1762 16 (by omega)) (hu_1762 17 (by omega))
              have hvm_1758 : vec (dQ en * dQ en) (lvl 1 en_1762) = vec (wd * wd) (muV wd mo (vg x_1758.1) (vg x_1758.1)) := (MU_v rfl (hf_1758 0 (by omega)) hRC_1758 hgx_1758 hgx_1758 hx_1762).trans (by rw [hdq, hmq])
              refine lv_iload_n hx hb dX12_closed_144 rfl (lv_at hl 1 rfl) ?_
              refine lv_aload_n hx hb dX12_closed_145 rfl (lv_at hl 2 rfl) ?_
              refine lv_iconst (v := 1) hx hb dX12_closed_146 (by decide) ?_
              refine hp_callRi (va_runV (As := [.int 1]) (rest := [.int no1758]) ⟨hx, hb, hml, hown, hts⟩ (c_X12_findAt l D cy _ cs ad en_1762 hI_1762 1 (by omega) (dQ en * dQ en) (show dQ en * dQ en = dQ en_1762 * dQ en_1762 from by unfold dQ; rw [hf_1762 0 (by omega)]) S9 hRC_1762) (kw_X12_findAt hts tw_1123 ⟨by decide, by decide⟩) (preV_of hh hK (hI.1 _ (by decide)) es1747_1762 rfl) rfl rfl hl.1 rfl (lv_room (Nat.le_of_ble_eq_true rfl)) dX12_closed_147 ⟨Nat.le_of_ble_eq_true rfl, Nat.le_of_ble_eq_true rfl⟩) hh hA (fun r_1763 H locs hw_1763 hh => ?_)
              rcases hw_1763 with ⟨hb_1763, hno_1763⟩ | ⟨F_1763, xf_1763, hxf_1763, hef_1763, hb_1763⟩
              · obtain rfl : r_1763 = (-9) := hb_1763
                refine lv_iload_n hx hb dX12_closed_150 rfl (lv_at hl 0 rfl) ?_
                refine lv_icmp_ne (tgt := 158) hx hb dX12_closed_151 (by decide) (fun _ => ?_) (fun c_0 => absurd c_0 ((fun q => nI_n9 (v := j1758) (by omega) q.symm)))
                refine lv_iconst (v := 0) hx hb dX12_closed_158 (by decide) ?_
                refine lv_iadd hx hb dX12_closed_159 ?_
                refine lv_istore_n (lv' := [(2, .int (no1758 + 0)), (3, .int (nI j1758)), (0, .ref (ad 0)), (1, .int (nI N_1748))]) hx hb dX12_closed_160 rfl hl (by decide) rfl (fun ls hl => ?_)
                refine lv_iinc (v := (nI (j1758 + 1))) (lv' := [(3, .int (nI (j1758 + 1))), (2, .int (no1758 + 0)), (0, .ref (ad 0)), (1, .int (nI N_1748))]) hx hb dX12_closed_161 hl (k := 1) rfl (nI_1 _) (by decide) rfl (fun ls hl => ?_)
                refine lv_goto (tgt := 130) hx hb dX12_closed_164 (by decide) ?_
                exact ih_1758 ((j1758 + 1)) (no1758 + 0) en_1762 ls H locs (by omega) (by omega) (by omega) hI_1762 hf_1762 (by rw [i0_1758]; exact (add0 _).trans (owR_n hgx_1758 (fun q => hno_1763 (by rw [hvm_1758, q]; exact mem_ge hgx_1758))).symm) (lv_sub hl [0, 1, 2, 3] rfl) hh
              · obtain rfl : r_1763 = nI F_1763 := hb_1763
                have hFl_1763 := ge_lt hxf_1763
                have hn9_1763 : ¬ nI F_1763 = (-9 : Int32) := nI_n9 (by have h9 := hRC_1762.2.1.1; omega)
                refine lv_iload_n hx hb dX12_closed_150 rfl (lv_at hl 0 rfl) ?_
                refine lv_icmp_ne (tgt := 158) hx hb dX12_closed_151 (by decide) (fun c_1764 => ?_) (fun c_1764 => ?_)
                · have n_1764 : F_1763 ≠ j1758 := n_neq (a := F_1763) (b := j1758) c_1764 (by omega) (by omega)
                  refine lv_iconst (v := 0) hx hb dX12_closed_158 (by decide) ?_
                  refine lv_iadd hx hb dX12_closed_159 ?_
                  refine lv_istore_n (lv' := [(2, .int (no1758 + 0)), (3, .int (nI j1758)), (0, .ref (ad 0)), (1, .int (nI N_1748))]) hx hb dX12_closed_160 rfl hl (by decide) rfl (fun ls hl => ?_)
                  refine lv_iinc (v := (nI (j1758 + 1))) (lv' := [(3, .int (nI (j1758 + 1))), (2, .int (no1758 + 0)), (0, .ref (ad 0)), (1, .int (nI N_1748))]) hx hb dX12_closed_161 hl (k := 1) rfl (nI_1 _) (by decide) rfl (fun ls hl => ?_)
                  refine lv_goto (tgt := 130) hx hb dX12_closed_164 (by decide) ?_
                  exact ih_1758 ((j1758 + 1)) (no1758 + 0) en_1762 ls H locs (by omega) (by omega) (by omega) hI_1762 hf_1762 (by rw [i0_1758]; exact (add0 _).trans (owR_n hgx_1758 (fun q => n_1764 (ge_inj hRC.2.1 hxf_1763 hgx_1758 (hef_1763.trans (hvm_1758.trans q))))).symm) (lv_sub hl [0, 1, 2, 3] rfl) hh
                · have n_1764 : F_1763 = j1758 := n_eq (a := F_1763) (b := j1758) c_1764 (by omega) (by omega)
                  refine lv_iconst (v := 1) hx hb dX12_closed_154 (by decide) ?_
                  refine lv_goto (tgt := 159) hx hb dX12_closed_155 (by decide) ?_
                  refine lv_iadd hx hb dX12_closed_159 ?_
                  refine lv_istore_n (lv' := [(2, .int (no1758 + 1)), (3, .int (nI j1758)), (0, .ref (ad 0)), (1, .int (nI N_1748))]) hx hb dX12_closed_160 rfl hl (by decide) rfl (fun ls hl => ?_)
                  refine lv_iinc (v := (nI (j1758 + 1))) (lv' := [(3, .int (nI (j1758 + 1))), (2, .int (no1758 + 1)), (0, .ref (ad 0)), (1, .int (nI N_1748))]) hx hb dX12_closed_161 hl (k := 1) rfl (nI_1 _) (by decide) rfl (fun ls hl => ?_)
                  refine lv_goto (tgt := 130) hx hb dX12_closed_164 (by decide) ?_
                  exact ih_1758 ((j1758 + 1)) (no1758 + 1) en_1762 ls H locs (by omega) (by omega) (by omega) hI_1762 hf_1762 (by rw [i0_1758]; exact (owR_p hgx_1758 (hvm_1758.symm.trans (hef_1763.symm.trans (congrArg Prod.fst (Option.some.inj (hxf_1763.symm.trans (by rw [n_1764]; exact hgx_1758))))))).symm) (lv_sub hl [0, 1, 2, 3] rfl) hh
        exact loop_1758 (S9.length + 1) 0 0 en ls _ _ (Nat.le_refl _) (by omega) (by omega) hI hf0 (rfl) (lv_sub hl [0, 1, 2, 3] rfl) hh
      refine lv_tableOut (tgt := 169) hx hb dX12_closed_30 (tb_out 4 (by decide) (by decide) (fun j hj => by rcases (show j = 0 ∨ j = 1 ∨ j = 2 ∨ j = 3 by omega) with rfl | rfl | rfl | rfl <;> first | exact lv_neT q_1751_0 (by decide) | exact lv_neT q_1751_1 (by decide) | exact lv_neT q_1751_2 (by decide) | exact lv_neT q_1751_3 (by decide))) (by decide) ?_
      refine lv_aload_n hx hb dX12_closed_169 rfl (lv_at hl 1 rfl) ?_
      refine hp_get hx hb hts ix12 hown hK hh (q := 0) rfl (hI.1 _ (by decide)) es1747 rfl 27 (by decide) (hts _ tw_906) (fun _ h9 => h9) rfl dX12_closed_170 ?_
      refine lv_aload_n hx hb dX12_closed_173 rfl (lv_at hl 1 rfl) ?_
      refine hp_get hx hb hts ix12 hown hK hh (q := 0) rfl (hI.1 _ (by decide)) es1747 rfl 25 (by decide) (hts _ tw_904) (fun _ h9 => h9) rfl dX12_closed_174 ?_
      refine lv_iconst (v := 1) hx hb dX12_closed_177 (by decide) ?_
      refine lv_isub hx hb dX12_closed_178 ?_
      rw [show (1 : Int32) = nI 1 from rfl, pk_sub (a := S9.length) (b := 1) (by omega)]
      obtain ⟨f_1765, es1765⟩ := getr_ln hI
      refine hp_iald hx hb hK hh (q := 15) rfl (hI.1 _ (by decide)) es1765 (vp_in_nI (n := (S9.length - 1)) (by omega) (by decide)) dX12_closed_179 ?_
      rw [nI_clamp (n := (S9.length - 1)) (by omega)]
      exact hp_iretM hx hb hr rfl hlocks hh (⟨hI, hf0, Or.inr (Or.inr ⟨hp_1748, n25 hRC, S9, hcl9, (by rw [hdq, hmq]; exact Or.inr (Or.inr (Or.inr (Or.inr ⟨(by have a0 : N_1748 ≠ 0 := fun e => q_1751_0 (by rw [e]; rfl); have a1 : N_1748 ≠ 1 := fun e => q_1751_1 (by rw [e]; rfl); have a2 : N_1748 ≠ 2 := fun e => q_1751_2 (by rw [e]; rfl); have a3 : N_1748 ≠ 3 := fun e => q_1751_3 (by rw [e]; rfl); exact congrArg nI (show N_1748 = 4 by omega)), (by obtain ⟨x, hx9⟩ := ge_some (S := S9) (k := S9.length - 1) (by omega); rw [laS_p hx9]; exact (show (f_1765 (S9.length - 1)) = rdF (en 15) (S9.length - 1) from by rw [es1765]; rfl).trans (RC_len hRC hx9))⟩))))⟩)⟩) dX12_closed_180
    · refine lv_bipush (v := (-3)) hx hb dX12_closed_24 (by decide) ?_
      exact hp_iretM hx hb hr rfl hlocks hh (⟨hI, hf0, Or.inr (Or.inl ⟨hp_1748, (show rdI (en 0) 25 = pr from by rw [es1747]; rfl).trans c_1749, rfl⟩)⟩) dX12_closed_26
  · obtain rfl : r_1748 = 0 := Eq.trans hw_1748 (if_neg (fun q => hp_1748 ((wj_32 (by decide) (by decide)).mp q)))
    refine lv_if_ne (tgt := 15) hx hb dX12_closed_9 (by decide) (fun c_0 => absurd c_0 (by decide)) (fun _ => ?_)
    refine lv_bipush (v := (-2)) hx hb dX12_closed_12 (by decide) ?_
    exact hp_iretM hx hb hr rfl hlocks hh (⟨hI, hf0, Or.inl ⟨hp_1748, rfl⟩⟩) dX12_closed_14
theorem kw_X12_closed {R : Room} {s : State} {args : Array Value} {own : String} {idx : Nat} (hts : ∀ w ∈ TB, w.before args s = true) (hl : Cond.methodLink own idx yX12_closed ∈ TB) (hR : 2 + 1 ≤ R.frames ∧ 8 + (4 + 11) + 40 * 2 ≤ R.locals) : CallW R s args own RX12 idx yX12_closed cX12_closed 4 (some .int) (Cond.code yX12_closed cX12_closed 4 (some .int) :: TB) (rmN 2) 0 0 1 := cwV 1 hts (TB_V hl tw_1138 tw_1139 tw_9 tw_1140) rfl rfl rfl (by decide +kernel) hR
set_option maxHeartbeats 4000000 in
set_option maxRecDepth 100000 in
/-- product -/
theorem c_X12_product (l : Launch) (D : va_G) (cy : Nat → ClassId) (sz : Nat) (cs : List Nat) (ad : Nat → Nat) (en : Nat → va_E) (hI : RX cy cs ad en) (k9 a9 b9 : Int32) (hRX : RQX en)   : Met l yX12_product (Cond.code yX12_product cX12_product 4 (some .long) :: TB) (rmN 2) (va_Pc [.ref (ad 0), .int k9, .int a9, .int b9] (Pre D cy cs ad en sz)) (va_Ql (S := Unit) (fun r _ => RPD k9 a9 b9 r en) (fun _ _ => True) (Nf sz)) 0 0 (Nf sz) := by
  refine Met.ofW (cc := cX12_product) (maxL := 4) (ret := (some .long)) (by decide) rfl ?_
  intro p e s m args below meth c s₁ B hml hv
  obtain ⟨rfl, hsz, hP, hK, hD0⟩ := hv
  have hx := B.exec
  have hb := B.bytes
  have hr := B.returns
  have hts : ∀ w ∈ TB, w.before _ s = true := fun w h => atoms_spec (ws := _ :: TB) B.pre w (List.mem_cons_of_mem _ h)
  have hown : s.vm.findClass RX12 = some m.cls := findClass_of_methodNamed B.named
  have hlocks := B.notSynchronized
  have hh : Hp D (Nf sz) (fun _ => True) s.heap s.heap [] cs ad en := ⟨hP, hD0, va_S.rf⟩
  have hA : ∀ q : Nat, s.heap.size ≤ q → Nf sz q := fun q h => by rw [hsz] at h; exact h
  have hl := lv_entry ([.ref (ad 0), .int k9, .int a9, .int b9]) (n := 4) (Nat.le_of_ble_eq_true rfl)
  rw [lg_entry_eq]
  generalize (lg_sl ([.ref (ad 0), .int k9, .int a9, .int b9]) ++ List.replicate (4 - (lg_sl ([.ref (ad 0), .int k9, .int a9, .int b9])).length) Slot.unset).toArray = ls at hl ⊢
  have hl : lv_has ls 4 [(0, .ref (ad 0)), (1, .int k9), (2, .int a9), (3, .int b9)] := hl
  obtain ⟨fa, hi, wd, mo, tb, dp, many, grt, lst, nou, rm, rb, pr, wo, es1766, hwd2, hwd3, hmo, htb, hwo⟩ := getr_M hI
  refine lv_aload_n hx hb dX12_product_0 rfl (lv_at hl 0 rfl) ?_
  refine lv_iload_n hx hb dX12_product_1 rfl (lv_at hl 1 rfl) ?_
  refine hp_callRi (va_runV (As := [.int k9]) (rest := []) ⟨hx, hb, hml, hown, hts⟩ (c_X12_isProduct l D cy _ cs ad en hI k9 ) (kw_X12_isProduct hts tw_1158 ⟨by decide, by decide⟩) (preV_of hh hK (hI.1 _ (by decide)) es1766 rfl) rfl rfl hl.1 rfl (lv_room (Nat.le_of_ble_eq_true rfl)) dX12_product_2 ⟨Nat.le_of_ble_eq_true rfl, Nat.le_of_ble_eq_true rfl⟩) hh hA (fun r_1767 H locs hw_1767 hh => ?_)
  rcases Decidable.em (0 ≤ k9.toInt ∧ k9.toInt < (rdI (en 0) 25).toInt) with hp_1767 | hp_1767
  · obtain rfl : r_1767 = 1 := Eq.trans hw_1767 (if_pos hp_1767)
    obtain ⟨S_1767, K_1767, hKe_1767, hK_1767, hS2_1767, hcl_1767, hRC_1767⟩ := RQX_lt hRX rfl hp_1767
    subst hKe_1767
    refine lv_if_eq (tgt := 38) hx hb dX12_product_5 (by decide) (fun c_0 => absurd c_0 (by decide)) (fun _ => ?_)
    refine lv_aload_n hx hb dX12_product_8 rfl (lv_at hl 0 rfl) ?_
    refine lv_iload_n hx hb dX12_product_9 rfl (lv_at hl 2 rfl) ?_
    refine lv_iload_n hx hb dX12_product_10 rfl (lv_at hl 3 rfl) ?_
    refine hp_callRi (va_runV (As := [.int a9, .int b9]) (rest := []) ⟨hx, hb, hml, hown, hts⟩ (c_X12_isPlace l D cy _ cs ad en hI a9 b9 ) (kw_X12_isPlace hts tw_1011 ⟨by decide, by decide⟩) (preV_of hh hK (hI.1 _ (by decide)) es1766 rfl) rfl rfl hl.1 rfl (lv_room (Nat.le_of_ble_eq_true rfl)) dX12_product_11 ⟨Nat.le_of_ble_eq_true rfl, Nat.le_of_ble_eq_true rfl⟩) hh hA (fun r_1768 H locs hw_1768 hh => ?_)
    rw [show (rdI (en 0) 2).toInt = (wd : Int) from by rw [es1766]; exact nI_toInt (by omega)] at hw_1768
    rcases Decidable.em ((0 ≤ a9.toInt ∧ a9.toInt < (wd : Int)) ∧ 0 ≤ b9.toInt ∧ b9.toInt < (wd : Int)) with hp_1768 | hp_1768
    · obtain rfl : r_1768 = 1 := Eq.trans hw_1768 (if_pos hp_1768)
      obtain ⟨A_1768, rfl, hA_1768⟩ := has_nat hp_1768.1
      obtain ⟨B_1768, rfl, hB_1768⟩ := has_nat hp_1768.2
      refine lv_if_eq (tgt := 38) hx hb dX12_product_14 (by decide) (fun c_0 => absurd c_0 (by decide)) (fun _ => ?_)
      refine lv_aload_n hx hb dX12_product_17 rfl (lv_at hl 0 rfl) ?_
      refine hp_get hx hb hts ix12 hown hK hh (q := 0) rfl (hI.1 _ (by decide)) es1766 rfl 26 (by decide) (hts _ tw_905) (fun _ h9 => h9) rfl dX12_product_18 ?_
      refine lv_bipush (v := 9) hx hb dX12_product_21 (by decide) ?_
      refine lv_iload_n hx hb dX12_product_23 rfl (lv_at hl 1 rfl) ?_
      refine lv_imul hx hb dX12_product_24 ?_
      rw [show (9 : Int32) = nI 9 from rfl, pk_mul 9 K_1767]
      refine lv_aload_n hx hb dX12_product_25 rfl (lv_at hl 0 rfl) ?_
      refine hp_get hx hb hts ix12 hown hK hh (q := 0) rfl (hI.1 _ (by decide)) es1766 rfl 2 (by decide) (hts _ tw_881) (fun _ h9 => h9) rfl dX12_product_26 ?_
      refine lv_iload_n hx hb dX12_product_29 rfl (lv_at hl 2 rfl) ?_
      refine lv_imul hx hb dX12_product_30 ?_
      rw [pk_mul wd A_1768]
      refine lv_iadd hx hb dX12_product_31 ?_
      rw [nI_add (9 * K_1767) (wd * A_1768)]
      refine lv_iload_n hx hb dX12_product_32 rfl (lv_at hl 3 rfl) ?_
      refine lv_iadd hx hb dX12_product_33 ?_
      rw [nI_add ((9 * K_1767) + (wd * A_1768)) B_1768]
      have hi_1769 : wd * A_1768 + B_1768 < 9 := mdr (by omega) (by omega) (by omega)
      obtain ⟨f_1770, es1770⟩ := getr_pd hI
      refine hp_lald hx hb hK hh (q := 14) rfl (hI.1 _ (by decide)) es1770 (vp_in_nI (n := (((9 * K_1767) + (wd * A_1768)) + B_1768)) (by omega) (by decide)) dX12_product_34 ?_
      rw [nI_clamp (n := (((9 * K_1767) + (wd * A_1768)) + B_1768)) (by omega)]
      refine lv_goto (tgt := 41) hx hb dX12_product_35 (by decide) ?_
      have hdq : dQ en = wd := by unfold dQ; rw [show rdI (en 0) 2 = nI wd from by rw [es1766]; rfl]; exact nI_clamp (by omega)
      have hmq : mQ en = mo := by unfold mQ; rw [show rdI (en 0) 3 = nI mo from by rw [es1766]; rfl]; exact nI_clamp (by omega)
      have hkq : kQ en = tb := by unfold kQ; rw [show rdI (en 0) 4 = nI tb from by rw [es1766]; rfl]; exact nI_clamp (by omega)
      exact hp_lretR hx hb hr hlocks hsz hh (RPD_v hRC_1767 hcl_1767 (by omega) (by omega) (by omega) (by omega) (by rw [hdq]; exact (show (f_1770 (((9 * K_1767) + (wd * A_1768)) + B_1768)) = rdL (en 14) (9 * K_1767 + wd * A_1768 + B_1768) from by rw [es1770]; rfl))) dX12_product_41
    · obtain rfl : r_1768 = 0 := Eq.trans hw_1768 (if_neg hp_1768)
      refine lv_if_eq (tgt := 38) hx hb dX12_product_14 (by decide) (fun _ => ?_) (fun c_0 => absurd c_0 (by decide))
      refine lv_ldc2 hx hb hown (hts _ tw_1015) dX12_product_38 ?_
      have hdq : dQ en = wd := by unfold dQ; rw [show rdI (en 0) 2 = nI wd from by rw [es1766]; rfl]; exact nI_clamp (by omega)
      have hmq : mQ en = mo := by unfold mQ; rw [show rdI (en 0) 3 = nI mo from by rw [es1766]; rfl]; exact nI_clamp (by omega)
      have hkq : kQ en = tb := by unfold kQ; rw [show rdI (en 0) 4 = nI tb from by rw [es1766]; rfl]; exact nI_clamp (by omega)
      exact hp_lretR hx hb hr hlocks hsz hh (RPD_q hRC_1767 hcl_1767 (by rw [hdq]; exact hp_1768)) dX12_product_41
  · obtain rfl : r_1767 = 0 := Eq.trans hw_1767 (if_neg hp_1767)
    refine lv_if_eq (tgt := 38) hx hb dX12_product_5 (by decide) (fun _ => ?_) (fun c_0 => absurd c_0 (by decide))
    refine lv_ldc2 hx hb hown (hts _ tw_1015) dX12_product_38 ?_
    exact hp_lretR hx hb hr hlocks hsz hh (RPD_n hRX hp_1767) dX12_product_41
theorem kw_X12_product {R : Room} {s : State} {args : Array Value} {own : String} {idx : Nat} (hts : ∀ w ∈ TB, w.before args s = true) (hl : Cond.methodLink own idx yX12_product ∈ TB) (hR : 2 + 1 ≤ R.frames ∧ 8 + (4 + 11) + 40 * 2 ≤ R.locals) : CallW R s args own RX12 idx yX12_product cX12_product 4 (some .long) (Cond.code yX12_product cX12_product 4 (some .long) :: TB) (rmN 2) 0 0 3 := cwV 3 hts (TB_V hl tw_1155 tw_1156 tw_9 tw_1157) rfl rfl rfl (by decide +kernel) hR
set_option maxHeartbeats 4000000 in
set_option maxRecDepth 100000 in
/-- times -/
theorem c_X12_times (l : Launch) (D : va_G) (cy : Nat → ClassId) (sz : Nat) (cs : List Nat) (ad : Nat → Nat) (en : Nat → va_E) (hI : RX cy cs ad en) (k9 j9 : Int32) (hRX : RQX en)   : Met l yX12_times (Cond.code yX12_times cX12_times 3 (some .int) :: TB) (rmN 2) (va_Pc [.ref (ad 0), .int k9, .int j9] (Pre D cy cs ad en sz)) (va_Qi (S := Nat → va_E) (fun r en1 => RX cy cs ad en1 ∧ (∀ c, (c ≠ 6) → en1 c = en c) ∧ RTM k9 j9 r en) (PostM D cs ad) (Af cs ad sz)) 0 0 (Af cs ad sz) := by
  refine Met.ofW (cc := cX12_times) (maxL := 3) (ret := (some .int)) (by decide) rfl ?_
  intro p e s m args below meth c s₁ B hml hv
  obtain ⟨rfl, hsz, hP, hK, hD0⟩ := hv
  have hx := B.exec
  have hb := B.bytes
  have hr := B.returns
  have hts : ∀ w ∈ TB, w.before _ s = true := fun w h => atoms_spec (ws := _ :: TB) B.pre w (List.mem_cons_of_mem _ h)
  have hown : s.vm.findClass RX12 = some m.cls := findClass_of_methodNamed B.named
  have hlocks := B.notSynchronized
  have hh : Hp D (Af cs ad sz) (Af cs ad sz) s.heap s.heap [] cs ad en := ⟨hP, Af_self hD0, va_S.rf⟩
  have hA : ∀ q : Nat, s.heap.size ≤ q → Af cs ad sz q := fun q h => Or.inr (by rw [hsz] at h; exact h)
  have hl := lv_entry ([.ref (ad 0), .int k9, .int j9]) (n := 3) (Nat.le_of_ble_eq_true rfl)
  rw [lg_entry_eq]
  generalize (lg_sl ([.ref (ad 0), .int k9, .int j9]) ++ List.replicate (3 - (lg_sl ([.ref (ad 0), .int k9, .int j9])).length) Slot.unset).toArray = ls at hl ⊢
  have hl : lv_has ls 3 [(0, .ref (ad 0)), (1, .int k9), (2, .int j9)] := hl
  have hf0 : ∀ c, (c ≠ 6) → en c = en c := fun _ _ => rfl
  obtain ⟨fa, hi, wd, mo, tb, dp, many, grt, lst, nou, rm, rb, pr, wo, es1771, hwd2, hwd3, hmo, htb, hwo⟩ := getr_M hI
  refine lv_aload_n hx hb dX12_times_0 rfl (lv_at hl 0 rfl) ?_
  refine lv_iload_n hx hb dX12_times_1 rfl (lv_at hl 1 rfl) ?_
  refine hp_callRi (va_runV (As := [.int k9]) (rest := []) ⟨hx, hb, hml, hown, hts⟩ (c_X12_isProduct l D cy _ cs ad en hI k9 ) (kw_X12_isProduct hts tw_1158 ⟨by decide, by decide⟩) (preV_of hh hK (hI.1 _ (by decide)) es1771 rfl) rfl rfl hl.1 rfl (lv_room (Nat.le_of_ble_eq_true rfl)) dX12_times_2 ⟨Nat.le_of_ble_eq_true rfl, Nat.le_of_ble_eq_true rfl⟩) hh hA (fun r_1772 H locs hw_1772 hh => ?_)
  rcases Decidable.em (0 ≤ k9.toInt ∧ k9.toInt < (rdI (en 0) 25).toInt) with hp_1772 | hp_1772
  · obtain rfl : r_1772 = 1 := Eq.trans hw_1772 (if_pos hp_1772)
    obtain ⟨S_1772, K_1772, hKe_1772, hK_1772, hS2_1772, hcl_1772, hRC_1772⟩ := RQX_lt hRX rfl hp_1772
    subst hKe_1772
    refine lv_if_eq (tgt := 16) hx hb dX12_times_5 (by decide) (fun c_0 => absurd c_0 (by decide)) (fun _ => ?_)
    refine lv_aload_n hx hb dX12_times_8 rfl (lv_at hl 0 rfl) ?_
    refine lv_iload_n hx hb dX12_times_9 rfl (lv_at hl 2 rfl) ?_
    refine hp_callRi (va_runV (As := [.int j9]) (rest := []) ⟨hx, hb, hml, hown, hts⟩ (c_X12_isProduct l D cy _ cs ad en hI j9 ) (kw_X12_isProduct hts tw_1158 ⟨by decide, by decide⟩) (preV_of hh hK (hI.1 _ (by decide)) es1771 rfl) rfl rfl hl.1 rfl (lv_room (Nat.le_of_ble_eq_true rfl)) dX12_times_10 ⟨Nat.le_of_ble_eq_true rfl, Nat.le_of_ble_eq_true rfl⟩) hh hA (fun r_1773 H locs hw_1773 hh => ?_)
    rcases Decidable.em (0 ≤ j9.toInt ∧ j9.toInt < (rdI (en 0) 25).toInt) with hp_1773 | hp_1773
    · obtain rfl : r_1773 = 1 := Eq.trans hw_1773 (if_pos hp_1773)
      obtain ⟨K_1773, hKe_1773, hK_1773⟩ := has_nat (c := S_1772.length) ⟨hp_1773.1, by have h9 := hp_1773.2; rw [hRC_1772.1, nI_toInt (by omega)] at h9; exact h9⟩
      subst hKe_1773
      refine lv_if_ne (tgt := 18) hx hb dX12_times_13 (by decide) (fun _ => ?_) (fun c_0 => absurd c_0 (by decide))
      obtain ⟨x_1, hgx_1⟩ := ge_some (S := S_1772) (k := K_1772) (by omega)
      obtain ⟨x_2, hgx_2⟩ := ge_some (S := S_1772) (k := K_1773) (by omega)
      refine lv_aload_n hx hb dX12_times_18 rfl (lv_at hl 0 rfl) ?_
      refine lv_iload_n hx hb dX12_times_19 rfl (lv_at hl 1 rfl) ?_
      refine lv_iload_n hx hb dX12_times_20 rfl (lv_at hl 2 rfl) ?_
      refine hp_callMv (va_runV (As := [.int (nI K_1772), .int (nI K_1773)]) (rest := []) ⟨hx, hb, hml, hown, hts⟩ (c_X12_multiply l D cy _ cs ad en hI K_1772 K_1773 (by omega) (by omega)) (kw_X12_multiply hts tw_1150 ⟨by decide, by decide⟩) (preV_of hh hK (hI.1 _ (by decide)) es1771 rfl) rfl rfl hl.1 rfl (lv_room (Nat.le_of_ble_eq_true rfl)) dX12_times_21 ⟨Nat.le_of_ble_eq_true rfl, Nat.le_of_ble_eq_true rfl⟩) hh hA (fun H locs en_1774 hw_1774 hh => ?_)
      obtain ⟨hI_1774, hu_1774, hx_1774⟩ := hw_1774
      have es1771_1774 : en_1774 0 = .inr (11, [.int fa, .int hi, .int (nI wd), .int (nI mo), .int (nI tb), .ref (ad 1), .ref (ad 2), .ref (ad 3), .ref (ad 4), .ref (ad 5), .ref (ad 6), .ref (ad 7), .ref (ad 8), .ref (ad 9), .int dp, .long many, .long grt, .long lst, .long nou, .ref (ad 10), .ref (ad 11), .ref (ad 12), .int rm, .long rb, .ref (ad 13), .int pr, .ref (ad 14), .ref (ad 15), .ref (ad 16), .ref (ad 17), .int (nI wo), .ref (ad 18), .ref (ad 19)]) := (hu_1774 0 (by omega)).trans es1771
      have hf_1774 : ∀ c, (c ≠ 6) → en_1774 c = en c := fun c hc => (hu_1774 c (by omega)).trans (hf0 c hc)
      have hRC_1774 := RC_k (e1 := en_1774) hRC_1772 (by rw [hu_1774 0 (by omega)]) (hu_1774 14 (by omega)) (hu_1774 15 (by omega)) (hu_1774 16 (by omega)) (hu_1774 17 (by omega))
      have hvm : vec (dQ en * dQ en) (lvl 1 en_1774) = vec (dQ en * dQ en) (muV (dQ en) (mQ en) (vg x_1.1) (vg x_2.1)) := MU_v rfl rfl hRC_1772 hgx_1 hgx_2 hx_1774
      refine lv_aload_n hx hb dX12_times_24 rfl (lv_at hl 0 rfl) ?_
      refine lv_iconst (v := 1) hx hb dX12_times_25 (by decide) ?_
      refine hp_callRi (va_runV (As := [.int 1]) (rest := []) ⟨hx, hb, hml, hown, hts⟩ (c_X12_findAt l D cy _ cs ad en_1774 hI_1774 1 (by omega) (dQ en * dQ en) (show dQ en * dQ en = dQ en_1774 * dQ en_1774 from by unfold dQ; rw [hf_1774 0 (by omega)]) S_1772 hRC_1774) (kw_X12_findAt hts tw_1123 ⟨by decide, by decide⟩) (preV_of hh hK (hI.1 _ (by decide)) es1771_1774 rfl) rfl rfl hl.1 rfl (lv_room (Nat.le_of_ble_eq_true rfl)) dX12_times_26 ⟨Nat.le_of_ble_eq_true rfl, Nat.le_of_ble_eq_true rfl⟩) hh hA (fun r_1775 H locs hw_1775 hh => ?_)
      rw [hvm] at hw_1775
      exact hp_iretM hx hb hr rfl hlocks hh (⟨hI_1774, hf_1774, RTM_v hRC_1772 hcl_1772 hgx_1 hgx_2 hw_1775⟩) dX12_times_29
    · obtain rfl : r_1773 = 0 := Eq.trans hw_1773 (if_neg hp_1773)
      refine lv_if_ne (tgt := 18) hx hb dX12_times_13 (by decide) (fun c_0 => absurd c_0 (by decide)) (fun _ => ?_)
      refine lv_iconst (v := (-1)) hx hb dX12_times_16 (by decide) ?_
      exact hp_iretM hx hb hr rfl hlocks hh (⟨hI, hf0, RTM_q hRX hp_1773⟩) dX12_times_17
  · obtain rfl : r_1772 = 0 := Eq.trans hw_1772 (if_neg hp_1772)
    refine lv_if_eq (tgt := 16) hx hb dX12_times_5 (by decide) (fun _ => ?_) (fun c_0 => absurd c_0 (by decide))
    refine lv_iconst (v := (-1)) hx hb dX12_times_16 (by decide) ?_
    exact hp_iretM hx hb hr rfl hlocks hh (⟨hI, hf0, RTM_n hRX hp_1772⟩) dX12_times_17
theorem kw_X12_times {R : Room} {s : State} {args : Array Value} {own : String} {idx : Nat} (hts : ∀ w ∈ TB, w.before args s = true) (hl : Cond.methodLink own idx yX12_times ∈ TB) (hR : 2 + 1 ≤ R.frames ∧ 8 + (3 + 11) + 40 * 2 ≤ R.locals) : CallW R s args own RX12 idx yX12_times cX12_times 3 (some .int) (Cond.code yX12_times cX12_times 3 (some .int) :: TB) (rmN 2) 0 0 2 := cwV 2 hts (TB_V hl tw_1163 tw_1164 tw_9 tw_1165) rfl rfl rfl (by decide +kernel) hR
set_option maxHeartbeats 4000000 in
set_option maxRecDepth 100000 in
/-- multiplyOut -/
theorem c_X12_multiplyOut (l : Launch) (D : va_G) (cy : Nat → ClassId) (sz : Nat) (cs : List Nat) (ad : Nat → Nat) (en : Nat → va_E) (hI : RX cy cs ad en) (w9 : Nat) (hw9 : w9 < 10)   : Met l yX12_multiplyOut (Cond.code yX12_multiplyOut cX12_multiplyOut 3 none :: TB) (rmN 2) (va_Pc [.ref (ad 0), .int (nI w9)] (Pre D cy cs ad en sz)) (va_Qv (S := Nat → va_E) (fun en1 => RX cy cs ad en1 ∧ (∀ c, (c ≠ 6) → en1 c = en c) ∧ MLT w9 en en1) (PostM D cs ad) (Af cs ad sz)) 0 0 (Af cs ad sz) := by
  refine Met.ofW (cc := cX12_multiplyOut) (maxL := 3) (ret := none) (by decide) rfl ?_
  intro p e s m args below meth c s₁ B hml hv
  obtain ⟨rfl, hsz, hP, hK, hD0⟩ := hv
  have hx := B.exec
  have hb := B.bytes
  have hr := B.returns
  have hts : ∀ w ∈ TB, w.before _ s = true := fun w h => atoms_spec (ws := _ :: TB) B.pre w (List.mem_cons_of_mem _ h)
  have hown : s.vm.findClass RX12 = some m.cls := findClass_of_methodNamed B.named
  have hlocks := B.notSynchronized
  have hh : Hp D (Af cs ad sz) (Af cs ad sz) s.heap s.heap [] cs ad en := ⟨hP, Af_self hD0, va_S.rf⟩
  have hA : ∀ q : Nat, s.heap.size ≤ q → Af cs ad sz q := fun q h => Or.inr (by rw [hsz] at h; exact h)
  have hl := lv_entry ([.ref (ad 0), .int (nI w9)]) (n := 3) (Nat.le_of_ble_eq_true rfl)
  rw [lg_entry_eq]
  generalize (lg_sl ([.ref (ad 0), .int (nI w9)]) ++ List.replicate (3 - (lg_sl ([.ref (ad 0), .int (nI w9)])).length) Slot.unset).toArray = ls at hl ⊢
  have hl : lv_has ls 3 [(0, .ref (ad 0)), (1, .int (nI w9))] := hl
  have hf0 : ∀ c, (c ≠ 6) → en c = en c := fun _ _ => rfl
  obtain ⟨fa, hi, wd, mo, tb, dp, many, grt, lst, nou, rm, rb, pr, wo, es1776, hwd2, hwd3, hmo, htb, hwo⟩ := getr_M hI
  obtain ⟨f_1777, es1777, p0_1777⟩ := getr_lt hI
  obtain ⟨f_1778, es1778, p0_1778⟩ := getr_wl hI
  refine lv_aload_n hx hb dX12_multiplyOut_0 rfl (lv_at hl 0 rfl) ?_
  refine hp_callMv (va_runV (As := []) (rest := []) ⟨hx, hb, hml, hown, hts⟩ (c_X12_beginLevels l D cy _ cs ad en hI  ) (kw_X12_beginLevels hts tw_1042 ⟨by decide, by decide⟩) (preV_of hh hK (hI.1 _ (by decide)) es1776 rfl) rfl rfl hl.1 rfl (lv_room (Nat.le_of_ble_eq_true rfl)) dX12_multiplyOut_1 ⟨Nat.le_of_ble_eq_true rfl, Nat.le_of_ble_eq_true rfl⟩) hh hA (fun H locs en_1779 hw_1779 hh => ?_)
  obtain ⟨hI_1779, hu_1779, hx_1779⟩ := hw_1779
  have es1776_1779 : en_1779 0 = .inr (11, [.int fa, .int hi, .int (nI wd), .int (nI mo), .int (nI tb), .ref (ad 1), .ref (ad 2), .ref (ad 3), .ref (ad 4), .ref (ad 5), .ref (ad 6), .ref (ad 7), .ref (ad 8), .ref (ad 9), .int dp, .long many, .long grt, .long lst, .long nou, .ref (ad 10), .ref (ad 11), .ref (ad 12), .int rm, .long rb, .ref (ad 13), .int pr, .ref (ad 14), .ref (ad 15), .ref (ad 16), .ref (ad 17), .int (nI wo), .ref (ad 18), .ref (ad 19)]) := (hu_1779 0 (by omega)).trans es1776
  have es1777_1779 : en_1779 18 = .inl (cy 0, 120, .inl f_1777) := (hu_1779 18 (by omega)).trans es1777
  have es1778_1779 : en_1779 19 = .inl (cy 0, 10, .inl f_1778) := (hu_1779 19 (by omega)).trans es1778
  have hf_1779 : ∀ c, (c ≠ 6) → en_1779 c = en c := fun c hc => (hu_1779 c (by omega)).trans (hf0 c hc)
  refine lv_iconst (v := 0) hx hb dX12_multiplyOut_4 (by decide) ?_
  refine lv_istore_n (lv' := [(2, .int 0), (0, .ref (ad 0)), (1, .int (nI w9))]) hx hb dX12_multiplyOut_5 rfl hl (by decide) rfl (fun ls hl => ?_)
  obtain ⟨v_1780, hv_1780, hfv_1780⟩ := p0_1778 w9 (by omega)
  have loop_1781 : ∀ (fu j1781 : Nat)  (en_1781 : Nat → va_E) (ls : Array Slot) (H : Heap) (locs : List Loc), 0 ≤ j1781 → j1781 ≤ v_1780 → v_1780 < j1781 + fu → RX cy cs ad en_1781 → (∀ c, (c ≠ 6) → en_1781 c = en c) → (∀ i, i < wd * wd → rdL (en_1781 6) (9 * j1781 + i) = prM wd mo (rdF (en 1)) (fun x => (rdF (en 18) (12 * w9 + x)).toNatClampNeg) j1781 i) → lv_has ls 3 [(2, .int (nI j1781)), (0, .ref (ad 0)), (1, .int (nI w9))] → Hp D (Af cs ad sz) (Af cs ad sz) s.heap H locs cs ad en_1781 → W p l e (headSpec (Cond.code yX12_multiplyOut cX12_multiplyOut 3 none :: TB) (rmN 2)).room s m ([.ref (ad 0), .int (nI w9)] : List Value).toArray below meth c H locs 0 0 (MQ below (va_Qv (S := Nat → va_E) (fun en1 => RX cy cs ad en1 ∧ (∀ c, (c ≠ 6) → en1 c = en c) ∧ MLT w9 en en1) (PostM D cs ad) (Af cs ad sz)) ([.ref (ad 0), .int (nI w9)] : List Value).toArray s 0 0 (Af cs ad sz)) (F0 m 6 ls []) := by
    intro fu
    induction fu with
    | zero => intro j1781  en_1781 ls H locs h0 h1 h2; exact absurd h2 (by omega)
    | succ fu ih_1781 =>
      intro j1781  en_1781 ls H locs hj0_1781 hj_1781 hfu_1781 hI_1781 hf_1781 i0_1781 hl hh
      refine lv_iload_n hx hb dX12_multiplyOut_6 rfl (lv_at hl 0 rfl) ?_
      refine lv_aload_n hx hb dX12_multiplyOut_7 rfl (lv_at hl 1 rfl) ?_
      have es1776_1782 : en_1781 0 = .inr (11, [.int fa, .int hi, .int (nI wd), .int (nI mo), .int (nI tb), .ref (ad 1), .ref (ad 2), .ref (ad 3), .ref (ad 4), .ref (ad 5), .ref (ad 6), .ref (ad 7), .ref (ad 8), .ref (ad 9), .int dp, .long many, .long grt, .long lst, .long nou, .ref (ad 10), .ref (ad 11), .ref (ad 12), .int rm, .long rb, .ref (ad 13), .int pr, .ref (ad 14), .ref (ad 15), .ref (ad 16), .ref (ad 17), .int (nI wo), .ref (ad 18), .ref (ad 19)]) := (hf_1781 0 (by omega)).trans es1776
      refine hp_get hx hb hts ix12 hown hK hh (q := 0) rfl (hI.1 _ (by decide)) es1776_1782 rfl 32 (by decide) (hts _ tw_911) (fun _ h9 => h9) rfl dX12_multiplyOut_8 ?_
      refine lv_iload_n hx hb dX12_multiplyOut_11 rfl (lv_at hl 2 rfl) ?_
      have es1778_1783 : en_1781 19 = .inl (cy 0, 10, .inl f_1778) := (hf_1781 19 (by omega)).trans es1778
      refine hp_iald hx hb hK hh (q := 19) rfl (hI.1 _ (by decide)) es1778_1783 (vp_in_nI (n := w9) (by omega) (by decide)) dX12_multiplyOut_12 ?_
      rw [nI_clamp (n := w9) (by omega)]
      rw [hfv_1780]
      refine lv_icmp_ge (tgt := 38) hx hb dX12_multiplyOut_13 (by decide) (fun c_1784 => ?_) (fun c_1784 => ?_)
      · have n_1784 : v_1780 ≤ j1781 := n_le (a := v_1780) (b := j1781) c_1784 (by omega) (by omega)
        have hq2 : (rdI (en 0) 2).toNatClampNeg = wd := by rw [show rdI (en 0) 2 = nI wd from by rw [es1776]; rfl]; exact nI_clamp (by omega)
        have hq3 : (rdI (en 0) 3).toNatClampNeg = mo := by rw [show rdI (en 0) 3 = nI mo from by rw [es1776]; rfl]; exact nI_clamp (by omega)
        have hq9 : (rdF (en 19) w9).toNatClampNeg = v_1780 := by rw [show rdF (en 19) = f_1778 from by rw [es1778]; rfl, hfv_1780]; exact nI_clamp (by omega)
        exact hp_vretM hx hb hr hlocks hh (⟨hI_1781, hf_1781, (fun i hi => by rw [hq2] at hi; rw [hq2, hq3, hq9]; have e9 : j1781 = v_1780 := (by omega); have h9 := i0_1781 i hi; rw [e9] at h9; exact h9)⟩) dX12_multiplyOut_38
      · have n_1784 : j1781 < v_1780 := n_nle (a := v_1780) (b := j1781) c_1784 (by omega) (by omega)
        refine lv_aload_n hx hb dX12_multiplyOut_16 rfl (lv_at hl 1 rfl) ?_
        refine lv_iload_n hx hb dX12_multiplyOut_17 rfl (lv_at hl 0 rfl) ?_
        refine lv_aload_n hx hb dX12_multiplyOut_18 rfl (lv_at hl 1 rfl) ?_
        refine hp_get hx hb hts ix12 hown hK hh (q := 0) rfl (hI.1 _ (by decide)) es1776_1782 rfl 31 (by decide) (hts _ tw_910) (fun _ h9 => h9) rfl dX12_multiplyOut_19 ?_
        refine lv_bipush (v := 12) hx hb dX12_multiplyOut_22 (by decide) ?_
        refine lv_iload_n hx hb dX12_multiplyOut_24 rfl (lv_at hl 2 rfl) ?_
        refine lv_imul hx hb dX12_multiplyOut_25 ?_
        rw [show (12 : Int32) = nI 12 from rfl, pk_mul 12 w9]
        refine lv_iload_n hx hb dX12_multiplyOut_26 rfl (lv_at hl 0 rfl) ?_
        refine lv_iadd hx hb dX12_multiplyOut_27 ?_
        rw [nI_add (12 * w9) j1781]
        have es1777_1785 : en_1781 18 = .inl (cy 0, 120, .inl f_1777) := (hf_1781 18 (by omega)).trans es1777
        refine hp_iald hx hb hK hh (q := 18) rfl (hI.1 _ (by decide)) es1777_1785 (vp_in_nI (n := ((12 * w9) + j1781)) (by omega) (by decide)) dX12_multiplyOut_28 ?_
        rw [nI_clamp (n := ((12 * w9) + j1781)) (by omega)]
        obtain ⟨v_1786, hv_1786, hfv_1786⟩ := p0_1777 ((12 * w9) + j1781) (by omega)
        rw [hfv_1786]
        refine hp_callMv (va_runV (As := [.int (nI j1781), .int (nI v_1786)]) (rest := []) ⟨hx, hb, hml, hown, hts⟩ (c_X12_goOn l D cy _ cs ad en_1781 hI_1781 j1781 v_1786 (by omega) (by omega)) (kw_X12_goOn hts tw_1050 ⟨by decide, by decide⟩) (preV_of hh hK (hI.1 _ (by decide)) es1776_1782 rfl) rfl rfl hl.1 rfl (lv_room (Nat.le_of_ble_eq_true rfl)) dX12_multiplyOut_29 ⟨Nat.le_of_ble_eq_true rfl, Nat.le_of_ble_eq_true rfl⟩) hh hA (fun H locs en_1787 hw_1787 hh => ?_)
        obtain ⟨hI_1787, hu_1787, hx_1787⟩ := hw_1787
        have es1776_1787 : en_1787 0 = .inr (11, [.int fa, .int hi, .int (nI wd), .int (nI mo), .int (nI tb), .ref (ad 1), .ref (ad 2), .ref (ad 3), .ref (ad 4), .ref (ad 5), .ref (ad 6), .ref (ad 7), .ref (ad 8), .ref (ad 9), .int dp, .long many, .long grt, .long lst, .long nou, .ref (ad 10), .ref (ad 11), .ref (ad 12), .int rm, .long rb, .ref (ad 13), .int pr, .ref (ad 14), .ref (ad 15), .ref (ad 16), .ref (ad 17), .int (nI wo), .ref (ad 18), .ref (ad 19)]) := (hu_1787 0 (by omega)).trans es1776_1782
        have es1778_1787 : en_1787 19 = .inl (cy 0, 10, .inl f_1778) := (hu_1787 19 (by omega)).trans es1778_1783
        have es1777_1787 : en_1787 18 = .inl (cy 0, 120, .inl f_1777) := (hu_1787 18 (by omega)).trans es1777_1785
        have hf_1787 : ∀ c, (c ≠ 6) → en_1787 c = en c := fun c hc => (hu_1787 c (by omega)).trans (hf_1781 c hc)
        refine lv_iinc (v := (nI (j1781 + 1))) (lv' := [(2, .int (nI (j1781 + 1))), (0, .ref (ad 0)), (1, .int (nI w9))]) hx hb dX12_multiplyOut_32 hl (k := 0) rfl (nI_1 _) (by decide) rfl (fun ls hl => ?_)
        refine lv_goto (tgt := 6) hx hb dX12_multiplyOut_35 (by decide) ?_
        exact ih_1781 ((j1781 + 1))  en_1787 ls H locs (by omega) (by omega) (by omega) hI_1787 hf_1787 (fun i hi => by have h9 := hx_1787 (9 * (j1781 + 1) + i); rw [show (rdI (en_1781 0) 2).toNatClampNeg = wd from by rw [hf_1781 0 (by omega), show rdI (en 0) 2 = nI wd from by rw [es1776]; rfl]; exact nI_clamp (by omega), show (rdI (en_1781 0) 3).toNatClampNeg = mo from by rw [hf_1781 0 (by omega), show rdI (en 0) 3 = nI mo from by rw [es1776]; rfl]; exact nI_clamp (by omega), if_pos (by omega), show 9 * (j1781 + 1) + i - (9 * j1781 + 9) = i by omega, show rdF (en_1781 1) = rdF (en 1) from by rw [hf_1781 1 (by omega)]] at h9; rw [h9]; exact prM_s i0_1781 (by show (rdF (en 18) (12 * w9 + j1781)).toNatClampNeg = v_1786; rw [show rdF (en 18) = f_1777 from by rw [es1777]; rfl, hfv_1786]; exact nI_clamp (by omega)) hi) (lv_sub hl [0, 1, 2] rfl) hh
  exact loop_1781 (v_1780 + 1) 0  en_1779 ls _ _ (Nat.le_refl _) (by omega) (by omega) hI_1779 hf_1779 (fun i hi => by have h9 := hx_1779 (9 * 0 + i); rw [show (rdI (en 0) 2).toNatClampNeg = wd from by rw [show rdI (en 0) 2 = nI wd from by rw [es1776]; rfl]; exact nI_clamp (by omega), if_pos (by omega), show 9 * 0 + i - 0 = i by omega] at h9; exact h9) (lv_sub hl [0, 1, 2] rfl) hh
theorem kw_X12_multiplyOut {R : Room} {s : State} {args : Array Value} {own : String} {idx : Nat} (hts : ∀ w ∈ TB, w.before args s = true) (hl : Cond.methodLink own idx yX12_multiplyOut ∈ TB) (hR : 2 + 1 ≤ R.frames ∧ 8 + (3 + 11) + 40 * 2 ≤ R.locals) : CallW R s args own RX12 idx yX12_multiplyOut cX12_multiplyOut 3 none (Cond.code yX12_multiplyOut cX12_multiplyOut 3 none :: TB) (rmN 2) 0 0 1 := cwV 1 hts (TB_V hl tw_1193 ts_59 tw_9 tw_1194) rfl rfl rfl (by decide +kernel) hR
set_option maxHeartbeats 4000000 in
set_option maxRecDepth 100000 in
/-- entryOf -/
theorem c_X12_entryOf (l : Launch) (D : va_G) (cy : Nat → ClassId) (sz : Nat) (cs : List Nat) (ad : Nat → Nat) (en : Nat → va_E) (hI : RX cy cs ad en) (w9 a9 b9 : Int32)   : Met l yX12_entryOf (Cond.code yX12_entryOf cX12_entryOf 4 (some .long) :: TB) (rmN 3) (va_Pc [.ref (ad 0), .int w9, .int a9, .int b9] (Pre D cy cs ad en sz)) (va_Ql (S := Nat → va_E) (fun r en1 => RX cy cs ad en1 ∧ (∀ c, (c ≠ 6) → en1 c = en c) ∧ REO w9 a9 b9 r en) (PostM D cs ad) (Af cs ad sz)) 0 0 (Af cs ad sz) := by
  refine Met.ofW (cc := cX12_entryOf) (maxL := 4) (ret := (some .long)) (by decide) rfl ?_
  intro p e s m args below meth c s₁ B hml hv
  obtain ⟨rfl, hsz, hP, hK, hD0⟩ := hv
  have hx := B.exec
  have hb := B.bytes
  have hr := B.returns
  have hts : ∀ w ∈ TB, w.before _ s = true := fun w h => atoms_spec (ws := _ :: TB) B.pre w (List.mem_cons_of_mem _ h)
  have hown : s.vm.findClass RX12 = some m.cls := findClass_of_methodNamed B.named
  have hlocks := B.notSynchronized
  have hh : Hp D (Af cs ad sz) (Af cs ad sz) s.heap s.heap [] cs ad en := ⟨hP, Af_self hD0, va_S.rf⟩
  have hA : ∀ q : Nat, s.heap.size ≤ q → Af cs ad sz q := fun q h => Or.inr (by rw [hsz] at h; exact h)
  have hl := lv_entry ([.ref (ad 0), .int w9, .int a9, .int b9]) (n := 4) (Nat.le_of_ble_eq_true rfl)
  rw [lg_entry_eq]
  generalize (lg_sl ([.ref (ad 0), .int w9, .int a9, .int b9]) ++ List.replicate (4 - (lg_sl ([.ref (ad 0), .int w9, .int a9, .int b9])).length) Slot.unset).toArray = ls at hl ⊢
  have hl : lv_has ls 4 [(0, .ref (ad 0)), (1, .int w9), (2, .int a9), (3, .int b9)] := hl
  have hf0 : ∀ c, (c ≠ 6) → en c = en c := fun _ _ => rfl
  obtain ⟨fa, hi, wd, mo, tb, dp, many, grt, lst, nou, rm, rb, pr, wo, es1788, hwd2, hwd3, hmo, htb, hwo⟩ := getr_M hI
  obtain ⟨f_1789, es1789, p0_1789⟩ := getr_wl hI
  refine lv_aload_n hx hb dX12_entryOf_0 rfl (lv_at hl 0 rfl) ?_
  refine lv_iload_n hx hb dX12_entryOf_1 rfl (lv_at hl 1 rfl) ?_
  refine hp_callRi (va_runV (As := [.int w9]) (rest := []) ⟨hx, hb, hml, hown, hts⟩ (c_X12_isWord l D cy _ cs ad en hI w9 ) (kw_X12_isWord hts tw_1175 ⟨by decide, by decide⟩) (preV_of hh hK (hI.1 _ (by decide)) es1788 rfl) rfl rfl hl.1 rfl (lv_room (Nat.le_of_ble_eq_true rfl)) dX12_entryOf_2 ⟨Nat.le_of_ble_eq_true rfl, Nat.le_of_ble_eq_true rfl⟩) hh hA (fun r_1790 H locs hw_1790 hh => ?_)
  rw [show rdI (en 0) 30 = (nI wo) from by rw [es1788]; rfl, nI_toInt (n := wo) (by omega)] at hw_1790
  rcases Decidable.em (0 ≤ w9.toInt ∧ w9.toInt < (wo : Int)) with hp_1790 | hp_1790
  · obtain rfl : r_1790 = 1 := Eq.trans hw_1790 (if_pos hp_1790)
    obtain ⟨T_1790, rfl, hT_1790⟩ := has_nat hp_1790
    refine lv_if_eq (tgt := 17) hx hb dX12_entryOf_5 (by decide) (fun c_0 => absurd c_0 (by decide)) (fun _ => ?_)
    refine lv_aload_n hx hb dX12_entryOf_8 rfl (lv_at hl 0 rfl) ?_
    refine lv_iload_n hx hb dX12_entryOf_9 rfl (lv_at hl 2 rfl) ?_
    refine lv_iload_n hx hb dX12_entryOf_10 rfl (lv_at hl 3 rfl) ?_
    refine hp_callRi (va_runV (As := [.int a9, .int b9]) (rest := []) ⟨hx, hb, hml, hown, hts⟩ (c_X12_isPlace l D cy _ cs ad en hI a9 b9 ) (kw_X12_isPlace hts tw_1011 ⟨by decide, by decide⟩) (preV_of hh hK (hI.1 _ (by decide)) es1788 rfl) rfl rfl hl.1 rfl (lv_room (Nat.le_of_ble_eq_true rfl)) dX12_entryOf_11 ⟨Nat.le_of_ble_eq_true rfl, Nat.le_of_ble_eq_true rfl⟩) hh hA (fun r_1791 H locs hw_1791 hh => ?_)
    rw [show (rdI (en 0) 2).toInt = (wd : Int) from by rw [es1788]; exact nI_toInt (by omega)] at hw_1791
    rcases Decidable.em ((0 ≤ a9.toInt ∧ a9.toInt < (wd : Int)) ∧ 0 ≤ b9.toInt ∧ b9.toInt < (wd : Int)) with hp_1791 | hp_1791
    · obtain rfl : r_1791 = 1 := Eq.trans hw_1791 (if_pos hp_1791)
      obtain ⟨A_1791, rfl, hA_1791⟩ := has_nat hp_1791.1
      obtain ⟨B_1791, rfl, hB_1791⟩ := has_nat hp_1791.2
      refine lv_if_ne (tgt := 21) hx hb dX12_entryOf_14 (by decide) (fun _ => ?_) (fun c_0 => absurd c_0 (by decide))
      refine lv_aload_n hx hb dX12_entryOf_21 rfl (lv_at hl 0 rfl) ?_
      refine lv_iload_n hx hb dX12_entryOf_22 rfl (lv_at hl 1 rfl) ?_
      refine hp_callMv (va_runV (As := [.int (nI T_1790)]) (rest := []) ⟨hx, hb, hml, hown, hts⟩ (c_X12_multiplyOut l D cy _ cs ad en hI T_1790 (by omega)) (kw_X12_multiplyOut hts tw_1191 ⟨by decide, by decide⟩) (preV_of hh hK (hI.1 _ (by decide)) es1788 rfl) rfl rfl hl.1 rfl (lv_room (Nat.le_of_ble_eq_true rfl)) dX12_entryOf_23 ⟨Nat.le_of_ble_eq_true rfl, Nat.le_of_ble_eq_true rfl⟩) hh hA (fun H locs en_1792 hw_1792 hh => ?_)
      obtain ⟨hI_1792, hu_1792, hx_1792⟩ := hw_1792
      have es1788_1792 : en_1792 0 = .inr (11, [.int fa, .int hi, .int (nI wd), .int (nI mo), .int (nI tb), .ref (ad 1), .ref (ad 2), .ref (ad 3), .ref (ad 4), .ref (ad 5), .ref (ad 6), .ref (ad 7), .ref (ad 8), .ref (ad 9), .int dp, .long many, .long grt, .long lst, .long nou, .ref (ad 10), .ref (ad 11), .ref (ad 12), .int rm, .long rb, .ref (ad 13), .int pr, .ref (ad 14), .ref (ad 15), .ref (ad 16), .ref (ad 17), .int (nI wo), .ref (ad 18), .ref (ad 19)]) := (hu_1792 0 (by omega)).trans es1788
      have es1789_1792 : en_1792 19 = .inl (cy 0, 10, .inl f_1789) := (hu_1792 19 (by omega)).trans es1789
      have hf_1792 : ∀ c, (c ≠ 6) → en_1792 c = en c := fun c hc => (hu_1792 c (by omega)).trans (hf0 c hc)
      refine lv_aload_n hx hb dX12_entryOf_26 rfl (lv_at hl 0 rfl) ?_
      refine hp_get hx hb hts ix12 hown hK hh (q := 0) rfl (hI.1 _ (by decide)) es1788_1792 rfl 10 (by decide) (hts _ tw_889) (fun _ h9 => h9) rfl dX12_entryOf_27 ?_
      refine lv_bipush (v := 9) hx hb dX12_entryOf_30 (by decide) ?_
      refine lv_aload_n hx hb dX12_entryOf_32 rfl (lv_at hl 0 rfl) ?_
      refine hp_get hx hb hts ix12 hown hK hh (q := 0) rfl (hI.1 _ (by decide)) es1788_1792 rfl 32 (by decide) (hts _ tw_911) (fun _ h9 => h9) rfl dX12_entryOf_33 ?_
      refine lv_iload_n hx hb dX12_entryOf_36 rfl (lv_at hl 1 rfl) ?_
      refine hp_iald hx hb hK hh (q := 19) rfl (hI.1 _ (by decide)) es1789_1792 (vp_in_nI (n := T_1790) (by omega) (by decide)) dX12_entryOf_37 ?_
      rw [nI_clamp (n := T_1790) (by omega)]
      obtain ⟨v_1793, hv_1793, hfv_1793⟩ := p0_1789 T_1790 (by omega)
      rw [hfv_1793]
      refine lv_imul hx hb dX12_entryOf_38 ?_
      rw [show (9 : Int32) = nI 9 from rfl, pk_mul 9 v_1793]
      refine lv_aload_n hx hb dX12_entryOf_39 rfl (lv_at hl 0 rfl) ?_
      refine hp_get hx hb hts ix12 hown hK hh (q := 0) rfl (hI.1 _ (by decide)) es1788_1792 rfl 2 (by decide) (hts _ tw_881) (fun _ h9 => h9) rfl dX12_entryOf_40 ?_
      refine lv_iload_n hx hb dX12_entryOf_43 rfl (lv_at hl 2 rfl) ?_
      refine lv_imul hx hb dX12_entryOf_44 ?_
      rw [pk_mul wd A_1791]
      refine lv_iadd hx hb dX12_entryOf_45 ?_
      rw [nI_add (9 * v_1793) (wd * A_1791)]
      refine lv_iload_n hx hb dX12_entryOf_46 rfl (lv_at hl 3 rfl) ?_
      refine lv_iadd hx hb dX12_entryOf_47 ?_
      rw [nI_add ((9 * v_1793) + (wd * A_1791)) B_1791]
      have hi_1794 : wd * A_1791 + B_1791 < 9 := mdr (by omega) (by omega) (by omega)
      obtain ⟨f_1795, es1795⟩ := getr_lv hI_1792
      refine hp_lald hx hb hK hh (q := 6) rfl (hI.1 _ (by decide)) es1795 (vp_in_nI (n := (((9 * v_1793) + (wd * A_1791)) + B_1791)) (by omega) (by decide)) dX12_entryOf_48 ?_
      rw [nI_clamp (n := (((9 * v_1793) + (wd * A_1791)) + B_1791)) (by omega)]
      have hc30 : (rdI (en 0) 30).toInt = (wo : Int) := by rw [show rdI (en 0) 30 = nI wo from by rw [es1788]; rfl]; exact nI_toInt (by omega)
      have hc2 : rdI (en 0) 2 = nI wd := by rw [es1788]; rfl
      have hc2i : (rdI (en 0) 2).toInt = (wd : Int) := by rw [hc2]; exact nI_toInt (by omega)
      have hq9 : (rdF (en 19) T_1790).toNatClampNeg = v_1793 := by rw [show rdF (en 19) = f_1789 from by rw [es1789]; rfl, hfv_1793]; exact nI_clamp (by omega)
      have hi9 : wd * A_1791 + B_1791 < wd * wd := rc_lt3 (by omega) (by omega)
      have hm9 := hx_1792 (wd * A_1791 + B_1791) (by rw [hc2, nI_clamp (n := wd) (by omega)]; exact hi9)
      exact hp_lretM hx hb hr hlocks hh (⟨hI_1792, hf_1792, Or.inl ⟨⟨⟨hp_1790.1, by have := hp_1790.2; omega⟩, ⟨hp_1791.1.1, by have := hp_1791.1.2; omega⟩, ⟨hp_1791.2.1, by have := hp_1791.2.2; omega⟩⟩, by rw [nI_clamp (n := T_1790) (by omega), nI_clamp (n := A_1791) (by omega), nI_clamp (n := B_1791) (by omega), hc2, nI_clamp (n := wd) (by omega)]; rw [hc2, nI_clamp (n := wd) (by omega), hq9, ← Nat.add_assoc, show rdL (en_1792 6) = f_1795 from by rw [es1795]; rfl] at hm9; rw [hq9]; exact hm9⟩⟩) dX12_entryOf_49
    · obtain rfl : r_1791 = 0 := Eq.trans hw_1791 (if_neg hp_1791)
      refine lv_if_ne (tgt := 21) hx hb dX12_entryOf_14 (by decide) (fun c_0 => absurd c_0 (by decide)) (fun _ => ?_)
      refine lv_ldc2 hx hb hown (hts _ tw_1015) dX12_entryOf_17 ?_
      have hc30 : (rdI (en 0) 30).toInt = (wo : Int) := by rw [show rdI (en 0) 30 = nI wo from by rw [es1788]; rfl]; exact nI_toInt (by omega)
      have hc2 : rdI (en 0) 2 = nI wd := by rw [es1788]; rfl
      have hc2i : (rdI (en 0) 2).toInt = (wd : Int) := by rw [hc2]; exact nI_toInt (by omega)
      exact hp_lretM hx hb hr hlocks hh (⟨hI, hf0, Or.inr ⟨fun q => hp_1791 ⟨⟨q.2.1.1, by have := q.2.1.2; omega⟩, ⟨q.2.2.1, by have := q.2.2.2; omega⟩⟩, rfl⟩⟩) dX12_entryOf_20
  · obtain rfl : r_1790 = 0 := Eq.trans hw_1790 (if_neg hp_1790)
    refine lv_if_eq (tgt := 17) hx hb dX12_entryOf_5 (by decide) (fun _ => ?_) (fun c_0 => absurd c_0 (by decide))
    refine lv_ldc2 hx hb hown (hts _ tw_1015) dX12_entryOf_17 ?_
    have hc30 : (rdI (en 0) 30).toInt = (wo : Int) := by rw [show rdI (en 0) 30 = nI wo from by rw [es1788]; rfl]; exact nI_toInt (by omega)
    have hc2 : rdI (en 0) 2 = nI wd := by rw [es1788]; rfl
    have hc2i : (rdI (en 0) 2).toInt = (wd : Int) := by rw [hc2]; exact nI_toInt (by omega)
    exact hp_lretM hx hb hr hlocks hh (⟨hI, hf0, Or.inr ⟨fun q => hp_1790 ⟨q.1.1, by have := q.1.2; omega⟩, rfl⟩⟩) dX12_entryOf_20
theorem kw_X12_entryOf {R : Room} {s : State} {args : Array Value} {own : String} {idx : Nat} (hts : ∀ w ∈ TB, w.before args s = true) (hl : Cond.methodLink own idx yX12_entryOf ∈ TB) (hR : 3 + 1 ≤ R.frames ∧ 8 + (4 + 11) + 40 * 3 ≤ R.locals) : CallW R s args own RX12 idx yX12_entryOf cX12_entryOf 4 (some .long) (Cond.code yX12_entryOf cX12_entryOf 4 (some .long) :: TB) (rmN 3) 0 0 3 := cwV 3 hts (TB_V hl tw_1188 tw_1189 tw_9 tw_1190) rfl rfl rfl (by decide +kernel) hR
set_option maxHeartbeats 4000000 in
set_option maxRecDepth 100000 in
/-- size -/
theorem c_X12_size (l : Launch) (D : va_G) (cy : Nat → ClassId) (sz : Nat) (cs : List Nat) (ad : Nat → Nat) (en : Nat → va_E) (hI : RX cy cs ad en) (w9 z9 : Int32)   : Met l yX12_size (Cond.code yX12_size cX12_size 3 (some .long) :: TB) (rmN 3) (va_Pc [.ref (ad 0), .int w9, .int z9] (Pre D cy cs ad en sz)) (va_Ql (S := Nat → va_E) (fun r en1 => RX cy cs ad en1 ∧ (∀ c, (c ≠ 6) → en1 c = en c) ∧ RSZ w9 z9 r en) (PostM D cs ad) (Af cs ad sz)) 0 0 (Af cs ad sz) := by
  refine Met.ofW (cc := cX12_size) (maxL := 3) (ret := (some .long)) (by decide) rfl ?_
  intro p e s m args below meth c s₁ B hml hv
  obtain ⟨rfl, hsz, hP, hK, hD0⟩ := hv
  have hx := B.exec
  have hb := B.bytes
  have hr := B.returns
  have hts : ∀ w ∈ TB, w.before _ s = true := fun w h => atoms_spec (ws := _ :: TB) B.pre w (List.mem_cons_of_mem _ h)
  have hown : s.vm.findClass RX12 = some m.cls := findClass_of_methodNamed B.named
  have hlocks := B.notSynchronized
  have hh : Hp D (Af cs ad sz) (Af cs ad sz) s.heap s.heap [] cs ad en := ⟨hP, Af_self hD0, va_S.rf⟩
  have hA : ∀ q : Nat, s.heap.size ≤ q → Af cs ad sz q := fun q h => Or.inr (by rw [hsz] at h; exact h)
  have hl := lv_entry ([.ref (ad 0), .int w9, .int z9]) (n := 3) (Nat.le_of_ble_eq_true rfl)
  rw [lg_entry_eq]
  generalize (lg_sl ([.ref (ad 0), .int w9, .int z9]) ++ List.replicate (3 - (lg_sl ([.ref (ad 0), .int w9, .int z9])).length) Slot.unset).toArray = ls at hl ⊢
  have hl : lv_has ls 3 [(0, .ref (ad 0)), (1, .int w9), (2, .int z9)] := hl
  have hf0 : ∀ c, (c ≠ 6) → en c = en c := fun _ _ => rfl
  obtain ⟨fa, hi, wd, mo, tb, dp, many, grt, lst, nou, rm, rb, pr, wo, es1796, hwd2, hwd3, hmo, htb, hwo⟩ := getr_M hI
  obtain ⟨f_1797, es1797, p0_1797⟩ := getr_wl hI
  refine lv_aload_n hx hb dX12_size_0 rfl (lv_at hl 0 rfl) ?_
  refine lv_iload_n hx hb dX12_size_1 rfl (lv_at hl 1 rfl) ?_
  refine hp_callRi (va_runV (As := [.int w9]) (rest := []) ⟨hx, hb, hml, hown, hts⟩ (c_X12_isWord l D cy _ cs ad en hI w9 ) (kw_X12_isWord hts tw_1175 ⟨by decide, by decide⟩) (preV_of hh hK (hI.1 _ (by decide)) es1796 rfl) rfl rfl hl.1 rfl (lv_room (Nat.le_of_ble_eq_true rfl)) dX12_size_2 ⟨Nat.le_of_ble_eq_true rfl, Nat.le_of_ble_eq_true rfl⟩) hh hA (fun r_1798 H locs hw_1798 hh => ?_)
  rw [show rdI (en 0) 30 = (nI wo) from by rw [es1796]; rfl, nI_toInt (n := wo) (by omega)] at hw_1798
  rcases Decidable.em (0 ≤ w9.toInt ∧ w9.toInt < (wo : Int)) with hp_1798 | hp_1798
  · obtain rfl : r_1798 = 1 := Eq.trans hw_1798 (if_pos hp_1798)
    obtain ⟨T_1798, rfl, hT_1798⟩ := has_nat hp_1798
    refine lv_if_eq (tgt := 18) hx hb dX12_size_5 (by decide) (fun c_0 => absurd c_0 (by decide)) (fun _ => ?_)
    refine lv_iload_n hx hb dX12_size_8 rfl (lv_at hl 2 rfl) ?_
    refine lv_i2l hx hb dX12_size_9 rfl ?_
    refine lv_lconst (v := 0) hx hb dX12_size_10 (by decide) ?_
    refine lv_lconst (v := 1) hx hb dX12_size_11 (by decide) ?_
    refine hp_callRi (va_runS (As := [.long z9.toInt64, .long 0, .long 1]) (rest := []) ⟨hx, hb, hml, hown, hts⟩ (c_X12_within l D cy _ cs ad en z9.toInt64 0 1) (kw_X12_within hts tw_985 ⟨by decide, by decide⟩) (preS_of hh hK) rfl rfl hl.1 rfl (lv_room (Nat.le_of_ble_eq_true rfl)) dX12_size_12 ⟨Nat.le_of_ble_eq_true rfl, Nat.le_of_ble_eq_true rfl⟩) hh hA (fun r_1799 H locs hw_1799 hh => ?_)
    rcases Decidable.em (wi z9 0 1) with hp_1799 | hp_1799
    · obtain rfl : r_1799 = 1 := Eq.trans hw_1799 (if_pos ((wj_32 (by decide) (by decide)).mpr hp_1799))
      obtain ⟨N_1799, rfl, hA_1799, hB_1799⟩ := wi_natB hp_1799 0 1 (by decide) (by decide)
      refine lv_if_ne (tgt := 22) hx hb dX12_size_15 (by decide) (fun _ => ?_) (fun c_0 => absurd c_0 (by decide))
      refine lv_aload_n hx hb dX12_size_22 rfl (lv_at hl 0 rfl) ?_
      refine lv_iload_n hx hb dX12_size_23 rfl (lv_at hl 1 rfl) ?_
      refine hp_callMv (va_runV (As := [.int (nI T_1798)]) (rest := []) ⟨hx, hb, hml, hown, hts⟩ (c_X12_multiplyOut l D cy _ cs ad en hI T_1798 (by omega)) (kw_X12_multiplyOut hts tw_1191 ⟨by decide, by decide⟩) (preV_of hh hK (hI.1 _ (by decide)) es1796 rfl) rfl rfl hl.1 rfl (lv_room (Nat.le_of_ble_eq_true rfl)) dX12_size_24 ⟨Nat.le_of_ble_eq_true rfl, Nat.le_of_ble_eq_true rfl⟩) hh hA (fun H locs en_1800 hw_1800 hh => ?_)
      obtain ⟨hI_1800, hu_1800, hx_1800⟩ := hw_1800
      have es1796_1800 : en_1800 0 = .inr (11, [.int fa, .int hi, .int (nI wd), .int (nI mo), .int (nI tb), .ref (ad 1), .ref (ad 2), .ref (ad 3), .ref (ad 4), .ref (ad 5), .ref (ad 6), .ref (ad 7), .ref (ad 8), .ref (ad 9), .int dp, .long many, .long grt, .long lst, .long nou, .ref (ad 10), .ref (ad 11), .ref (ad 12), .int rm, .long rb, .ref (ad 13), .int pr, .ref (ad 14), .ref (ad 15), .ref (ad 16), .ref (ad 17), .int (nI wo), .ref (ad 18), .ref (ad 19)]) := (hu_1800 0 (by omega)).trans es1796
      have es1797_1800 : en_1800 19 = .inl (cy 0, 10, .inl f_1797) := (hu_1800 19 (by omega)).trans es1797
      have hf_1800 : ∀ c, (c ≠ 6) → en_1800 c = en c := fun c hc => (hu_1800 c (by omega)).trans (hf0 c hc)
      refine lv_iload_n hx hb dX12_size_27 rfl (lv_at hl 2 rfl) ?_
      refine lv_if_ne (tgt := 44) hx hb dX12_size_28 (by decide) (fun c_1801 => ?_) (fun c_1801 => ?_)
      · have n_1801 : N_1799 ≠ 0 := n_neq (a := N_1799) (b := 0) c_1801 (by omega) (by decide)
        refine lv_aload_n hx hb dX12_size_44 rfl (lv_at hl 0 rfl) ?_
        refine lv_aload_n hx hb dX12_size_45 rfl (lv_at hl 0 rfl) ?_
        refine hp_get hx hb hts ix12 hown hK hh (q := 0) rfl (hI.1 _ (by decide)) es1796_1800 rfl 32 (by decide) (hts _ tw_911) (fun _ h9 => h9) rfl dX12_size_46 ?_
        refine lv_iload_n hx hb dX12_size_49 rfl (lv_at hl 1 rfl) ?_
        refine hp_iald hx hb hK hh (q := 19) rfl (hI.1 _ (by decide)) es1797_1800 (vp_in_nI (n := T_1798) (by omega) (by decide)) dX12_size_50 ?_
        rw [nI_clamp (n := T_1798) (by omega)]
        obtain ⟨v_1802, hv_1802, hfv_1802⟩ := p0_1797 T_1798 (by omega)
        rw [hfv_1802]
        refine hp_callRl (va_runV (As := [.int (nI v_1802)]) (rest := []) ⟨hx, hb, hml, hown, hts⟩ (c_X12_trackAt l D cy _ cs ad en_1800 hI_1800 v_1802 (by omega)) (kw_X12_trackAt hts tw_1093 ⟨by decide, by decide⟩) (preV_of hh hK (hI.1 _ (by decide)) es1796_1800 rfl) rfl rfl hl.1 rfl (lv_room (Nat.le_of_ble_eq_true rfl)) dX12_size_51 ⟨Nat.le_of_ble_eq_true rfl, Nat.le_of_ble_eq_true rfl⟩) hh hA (fun r_1803 H locs hw_1803 hh => ?_)
        have hc30 : (rdI (en 0) 30).toInt = (wo : Int) := by rw [show rdI (en 0) 30 = nI wo from by rw [es1796]; rfl]; exact nI_toInt (by omega)
        have hc2 : rdI (en 0) 2 = nI wd := by rw [es1796]; rfl
        have hc2i : (rdI (en 0) 2).toInt = (wd : Int) := by rw [hc2]; exact nI_toInt (by omega)
        have hq9 : (rdF (en 19) T_1798).toNatClampNeg = v_1802 := by rw [show rdF (en 19) = f_1797 from by rw [es1797]; rfl, hfv_1802]; exact nI_clamp (by omega)
        exact hp_lretM hx hb hr hlocks hh (⟨hI_1800, hf_1800, Or.inl ⟨⟨hp_1798.1, by have := hp_1798.2; omega⟩, hp_1799, rdL (en_1800 6), (fun i hi => by rw [nI_clamp (n := T_1798) (by omega)]; exact hx_1800 i hi), Or.inr ⟨(fun q => n_1801 (n_eq (b := 0) q (by omega) (by omega))), by rw [nI_clamp (n := T_1798) (by omega), hq9, hc2, nI_clamp (n := wd) (by omega)]; rw [show (rdI (en_1800 0) 2).toNatClampNeg = wd from by rw [hu_1800 0 (by omega), hc2]; exact nI_clamp (by omega)] at hw_1803; exact hw_1803⟩⟩⟩) dX12_size_54
      · have n_1801 : N_1799 = 0 := n_eq (a := N_1799) (b := 0) c_1801 (by omega) (by decide)
        refine lv_aload_n hx hb dX12_size_31 rfl (lv_at hl 0 rfl) ?_
        refine lv_aload_n hx hb dX12_size_32 rfl (lv_at hl 0 rfl) ?_
        refine hp_get hx hb hts ix12 hown hK hh (q := 0) rfl (hI.1 _ (by decide)) es1796_1800 rfl 32 (by decide) (hts _ tw_911) (fun _ h9 => h9) rfl dX12_size_33 ?_
        refine lv_iload_n hx hb dX12_size_36 rfl (lv_at hl 1 rfl) ?_
        refine hp_iald hx hb hK hh (q := 19) rfl (hI.1 _ (by decide)) es1797_1800 (vp_in_nI (n := T_1798) (by omega) (by decide)) dX12_size_37 ?_
        rw [nI_clamp (n := T_1798) (by omega)]
        obtain ⟨v_1804, hv_1804, hfv_1804⟩ := p0_1797 T_1798 (by omega)
        rw [hfv_1804]
        refine hp_callRl (va_runV (As := [.int (nI v_1804)]) (rest := []) ⟨hx, hb, hml, hown, hts⟩ (c_X12_normAt l D cy _ cs ad en_1800 hI_1800 v_1804 (by omega)) (kw_X12_normAt hts tw_1058 ⟨by decide, by decide⟩) (preV_of hh hK (hI.1 _ (by decide)) es1796_1800 rfl) rfl rfl hl.1 rfl (lv_room (Nat.le_of_ble_eq_true rfl)) dX12_size_38 ⟨Nat.le_of_ble_eq_true rfl, Nat.le_of_ble_eq_true rfl⟩) hh hA (fun r_1805 H locs hw_1805 hh => ?_)
        refine lv_goto (tgt := 54) hx hb dX12_size_41 (by decide) ?_
        have hc30 : (rdI (en 0) 30).toInt = (wo : Int) := by rw [show rdI (en 0) 30 = nI wo from by rw [es1796]; rfl]; exact nI_toInt (by omega)
        have hc2 : rdI (en 0) 2 = nI wd := by rw [es1796]; rfl
        have hc2i : (rdI (en 0) 2).toInt = (wd : Int) := by rw [hc2]; exact nI_toInt (by omega)
        have hq9 : (rdF (en 19) T_1798).toNatClampNeg = v_1804 := by rw [show rdF (en 19) = f_1797 from by rw [es1797]; rfl, hfv_1804]; exact nI_clamp (by omega)
        exact hp_lretM hx hb hr hlocks hh (⟨hI_1800, hf_1800, Or.inl ⟨⟨hp_1798.1, by have := hp_1798.2; omega⟩, hp_1799, rdL (en_1800 6), (fun i hi => by rw [nI_clamp (n := T_1798) (by omega)]; exact hx_1800 i hi), Or.inl ⟨(by rw [n_1801]; rfl), by rw [nI_clamp (n := T_1798) (by omega), hq9, hc2, nI_clamp (n := wd) (by omega)]; rw [show (rdI (en_1800 0) 2).toNatClampNeg = wd from by rw [hu_1800 0 (by omega), hc2]; exact nI_clamp (by omega)] at hw_1805; exact hw_1805⟩⟩⟩) dX12_size_54
    · obtain rfl : r_1799 = 0 := Eq.trans hw_1799 (if_neg (fun q => hp_1799 ((wj_32 (by decide) (by decide)).mp q)))
      refine lv_if_ne (tgt := 22) hx hb dX12_size_15 (by decide) (fun c_0 => absurd c_0 (by decide)) (fun _ => ?_)
      refine lv_ldc2 hx hb hown (hts _ tw_1015) dX12_size_18 ?_
      have hc30 : (rdI (en 0) 30).toInt = (wo : Int) := by rw [show rdI (en 0) 30 = nI wo from by rw [es1796]; rfl]; exact nI_toInt (by omega)
      have hc2 : rdI (en 0) 2 = nI wd := by rw [es1796]; rfl
      have hc2i : (rdI (en 0) 2).toInt = (wd : Int) := by rw [hc2]; exact nI_toInt (by omega)
      exact hp_lretM hx hb hr hlocks hh (⟨hI, hf0, Or.inr ⟨fun q => hp_1799 q.2, rfl⟩⟩) dX12_size_21
  · obtain rfl : r_1798 = 0 := Eq.trans hw_1798 (if_neg hp_1798)
    refine lv_if_eq (tgt := 18) hx hb dX12_size_5 (by decide) (fun _ => ?_) (fun c_0 => absurd c_0 (by decide))
    refine lv_ldc2 hx hb hown (hts _ tw_1015) dX12_size_18 ?_
    have hc30 : (rdI (en 0) 30).toInt = (wo : Int) := by rw [show rdI (en 0) 30 = nI wo from by rw [es1796]; rfl]; exact nI_toInt (by omega)
    have hc2 : rdI (en 0) 2 = nI wd := by rw [es1796]; rfl
    have hc2i : (rdI (en 0) 2).toInt = (wd : Int) := by rw [hc2]; exact nI_toInt (by omega)
    exact hp_lretM hx hb hr hlocks hh (⟨hI, hf0, Or.inr ⟨fun q => hp_1798 ⟨q.1.1, by have := q.1.2; omega⟩, rfl⟩⟩) dX12_size_21
theorem kw_X12_size {R : Room} {s : State} {args : Array Value} {own : String} {idx : Nat} (hts : ∀ w ∈ TB, w.before args s = true) (hl : Cond.methodLink own idx yX12_size ∈ TB) (hR : 3 + 1 ≤ R.frames ∧ 8 + (3 + 11) + 40 * 3 ≤ R.locals) : CallW R s args own RX12 idx yX12_size cX12_size 3 (some .long) (Cond.code yX12_size cX12_size 3 (some .long) :: TB) (rmN 3) 0 0 2 := cwV 2 hts (TB_V hl tw_1196 tw_1197 tw_9 tw_1198) rfl rfl rfl (by decide +kernel) hR
set_option maxHeartbeats 4000000 in
set_option maxRecDepth 100000 in
/-- about -/
theorem c_X12_about (l : Launch) (D : va_G) (cy : Nat → ClassId) (sz : Nat) (cs : List Nat) (ad : Nat → Nat) (en : Nat → va_E) (hI : RX cy cs ad en) (w9 z9 : Int32) (hRW : RWX en)   : Met l yX12_about (Cond.code yX12_about cX12_about 5 (some .int) :: TB) (rmN 3) (va_Pc [.ref (ad 0), .int w9, .int z9] (Pre D cy cs ad en sz)) (va_Qi (S := Nat → va_E) (fun r en1 => RX cy cs ad en1 ∧ (∀ c, (c ≠ 12) → en1 c = en c) ∧ RAB w9 z9 r en) (PostM D cs ad) (Af cs ad sz)) 0 0 (Af cs ad sz) := by
  refine Met.ofW (cc := cX12_about) (maxL := 5) (ret := (some .int)) (by decide) rfl ?_
  intro p e s m args below meth c s₁ B hml hv
  obtain ⟨rfl, hsz, hP, hK, hD0⟩ := hv
  have hx := B.exec
  have hb := B.bytes
  have hr := B.returns
  have hts : ∀ w ∈ TB, w.before _ s = true := fun w h => atoms_spec (ws := _ :: TB) B.pre w (List.mem_cons_of_mem _ h)
  have hown : s.vm.findClass RX12 = some m.cls := findClass_of_methodNamed B.named
  have hlocks := B.notSynchronized
  have hh : Hp D (Af cs ad sz) (Af cs ad sz) s.heap s.heap [] cs ad en := ⟨hP, Af_self hD0, va_S.rf⟩
  have hA : ∀ q : Nat, s.heap.size ≤ q → Af cs ad sz q := fun q h => Or.inr (by rw [hsz] at h; exact h)
  have hl := lv_entry ([.ref (ad 0), .int w9, .int z9]) (n := 5) (Nat.le_of_ble_eq_true rfl)
  rw [lg_entry_eq]
  generalize (lg_sl ([.ref (ad 0), .int w9, .int z9]) ++ List.replicate (5 - (lg_sl ([.ref (ad 0), .int w9, .int z9])).length) Slot.unset).toArray = ls at hl ⊢
  have hl : lv_has ls 5 [(0, .ref (ad 0)), (1, .int w9), (2, .int z9)] := hl
  have hf0 : ∀ c, (c ≠ 12) → en c = en c := fun _ _ => rfl
  obtain ⟨fa, hi, wd, mo, tb, dp, many, grt, lst, nou, rm, rb, pr, wo, es1806, hwd2, hwd3, hmo, htb, hwo⟩ := getr_M hI
  obtain ⟨f_1807, es1807, p0_1807⟩ := getr_lt hI
  obtain ⟨f_1808, es1808, p0_1808⟩ := getr_wl hI
  refine lv_aload_n hx hb dX12_about_0 rfl (lv_at hl 0 rfl) ?_
  refine lv_iload_n hx hb dX12_about_1 rfl (lv_at hl 1 rfl) ?_
  refine hp_callRi (va_runV (As := [.int w9]) (rest := []) ⟨hx, hb, hml, hown, hts⟩ (c_X12_isWord l D cy _ cs ad en hI w9 ) (kw_X12_isWord hts tw_1175 ⟨by decide, by decide⟩) (preV_of hh hK (hI.1 _ (by decide)) es1806 rfl) rfl rfl hl.1 rfl (lv_room (Nat.le_of_ble_eq_true rfl)) dX12_about_2 ⟨Nat.le_of_ble_eq_true rfl, Nat.le_of_ble_eq_true rfl⟩) hh hA (fun r_1809 H locs hw_1809 hh => ?_)
  rw [show rdI (en 0) 30 = (nI wo) from by rw [es1806]; rfl, nI_toInt (n := wo) (by omega)] at hw_1809
  rcases Decidable.em (0 ≤ w9.toInt ∧ w9.toInt < (wo : Int)) with hp_1809 | hp_1809
  · obtain rfl : r_1809 = 1 := Eq.trans hw_1809 (if_pos hp_1809)
    obtain ⟨T_1809, rfl, hT_1809⟩ := has_nat hp_1809
    refine lv_if_ne (tgt := 10) hx hb dX12_about_5 (by decide) (fun _ => ?_) (fun c_0 => absurd c_0 (by decide))
    refine lv_aload_n hx hb dX12_about_10 rfl (lv_at hl 0 rfl) ?_
    refine hp_get hx hb hts ix12 hown hK hh (q := 0) rfl (hI.1 _ (by decide)) es1806 rfl 32 (by decide) (hts _ tw_911) (fun _ h9 => h9) rfl dX12_about_11 ?_
    refine lv_iload_n hx hb dX12_about_14 rfl (lv_at hl 1 rfl) ?_
    refine hp_iald hx hb hK hh (q := 19) rfl (hI.1 _ (by decide)) es1808 (vp_in_nI (n := T_1809) (by omega) (by decide)) dX12_about_15 ?_
    rw [nI_clamp (n := T_1809) (by omega)]
    obtain ⟨v_1810, hv_1810, hfv_1810⟩ := p0_1808 T_1809 (by omega)
    rw [hfv_1810]
    refine lv_istore_n (lv' := [(3, .int (nI v_1810)), (0, .ref (ad 0)), (1, .int (nI T_1809)), (2, .int z9)]) hx hb dX12_about_16 rfl hl (by decide) rfl (fun ls hl => ?_)
    have hlen : 1 ≤ v_1810 := RWX_1 hRW (show rdI (en 0) 30 = nI wo from by rw [es1806]; rfl) hwo (w := T_1809) (by omega) (show rdF (en 19) = f_1808 from by rw [es1808]; rfl) hfv_1810 (by omega)
    refine lv_iconst (v := 0) hx hb dX12_about_17 (by decide) ?_
    refine lv_istore (lv' := [(4, .int 0), (3, .int (nI v_1810)), (0, .ref (ad 0)), (1, .int (nI T_1809)), (2, .int z9)]) hx hb dX12_about_18 hl (by decide) rfl (fun ls hl => ?_)
    have loop_1811 : ∀ (fu j1811 : Nat)  (en_1811 : Nat → va_E) (ls : Array Slot) (H : Heap) (locs : List Loc), 0 ≤ j1811 → j1811 ≤ v_1810 → v_1810 < j1811 + fu → RX cy cs ad en_1811 → (∀ c, (c ≠ 12) → en_1811 c = en c) → (∀ x, x < j1811 → rdF (en_1811 12) x = rdF (en 18) (12 * T_1809 + x)) → lv_has ls 5 [(4, .int (nI j1811)), (3, .int (nI v_1810)), (0, .ref (ad 0)), (1, .int (nI T_1809)), (2, .int z9)] → Hp D (Af cs ad sz) (Af cs ad sz) s.heap H locs cs ad en_1811 → W p l e (headSpec (Cond.code yX12_about cX12_about 5 (some .int) :: TB) (rmN 3)).room s m ([.ref (ad 0), .int (nI T_1809), .int z9] : List Value).toArray below meth c H locs 0 0 (MQ below (va_Qi (S := Nat → va_E) (fun r en1 => RX cy cs ad en1 ∧ (∀ c, (c ≠ 12) → en1 c = en c) ∧ RAB (nI T_1809) z9 r en) (PostM D cs ad) (Af cs ad sz)) ([.ref (ad 0), .int (nI T_1809), .int z9] : List Value).toArray s 0 0 (Af cs ad sz)) (F0 m 20 ls []) := by
      intro fu
      induction fu with
      | zero => intro j1811  en_1811 ls H locs h0 h1 h2; exact absurd h2 (by omega)
      | succ fu ih_1811 =>
        intro j1811  en_1811 ls H locs hj0_1811 hj_1811 hfu_1811 hI_1811 hf_1811 i0_1811 hl hh
        refine lv_iload hx hb dX12_about_20 (lv_at hl 0 rfl) ?_
        refine lv_iload_n hx hb dX12_about_22 rfl (lv_at hl 1 rfl) ?_
        refine lv_icmp_ge (tgt := 51) hx hb dX12_about_23 (by decide) (fun c_1812 => ?_) (fun c_1812 => ?_)
        · have n_1812 : v_1810 ≤ j1811 := n_le (a := v_1810) (b := j1811) c_1812 (by omega) (by omega)
          refine lv_iload_n hx hb dX12_about_51 rfl (lv_at hl 4 rfl) ?_
          by_cases q_1813_0 : z9 = 0
          · refine lv_tableIn (off := 32) (tgt := 84) hx hb dX12_about_52 (by rw [q_1813_0]; decide) (by rw [q_1813_0]; decide) (by rw [q_1813_0]; decide) (by decide) ?_
            refine lv_iload_n hx hb dX12_about_84 rfl (lv_at hl 1 rfl) ?_
            have hc30 : (rdI (en 0) 30).toInt = (wo : Int) := by rw [show rdI (en 0) 30 = nI wo from by rw [es1806]; rfl]; exact nI_toInt (by omega)
            exact hp_iretM hx hb hr rfl hlocks hh (⟨hI_1811, hf_1811, Or.inr ⟨T_1809, v_1810, rdF (en_1811 12), rfl, by omega, ⟨hp_1809.1, by have := hp_1809.2; omega⟩, (by rw [show rdF (en 19) = f_1808 from by rw [es1808]; rfl]; exact hfv_1810), hlen, by omega, (fun x hx9 => i0_1811 x (by omega)), Or.inl ⟨q_1813_0, rfl⟩⟩⟩) dX12_about_85
          by_cases q_1813_1 : z9 = 1
          · refine lv_tableIn (off := 34) (tgt := 86) hx hb dX12_about_52 (by rw [q_1813_1]; decide) (by rw [q_1813_1]; decide) (by rw [q_1813_1]; decide) (by decide) ?_
            refine lv_aload_n hx hb dX12_about_86 rfl (lv_at hl 2 rfl) ?_
            refine lv_iload_n hx hb dX12_about_87 rfl (lv_at hl 1 rfl) ?_
            have es1806_1814 : en_1811 0 = .inr (11, [.int fa, .int hi, .int (nI wd), .int (nI mo), .int (nI tb), .ref (ad 1), .ref (ad 2), .ref (ad 3), .ref (ad 4), .ref (ad 5), .ref (ad 6), .ref (ad 7), .ref (ad 8), .ref (ad 9), .int dp, .long many, .long grt, .long lst, .long nou, .ref (ad 10), .ref (ad 11), .ref (ad 12), .int rm, .long rb, .ref (ad 13), .int pr, .ref (ad 14), .ref (ad 15), .ref (ad 16), .ref (ad 17), .int (nI wo), .ref (ad 18), .ref (ad 19)]) := (hf_1811 0 (by omega)).trans es1806
            refine hp_callRi (va_runV (As := [.int (nI v_1810)]) (rest := []) ⟨hx, hb, hml, hown, hts⟩ (c_X12_isAllowed l D cy _ cs ad en_1811 hI_1811 v_1810 (by omega) (by omega)) (kw_X12_isAllowed hts tw_1081 ⟨by decide, by decide⟩) (preV_of hh hK (hI.1 _ (by decide)) es1806_1814 rfl) rfl rfl hl.1 rfl (lv_room (Nat.le_of_ble_eq_true rfl)) dX12_about_88 ⟨Nat.le_of_ble_eq_true rfl, Nat.le_of_ble_eq_true rfl⟩) hh hA (fun r_1815 H locs hw_1815 hh => ?_)
            rcases hw_1815 with ⟨hb_1815, hy_1815⟩ | ⟨hb_1815, hy_1815⟩
            · obtain rfl : r_1815 = 1 := hb_1815
              refine lv_if_eq (tgt := 98) hx hb dX12_about_91 (by decide) (fun c_0 => absurd c_0 (by decide)) (fun _ => ?_)
              refine lv_iconst (v := 1) hx hb dX12_about_94 (by decide) ?_
              refine lv_goto (tgt := 99) hx hb dX12_about_95 (by decide) ?_
              have hc30 : (rdI (en 0) 30).toInt = (wo : Int) := by rw [show rdI (en 0) 30 = nI wo from by rw [es1806]; rfl]; exact nI_toInt (by omega)
              exact hp_iretM hx hb hr rfl hlocks hh (⟨hI_1811, hf_1811, Or.inr ⟨T_1809, v_1810, rdF (en_1811 12), rfl, by omega, ⟨hp_1809.1, by have := hp_1809.2; omega⟩, (by rw [show rdF (en 19) = f_1808 from by rw [es1808]; rfl]; exact hfv_1810), hlen, by omega, (fun x hx9 => i0_1811 x (by omega)), Or.inr (Or.inl ⟨q_1813_1, by rw [show rdF (en 2) = rdF (en_1811 2) from by rw [hf_1811 2 (by omega)]]; exact Or.inl ⟨rfl, hy_1815⟩⟩)⟩⟩) dX12_about_99
            · obtain rfl : r_1815 = 0 := hb_1815
              refine lv_if_eq (tgt := 98) hx hb dX12_about_91 (by decide) (fun _ => ?_) (fun c_0 => absurd c_0 (by decide))
              refine lv_iconst (v := 0) hx hb dX12_about_98 (by decide) ?_
              have hc30 : (rdI (en 0) 30).toInt = (wo : Int) := by rw [show rdI (en 0) 30 = nI wo from by rw [es1806]; rfl]; exact nI_toInt (by omega)
              exact hp_iretM hx hb hr rfl hlocks hh (⟨hI_1811, hf_1811, Or.inr ⟨T_1809, v_1810, rdF (en_1811 12), rfl, by omega, ⟨hp_1809.1, by have := hp_1809.2; omega⟩, (by rw [show rdF (en 19) = f_1808 from by rw [es1808]; rfl]; exact hfv_1810), hlen, by omega, (fun x hx9 => i0_1811 x (by omega)), Or.inr (Or.inl ⟨q_1813_1, by rw [show rdF (en 2) = rdF (en_1811 2) from by rw [hf_1811 2 (by omega)]]; exact Or.inr ⟨rfl, hy_1815⟩⟩)⟩⟩) dX12_about_99
          by_cases q_1813_2 : z9 = 2
          · refine lv_tableIn (off := 48) (tgt := 100) hx hb dX12_about_52 (by rw [q_1813_2]; decide) (by rw [q_1813_2]; decide) (by rw [q_1813_2]; decide) (by decide) ?_
            refine lv_aload_n hx hb dX12_about_100 rfl (lv_at hl 2 rfl) ?_
            refine lv_iload_n hx hb dX12_about_101 rfl (lv_at hl 1 rfl) ?_
            have es1806_1816 : en_1811 0 = .inr (11, [.int fa, .int hi, .int (nI wd), .int (nI mo), .int (nI tb), .ref (ad 1), .ref (ad 2), .ref (ad 3), .ref (ad 4), .ref (ad 5), .ref (ad 6), .ref (ad 7), .ref (ad 8), .ref (ad 9), .int dp, .long many, .long grt, .long lst, .long nou, .ref (ad 10), .ref (ad 11), .ref (ad 12), .int rm, .long rb, .ref (ad 13), .int pr, .ref (ad 14), .ref (ad 15), .ref (ad 16), .ref (ad 17), .int (nI wo), .ref (ad 18), .ref (ad 19)]) := (hf_1811 0 (by omega)).trans es1806
            refine hp_callRi (va_runV (As := [.int (nI v_1810)]) (rest := []) ⟨hx, hb, hml, hown, hts⟩ (c_X12_isRing l D cy _ cs ad en_1811 hI_1811 v_1810 (by omega) (by omega)) (kw_X12_isRing hts tw_1077 ⟨by decide, by decide⟩) (preV_of hh hK (hI.1 _ (by decide)) es1806_1816 rfl) rfl rfl hl.1 rfl (lv_room (Nat.le_of_ble_eq_true rfl)) dX12_about_102 ⟨Nat.le_of_ble_eq_true rfl, Nat.le_of_ble_eq_true rfl⟩) hh hA (fun r_1817 H locs hw_1817 hh => ?_)
            rcases hw_1817 with ⟨hb_1817, hy_1817⟩ | ⟨hb_1817, hy_1817⟩
            · obtain rfl : r_1817 = 1 := hb_1817
              refine lv_if_eq (tgt := 112) hx hb dX12_about_105 (by decide) (fun c_0 => absurd c_0 (by decide)) (fun _ => ?_)
              refine lv_iconst (v := 1) hx hb dX12_about_108 (by decide) ?_
              refine lv_goto (tgt := 113) hx hb dX12_about_109 (by decide) ?_
              have hc30 : (rdI (en 0) 30).toInt = (wo : Int) := by rw [show rdI (en 0) 30 = nI wo from by rw [es1806]; rfl]; exact nI_toInt (by omega)
              exact hp_iretM hx hb hr rfl hlocks hh (⟨hI_1811, hf_1811, Or.inr ⟨T_1809, v_1810, rdF (en_1811 12), rfl, by omega, ⟨hp_1809.1, by have := hp_1809.2; omega⟩, (by rw [show rdF (en 19) = f_1808 from by rw [es1808]; rfl]; exact hfv_1810), hlen, by omega, (fun x hx9 => i0_1811 x (by omega)), Or.inr (Or.inr (Or.inl ⟨q_1813_2, by rw [show rdF (en 2) = rdF (en_1811 2) from by rw [hf_1811 2 (by omega)]]; exact Or.inl ⟨rfl, hy_1817⟩⟩))⟩⟩) dX12_about_113
            · obtain rfl : r_1817 = 0 := hb_1817
              refine lv_if_eq (tgt := 112) hx hb dX12_about_105 (by decide) (fun _ => ?_) (fun c_0 => absurd c_0 (by decide))
              refine lv_iconst (v := 0) hx hb dX12_about_112 (by decide) ?_
              have hc30 : (rdI (en 0) 30).toInt = (wo : Int) := by rw [show rdI (en 0) 30 = nI wo from by rw [es1806]; rfl]; exact nI_toInt (by omega)
              exact hp_iretM hx hb hr rfl hlocks hh (⟨hI_1811, hf_1811, Or.inr ⟨T_1809, v_1810, rdF (en_1811 12), rfl, by omega, ⟨hp_1809.1, by have := hp_1809.2; omega⟩, (by rw [show rdF (en 19) = f_1808 from by rw [es1808]; rfl]; exact hfv_1810), hlen, by omega, (fun x hx9 => i0_1811 x (by omega)), Or.inr (Or.inr (Or.inl ⟨q_1813_2, by rw [show rdF (en 2) = rdF (en_1811 2) from by rw [hf_1811 2 (by omega)]]; exact Or.inr ⟨rfl, hy_1817⟩⟩))⟩⟩) dX12_about_113
          by_cases q_1813_3 : z9 = 3
          · refine lv_tableIn (off := 62) (tgt := 114) hx hb dX12_about_52 (by rw [q_1813_3]; decide) (by rw [q_1813_3]; decide) (by rw [q_1813_3]; decide) (by decide) ?_
            refine lv_aload_n hx hb dX12_about_114 rfl (lv_at hl 2 rfl) ?_
            refine lv_iload_n hx hb dX12_about_115 rfl (lv_at hl 1 rfl) ?_
            have es1806_1818 : en_1811 0 = .inr (11, [.int fa, .int hi, .int (nI wd), .int (nI mo), .int (nI tb), .ref (ad 1), .ref (ad 2), .ref (ad 3), .ref (ad 4), .ref (ad 5), .ref (ad 6), .ref (ad 7), .ref (ad 8), .ref (ad 9), .int dp, .long many, .long grt, .long lst, .long nou, .ref (ad 10), .ref (ad 11), .ref (ad 12), .int rm, .long rb, .ref (ad 13), .int pr, .ref (ad 14), .ref (ad 15), .ref (ad 16), .ref (ad 17), .int (nI wo), .ref (ad 18), .ref (ad 19)]) := (hf_1811 0 (by omega)).trans es1806
            refine hp_callRi (va_runV (As := [.int (nI v_1810)]) (rest := []) ⟨hx, hb, hml, hown, hts⟩ (c_X12_timesOf l D cy _ cs ad en_1811 hI_1811 v_1810 (by omega) (by omega)) (kw_X12_timesOf hts tw_1085 ⟨by decide, by decide⟩) (preV_of hh hK (hI.1 _ (by decide)) es1806_1818 rfl) rfl rfl hl.1 rfl (lv_room (Nat.le_of_ble_eq_true rfl)) dX12_about_116 ⟨Nat.le_of_ble_eq_true rfl, Nat.le_of_ble_eq_true rfl⟩) hh hA (fun r_1819 H locs hw_1819 hh => ?_)
            have hc30 : (rdI (en 0) 30).toInt = (wo : Int) := by rw [show rdI (en 0) 30 = nI wo from by rw [es1806]; rfl]; exact nI_toInt (by omega)
            exact hp_iretM hx hb hr rfl hlocks hh (⟨hI_1811, hf_1811, Or.inr ⟨T_1809, v_1810, rdF (en_1811 12), rfl, by omega, ⟨hp_1809.1, by have := hp_1809.2; omega⟩, (by rw [show rdF (en 19) = f_1808 from by rw [es1808]; rfl]; exact hfv_1810), hlen, by omega, (fun x hx9 => i0_1811 x (by omega)), Or.inr (Or.inr (Or.inr (Or.inl ⟨q_1813_3, hw_1819⟩)))⟩⟩) dX12_about_119
          refine lv_tableOut (tgt := 120) hx hb dX12_about_52 (tb_out 4 (by decide) (by decide) (fun j hj => by rcases (show j = 0 ∨ j = 1 ∨ j = 2 ∨ j = 3 by omega) with rfl | rfl | rfl | rfl <;> first | exact lv_neT q_1813_0 (by decide) | exact lv_neT q_1813_1 (by decide) | exact lv_neT q_1813_2 (by decide) | exact lv_neT q_1813_3 (by decide))) (by decide) ?_
          refine lv_bipush (v := (-2)) hx hb dX12_about_120 (by decide) ?_
          have hc30 : (rdI (en 0) 30).toInt = (wo : Int) := by rw [show rdI (en 0) 30 = nI wo from by rw [es1806]; rfl]; exact nI_toInt (by omega)
          exact hp_iretM hx hb hr rfl hlocks hh (⟨hI_1811, hf_1811, Or.inr ⟨T_1809, v_1810, rdF (en_1811 12), rfl, by omega, ⟨hp_1809.1, by have := hp_1809.2; omega⟩, (by rw [show rdF (en 19) = f_1808 from by rw [es1808]; rfl]; exact hfv_1810), hlen, by omega, (fun x hx9 => i0_1811 x (by omega)), Or.inr (Or.inr (Or.inr (Or.inr ⟨q_1813_0, q_1813_1, q_1813_2, q_1813_3, rfl⟩)))⟩⟩) dX12_about_122
        · have n_1812 : j1811 < v_1810 := n_nle (a := v_1810) (b := j1811) c_1812 (by omega) (by omega)
          refine lv_aload_n hx hb dX12_about_26 rfl (lv_at hl 2 rfl) ?_
          have es1806_1820 : en_1811 0 = .inr (11, [.int fa, .int hi, .int (nI wd), .int (nI mo), .int (nI tb), .ref (ad 1), .ref (ad 2), .ref (ad 3), .ref (ad 4), .ref (ad 5), .ref (ad 6), .ref (ad 7), .ref (ad 8), .ref (ad 9), .int dp, .long many, .long grt, .long lst, .long nou, .ref (ad 10), .ref (ad 11), .ref (ad 12), .int rm, .long rb, .ref (ad 13), .int pr, .ref (ad 14), .ref (ad 15), .ref (ad 16), .ref (ad 17), .int (nI wo), .ref (ad 18), .ref (ad 19)]) := (hf_1811 0 (by omega)).trans es1806
          refine hp_get hx hb hts ix12 hown hK hh (q := 0) rfl (hI.1 _ (by decide)) es1806_1820 rfl 21 (by decide) (hts _ tw_900) (fun _ h9 => h9) rfl dX12_about_27 ?_
          refine lv_iload hx hb dX12_about_30 (lv_at hl 0 rfl) ?_
          refine lv_aload_n hx hb dX12_about_32 rfl (lv_at hl 2 rfl) ?_
          refine hp_get hx hb hts ix12 hown hK hh (q := 0) rfl (hI.1 _ (by decide)) es1806_1820 rfl 31 (by decide) (hts _ tw_910) (fun _ h9 => h9) rfl dX12_about_33 ?_
          refine lv_bipush (v := 12) hx hb dX12_about_36 (by decide) ?_
          refine lv_iload_n hx hb dX12_about_38 rfl (lv_at hl 3 rfl) ?_
          refine lv_imul hx hb dX12_about_39 ?_
          rw [show (12 : Int32) = nI 12 from rfl, pk_mul 12 T_1809]
          refine lv_iload hx hb dX12_about_40 (lv_at hl 0 rfl) ?_
          refine lv_iadd hx hb dX12_about_42 ?_
          rw [nI_add (12 * T_1809) j1811]
          have es1807_1821 : en_1811 18 = .inl (cy 0, 120, .inl f_1807) := (hf_1811 18 (by omega)).trans es1807
          refine hp_iald hx hb hK hh (q := 18) rfl (hI.1 _ (by decide)) es1807_1821 (vp_in_nI (n := ((12 * T_1809) + j1811)) (by omega) (by decide)) dX12_about_43 ?_
          rw [nI_clamp (n := ((12 * T_1809) + j1811)) (by omega)]
          obtain ⟨v_1822, hv_1822, hfv_1822⟩ := p0_1807 ((12 * T_1809) + j1811) (by omega)
          rw [hfv_1822]
          obtain ⟨f_1823, es1823, p0_1823⟩ := getr_ak hI_1811
          refine hp_iast hx hb hK hh (q := 12) rfl (hI.1 _ (by decide)) es1823 (vp_in_nI (n := j1811) (by omega) (by decide)) dX12_about_44 (fun H locs en_1824 hen_1824 hh => ?_)
          rw [nI_clamp (n := j1811) (by omega)] at hen_1824
          have es1806_1824 : en_1824 0 = .inr (11, [.int fa, .int hi, .int (nI wd), .int (nI mo), .int (nI tb), .ref (ad 1), .ref (ad 2), .ref (ad 3), .ref (ad 4), .ref (ad 5), .ref (ad 6), .ref (ad 7), .ref (ad 8), .ref (ad 9), .int dp, .long many, .long grt, .long lst, .long nou, .ref (ad 10), .ref (ad 11), .ref (ad 12), .int rm, .long rb, .ref (ad 13), .int pr, .ref (ad 14), .ref (ad 15), .ref (ad 16), .ref (ad 17), .int (nI wo), .ref (ad 18), .ref (ad 19)]) := by rw [hen_1824, va_up_ne _ _ (by decide)]; exact es1806_1820
          have es1807_1824 : en_1824 18 = .inl (cy 0, 120, .inl f_1807) := by rw [hen_1824, va_up_ne _ _ (by decide)]; exact es1807_1821
          have es1823_1824 : en_1824 12 = .inl (cy 0, 12, .inl (upd f_1823 j1811 (nI v_1822))) := by rw [hen_1824]; exact va_up_self _ _ _
          have hI_1824 : RX cy cs ad en_1824 := by rw [hen_1824]; exact upr_ak hI_1811 ⟨(upd f_1823 j1811 (nI v_1822)), rfl, (vals_updB p0_1823 (by omega))⟩
          have hf_1824 : ∀ c, (c ≠ 12) → en_1824 c = en c := fun c hc => Eq.trans (show en_1824 c = en_1811 c from by rw [hen_1824, va_up_ne _ _ (by omega)]) (hf_1811 c hc)
          refine lv_iinc (v := (nI (j1811 + 1))) (lv' := [(4, .int (nI (j1811 + 1))), (3, .int (nI v_1810)), (0, .ref (ad 0)), (1, .int (nI T_1809)), (2, .int z9)]) hx hb dX12_about_45 hl (k := 0) rfl (nI_1 _) (by decide) rfl (fun ls hl => ?_)
          refine lv_goto (tgt := 20) hx hb dX12_about_48 (by decide) ?_
          exact ih_1811 ((j1811 + 1))  en_1824 ls H locs (by omega) (by omega) (by omega) hI_1824 hf_1824 (fun x hx9 => by rw [es1823_1824]; exact ak_upd (fun h9 => (show f_1823 x = rdF (en_1811 12) x from by rw [es1823]; rfl).trans (i0_1811 x h9)) hx9 (fun e9 => by rw [e9, show rdF (en 18) = f_1807 from by rw [es1807]; rfl]; exact hfv_1822)) (lv_sub hl [0, 1, 2, 3, 4] rfl) hh
    exact loop_1811 (v_1810 + 1) 0  en ls _ _ (Nat.le_refl _) (by omega) (by omega) hI hf0 (fun x h => absurd h (Nat.not_lt_zero x)) (lv_sub hl [0, 1, 2, 3, 4] rfl) hh
  · obtain rfl : r_1809 = 0 := Eq.trans hw_1809 (if_neg hp_1809)
    refine lv_if_ne (tgt := 10) hx hb dX12_about_5 (by decide) (fun c_0 => absurd c_0 (by decide)) (fun _ => ?_)
    refine lv_iconst (v := (-1)) hx hb dX12_about_8 (by decide) ?_
    have hc30 : (rdI (en 0) 30).toInt = (wo : Int) := by rw [show rdI (en 0) 30 = nI wo from by rw [es1806]; rfl]; exact nI_toInt (by omega)
    exact hp_iretM hx hb hr rfl hlocks hh (⟨hI, hf0, Or.inl ⟨fun q => hp_1809 ⟨q.1, by have := q.2; omega⟩, rfl⟩⟩) dX12_about_9
theorem kw_X12_about {R : Room} {s : State} {args : Array Value} {own : String} {idx : Nat} (hts : ∀ w ∈ TB, w.before args s = true) (hl : Cond.methodLink own idx yX12_about ∈ TB) (hR : 3 + 1 ≤ R.frames ∧ 8 + (5 + 11) + 40 * 3 ≤ R.locals) : CallW R s args own RX12 idx yX12_about cX12_about 5 (some .int) (Cond.code yX12_about cX12_about 5 (some .int) :: TB) (rmN 3) 0 0 2 := cwV 2 hts (TB_V hl tw_1184 tw_1185 tw_9 tw_1186) rfl rfl rfl (by decide +kernel) hR
set_option maxHeartbeats 4000000 in
set_option maxRecDepth 100000 in
/-- X12_word -/
theorem c_X12_word (l : Launch) (D : va_G) (cy : Nat → ClassId) (sz : Nat) (cs : List Nat) (ad : Nat → Nat) (en : Nat → va_E) (hI : RX cy cs ad en) (k9 la9 i9 n9 : Int32) (hRW : RWX en)   : Met l yX12_word (Cond.code yX12_word cX12_word 7 (some .int) :: TB) (rmN 2) (va_Pc [.ref (ad 0), .int k9, .int la9, .int i9, .int n9] (Pre D cy cs ad en sz)) (va_Qi (S := Nat → va_E) (fun r en1 => RX cy cs ad en1 ∧ (∀ c, (c ≠ 0 ∧ c ≠ 18 ∧ c ≠ 19) → en1 c = en c) ∧ RWX en1 ∧ KPw en en1 ∧ RWO k9 la9 i9 n9 r en en1) (PostM D cs ad) (Af cs ad sz)) 0 0 (Af cs ad sz) := by
  refine Met.ofW (cc := cX12_word) (maxL := 7) (ret := (some .int)) (by decide) rfl ?_
  intro p e s m args below meth c s₁ B hml hv
  obtain ⟨rfl, hsz, hP, hK, hD0⟩ := hv
  have hx := B.exec
  have hb := B.bytes
  have hr := B.returns
  have hts : ∀ w ∈ TB, w.before _ s = true := fun w h => atoms_spec (ws := _ :: TB) B.pre w (List.mem_cons_of_mem _ h)
  have hown : s.vm.findClass RX12 = some m.cls := findClass_of_methodNamed B.named
  have hlocks := B.notSynchronized
  have hh : Hp D (Af cs ad sz) (Af cs ad sz) s.heap s.heap [] cs ad en := ⟨hP, Af_self hD0, va_S.rf⟩
  have hA : ∀ q : Nat, s.heap.size ≤ q → Af cs ad sz q := fun q h => Or.inr (by rw [hsz] at h; exact h)
  have hl := lv_entry ([.ref (ad 0), .int k9, .int la9, .int i9, .int n9]) (n := 7) (Nat.le_of_ble_eq_true rfl)
  rw [lg_entry_eq]
  generalize (lg_sl ([.ref (ad 0), .int k9, .int la9, .int i9, .int n9]) ++ List.replicate (7 - (lg_sl ([.ref (ad 0), .int k9, .int la9, .int i9, .int n9])).length) Slot.unset).toArray = ls at hl ⊢
  have hl : lv_has ls 7 [(0, .ref (ad 0)), (1, .int k9), (2, .int la9), (3, .int i9), (4, .int n9)] := hl
  have hf0 : ∀ c, (c ≠ 0 ∧ c ≠ 18 ∧ c ≠ 19) → en c = en c := fun _ _ => rfl
  obtain ⟨fa, hi, wd, mo, tb, dp, many, grt, lst, nou, rm, rb, pr, wo, es1825, hwd2, hwd3, hmo, htb, hwo⟩ := getr_M hI
  obtain ⟨f_1826, es1826, p0_1826⟩ := getr_sl hI
  obtain ⟨f_1827, es1827⟩ := getr_ce hI
  obtain ⟨f_1828, es1828, p0_1828⟩ := getr_wl hI
  refine lv_aload_n hx hb dX12_word_0 rfl (lv_at hl 0 rfl) ?_
  refine lv_iconst (v := 0) hx hb dX12_word_1 (by decide) ?_
  refine hp_put hx hb hts ix12 tyX12 tyX12_ok nmX12 hown hK hh (q := 0) rfl (hI.1 _ (by decide)) es1825 rfl 0 (by decide) (hts _ tw_879) (fun _ h9 => h9) rfl (ty := .int) (by decide +kernel) rfl rfl (Nat.le_of_ble_eq_true rfl) dX12_word_2 (fun H locs en_1829 hen_1829 hh => ?_)
  have es1826_1829 : en_1829 4 = .inl (cy 0, 4, .inl f_1826) := by rw [hen_1829, va_up_ne _ _ (by decide)]; exact es1826
  have es1827_1829 : en_1829 5 = .inl (cy 0, 160, .inl f_1827) := by rw [hen_1829, va_up_ne _ _ (by decide)]; exact es1827
  have es1828_1829 : en_1829 19 = .inl (cy 0, 10, .inl f_1828) := by rw [hen_1829, va_up_ne _ _ (by decide)]; exact es1828
  have es1825_1829 : en_1829 0 = .inr (11, [.int 0, .int hi, .int (nI wd), .int (nI mo), .int (nI tb), .ref (ad 1), .ref (ad 2), .ref (ad 3), .ref (ad 4), .ref (ad 5), .ref (ad 6), .ref (ad 7), .ref (ad 8), .ref (ad 9), .int dp, .long many, .long grt, .long lst, .long nou, .ref (ad 10), .ref (ad 11), .ref (ad 12), .int rm, .long rb, .ref (ad 13), .int pr, .ref (ad 14), .ref (ad 15), .ref (ad 16), .ref (ad 17), .int (nI wo), .ref (ad 18), .ref (ad 19)]) := by rw [hen_1829]; exact va_up_self _ _ _
  have hI_1829 : RX cy cs ad en_1829 := by rw [hen_1829]; exact upr_M hI ⟨0, hi, wd, mo, tb, dp, many, grt, lst, nou, rm, rb, pr, wo, rfl, hwd2, hwd3, hmo, htb, hwo⟩
  have hf_1829 : ∀ c, (c ≠ 0 ∧ c ≠ 18 ∧ c ≠ 19) → en_1829 c = en c := fun c hc => Eq.trans (show en_1829 c = en c from by rw [hen_1829, va_up_ne _ _ (by omega)]) (hf0 c hc)
  have hkc18_1829 : en_1829 18 = en 18 := (show en_1829 18 = en 18 from by rw [hen_1829, va_up_ne _ _ (by decide)]).trans rfl
  have hkc19_1829 : en_1829 19 = en 19 := (show en_1829 19 = en 19 from by rw [hen_1829, va_up_ne _ _ (by decide)]).trans rfl
  have hkp_1829 : KP en en_1829 := KP_fv (KP_rf en) es1825 es1825_1829 hi (nI wd) (nI mo) (nI tb) pr (nI wo) rfl rfl rfl rfl rfl rfl rfl rfl rfl rfl rfl rfl
  refine lv_aload_n hx hb dX12_word_5 rfl (lv_at hl 0 rfl) ?_
  refine lv_iload_n hx hb dX12_word_6 rfl (lv_at hl 1 rfl) ?_
  refine lv_iload_n hx hb dX12_word_7 rfl (lv_at hl 2 rfl) ?_
  refine hp_callMi (va_runV (As := [.int k9, .int la9]) (rest := []) ⟨hx, hb, hml, hown, hts⟩ (c_X12_against l D cy _ cs ad en_1829 hI_1829 k9 la9 ) (kw_X12_against hts tw_993 ⟨by decide, by decide⟩) (preV_of hh hK (hI.1 _ (by decide)) es1825_1829 rfl) rfl rfl hl.1 rfl (lv_room (Nat.le_of_ble_eq_true rfl)) dX12_word_8 ⟨Nat.le_of_ble_eq_true rfl, Nat.le_of_ble_eq_true rfl⟩) hh hA (fun r_1830 H locs en_1830 hw_1830 hh => ?_)
  obtain ⟨hI_1830, hu_1830, hr_1830, h0_1830, hkq_1830⟩ := hw_1830
  rcases Decidable.em (r_1830 = 0) with hz_1830 | hz_1830
  · have he_1830 : en_1830 = en_1829 := h0_1830 hz_1830
    rw [he_1830] at hh
    have hag_1830 := agF_0 (hr_1830.symm.trans hz_1830)
    rw [hz_1830]
    refine lv_istore (lv' := [(5, .int 0), (0, .ref (ad 0)), (1, .int k9), (2, .int la9), (3, .int i9), (4, .int n9)]) hx hb dX12_word_11 hl (by decide) rfl (fun ls hl => ?_)
    refine lv_iload hx hb dX12_word_13 (lv_at hl 0 rfl) ?_
    refine lv_if_eq (tgt := 21) hx hb dX12_word_15 (by decide) (fun _ => ?_) (fun c_0 => absurd c_0 (by decide))
    have hag0 : agF (rdF (en 3) k9.toNatClampNeg) k9 la9 = 0 := by have h9 := hr_1830.symm.trans hz_1830; rw [show en_1829 3 = en 3 from hf_1829 3 (by omega)] at h9; exact h9
    obtain ⟨K9, rfl, -, hK9⟩ := wi_natB hag_1830.1 0 3 (by decide) (by decide)
    refine lv_iload hx hb dX12_word_21 (lv_at hl 5 rfl) ?_
    refine lv_if_ge (tgt := 32) hx hb dX12_word_23 (by decide) (fun c_1831 => ?_) (fun c_1831 => ?_)
    · obtain ⟨N9, hN9, rfl⟩ := nat_of (Int32.not_lt.mpr c_1831)
      refine lv_iload_n hx hb dX12_word_32 rfl (lv_at hl 4 rfl) ?_
      refine lv_if_lt (tgt := 59) hx hb dX12_word_33 (by decide) (fun c_1832 => ?_) (fun c_1832 => ?_)
      · refine lv_aload_n hx hb dX12_word_59 rfl (lv_at hl 1 rfl) ?_
        refine lv_iconst (v := 3) hx hb dX12_word_60 (by decide) ?_
        refine hp_callMi (va_runV (As := [.int 3]) (rest := []) ⟨hx, hb, hml, hown, hts⟩ (c_X12_fails l D cy _ cs ad en_1829 (hI.1 _ (by decide)) 0 hi wd mo tb dp many grt lst nou rm rb pr wo 3 es1825_1829) (kw_X12_fails hts tw_997 ⟨by decide, by decide⟩) (preV_of hh hK (hI.1 _ (by decide)) es1825_1829 rfl) rfl rfl hl.1 rfl (lv_room (Nat.le_of_ble_eq_true rfl)) dX12_word_61 ⟨Nat.le_of_ble_eq_true rfl, Nat.le_of_ble_eq_true rfl⟩) hh hA (fun r_1833 H locs en_1833 hw_1833 hh => ?_)
        obtain ⟨hr_1833, hen_1833⟩ := hw_1833
        have es1826_1833 : en_1833 4 = .inl (cy 0, 4, .inl f_1826) := by rw [hen_1833, va_up_ne _ _ (by decide)]; exact es1826_1829
        have es1827_1833 : en_1833 5 = .inl (cy 0, 160, .inl f_1827) := by rw [hen_1833, va_up_ne _ _ (by decide)]; exact es1827_1829
        have es1828_1833 : en_1833 19 = .inl (cy 0, 10, .inl f_1828) := by rw [hen_1833, va_up_ne _ _ (by decide)]; exact es1828_1829
        have es1825_1833 : en_1833 0 = .inr (11, [.int 3, .int hi, .int (nI wd), .int (nI mo), .int (nI tb), .ref (ad 1), .ref (ad 2), .ref (ad 3), .ref (ad 4), .ref (ad 5), .ref (ad 6), .ref (ad 7), .ref (ad 8), .ref (ad 9), .int dp, .long many, .long grt, .long lst, .long nou, .ref (ad 10), .ref (ad 11), .ref (ad 12), .int rm, .long rb, .ref (ad 13), .int pr, .ref (ad 14), .ref (ad 15), .ref (ad 16), .ref (ad 17), .int (nI wo), .ref (ad 18), .ref (ad 19)]) := by rw [hen_1833]; exact va_up_self _ _ _
        have hI_1833 : RX cy cs ad en_1833 := by rw [hen_1833]; exact upr_M hI_1829 ⟨3, hi, wd, mo, tb, dp, many, grt, lst, nou, rm, rb, pr, wo, rfl, hwd2, hwd3, hmo, htb, hwo⟩
        have hf_1833 : ∀ c, (c ≠ 0 ∧ c ≠ 18 ∧ c ≠ 19) → en_1833 c = en c := fun c hc => Eq.trans (show en_1833 c = en_1829 c from by rw [hen_1833, va_up_ne _ _ (by omega)]) (hf_1829 c hc)
        have hkc18_1833 : en_1833 18 = en 18 := (show en_1833 18 = en_1829 18 from by rw [hen_1833, va_up_ne _ _ (by decide)]).trans hkc18_1829
        have hkc19_1833 : en_1833 19 = en 19 := (show en_1833 19 = en_1829 19 from by rw [hen_1833, va_up_ne _ _ (by decide)]).trans hkc19_1829
        have hkp_1833 : KP en en_1833 := KP_fv hkp_1829 es1825_1829 es1825_1833 hi (nI wd) (nI mo) (nI tb) pr (nI wo) rfl rfl rfl rfl rfl rfl rfl rfl rfl rfl rfl rfl
        obtain rfl : r_1833 = (-13) := hr_1833.trans (by decide)
        have h09 : (0 : Int32).toInt = 0 := by decide
        exact hp_iretM hx hb hr rfl hlocks hh (⟨hI_1833, hf_1833, RWX_keep hRW hkp_1833.2.2.2.2.2 hkc19_1833, KPw_of hkp_1833, Or.inl ⟨fun q => by have h9 := i_lt c_1832; have h8 := q.2.2.2.1; omega, hkp_1833.2.2.2.2.2, hkc18_1833, hkc19_1833⟩⟩) dX12_word_64
      · obtain ⟨I9, hI9, rfl⟩ := nat_of c_1832
        refine lv_iload_n hx hb dX12_word_36 rfl (lv_at hl 4 rfl) ?_
        refine lv_aload_n hx hb dX12_word_37 rfl (lv_at hl 1 rfl) ?_
        refine hp_get hx hb hts ix12 hown hK hh (q := 0) rfl (hI.1 _ (by decide)) es1825_1829 rfl 8 (by decide) (hts _ tw_887) (fun _ h9 => h9) rfl dX12_word_38 ?_
        refine lv_iload_n hx hb dX12_word_41 rfl (lv_at hl 2 rfl) ?_
        refine hp_iald hx hb hK hh (q := 4) rfl (hI.1 _ (by decide)) es1826_1829 (vp_in_nI (n := K9) (by omega) (by decide)) dX12_word_42 ?_
        rw [nI_clamp (n := K9) (by omega)]
        obtain ⟨v_1834, hv_1834, hfv_1834⟩ := p0_1826 K9 (by omega)
        rw [hfv_1834]
        refine lv_icmp_gt (tgt := 59) hx hb dX12_word_43 (by decide) (fun c_1835 => ?_) (fun c_1835 => ?_)
        · have n_1835 : v_1834 < I9 := n_lt (a := v_1834) (b := I9) c_1835 (by omega) (by omega)
          refine lv_aload_n hx hb dX12_word_59 rfl (lv_at hl 1 rfl) ?_
          refine lv_iconst (v := 3) hx hb dX12_word_60 (by decide) ?_
          refine hp_callMi (va_runV (As := [.int 3]) (rest := []) ⟨hx, hb, hml, hown, hts⟩ (c_X12_fails l D cy _ cs ad en_1829 (hI.1 _ (by decide)) 0 hi wd mo tb dp many grt lst nou rm rb pr wo 3 es1825_1829) (kw_X12_fails hts tw_997 ⟨by decide, by decide⟩) (preV_of hh hK (hI.1 _ (by decide)) es1825_1829 rfl) rfl rfl hl.1 rfl (lv_room (Nat.le_of_ble_eq_true rfl)) dX12_word_61 ⟨Nat.le_of_ble_eq_true rfl, Nat.le_of_ble_eq_true rfl⟩) hh hA (fun r_1836 H locs en_1836 hw_1836 hh => ?_)
          obtain ⟨hr_1836, hen_1836⟩ := hw_1836
          have es1826_1836 : en_1836 4 = .inl (cy 0, 4, .inl f_1826) := by rw [hen_1836, va_up_ne _ _ (by decide)]; exact es1826_1829
          have es1827_1836 : en_1836 5 = .inl (cy 0, 160, .inl f_1827) := by rw [hen_1836, va_up_ne _ _ (by decide)]; exact es1827_1829
          have es1828_1836 : en_1836 19 = .inl (cy 0, 10, .inl f_1828) := by rw [hen_1836, va_up_ne _ _ (by decide)]; exact es1828_1829
          have es1825_1836 : en_1836 0 = .inr (11, [.int 3, .int hi, .int (nI wd), .int (nI mo), .int (nI tb), .ref (ad 1), .ref (ad 2), .ref (ad 3), .ref (ad 4), .ref (ad 5), .ref (ad 6), .ref (ad 7), .ref (ad 8), .ref (ad 9), .int dp, .long many, .long grt, .long lst, .long nou, .ref (ad 10), .ref (ad 11), .ref (ad 12), .int rm, .long rb, .ref (ad 13), .int pr, .ref (ad 14), .ref (ad 15), .ref (ad 16), .ref (ad 17), .int (nI wo), .ref (ad 18), .ref (ad 19)]) := by rw [hen_1836]; exact va_up_self _ _ _
          have hI_1836 : RX cy cs ad en_1836 := by rw [hen_1836]; exact upr_M hI_1829 ⟨3, hi, wd, mo, tb, dp, many, grt, lst, nou, rm, rb, pr, wo, rfl, hwd2, hwd3, hmo, htb, hwo⟩
          have hf_1836 : ∀ c, (c ≠ 0 ∧ c ≠ 18 ∧ c ≠ 19) → en_1836 c = en c := fun c hc => Eq.trans (show en_1836 c = en_1829 c from by rw [hen_1836, va_up_ne _ _ (by omega)]) (hf_1829 c hc)
          have hkc18_1836 : en_1836 18 = en 18 := (show en_1836 18 = en_1829 18 from by rw [hen_1836, va_up_ne _ _ (by decide)]).trans hkc18_1829
          have hkc19_1836 : en_1836 19 = en 19 := (show en_1836 19 = en_1829 19 from by rw [hen_1836, va_up_ne _ _ (by decide)]).trans hkc19_1829
          have hkp_1836 : KP en en_1836 := KP_fv hkp_1829 es1825_1829 es1825_1836 hi (nI wd) (nI mo) (nI tb) pr (nI wo) rfl rfl rfl rfl rfl rfl rfl rfl rfl rfl rfl rfl
          obtain rfl : r_1836 = (-13) := hr_1836.trans (by decide)
          have h09 : (0 : Int32).toInt = 0 := by decide
          have hs4 : (rdF (en 4) (nI K9).toNatClampNeg).toInt = (v_1834 : Int) := by rw [nI_clamp (n := K9) (by omega), show rdF (en 4) = f_1826 from by rw [es1826]; rfl, hfv_1834]; exact nI_toInt (by omega)
          have hsi : (nI I9).toInt = (I9 : Int) := nI_toInt (by omega)
          have hsn : (nI N9).toInt = (N9 : Int) := nI_toInt (by omega)
          exact hp_iretM hx hb hr rfl hlocks hh (⟨hI_1836, hf_1836, RWX_keep hRW hkp_1836.2.2.2.2.2 hkc19_1836, KPw_of hkp_1836, Or.inl ⟨fun q => by have h8 := q.2.2.2.2.1; omega, hkp_1836.2.2.2.2.2, hkc18_1836, hkc19_1836⟩⟩) dX12_word_64
        · have n_1835 : I9 ≤ v_1834 := n_nlt (a := v_1834) (b := I9) c_1835 (by omega) (by omega)
          refine lv_iload hx hb dX12_word_46 (lv_at hl 5 rfl) ?_
          refine lv_aload_n hx hb dX12_word_48 rfl (lv_at hl 1 rfl) ?_
          refine hp_get hx hb hts ix12 hown hK hh (q := 0) rfl (hI.1 _ (by decide)) es1825_1829 rfl 8 (by decide) (hts _ tw_887) (fun _ h9 => h9) rfl dX12_word_49 ?_
          refine lv_iload_n hx hb dX12_word_52 rfl (lv_at hl 2 rfl) ?_
          refine hp_iald hx hb hK hh (q := 4) rfl (hI.1 _ (by decide)) es1826_1829 (vp_in_nI (n := K9) (by omega) (by decide)) dX12_word_53 ?_
          rw [nI_clamp (n := K9) (by omega)]
          rw [hfv_1834]
          refine lv_iload_n hx hb dX12_word_54 rfl (lv_at hl 4 rfl) ?_
          refine lv_isub hx hb dX12_word_55 ?_
          rw [pk_sub (a := v_1834) (b := I9) (by omega)]
          refine lv_icmp_le (tgt := 65) hx hb dX12_word_56 (by decide) (fun c_1837 => ?_) (fun c_1837 => ?_)
          · have n_1837 : N9 ≤ (v_1834 - I9) := n_le (a := N9) (b := (v_1834 - I9)) c_1837 (by omega) (by omega)
            refine lv_iload hx hb dX12_word_65 (lv_at hl 5 rfl) ?_
            refine lv_i2l hx hb dX12_word_67 rfl ?_
            refine lv_lconst (v := 1) hx hb dX12_word_68 (by decide) ?_
            refine lv_ldc2 hx hb hown (hts _ tw_1170) dX12_word_69 ?_
            refine hp_callRi (va_runS (As := [.long ((nI N9).toInt64), .long 1, .long 12]) (rest := []) ⟨hx, hb, hml, hown, hts⟩ (c_X12_within l D cy _ cs ad en_1829 ((nI N9).toInt64) 1 12) (kw_X12_within hts tw_985 ⟨by decide, by decide⟩) (preS_of hh hK) rfl rfl hl.1 rfl (lv_room (Nat.le_of_ble_eq_true rfl)) dX12_word_72 ⟨Nat.le_of_ble_eq_true rfl, Nat.le_of_ble_eq_true rfl⟩) hh hA (fun r_1838 H locs hw_1838 hh => ?_)
            rcases Decidable.em (wi (nI N9) 1 12) with hp_1838 | hp_1838
            · obtain rfl : r_1838 = 1 := Eq.trans hw_1838 (if_pos ((wj_32 (by decide) (by decide)).mpr hp_1838))
              have hN_1838 := wi_nn hp_1838 1 12 (by decide) (by decide) (by omega)
              refine lv_if_ne (tgt := 81) hx hb dX12_word_75 (by decide) (fun _ => ?_) (fun c_0 => absurd c_0 (by decide))
              refine lv_iconst (v := 0) hx hb dX12_word_81 (by decide) ?_
              refine lv_istore (lv' := [(6, .int 0), (5, .int 0), (0, .ref (ad 0)), (1, .int (nI K9)), (2, .int la9), (3, .int (nI I9)), (4, .int (nI N9))]) hx hb dX12_word_82 hl (by decide) rfl (fun ls hl => ?_)
              have loop_1839 : ∀ (fu j1839 : Nat)   (ls : Array Slot) (H : Heap) (locs : List Loc), 0 ≤ j1839 → j1839 ≤ N9 → N9 < j1839 + fu →  (∀ x, x < j1839 → ∃ v, v < 6 ∧ v < tb ∧ f_1827 (((40 * K9) + I9) + x) = nI v) → lv_has ls 7 [(6, .int (nI j1839)), (5, .int 0), (0, .ref (ad 0)), (1, .int (nI K9)), (2, .int la9), (3, .int (nI I9)), (4, .int (nI N9))] → Hp D (Af cs ad sz) (Af cs ad sz) s.heap H locs cs ad en_1829 → W p l e (headSpec (Cond.code yX12_word cX12_word 7 (some .int) :: TB) (rmN 2)).room s m ([.ref (ad 0), .int (nI K9), .int la9, .int (nI I9), .int (nI N9)] : List Value).toArray below meth c H locs 0 0 (MQ below (va_Qi (S := Nat → va_E) (fun r en1 => RX cy cs ad en1 ∧ (∀ c, (c ≠ 0 ∧ c ≠ 18 ∧ c ≠ 19) → en1 c = en c) ∧ RWX en1 ∧ KPw en en1 ∧ RWO (nI K9) la9 (nI I9) (nI N9) r en en1) (PostM D cs ad) (Af cs ad sz)) ([.ref (ad 0), .int (nI K9), .int la9, .int (nI I9), .int (nI N9)] : List Value).toArray s 0 0 (Af cs ad sz)) (F0 m 84 ls []) := by
                intro fu
                induction fu with
                | zero => intro j1839  ls H locs h0 h1 h2; exact absurd h2 (by omega)
                | succ fu ih_1839 =>
                  intro j1839  ls H locs hj0_1839 hj_1839 hfu_1839 i0_1839 hl hh
                  refine lv_iload hx hb dX12_word_84 (lv_at hl 0 rfl) ?_
                  refine lv_iload hx hb dX12_word_86 (lv_at hl 6 rfl) ?_
                  refine lv_icmp_ge (tgt := 120) hx hb dX12_word_88 (by decide) (fun c_1840 => ?_) (fun c_1840 => ?_)
                  · have n_1840 : N9 ≤ j1839 := n_le (a := N9) (b := j1839) c_1840 (by omega) (by omega)
                    have hcl9 : ∀ x, x < N9 → ∃ v, v < 6 ∧ f_1827 (((40 * K9) + I9) + x) = nI v := fun x hx => by obtain ⟨v, a1, a2, a3⟩ := i0_1839 x (by omega); exact ⟨v, a1, a3⟩
                    have hcq9 : ∀ x, x < N9 → hasQ (f_1827 (((40 * K9) + I9) + x)) (rdI (en 0) 4) := fun x hx => by obtain ⟨v, a1, a2, a3⟩ := i0_1839 x (by omega); rw [a3, show rdI (en 0) 4 = nI tb from by rw [es1825]; rfl]; exact ⟨by rw [nI_toInt (by omega)]; omega, by rw [nI_toInt (by omega), nI_toInt (by omega)]; omega⟩
                    refine lv_aload_n hx hb dX12_word_120 rfl (lv_at hl 2 rfl) ?_
                    refine hp_get hx hb hts ix12 hown hK hh (q := 0) rfl (hI.1 _ (by decide)) es1825_1829 rfl 30 (by decide) (hts _ tw_909) (fun _ h9 => h9) rfl dX12_word_121 ?_
                    refine lv_bipush (v := 10) hx hb dX12_word_124 (by decide) ?_
                    refine lv_icmp_ne (tgt := 132) hx hb dX12_word_126 (by decide) (fun c_1841 => ?_) (fun c_1841 => ?_)
                    · have n_1841 : wo ≠ 10 := n_neq (a := wo) (b := 10) c_1841 (by omega) (by decide)
                      have hwo9 : wo < 10 := by omega
                      refine lv_iconst (v := 0) hx hb dX12_word_132 (by decide) ?_
                      refine lv_istore (lv' := [(6, .int 0), (5, .int 0), (0, .ref (ad 0)), (1, .int (nI K9)), (2, .int la9), (3, .int (nI I9)), (4, .int (nI N9))]) hx hb dX12_word_133 hl (by decide) rfl (fun ls hl => ?_)
                      have loop_1842 : ∀ (fu j1842 : Nat)  (en_1842 : Nat → va_E) (ls : Array Slot) (H : Heap) (locs : List Loc), 0 ≤ j1842 → j1842 ≤ N9 → N9 < j1842 + fu → RX cy cs ad en_1842 → (∀ c, (c ≠ 0 ∧ c ≠ 18 ∧ c ≠ 19) → en_1842 c = en c) → (∀ x, rdF (en_1842 18) x = if 12 * wo ≤ x ∧ x < 12 * wo + j1842 then rdF (en 5) (40 * K9 + I9 + (x - 12 * wo)) else rdF (en 18) x) → (KP en en_1842) → (en_1842 19 = en 19) → lv_has ls 7 [(6, .int (nI j1842)), (5, .int 0), (0, .ref (ad 0)), (1, .int (nI K9)), (2, .int la9), (3, .int (nI I9)), (4, .int (nI N9))] → Hp D (Af cs ad sz) (Af cs ad sz) s.heap H locs cs ad en_1842 → W p l e (headSpec (Cond.code yX12_word cX12_word 7 (some .int) :: TB) (rmN 2)).room s m ([.ref (ad 0), .int (nI K9), .int la9, .int (nI I9), .int (nI N9)] : List Value).toArray below meth c H locs 0 0 (MQ below (va_Qi (S := Nat → va_E) (fun r en1 => RX cy cs ad en1 ∧ (∀ c, (c ≠ 0 ∧ c ≠ 18 ∧ c ≠ 19) → en1 c = en c) ∧ RWX en1 ∧ KPw en en1 ∧ RWO (nI K9) la9 (nI I9) (nI N9) r en en1) (PostM D cs ad) (Af cs ad sz)) ([.ref (ad 0), .int (nI K9), .int la9, .int (nI I9), .int (nI N9)] : List Value).toArray s 0 0 (Af cs ad sz)) (F0 m 135 ls []) := by
                        intro fu
                        induction fu with
                        | zero => intro j1842  en_1842 ls H locs h0 h1 h2; exact absurd h2 (by omega)
                        | succ fu ih_1842 =>
                          intro j1842  en_1842 ls H locs hj0_1842 hj_1842 hfu_1842 hI_1842 hf_1842 i0_1842 i1_1842 i2_1842 hl hh
                          refine lv_iload hx hb dX12_word_135 (lv_at hl 0 rfl) ?_
                          refine lv_iload hx hb dX12_word_137 (lv_at hl 6 rfl) ?_
                          refine lv_icmp_ge (tgt := 177) hx hb dX12_word_139 (by decide) (fun c_1843 => ?_) (fun c_1843 => ?_)
                          · have n_1843 : N9 ≤ j1842 := n_le (a := N9) (b := j1842) c_1843 (by omega) (by omega)
                            refine lv_aload_n hx hb dX12_word_177 rfl (lv_at hl 2 rfl) ?_
                            obtain ⟨fa_1844, hi_1844, wd_1844, mo_1844, tb_1844, dp_1844, many_1844, grt_1844, lst_1844, nou_1844, rm_1844, rb_1844, pr_1844, wo_1844, es1844, p0_1844, p1_1844, p2_1844, p3_1844, p4_1844⟩ := getr_M hI_1842
                            have hq2_1845 : wd_1844 = wd := n_eq ((show nI wd_1844 = rdI (en_1842 0) 2 from by rw [es1844]; rfl).trans (i1_1842.2.1.trans (show rdI (en 0) 2 = nI wd from by rw [es1825]; rfl))) (by omega) (by omega)
                            have hq3_1845 : mo_1844 = mo := n_eq ((show nI mo_1844 = rdI (en_1842 0) 3 from by rw [es1844]; rfl).trans (i1_1842.2.2.1.trans (show rdI (en 0) 3 = nI mo from by rw [es1825]; rfl))) (by omega) (by omega)
                            have hq4_1845 : tb_1844 = tb := n_eq ((show nI tb_1844 = rdI (en_1842 0) 4 from by rw [es1844]; rfl).trans (i1_1842.2.2.2.1.trans (show rdI (en 0) 4 = nI tb from by rw [es1825]; rfl))) (by omega) (by omega)
                            have hq30_1845 : wo_1844 = wo := n_eq ((show nI wo_1844 = rdI (en_1842 0) 30 from by rw [es1844]; rfl).trans (i1_1842.2.2.2.2.2.trans (show rdI (en 0) 30 = nI wo from by rw [es1825]; rfl))) (by omega) (by omega)
                            rw [hq2_1845, hq3_1845, hq4_1845, hq30_1845] at es1844
                            refine hp_get hx hb hts ix12 hown hK hh (q := 0) rfl (hI.1 _ (by decide)) es1844 rfl 32 (by decide) (hts _ tw_911) (fun _ h9 => h9) rfl dX12_word_178 ?_
                            refine lv_aload_n hx hb dX12_word_181 rfl (lv_at hl 2 rfl) ?_
                            refine hp_get hx hb hts ix12 hown hK hh (q := 0) rfl (hI.1 _ (by decide)) es1844 rfl 30 (by decide) (hts _ tw_909) (fun _ h9 => h9) rfl dX12_word_182 ?_
                            refine lv_iload hx hb dX12_word_185 (lv_at hl 6 rfl) ?_
                            have es1828_1846 : en_1842 19 = .inl (cy 0, 10, .inl f_1828) := i2_1842.trans es1828
                            refine hp_iast hx hb hK hh (q := 19) rfl (hI.1 _ (by decide)) es1828_1846 (vp_in_nI (n := wo) (by omega) (by decide)) dX12_word_187 (fun H locs en_1847 hen_1847 hh => ?_)
                            rw [nI_clamp (n := wo) (by omega)] at hen_1847
                            have es1844_1847 : en_1847 0 = .inr (11, [.int fa_1844, .int hi_1844, .int (nI wd), .int (nI mo), .int (nI tb), .ref (ad 1), .ref (ad 2), .ref (ad 3), .ref (ad 4), .ref (ad 5), .ref (ad 6), .ref (ad 7), .ref (ad 8), .ref (ad 9), .int dp_1844, .long many_1844, .long grt_1844, .long lst_1844, .long nou_1844, .ref (ad 10), .ref (ad 11), .ref (ad 12), .int rm_1844, .long rb_1844, .ref (ad 13), .int pr_1844, .ref (ad 14), .ref (ad 15), .ref (ad 16), .ref (ad 17), .int (nI wo), .ref (ad 18), .ref (ad 19)]) := by rw [hen_1847, va_up_ne _ _ (by decide)]; exact es1844
                            have es1828_1847 : en_1847 19 = .inl (cy 0, 10, .inl (upd f_1828 wo (nI N9))) := by rw [hen_1847]; exact va_up_self _ _ _
                            have hI_1847 : RX cy cs ad en_1847 := by rw [hen_1847]; exact upr_wl hI_1842 ⟨(upd f_1828 wo (nI N9)), rfl, (vals_updB p0_1828 (by omega))⟩
                            have hf_1847 : ∀ c, (c ≠ 0 ∧ c ≠ 18 ∧ c ≠ 19) → en_1847 c = en c := fun c hc => Eq.trans (show en_1847 c = en_1842 c from by rw [hen_1847, va_up_ne _ _ (by omega)]) (hf_1842 c hc)
                            have hkp_1847 : KP en en_1847 := KP_same i1_1842 (show en_1847 0 = en_1842 0 from by rw [hen_1847, va_up_ne _ _ (by decide)])
                            refine lv_aload_n hx hb dX12_word_188 rfl (lv_at hl 2 rfl) ?_
                            refine lv_dup hx hb dX12_word_189 rfl ?_
                            refine hp_get hx hb hts ix12 hown hK hh (q := 0) rfl (hI.1 _ (by decide)) es1844_1847 rfl 30 (by decide) (hts _ tw_909) (fun _ h9 => h9) rfl dX12_word_190 ?_
                            refine lv_iconst (v := 1) hx hb dX12_word_193 (by decide) ?_
                            refine lv_iadd hx hb dX12_word_194 ?_
                            rw [show (1 : Int32) = nI 1 from rfl, nI_add wo 1]
                            refine hp_put hx hb hts ix12 tyX12 tyX12_ok nmX12 hown hK hh (q := 0) rfl (hI.1 _ (by decide)) es1844_1847 rfl 30 (by decide) (hts _ tw_909) (fun _ h9 => h9) rfl (ty := .int) (by decide +kernel) rfl rfl (Nat.le_of_ble_eq_true rfl) dX12_word_195 (fun H locs en_1848 hen_1848 hh => ?_)
                            have es1828_1848 : en_1848 19 = .inl (cy 0, 10, .inl (upd f_1828 wo (nI N9))) := by rw [hen_1848, va_up_ne _ _ (by decide)]; exact es1828_1847
                            have es1844_1848 : en_1848 0 = .inr (11, [.int fa_1844, .int hi_1844, .int (nI wd), .int (nI mo), .int (nI tb), .ref (ad 1), .ref (ad 2), .ref (ad 3), .ref (ad 4), .ref (ad 5), .ref (ad 6), .ref (ad 7), .ref (ad 8), .ref (ad 9), .int dp_1844, .long many_1844, .long grt_1844, .long lst_1844, .long nou_1844, .ref (ad 10), .ref (ad 11), .ref (ad 12), .int rm_1844, .long rb_1844, .ref (ad 13), .int pr_1844, .ref (ad 14), .ref (ad 15), .ref (ad 16), .ref (ad 17), .int (nI (wo + 1)), .ref (ad 18), .ref (ad 19)]) := by rw [hen_1848]; exact va_up_self _ _ _
                            have hI_1848 : RX cy cs ad en_1848 := by rw [hen_1848]; exact upr_M hI_1847 ⟨fa_1844, hi_1844, wd, mo, tb, dp_1844, many_1844, grt_1844, lst_1844, nou_1844, rm_1844, rb_1844, pr_1844, (wo + 1), rfl, hwd2, hwd3, hmo, htb, (by omega)⟩
                            have hf_1848 : ∀ c, (c ≠ 0 ∧ c ≠ 18 ∧ c ≠ 19) → en_1848 c = en c := fun c hc => Eq.trans (show en_1848 c = en_1847 c from by rw [hen_1848, va_up_ne _ _ (by omega)]) (hf_1847 c hc)
                            refine lv_aload_n hx hb dX12_word_198 rfl (lv_at hl 2 rfl) ?_
                            refine hp_get hx hb hts ix12 hown hK hh (q := 0) rfl (hI.1 _ (by decide)) es1844_1848 rfl 30 (by decide) (hts _ tw_909) (fun _ h9 => h9) rfl dX12_word_199 ?_
                            refine lv_iconst (v := 1) hx hb dX12_word_202 (by decide) ?_
                            refine lv_isub hx hb dX12_word_203 ?_
                            rw [show (1 : Int32) = nI 1 from rfl, pk_sub (a := (wo + 1)) (b := 1) (by omega)]
                            have h09 : (0 : Int32).toInt = 0 := by decide
                            have hs4 : (rdF (en 4) (nI K9).toNatClampNeg).toInt = (v_1834 : Int) := by rw [nI_clamp (n := K9) (by omega), show rdF (en 4) = f_1826 from by rw [es1826]; rfl, hfv_1834]; exact nI_toInt (by omega)
                            have hsi : (nI I9).toInt = (I9 : Int) := nI_toInt (by omega)
                            have hsn : (nI N9).toInt = (N9 : Int) := nI_toInt (by omega)
                            have hc4 : (rdI (en 0) 4).toInt = (tb : Int) := by rw [show rdI (en 0) 4 = nI tb from by rw [es1825]; rfl]; exact nI_toInt (by omega)
                            have he30 : rdI (en 0) 30 = nI wo := by rw [es1825]; rfl
                            have hc30 : (rdI (en 0) 30).toInt = (wo : Int) := by rw [he30]; exact nI_toInt (by omega)
                            have hok9 : okWR (nI K9) la9 (nI I9) (nI N9) en := ⟨hag0, by omega, by omega, by omega, by omega, fun x hx9 => by rw [nI_clamp (n := N9) (by omega)] at hx9; rw [nI_clamp (n := K9) (by omega), nI_clamp (n := I9) (by omega), show rdF (en 5) = f_1827 from by rw [es1827]; rfl]; exact hcq9 x hx9, by omega⟩
                            exact hp_iretM hx hb hr rfl hlocks hh (⟨hI_1848, hf_1848, RWX_add hRW (wo := wo) hwo9 (show rdI (en 0) 30 = nI wo from by rw [es1825]; rfl) (show rdI (en_1848 0) 30 = nI (wo + 1) from by rw [es1844_1848]; rfl) (N := N9) (by omega) (by omega) (show rdF (en_1848 19) = upd (rdF (en 19)) wo (nI N9) from by rw [es1828_1848, es1828]; rfl), KPw_fv (KPw_of hkp_1847) es1844_1847 es1844_1848 hi_1844 (nI wd) (nI mo) (nI tb) pr_1844 rfl rfl rfl rfl rfl rfl rfl rfl rfl rfl, (by unfold RWO; rw [nI_clamp (n := K9) (by omega), nI_clamp (n := I9) (by omega), nI_clamp (n := N9) (by omega)]; exact Or.inr ⟨hok9, wo, congrArg nI (by omega), he30, hwo9, by omega, by omega, (by rw [es1844_1848]; rfl), (by rw [es1828_1848, es1828]; rfl), fun x => by rw [show en_1848 18 = en_1842 18 from by rw [hen_1848, va_up_ne _ _ (by decide), hen_1847, va_up_ne _ _ (by decide)]]; have e9 : j1842 = N9 := (by omega); have h9 := i0_1842 x; rw [e9] at h9; exact h9⟩)⟩) dX12_word_204
                          · have n_1843 : j1842 < N9 := n_nle (a := N9) (b := j1842) c_1843 (by omega) (by omega)
                            refine lv_aload_n hx hb dX12_word_142 rfl (lv_at hl 2 rfl) ?_
                            obtain ⟨fa_1849, hi_1849, wd_1849, mo_1849, tb_1849, dp_1849, many_1849, grt_1849, lst_1849, nou_1849, rm_1849, rb_1849, pr_1849, wo_1849, es1849, p0_1849, p1_1849, p2_1849, p3_1849, p4_1849⟩ := getr_M hI_1842
                            have hq2_1850 : wd_1849 = wd := n_eq ((show nI wd_1849 = rdI (en_1842 0) 2 from by rw [es1849]; rfl).trans (i1_1842.2.1.trans (show rdI (en 0) 2 = nI wd from by rw [es1825]; rfl))) (by omega) (by omega)
                            have hq3_1850 : mo_1849 = mo := n_eq ((show nI mo_1849 = rdI (en_1842 0) 3 from by rw [es1849]; rfl).trans (i1_1842.2.2.1.trans (show rdI (en 0) 3 = nI mo from by rw [es1825]; rfl))) (by omega) (by omega)
                            have hq4_1850 : tb_1849 = tb := n_eq ((show nI tb_1849 = rdI (en_1842 0) 4 from by rw [es1849]; rfl).trans (i1_1842.2.2.2.1.trans (show rdI (en 0) 4 = nI tb from by rw [es1825]; rfl))) (by omega) (by omega)
                            have hq30_1850 : wo_1849 = wo := n_eq ((show nI wo_1849 = rdI (en_1842 0) 30 from by rw [es1849]; rfl).trans (i1_1842.2.2.2.2.2.trans (show rdI (en 0) 30 = nI wo from by rw [es1825]; rfl))) (by omega) (by omega)
                            rw [hq2_1850, hq3_1850, hq4_1850, hq30_1850] at es1849
                            refine hp_get hx hb hts ix12 hown hK hh (q := 0) rfl (hI.1 _ (by decide)) es1849 rfl 31 (by decide) (hts _ tw_910) (fun _ h9 => h9) rfl dX12_word_143 ?_
                            refine lv_bipush (v := 12) hx hb dX12_word_146 (by decide) ?_
                            refine lv_aload_n hx hb dX12_word_148 rfl (lv_at hl 2 rfl) ?_
                            refine hp_get hx hb hts ix12 hown hK hh (q := 0) rfl (hI.1 _ (by decide)) es1849 rfl 30 (by decide) (hts _ tw_909) (fun _ h9 => h9) rfl dX12_word_149 ?_
                            refine lv_imul hx hb dX12_word_152 ?_
                            rw [show (12 : Int32) = nI 12 from rfl, pk_mul 12 wo]
                            refine lv_iload hx hb dX12_word_153 (lv_at hl 0 rfl) ?_
                            refine lv_iadd hx hb dX12_word_155 ?_
                            rw [nI_add (12 * wo) j1842]
                            refine lv_aload_n hx hb dX12_word_156 rfl (lv_at hl 2 rfl) ?_
                            refine hp_get hx hb hts ix12 hown hK hh (q := 0) rfl (hI.1 _ (by decide)) es1849 rfl 9 (by decide) (hts _ tw_888) (fun _ h9 => h9) rfl dX12_word_157 ?_
                            refine lv_bipush (v := 40) hx hb dX12_word_160 (by decide) ?_
                            refine lv_iload_n hx hb dX12_word_162 rfl (lv_at hl 3 rfl) ?_
                            refine lv_imul hx hb dX12_word_163 ?_
                            rw [show (40 : Int32) = nI 40 from rfl, pk_mul 40 K9]
                            refine lv_iload_n hx hb dX12_word_164 rfl (lv_at hl 5 rfl) ?_
                            refine lv_iadd hx hb dX12_word_165 ?_
                            rw [nI_add (40 * K9) I9]
                            refine lv_iload hx hb dX12_word_166 (lv_at hl 0 rfl) ?_
                            refine lv_iadd hx hb dX12_word_168 ?_
                            rw [nI_add ((40 * K9) + I9) j1842]
                            have es1827_1851 : en_1842 5 = .inl (cy 0, 160, .inl f_1827) := (hf_1842 5 (by omega)).trans es1827
                            refine hp_iald hx hb hK hh (q := 5) rfl (hI.1 _ (by decide)) es1827_1851 (vp_in_nI (n := (((40 * K9) + I9) + j1842)) (by omega) (by decide)) dX12_word_169 ?_
                            rw [nI_clamp (n := (((40 * K9) + I9) + j1842)) (by omega)]
                            obtain ⟨v_1852, hv_1852, hve_1852⟩ := hcl9 j1842 (by omega)
                            rw [show (f_1827 (((40 * K9) + I9) + j1842)) = nI v_1852 from hve_1852]
                            obtain ⟨f_1853, es1853, p0_1853⟩ := getr_lt hI_1842
                            refine hp_iast hx hb hK hh (q := 18) rfl (hI.1 _ (by decide)) es1853 (vp_in_nI (n := ((12 * wo) + j1842)) (by omega) (by decide)) dX12_word_170 (fun H locs en_1854 hen_1854 hh => ?_)
                            rw [nI_clamp (n := ((12 * wo) + j1842)) (by omega)] at hen_1854
                            have es1849_1854 : en_1854 0 = .inr (11, [.int fa_1849, .int hi_1849, .int (nI wd), .int (nI mo), .int (nI tb), .ref (ad 1), .ref (ad 2), .ref (ad 3), .ref (ad 4), .ref (ad 5), .ref (ad 6), .ref (ad 7), .ref (ad 8), .ref (ad 9), .int dp_1849, .long many_1849, .long grt_1849, .long lst_1849, .long nou_1849, .ref (ad 10), .ref (ad 11), .ref (ad 12), .int rm_1849, .long rb_1849, .ref (ad 13), .int pr_1849, .ref (ad 14), .ref (ad 15), .ref (ad 16), .ref (ad 17), .int (nI wo), .ref (ad 18), .ref (ad 19)]) := by rw [hen_1854, va_up_ne _ _ (by decide)]; exact es1849
                            have es1827_1854 : en_1854 5 = .inl (cy 0, 160, .inl f_1827) := by rw [hen_1854, va_up_ne _ _ (by decide)]; exact es1827_1851
                            have es1853_1854 : en_1854 18 = .inl (cy 0, 120, .inl (upd f_1853 ((12 * wo) + j1842) (nI v_1852))) := by rw [hen_1854]; exact va_up_self _ _ _
                            have hI_1854 : RX cy cs ad en_1854 := by rw [hen_1854]; exact upr_lt hI_1842 ⟨(upd f_1853 ((12 * wo) + j1842) (nI v_1852)), rfl, (vals_updB p0_1853 (by omega))⟩
                            have hf_1854 : ∀ c, (c ≠ 0 ∧ c ≠ 18 ∧ c ≠ 19) → en_1854 c = en c := fun c hc => Eq.trans (show en_1854 c = en_1842 c from by rw [hen_1854, va_up_ne _ _ (by omega)]) (hf_1842 c hc)
                            have hkc19_1854 : en_1854 19 = en 19 := (show en_1854 19 = en_1842 19 from by rw [hen_1854, va_up_ne _ _ (by decide)]).trans i2_1842
                            have hkp_1854 : KP en en_1854 := KP_same i1_1842 (show en_1854 0 = en_1842 0 from by rw [hen_1854, va_up_ne _ _ (by decide)])
                            refine lv_iinc (v := (nI (j1842 + 1))) (lv' := [(6, .int (nI (j1842 + 1))), (5, .int 0), (0, .ref (ad 0)), (1, .int (nI K9)), (2, .int la9), (3, .int (nI I9)), (4, .int (nI N9))]) hx hb dX12_word_171 hl (k := 0) rfl (nI_1 _) (by decide) rfl (fun ls hl => ?_)
                            refine lv_goto (tgt := 135) hx hb dX12_word_174 (by decide) ?_
                            exact ih_1842 ((j1842 + 1))  en_1854 ls H locs (by omega) (by omega) (by omega) hI_1854 hf_1854 (fun x => by rw [es1853_1854]; exact cp_upd (c := fun y => rdF (en 5) (40 * K9 + I9 + y)) (j := j1842) (fun x => (show f_1853 x = rdF (en_1842 18) x from by rw [es1853]; rfl).trans (i0_1842 x)) rfl rfl (by show rdF (en 5) (40 * K9 + I9 + j1842) = _; rw [show rdF (en 5) = f_1827 from by rw [es1827]; rfl]; exact hve_1852) x) (hkp_1854) (hkc19_1854) (lv_sub hl [0, 1, 2, 3, 4, 5, 6] rfl) hh
                      exact loop_1842 (N9 + 1) 0  en_1829 ls _ _ (Nat.le_refl _) (by omega) (by omega) hI_1829 hf_1829 (fun x => by rw [hkc18_1829, if_neg (by omega)]) (hkp_1829) (hkc19_1829) (lv_sub hl [0, 1, 2, 3, 4, 5, 6] rfl) hh
                    · have n_1841 : wo = 10 := n_eq (a := wo) (b := 10) c_1841 (by omega) (by decide)
                      refine lv_bipush (v := (-4)) hx hb dX12_word_129 (by decide) ?_
                      have h09 : (0 : Int32).toInt = 0 := by decide
                      have hs4 : (rdF (en 4) (nI K9).toNatClampNeg).toInt = (v_1834 : Int) := by rw [nI_clamp (n := K9) (by omega), show rdF (en 4) = f_1826 from by rw [es1826]; rfl, hfv_1834]; exact nI_toInt (by omega)
                      have hsi : (nI I9).toInt = (I9 : Int) := nI_toInt (by omega)
                      have hsn : (nI N9).toInt = (N9 : Int) := nI_toInt (by omega)
                      have hc4 : (rdI (en 0) 4).toInt = (tb : Int) := by rw [show rdI (en 0) 4 = nI tb from by rw [es1825]; rfl]; exact nI_toInt (by omega)
                      have he30 : rdI (en 0) 30 = nI wo := by rw [es1825]; rfl
                      have hc30 : (rdI (en 0) 30).toInt = (wo : Int) := by rw [he30]; exact nI_toInt (by omega)
                      exact hp_iretM hx hb hr rfl hlocks hh (⟨hI_1829, hf_1829, RWX_keep hRW hkp_1829.2.2.2.2.2 hkc19_1829, KPw_of hkp_1829, Or.inl ⟨fun q => by have h8 := q.2.2.2.2.2.2; omega, hkp_1829.2.2.2.2.2, hkc18_1829, hkc19_1829⟩⟩) dX12_word_131
                  · have n_1840 : j1839 < N9 := n_nle (a := N9) (b := j1839) c_1840 (by omega) (by omega)
                    refine lv_aload_n hx hb dX12_word_91 rfl (lv_at hl 2 rfl) ?_
                    refine lv_aload_n hx hb dX12_word_92 rfl (lv_at hl 2 rfl) ?_
                    refine hp_get hx hb hts ix12 hown hK hh (q := 0) rfl (hI.1 _ (by decide)) es1825_1829 rfl 9 (by decide) (hts _ tw_888) (fun _ h9 => h9) rfl dX12_word_93 ?_
                    refine lv_bipush (v := 40) hx hb dX12_word_96 (by decide) ?_
                    refine lv_iload_n hx hb dX12_word_98 rfl (lv_at hl 3 rfl) ?_
                    refine lv_imul hx hb dX12_word_99 ?_
                    rw [show (40 : Int32) = nI 40 from rfl, pk_mul 40 K9]
                    refine lv_iload_n hx hb dX12_word_100 rfl (lv_at hl 5 rfl) ?_
                    refine lv_iadd hx hb dX12_word_101 ?_
                    rw [nI_add (40 * K9) I9]
                    refine lv_iload hx hb dX12_word_102 (lv_at hl 0 rfl) ?_
                    refine lv_iadd hx hb dX12_word_104 ?_
                    rw [nI_add ((40 * K9) + I9) j1839]
                    refine hp_iald hx hb hK hh (q := 5) rfl (hI.1 _ (by decide)) es1827_1829 (vp_in_nI (n := (((40 * K9) + I9) + j1839)) (by omega) (by decide)) dX12_word_105 ?_
                    rw [nI_clamp (n := (((40 * K9) + I9) + j1839)) (by omega)]
                    refine hp_callRi (va_runV (As := [.int (f_1827 (((40 * K9) + I9) + j1839))]) (rest := []) ⟨hx, hb, hml, hown, hts⟩ (c_X12_isTable l D cy _ cs ad en_1829 hI_1829 (f_1827 (((40 * K9) + I9) + j1839)) ) (kw_X12_isTable hts tw_1007 ⟨by decide, by decide⟩) (preV_of hh hK (hI.1 _ (by decide)) es1825_1829 rfl) rfl rfl hl.1 rfl (lv_room (Nat.le_of_ble_eq_true rfl)) dX12_word_106 ⟨Nat.le_of_ble_eq_true rfl, Nat.le_of_ble_eq_true rfl⟩) hh hA (fun r_1855 H locs hw_1855 hh => ?_)
                    rw [show rdI (en_1829 0) 4 = (nI tb) from by rw [es1825_1829]; rfl, nI_toInt (n := tb) (by omega)] at hw_1855
                    rcases Decidable.em (0 ≤ (f_1827 (((40 * K9) + I9) + j1839)).toInt ∧ (f_1827 (((40 * K9) + I9) + j1839)).toInt < (tb : Int)) with hp_1855 | hp_1855
                    · obtain rfl : r_1855 = 1 := Eq.trans hw_1855 (if_pos hp_1855)
                      refine lv_if_ne (tgt := 114) hx hb dX12_word_109 (by decide) (fun _ => ?_) (fun c_0 => absurd c_0 (by decide))
                      refine lv_iinc (v := (nI (j1839 + 1))) (lv' := [(6, .int (nI (j1839 + 1))), (5, .int 0), (0, .ref (ad 0)), (1, .int (nI K9)), (2, .int la9), (3, .int (nI I9)), (4, .int (nI N9))]) hx hb dX12_word_114 hl (k := 0) rfl (nI_1 _) (by decide) rfl (fun ls hl => ?_)
                      refine lv_goto (tgt := 84) hx hb dX12_word_117 (by decide) ?_
                      exact ih_1839 ((j1839 + 1))  ls H locs (by omega) (by omega) (by omega) (fun x hx => by rcases Nat.lt_or_ge x j1839 with h9 | h9; exact i0_1839 x h9; obtain rfl : x = j1839 := (by omega); obtain ⟨v, e9, h8⟩ := has_nat hp_1855; exact ⟨v, by omega, by omega, e9⟩) (lv_sub hl [0, 1, 2, 3, 4, 5, 6] rfl) hh
                    · obtain rfl : r_1855 = 0 := Eq.trans hw_1855 (if_neg hp_1855)
                      refine lv_if_ne (tgt := 114) hx hb dX12_word_109 (by decide) (fun c_0 => absurd c_0 (by decide)) (fun _ => ?_)
                      refine lv_iconst (v := (-1)) hx hb dX12_word_112 (by decide) ?_
                      have h09 : (0 : Int32).toInt = 0 := by decide
                      have hs4 : (rdF (en 4) (nI K9).toNatClampNeg).toInt = (v_1834 : Int) := by rw [nI_clamp (n := K9) (by omega), show rdF (en 4) = f_1826 from by rw [es1826]; rfl, hfv_1834]; exact nI_toInt (by omega)
                      have hsi : (nI I9).toInt = (I9 : Int) := nI_toInt (by omega)
                      have hsn : (nI N9).toInt = (N9 : Int) := nI_toInt (by omega)
                      have hc4 : (rdI (en 0) 4).toInt = (tb : Int) := by rw [show rdI (en 0) 4 = nI tb from by rw [es1825]; rfl]; exact nI_toInt (by omega)
                      have he30 : rdI (en 0) 30 = nI wo := by rw [es1825]; rfl
                      have hc30 : (rdI (en 0) 30).toInt = (wo : Int) := by rw [he30]; exact nI_toInt (by omega)
                      exact hp_iretM hx hb hr rfl hlocks hh (⟨hI_1829, hf_1829, RWX_keep hRW hkp_1829.2.2.2.2.2 hkc19_1829, KPw_of hkp_1829, Or.inl ⟨fun q => hp_1855 (by have h9 := q.2.2.2.2.2.1 j1839 (by rw [nI_clamp (n := N9) (by omega)]; omega); rw [nI_clamp (n := K9) (by omega), nI_clamp (n := I9) (by omega), show rdF (en 5) = f_1827 from by rw [es1827]; rfl] at h9; exact ⟨h9.1, by have := h9.2; omega⟩), hkp_1829.2.2.2.2.2, hkc18_1829, hkc19_1829⟩⟩) dX12_word_113
              exact loop_1839 (N9 + 1) 0  ls _ _ (Nat.le_refl _) (by omega) (by omega) (fun x h => absurd h (Nat.not_lt_zero x)) (lv_sub hl [0, 1, 2, 3, 4, 5, 6] rfl) hh
            · obtain rfl : r_1838 = 0 := Eq.trans hw_1838 (if_neg (fun q => hp_1838 ((wj_32 (by decide) (by decide)).mp q)))
              refine lv_if_ne (tgt := 81) hx hb dX12_word_75 (by decide) (fun c_0 => absurd c_0 (by decide)) (fun _ => ?_)
              refine lv_bipush (v := (-2)) hx hb dX12_word_78 (by decide) ?_
              have h09 : (0 : Int32).toInt = 0 := by decide
              have hs4 : (rdF (en 4) (nI K9).toNatClampNeg).toInt = (v_1834 : Int) := by rw [nI_clamp (n := K9) (by omega), show rdF (en 4) = f_1826 from by rw [es1826]; rfl, hfv_1834]; exact nI_toInt (by omega)
              have hsi : (nI I9).toInt = (I9 : Int) := nI_toInt (by omega)
              have hsn : (nI N9).toInt = (N9 : Int) := nI_toInt (by omega)
              exact hp_iretM hx hb hr rfl hlocks hh (⟨hI_1829, hf_1829, RWX_keep hRW hkp_1829.2.2.2.2.2 hkc19_1829, KPw_of hkp_1829, Or.inl ⟨fun q => hp_1838 ⟨by rw [show (1 : Int32).toInt = 1 by decide]; exact q.2.1, by rw [show (12 : Int32).toInt = 12 by decide]; exact q.2.2.1⟩, hkp_1829.2.2.2.2.2, hkc18_1829, hkc19_1829⟩⟩) dX12_word_80
          · have n_1837 : (v_1834 - I9) < N9 := n_nle (a := N9) (b := (v_1834 - I9)) c_1837 (by omega) (by omega)
            refine lv_aload_n hx hb dX12_word_59 rfl (lv_at hl 1 rfl) ?_
            refine lv_iconst (v := 3) hx hb dX12_word_60 (by decide) ?_
            refine hp_callMi (va_runV (As := [.int 3]) (rest := []) ⟨hx, hb, hml, hown, hts⟩ (c_X12_fails l D cy _ cs ad en_1829 (hI.1 _ (by decide)) 0 hi wd mo tb dp many grt lst nou rm rb pr wo 3 es1825_1829) (kw_X12_fails hts tw_997 ⟨by decide, by decide⟩) (preV_of hh hK (hI.1 _ (by decide)) es1825_1829 rfl) rfl rfl hl.1 rfl (lv_room (Nat.le_of_ble_eq_true rfl)) dX12_word_61 ⟨Nat.le_of_ble_eq_true rfl, Nat.le_of_ble_eq_true rfl⟩) hh hA (fun r_1856 H locs en_1856 hw_1856 hh => ?_)
            obtain ⟨hr_1856, hen_1856⟩ := hw_1856
            have es1826_1856 : en_1856 4 = .inl (cy 0, 4, .inl f_1826) := by rw [hen_1856, va_up_ne _ _ (by decide)]; exact es1826_1829
            have es1827_1856 : en_1856 5 = .inl (cy 0, 160, .inl f_1827) := by rw [hen_1856, va_up_ne _ _ (by decide)]; exact es1827_1829
            have es1828_1856 : en_1856 19 = .inl (cy 0, 10, .inl f_1828) := by rw [hen_1856, va_up_ne _ _ (by decide)]; exact es1828_1829
            have es1825_1856 : en_1856 0 = .inr (11, [.int 3, .int hi, .int (nI wd), .int (nI mo), .int (nI tb), .ref (ad 1), .ref (ad 2), .ref (ad 3), .ref (ad 4), .ref (ad 5), .ref (ad 6), .ref (ad 7), .ref (ad 8), .ref (ad 9), .int dp, .long many, .long grt, .long lst, .long nou, .ref (ad 10), .ref (ad 11), .ref (ad 12), .int rm, .long rb, .ref (ad 13), .int pr, .ref (ad 14), .ref (ad 15), .ref (ad 16), .ref (ad 17), .int (nI wo), .ref (ad 18), .ref (ad 19)]) := by rw [hen_1856]; exact va_up_self _ _ _
            have hI_1856 : RX cy cs ad en_1856 := by rw [hen_1856]; exact upr_M hI_1829 ⟨3, hi, wd, mo, tb, dp, many, grt, lst, nou, rm, rb, pr, wo, rfl, hwd2, hwd3, hmo, htb, hwo⟩
            have hf_1856 : ∀ c, (c ≠ 0 ∧ c ≠ 18 ∧ c ≠ 19) → en_1856 c = en c := fun c hc => Eq.trans (show en_1856 c = en_1829 c from by rw [hen_1856, va_up_ne _ _ (by omega)]) (hf_1829 c hc)
            have hkc18_1856 : en_1856 18 = en 18 := (show en_1856 18 = en_1829 18 from by rw [hen_1856, va_up_ne _ _ (by decide)]).trans hkc18_1829
            have hkc19_1856 : en_1856 19 = en 19 := (show en_1856 19 = en_1829 19 from by rw [hen_1856, va_up_ne _ _ (by decide)]).trans hkc19_1829
            have hkp_1856 : KP en en_1856 := KP_fv hkp_1829 es1825_1829 es1825_1856 hi (nI wd) (nI mo) (nI tb) pr (nI wo) rfl rfl rfl rfl rfl rfl rfl rfl rfl rfl rfl rfl
            obtain rfl : r_1856 = (-13) := hr_1856.trans (by decide)
            have h09 : (0 : Int32).toInt = 0 := by decide
            have hs4 : (rdF (en 4) (nI K9).toNatClampNeg).toInt = (v_1834 : Int) := by rw [nI_clamp (n := K9) (by omega), show rdF (en 4) = f_1826 from by rw [es1826]; rfl, hfv_1834]; exact nI_toInt (by omega)
            have hsi : (nI I9).toInt = (I9 : Int) := nI_toInt (by omega)
            have hsn : (nI N9).toInt = (N9 : Int) := nI_toInt (by omega)
            exact hp_iretM hx hb hr rfl hlocks hh (⟨hI_1856, hf_1856, RWX_keep hRW hkp_1856.2.2.2.2.2 hkc19_1856, KPw_of hkp_1856, Or.inl ⟨fun q => by have h8 := q.2.2.2.2.1; omega, hkp_1856.2.2.2.2.2, hkc18_1856, hkc19_1856⟩⟩) dX12_word_64
    · refine lv_aload_n hx hb dX12_word_26 rfl (lv_at hl 1 rfl) ?_
      refine lv_iconst (v := 4) hx hb dX12_word_27 (by decide) ?_
      refine hp_callMi (va_runV (As := [.int 4]) (rest := []) ⟨hx, hb, hml, hown, hts⟩ (c_X12_fails l D cy _ cs ad en_1829 (hI.1 _ (by decide)) 0 hi wd mo tb dp many grt lst nou rm rb pr wo 4 es1825_1829) (kw_X12_fails hts tw_997 ⟨by decide, by decide⟩) (preV_of hh hK (hI.1 _ (by decide)) es1825_1829 rfl) rfl rfl hl.1 rfl (lv_room (Nat.le_of_ble_eq_true rfl)) dX12_word_28 ⟨Nat.le_of_ble_eq_true rfl, Nat.le_of_ble_eq_true rfl⟩) hh hA (fun r_1857 H locs en_1857 hw_1857 hh => ?_)
      obtain ⟨hr_1857, hen_1857⟩ := hw_1857
      have es1826_1857 : en_1857 4 = .inl (cy 0, 4, .inl f_1826) := by rw [hen_1857, va_up_ne _ _ (by decide)]; exact es1826_1829
      have es1827_1857 : en_1857 5 = .inl (cy 0, 160, .inl f_1827) := by rw [hen_1857, va_up_ne _ _ (by decide)]; exact es1827_1829
      have es1828_1857 : en_1857 19 = .inl (cy 0, 10, .inl f_1828) := by rw [hen_1857, va_up_ne _ _ (by decide)]; exact es1828_1829
      have es1825_1857 : en_1857 0 = .inr (11, [.int 4, .int hi, .int (nI wd), .int (nI mo), .int (nI tb), .ref (ad 1), .ref (ad 2), .ref (ad 3), .ref (ad 4), .ref (ad 5), .ref (ad 6), .ref (ad 7), .ref (ad 8), .ref (ad 9), .int dp, .long many, .long grt, .long lst, .long nou, .ref (ad 10), .ref (ad 11), .ref (ad 12), .int rm, .long rb, .ref (ad 13), .int pr, .ref (ad 14), .ref (ad 15), .ref (ad 16), .ref (ad 17), .int (nI wo), .ref (ad 18), .ref (ad 19)]) := by rw [hen_1857]; exact va_up_self _ _ _
      have hI_1857 : RX cy cs ad en_1857 := by rw [hen_1857]; exact upr_M hI_1829 ⟨4, hi, wd, mo, tb, dp, many, grt, lst, nou, rm, rb, pr, wo, rfl, hwd2, hwd3, hmo, htb, hwo⟩
      have hf_1857 : ∀ c, (c ≠ 0 ∧ c ≠ 18 ∧ c ≠ 19) → en_1857 c = en c := fun c hc => Eq.trans (show en_1857 c = en_1829 c from by rw [hen_1857, va_up_ne _ _ (by omega)]) (hf_1829 c hc)
      have hkc18_1857 : en_1857 18 = en 18 := (show en_1857 18 = en_1829 18 from by rw [hen_1857, va_up_ne _ _ (by decide)]).trans hkc18_1829
      have hkc19_1857 : en_1857 19 = en 19 := (show en_1857 19 = en_1829 19 from by rw [hen_1857, va_up_ne _ _ (by decide)]).trans hkc19_1829
      have hkp_1857 : KP en en_1857 := KP_fv hkp_1829 es1825_1829 es1825_1857 hi (nI wd) (nI mo) (nI tb) pr (nI wo) rfl rfl rfl rfl rfl rfl rfl rfl rfl rfl rfl rfl
      obtain rfl : r_1857 = (-14) := hr_1857.trans (by decide)
      have h09 : (0 : Int32).toInt = 0 := by decide
      exact hp_iretM hx hb hr rfl hlocks hh (⟨hI_1857, hf_1857, RWX_keep hRW hkp_1857.2.2.2.2.2 hkc19_1857, KPw_of hkp_1857, Or.inl ⟨fun q => by have h9 := i_nle c_1831; have h8 := q.2.1; omega, hkp_1857.2.2.2.2.2, hkc18_1857, hkc19_1857⟩⟩) dX12_word_31
  · have hI_1830a := hI_1830
    have hf_1830 : ∀ c, (c ≠ 0 ∧ c ≠ 18 ∧ c ≠ 19) → en_1830 c = en c := fun c hc => (hu_1830 c (by omega)).trans (hf_1829 c hc)
    have hkp_1830 : KP en en_1830 := KP_tr hkp_1829 hkq_1830
    have hkc18_1830 : en_1830 18 = en 18 := (hu_1830 18 (by omega)).trans hkc18_1829
    have hkc19_1830 : en_1830 19 = en 19 := (hu_1830 19 (by omega)).trans hkc19_1829
    refine lv_istore (lv' := [(5, .int r_1830), (0, .ref (ad 0)), (1, .int k9), (2, .int la9), (3, .int i9), (4, .int n9)]) hx hb dX12_word_11 hl (by decide) rfl (fun ls hl => ?_)
    refine lv_iload hx hb dX12_word_13 (lv_at hl 0 rfl) ?_
    refine lv_if_eq (tgt := 21) hx hb dX12_word_15 (by decide) (fun c_0 => absurd c_0 (hz_1830)) (fun _ => ?_)
    refine lv_iload hx hb dX12_word_18 (lv_at hl 0 rfl) ?_
    have hag9 : r_1830 = agF (rdF (en 3) k9.toNatClampNeg) k9 la9 := by rw [hr_1830, show en_1829 3 = en 3 from hf_1829 3 (by omega)]
    exact hp_iretM hx hb hr rfl hlocks hh (⟨hI_1830, hf_1830, RWX_keep hRW hkp_1830.2.2.2.2.2 hkc19_1830, KPw_of hkp_1830, Or.inl ⟨fun q => hz_1830 (hag9.trans q.1), hkp_1830.2.2.2.2.2, hkc18_1830, hkc19_1830⟩⟩) dX12_word_20
theorem kw_X12_word {R : Room} {s : State} {args : Array Value} {own : String} {idx : Nat} (hts : ∀ w ∈ TB, w.before args s = true) (hl : Cond.methodLink own idx yX12_word ∈ TB) (hR : 2 + 1 ≤ R.frames ∧ 8 + (7 + 11) + 40 * 2 ≤ R.locals) : CallW R s args own RX12 idx yX12_word cX12_word 7 (some .int) (Cond.code yX12_word cX12_word 7 (some .int) :: TB) (rmN 2) 0 0 4 := cwV 4 hts (TB_V hl tw_1167 tw_1168 tw_9 tw_1169) rfl rfl rfl (by decide +kernel) hR
set_option maxHeartbeats 4000000 in
set_option maxRecDepth 100000 in
/-- X12_join -/
theorem c_X12_join (l : Launch) (D : va_G) (cy : Nat → ClassId) (sz : Nat) (cs : List Nat) (ad : Nat → Nat) (en : Nat → va_E) (hI : RX cy cs ad en) (a9 b9 : Int32) (hRW : RWX en)   : Met l yX12_join (Cond.code yX12_join cX12_join 4 (some .int) :: TB) (rmN 1) (va_Pc [.ref (ad 0), .int a9, .int b9] (Pre D cy cs ad en sz)) (va_Qi (S := Nat → va_E) (fun r en1 => RX cy cs ad en1 ∧ (∀ c, (c ≠ 0 ∧ c ≠ 18 ∧ c ≠ 19) → en1 c = en c) ∧ RWX en1 ∧ KPw en en1 ∧ RJO a9 b9 r en en1) (PostM D cs ad) (Af cs ad sz)) 0 0 (Af cs ad sz) := by
  refine Met.ofW (cc := cX12_join) (maxL := 4) (ret := (some .int)) (by decide) rfl ?_
  intro p e s m args below meth c s₁ B hml hv
  obtain ⟨rfl, hsz, hP, hK, hD0⟩ := hv
  have hx := B.exec
  have hb := B.bytes
  have hr := B.returns
  have hts : ∀ w ∈ TB, w.before _ s = true := fun w h => atoms_spec (ws := _ :: TB) B.pre w (List.mem_cons_of_mem _ h)
  have hown : s.vm.findClass RX12 = some m.cls := findClass_of_methodNamed B.named
  have hlocks := B.notSynchronized
  have hh : Hp D (Af cs ad sz) (Af cs ad sz) s.heap s.heap [] cs ad en := ⟨hP, Af_self hD0, va_S.rf⟩
  have hA : ∀ q : Nat, s.heap.size ≤ q → Af cs ad sz q := fun q h => Or.inr (by rw [hsz] at h; exact h)
  have hl := lv_entry ([.ref (ad 0), .int a9, .int b9]) (n := 4) (Nat.le_of_ble_eq_true rfl)
  rw [lg_entry_eq]
  generalize (lg_sl ([.ref (ad 0), .int a9, .int b9]) ++ List.replicate (4 - (lg_sl ([.ref (ad 0), .int a9, .int b9])).length) Slot.unset).toArray = ls at hl ⊢
  have hl : lv_has ls 4 [(0, .ref (ad 0)), (1, .int a9), (2, .int b9)] := hl
  have hf0 : ∀ c, (c ≠ 0 ∧ c ≠ 18 ∧ c ≠ 19) → en c = en c := fun _ _ => rfl
  obtain ⟨fa, hi, wd, mo, tb, dp, many, grt, lst, nou, rm, rb, pr, wo, es1858, hwd2, hwd3, hmo, htb, hwo⟩ := getr_M hI
  obtain ⟨f_1859, es1859, p0_1859⟩ := getr_wl hI
  refine lv_aload_n hx hb dX12_join_0 rfl (lv_at hl 0 rfl) ?_
  refine lv_iload_n hx hb dX12_join_1 rfl (lv_at hl 1 rfl) ?_
  refine hp_callRi (va_runV (As := [.int a9]) (rest := []) ⟨hx, hb, hml, hown, hts⟩ (c_X12_isWord l D cy _ cs ad en hI a9 ) (kw_X12_isWord hts tw_1175 ⟨by decide, by decide⟩) (preV_of hh hK (hI.1 _ (by decide)) es1858 rfl) rfl rfl hl.1 rfl (lv_room (Nat.le_of_ble_eq_true rfl)) dX12_join_2 ⟨Nat.le_of_ble_eq_true rfl, Nat.le_of_ble_eq_true rfl⟩) hh hA (fun r_1860 H locs hw_1860 hh => ?_)
  rw [show rdI (en 0) 30 = (nI wo) from by rw [es1858]; rfl, nI_toInt (n := wo) (by omega)] at hw_1860
  rcases Decidable.em (0 ≤ a9.toInt ∧ a9.toInt < (wo : Int)) with hp_1860 | hp_1860
  · obtain rfl : r_1860 = 1 := Eq.trans hw_1860 (if_pos hp_1860)
    obtain ⟨T_1860, rfl, hT_1860⟩ := has_nat hp_1860
    refine lv_if_eq (tgt := 16) hx hb dX12_join_5 (by decide) (fun c_0 => absurd c_0 (by decide)) (fun _ => ?_)
    refine lv_aload_n hx hb dX12_join_8 rfl (lv_at hl 0 rfl) ?_
    refine lv_iload_n hx hb dX12_join_9 rfl (lv_at hl 2 rfl) ?_
    refine hp_callRi (va_runV (As := [.int b9]) (rest := []) ⟨hx, hb, hml, hown, hts⟩ (c_X12_isWord l D cy _ cs ad en hI b9 ) (kw_X12_isWord hts tw_1175 ⟨by decide, by decide⟩) (preV_of hh hK (hI.1 _ (by decide)) es1858 rfl) rfl rfl hl.1 rfl (lv_room (Nat.le_of_ble_eq_true rfl)) dX12_join_10 ⟨Nat.le_of_ble_eq_true rfl, Nat.le_of_ble_eq_true rfl⟩) hh hA (fun r_1861 H locs hw_1861 hh => ?_)
    rw [show rdI (en 0) 30 = (nI wo) from by rw [es1858]; rfl, nI_toInt (n := wo) (by omega)] at hw_1861
    rcases Decidable.em (0 ≤ b9.toInt ∧ b9.toInt < (wo : Int)) with hp_1861 | hp_1861
    · obtain rfl : r_1861 = 1 := Eq.trans hw_1861 (if_pos hp_1861)
      obtain ⟨T_1861, rfl, hT_1861⟩ := has_nat hp_1861
      refine lv_if_ne (tgt := 18) hx hb dX12_join_13 (by decide) (fun _ => ?_) (fun c_0 => absurd c_0 (by decide))
      refine lv_aload_n hx hb dX12_join_18 rfl (lv_at hl 0 rfl) ?_
      refine hp_get hx hb hts ix12 hown hK hh (q := 0) rfl (hI.1 _ (by decide)) es1858 rfl 32 (by decide) (hts _ tw_911) (fun _ h9 => h9) rfl dX12_join_19 ?_
      refine lv_iload_n hx hb dX12_join_22 rfl (lv_at hl 1 rfl) ?_
      refine hp_iald hx hb hK hh (q := 19) rfl (hI.1 _ (by decide)) es1859 (vp_in_nI (n := T_1860) (by omega) (by decide)) dX12_join_23 ?_
      rw [nI_clamp (n := T_1860) (by omega)]
      obtain ⟨v_1862, hv_1862, hfv_1862⟩ := p0_1859 T_1860 (by omega)
      rw [hfv_1862]
      refine lv_aload_n hx hb dX12_join_24 rfl (lv_at hl 0 rfl) ?_
      refine hp_get hx hb hts ix12 hown hK hh (q := 0) rfl (hI.1 _ (by decide)) es1858 rfl 32 (by decide) (hts _ tw_911) (fun _ h9 => h9) rfl dX12_join_25 ?_
      refine lv_iload_n hx hb dX12_join_28 rfl (lv_at hl 2 rfl) ?_
      refine hp_iald hx hb hK hh (q := 19) rfl (hI.1 _ (by decide)) es1859 (vp_in_nI (n := T_1861) (by omega) (by decide)) dX12_join_29 ?_
      rw [nI_clamp (n := T_1861) (by omega)]
      obtain ⟨v_1863, hv_1863, hfv_1863⟩ := p0_1859 T_1861 (by omega)
      rw [hfv_1863]
      refine lv_iadd hx hb dX12_join_30 ?_
      rw [nI_add v_1862 v_1863]
      refine lv_bipush (v := 12) hx hb dX12_join_31 (by decide) ?_
      refine lv_icmp_le (tgt := 39) hx hb dX12_join_33 (by decide) (fun c_1864 => ?_) (fun c_1864 => ?_)
      · have n_1864 : (v_1862 + v_1863) ≤ 12 := n_le (a := (v_1862 + v_1863)) (b := 12) c_1864 (by omega) (by decide)
        refine lv_aload_n hx hb dX12_join_39 rfl (lv_at hl 0 rfl) ?_
        refine hp_get hx hb hts ix12 hown hK hh (q := 0) rfl (hI.1 _ (by decide)) es1858 rfl 30 (by decide) (hts _ tw_909) (fun _ h9 => h9) rfl dX12_join_40 ?_
        refine lv_bipush (v := 10) hx hb dX12_join_43 (by decide) ?_
        refine lv_icmp_ne (tgt := 51) hx hb dX12_join_45 (by decide) (fun c_1865 => ?_) (fun c_1865 => ?_)
        · have n_1865 : wo ≠ 10 := n_neq (a := wo) (b := 10) c_1865 (by omega) (by decide)
          have hwo9 : wo < 10 := by omega
          have hln_1862 : 1 ≤ v_1862 := RWX_1 hRW (show rdI (en 0) 30 = nI wo from by rw [es1858]; rfl) hwo (w := T_1860) (by omega) (show rdF (en 19) = f_1859 from by rw [es1859]; rfl) hfv_1862 (by omega)
          have hln_1863 : 1 ≤ v_1863 := RWX_1 hRW (show rdI (en 0) 30 = nI wo from by rw [es1858]; rfl) hwo (w := T_1861) (by omega) (show rdF (en 19) = f_1859 from by rw [es1859]; rfl) hfv_1863 (by omega)
          refine lv_iconst (v := 0) hx hb dX12_join_51 (by decide) ?_
          refine lv_istore_n (lv' := [(3, .int 0), (0, .ref (ad 0)), (1, .int (nI T_1860)), (2, .int (nI T_1861))]) hx hb dX12_join_52 rfl hl (by decide) rfl (fun ls hl => ?_)
          have loop_1866 : ∀ (fu j1866 : Nat)  (en_1866 : Nat → va_E) (ls : Array Slot) (H : Heap) (locs : List Loc), 0 ≤ j1866 → j1866 ≤ v_1862 → v_1862 < j1866 + fu → RX cy cs ad en_1866 → (∀ c, (c ≠ 0 ∧ c ≠ 18 ∧ c ≠ 19) → en_1866 c = en c) → (∀ x, rdF (en_1866 18) x = if 12 * wo ≤ x ∧ x < 12 * wo + j1866 then jRG en T_1860 T_1861 v_1862 (x - 12 * wo) else rdF (en 18) x) → (KP en en_1866) → (en_1866 19 = en 19) → lv_has ls 4 [(3, .int (nI j1866)), (0, .ref (ad 0)), (1, .int (nI T_1860)), (2, .int (nI T_1861))] → Hp D (Af cs ad sz) (Af cs ad sz) s.heap H locs cs ad en_1866 → W p l e (headSpec (Cond.code yX12_join cX12_join 4 (some .int) :: TB) (rmN 1)).room s m ([.ref (ad 0), .int (nI T_1860), .int (nI T_1861)] : List Value).toArray below meth c H locs 0 0 (MQ below (va_Qi (S := Nat → va_E) (fun r en1 => RX cy cs ad en1 ∧ (∀ c, (c ≠ 0 ∧ c ≠ 18 ∧ c ≠ 19) → en1 c = en c) ∧ RWX en1 ∧ KPw en en1 ∧ RJO (nI T_1860) (nI T_1861) r en en1) (PostM D cs ad) (Af cs ad sz)) ([.ref (ad 0), .int (nI T_1860), .int (nI T_1861)] : List Value).toArray s 0 0 (Af cs ad sz)) (F0 m 53 ls []) := by
            intro fu
            induction fu with
            | zero => intro j1866  en_1866 ls H locs h0 h1 h2; exact absurd h2 (by omega)
            | succ fu ih_1866 =>
              intro j1866  en_1866 ls H locs hj0_1866 hj_1866 hfu_1866 hI_1866 hf_1866 i0_1866 i1_1866 i2_1866 hl hh
              refine lv_iload_n hx hb dX12_join_53 rfl (lv_at hl 0 rfl) ?_
              refine lv_aload_n hx hb dX12_join_54 rfl (lv_at hl 1 rfl) ?_
              obtain ⟨fa_1867, hi_1867, wd_1867, mo_1867, tb_1867, dp_1867, many_1867, grt_1867, lst_1867, nou_1867, rm_1867, rb_1867, pr_1867, wo_1867, es1867, p0_1867, p1_1867, p2_1867, p3_1867, p4_1867⟩ := getr_M hI_1866
              have hq2_1868 : wd_1867 = wd := n_eq ((show nI wd_1867 = rdI (en_1866 0) 2 from by rw [es1867]; rfl).trans (i1_1866.2.1.trans (show rdI (en 0) 2 = nI wd from by rw [es1858]; rfl))) (by omega) (by omega)
              have hq3_1868 : mo_1867 = mo := n_eq ((show nI mo_1867 = rdI (en_1866 0) 3 from by rw [es1867]; rfl).trans (i1_1866.2.2.1.trans (show rdI (en 0) 3 = nI mo from by rw [es1858]; rfl))) (by omega) (by omega)
              have hq4_1868 : tb_1867 = tb := n_eq ((show nI tb_1867 = rdI (en_1866 0) 4 from by rw [es1867]; rfl).trans (i1_1866.2.2.2.1.trans (show rdI (en 0) 4 = nI tb from by rw [es1858]; rfl))) (by omega) (by omega)
              have hq30_1868 : wo_1867 = wo := n_eq ((show nI wo_1867 = rdI (en_1866 0) 30 from by rw [es1867]; rfl).trans (i1_1866.2.2.2.2.2.trans (show rdI (en 0) 30 = nI wo from by rw [es1858]; rfl))) (by omega) (by omega)
              rw [hq2_1868, hq3_1868, hq4_1868, hq30_1868] at es1867
              refine hp_get hx hb hts ix12 hown hK hh (q := 0) rfl (hI.1 _ (by decide)) es1867 rfl 32 (by decide) (hts _ tw_911) (fun _ h9 => h9) rfl dX12_join_55 ?_
              refine lv_iload_n hx hb dX12_join_58 rfl (lv_at hl 2 rfl) ?_
              have es1859_1869 : en_1866 19 = .inl (cy 0, 10, .inl f_1859) := i2_1866.trans es1859
              refine hp_iald hx hb hK hh (q := 19) rfl (hI.1 _ (by decide)) es1859_1869 (vp_in_nI (n := T_1860) (by omega) (by decide)) dX12_join_59 ?_
              rw [nI_clamp (n := T_1860) (by omega)]
              rw [hfv_1862]
              refine lv_icmp_ge (tgt := 94) hx hb dX12_join_60 (by decide) (fun c_1870 => ?_) (fun c_1870 => ?_)
              · have n_1870 : v_1862 ≤ j1866 := n_le (a := v_1862) (b := j1866) c_1870 (by omega) (by omega)
                refine lv_iconst (v := 0) hx hb dX12_join_94 (by decide) ?_
                refine lv_istore_n (lv' := [(3, .int 0), (0, .ref (ad 0)), (1, .int (nI T_1860)), (2, .int (nI T_1861))]) hx hb dX12_join_95 rfl hl (by decide) rfl (fun ls hl => ?_)
                have loop_1871 : ∀ (fu j1871 : Nat)  (en_1871 : Nat → va_E) (ls : Array Slot) (H : Heap) (locs : List Loc), 0 ≤ j1871 → j1871 ≤ v_1863 → v_1863 < j1871 + fu → RX cy cs ad en_1871 → (∀ c, (c ≠ 0 ∧ c ≠ 18 ∧ c ≠ 19) → en_1871 c = en c) → (∀ x, rdF (en_1871 18) x = if 12 * wo ≤ x ∧ x < 12 * wo + (v_1862 + j1871) then jRG en T_1860 T_1861 v_1862 (x - 12 * wo) else rdF (en 18) x) → (KP en en_1871) → (en_1871 19 = en 19) → lv_has ls 4 [(3, .int (nI j1871)), (0, .ref (ad 0)), (1, .int (nI T_1860)), (2, .int (nI T_1861))] → Hp D (Af cs ad sz) (Af cs ad sz) s.heap H locs cs ad en_1871 → W p l e (headSpec (Cond.code yX12_join cX12_join 4 (some .int) :: TB) (rmN 1)).room s m ([.ref (ad 0), .int (nI T_1860), .int (nI T_1861)] : List Value).toArray below meth c H locs 0 0 (MQ below (va_Qi (S := Nat → va_E) (fun r en1 => RX cy cs ad en1 ∧ (∀ c, (c ≠ 0 ∧ c ≠ 18 ∧ c ≠ 19) → en1 c = en c) ∧ RWX en1 ∧ KPw en en1 ∧ RJO (nI T_1860) (nI T_1861) r en en1) (PostM D cs ad) (Af cs ad sz)) ([.ref (ad 0), .int (nI T_1860), .int (nI T_1861)] : List Value).toArray s 0 0 (Af cs ad sz)) (F0 m 96 ls []) := by
                  intro fu
                  induction fu with
                  | zero => intro j1871  en_1871 ls H locs h0 h1 h2; exact absurd h2 (by omega)
                  | succ fu ih_1871 =>
                    intro j1871  en_1871 ls H locs hj0_1871 hj_1871 hfu_1871 hI_1871 hf_1871 i0_1871 i1_1871 i2_1871 hl hh
                    refine lv_iload_n hx hb dX12_join_96 rfl (lv_at hl 0 rfl) ?_
                    refine lv_aload_n hx hb dX12_join_97 rfl (lv_at hl 1 rfl) ?_
                    obtain ⟨fa_1872, hi_1872, wd_1872, mo_1872, tb_1872, dp_1872, many_1872, grt_1872, lst_1872, nou_1872, rm_1872, rb_1872, pr_1872, wo_1872, es1872, p0_1872, p1_1872, p2_1872, p3_1872, p4_1872⟩ := getr_M hI_1871
                    have hq2_1873 : wd_1872 = wd := n_eq ((show nI wd_1872 = rdI (en_1871 0) 2 from by rw [es1872]; rfl).trans (i1_1871.2.1.trans (show rdI (en 0) 2 = nI wd from by rw [es1858]; rfl))) (by omega) (by omega)
                    have hq3_1873 : mo_1872 = mo := n_eq ((show nI mo_1872 = rdI (en_1871 0) 3 from by rw [es1872]; rfl).trans (i1_1871.2.2.1.trans (show rdI (en 0) 3 = nI mo from by rw [es1858]; rfl))) (by omega) (by omega)
                    have hq4_1873 : tb_1872 = tb := n_eq ((show nI tb_1872 = rdI (en_1871 0) 4 from by rw [es1872]; rfl).trans (i1_1871.2.2.2.1.trans (show rdI (en 0) 4 = nI tb from by rw [es1858]; rfl))) (by omega) (by omega)
                    have hq30_1873 : wo_1872 = wo := n_eq ((show nI wo_1872 = rdI (en_1871 0) 30 from by rw [es1872]; rfl).trans (i1_1871.2.2.2.2.2.trans (show rdI (en 0) 30 = nI wo from by rw [es1858]; rfl))) (by omega) (by omega)
                    rw [hq2_1873, hq3_1873, hq4_1873, hq30_1873] at es1872
                    refine hp_get hx hb hts ix12 hown hK hh (q := 0) rfl (hI.1 _ (by decide)) es1872 rfl 32 (by decide) (hts _ tw_911) (fun _ h9 => h9) rfl dX12_join_98 ?_
                    refine lv_iload_n hx hb dX12_join_101 rfl (lv_at hl 3 rfl) ?_
                    have es1859_1874 : en_1871 19 = .inl (cy 0, 10, .inl f_1859) := i2_1871.trans es1859
                    refine hp_iald hx hb hK hh (q := 19) rfl (hI.1 _ (by decide)) es1859_1874 (vp_in_nI (n := T_1861) (by omega) (by decide)) dX12_join_102 ?_
                    rw [nI_clamp (n := T_1861) (by omega)]
                    rw [hfv_1863]
                    refine lv_icmp_ge (tgt := 144) hx hb dX12_join_103 (by decide) (fun c_1875 => ?_) (fun c_1875 => ?_)
                    · have n_1875 : v_1863 ≤ j1871 := n_le (a := v_1863) (b := j1871) c_1875 (by omega) (by omega)
                      refine lv_aload_n hx hb dX12_join_144 rfl (lv_at hl 1 rfl) ?_
                      refine hp_get hx hb hts ix12 hown hK hh (q := 0) rfl (hI.1 _ (by decide)) es1872 rfl 32 (by decide) (hts _ tw_911) (fun _ h9 => h9) rfl dX12_join_145 ?_
                      refine lv_aload_n hx hb dX12_join_148 rfl (lv_at hl 1 rfl) ?_
                      refine hp_get hx hb hts ix12 hown hK hh (q := 0) rfl (hI.1 _ (by decide)) es1872 rfl 30 (by decide) (hts _ tw_909) (fun _ h9 => h9) rfl dX12_join_149 ?_
                      refine lv_aload_n hx hb dX12_join_152 rfl (lv_at hl 1 rfl) ?_
                      refine hp_get hx hb hts ix12 hown hK hh (q := 0) rfl (hI.1 _ (by decide)) es1872 rfl 32 (by decide) (hts _ tw_911) (fun _ h9 => h9) rfl dX12_join_153 ?_
                      refine lv_iload_n hx hb dX12_join_156 rfl (lv_at hl 2 rfl) ?_
                      refine hp_iald hx hb hK hh (q := 19) rfl (hI.1 _ (by decide)) es1859_1874 (vp_in_nI (n := T_1860) (by omega) (by decide)) dX12_join_157 ?_
                      rw [nI_clamp (n := T_1860) (by omega)]
                      rw [hfv_1862]
                      refine lv_aload_n hx hb dX12_join_158 rfl (lv_at hl 1 rfl) ?_
                      refine hp_get hx hb hts ix12 hown hK hh (q := 0) rfl (hI.1 _ (by decide)) es1872 rfl 32 (by decide) (hts _ tw_911) (fun _ h9 => h9) rfl dX12_join_159 ?_
                      refine lv_iload_n hx hb dX12_join_162 rfl (lv_at hl 3 rfl) ?_
                      refine hp_iald hx hb hK hh (q := 19) rfl (hI.1 _ (by decide)) es1859_1874 (vp_in_nI (n := T_1861) (by omega) (by decide)) dX12_join_163 ?_
                      rw [nI_clamp (n := T_1861) (by omega)]
                      rw [hfv_1863]
                      refine lv_iadd hx hb dX12_join_164 ?_
                      rw [nI_add v_1862 v_1863]
                      refine hp_iast hx hb hK hh (q := 19) rfl (hI.1 _ (by decide)) es1859_1874 (vp_in_nI (n := wo) (by omega) (by decide)) dX12_join_165 (fun H locs en_1876 hen_1876 hh => ?_)
                      rw [nI_clamp (n := wo) (by omega)] at hen_1876
                      have es1872_1876 : en_1876 0 = .inr (11, [.int fa_1872, .int hi_1872, .int (nI wd), .int (nI mo), .int (nI tb), .ref (ad 1), .ref (ad 2), .ref (ad 3), .ref (ad 4), .ref (ad 5), .ref (ad 6), .ref (ad 7), .ref (ad 8), .ref (ad 9), .int dp_1872, .long many_1872, .long grt_1872, .long lst_1872, .long nou_1872, .ref (ad 10), .ref (ad 11), .ref (ad 12), .int rm_1872, .long rb_1872, .ref (ad 13), .int pr_1872, .ref (ad 14), .ref (ad 15), .ref (ad 16), .ref (ad 17), .int (nI wo), .ref (ad 18), .ref (ad 19)]) := by rw [hen_1876, va_up_ne _ _ (by decide)]; exact es1872
                      have es1859_1876 : en_1876 19 = .inl (cy 0, 10, .inl (upd f_1859 wo (nI (v_1862 + v_1863)))) := by rw [hen_1876]; exact va_up_self _ _ _
                      have hI_1876 : RX cy cs ad en_1876 := by rw [hen_1876]; exact upr_wl hI_1871 ⟨(upd f_1859 wo (nI (v_1862 + v_1863))), rfl, (vals_updB p0_1859 (by omega))⟩
                      have hf_1876 : ∀ c, (c ≠ 0 ∧ c ≠ 18 ∧ c ≠ 19) → en_1876 c = en c := fun c hc => Eq.trans (show en_1876 c = en_1871 c from by rw [hen_1876, va_up_ne _ _ (by omega)]) (hf_1871 c hc)
                      have hkp_1876 : KP en en_1876 := KP_same i1_1871 (show en_1876 0 = en_1871 0 from by rw [hen_1876, va_up_ne _ _ (by decide)])
                      refine lv_aload_n hx hb dX12_join_166 rfl (lv_at hl 1 rfl) ?_
                      refine lv_dup hx hb dX12_join_167 rfl ?_
                      refine hp_get hx hb hts ix12 hown hK hh (q := 0) rfl (hI.1 _ (by decide)) es1872_1876 rfl 30 (by decide) (hts _ tw_909) (fun _ h9 => h9) rfl dX12_join_168 ?_
                      refine lv_iconst (v := 1) hx hb dX12_join_171 (by decide) ?_
                      refine lv_iadd hx hb dX12_join_172 ?_
                      rw [show (1 : Int32) = nI 1 from rfl, nI_add wo 1]
                      refine hp_put hx hb hts ix12 tyX12 tyX12_ok nmX12 hown hK hh (q := 0) rfl (hI.1 _ (by decide)) es1872_1876 rfl 30 (by decide) (hts _ tw_909) (fun _ h9 => h9) rfl (ty := .int) (by decide +kernel) rfl rfl (Nat.le_of_ble_eq_true rfl) dX12_join_173 (fun H locs en_1877 hen_1877 hh => ?_)
                      have es1859_1877 : en_1877 19 = .inl (cy 0, 10, .inl (upd f_1859 wo (nI (v_1862 + v_1863)))) := by rw [hen_1877, va_up_ne _ _ (by decide)]; exact es1859_1876
                      have es1872_1877 : en_1877 0 = .inr (11, [.int fa_1872, .int hi_1872, .int (nI wd), .int (nI mo), .int (nI tb), .ref (ad 1), .ref (ad 2), .ref (ad 3), .ref (ad 4), .ref (ad 5), .ref (ad 6), .ref (ad 7), .ref (ad 8), .ref (ad 9), .int dp_1872, .long many_1872, .long grt_1872, .long lst_1872, .long nou_1872, .ref (ad 10), .ref (ad 11), .ref (ad 12), .int rm_1872, .long rb_1872, .ref (ad 13), .int pr_1872, .ref (ad 14), .ref (ad 15), .ref (ad 16), .ref (ad 17), .int (nI (wo + 1)), .ref (ad 18), .ref (ad 19)]) := by rw [hen_1877]; exact va_up_self _ _ _
                      have hI_1877 : RX cy cs ad en_1877 := by rw [hen_1877]; exact upr_M hI_1876 ⟨fa_1872, hi_1872, wd, mo, tb, dp_1872, many_1872, grt_1872, lst_1872, nou_1872, rm_1872, rb_1872, pr_1872, (wo + 1), rfl, hwd2, hwd3, hmo, htb, (by omega)⟩
                      have hf_1877 : ∀ c, (c ≠ 0 ∧ c ≠ 18 ∧ c ≠ 19) → en_1877 c = en c := fun c hc => Eq.trans (show en_1877 c = en_1876 c from by rw [hen_1877, va_up_ne _ _ (by omega)]) (hf_1876 c hc)
                      refine lv_aload_n hx hb dX12_join_176 rfl (lv_at hl 1 rfl) ?_
                      refine hp_get hx hb hts ix12 hown hK hh (q := 0) rfl (hI.1 _ (by decide)) es1872_1877 rfl 30 (by decide) (hts _ tw_909) (fun _ h9 => h9) rfl dX12_join_177 ?_
                      refine lv_iconst (v := 1) hx hb dX12_join_180 (by decide) ?_
                      refine lv_isub hx hb dX12_join_181 ?_
                      rw [show (1 : Int32) = nI 1 from rfl, pk_sub (a := (wo + 1)) (b := 1) (by omega)]
                      have he30 : rdI (en 0) 30 = nI wo := by rw [es1858]; rfl
                      have hc30 : (rdI (en 0) 30).toInt = (wo : Int) := by rw [he30]; exact nI_toInt (by omega)
                      have hqa : hasQ (nI T_1860) (rdI (en 0) 30) := ⟨by rw [nI_toInt (n := T_1860) (by omega)]; omega, by rw [nI_toInt (n := T_1860) (by omega), hc30]; omega⟩
                      have hla : rdF (en 19) (nI T_1860).toNatClampNeg = nI v_1862 := by rw [nI_clamp (n := T_1860) (by omega), show rdF (en 19) = f_1859 from by rw [es1859]; rfl]; exact hfv_1862
                      have hqb : hasQ (nI T_1861) (rdI (en 0) 30) := ⟨by rw [nI_toInt (n := T_1861) (by omega)]; omega, by rw [nI_toInt (n := T_1861) (by omega), hc30]; omega⟩
                      have hlb : rdF (en 19) (nI T_1861).toNatClampNeg = nI v_1863 := by rw [nI_clamp (n := T_1861) (by omega), show rdF (en 19) = f_1859 from by rw [es1859]; rfl]; exact hfv_1863
                      have hs9 : (nI v_1862).toInt + (nI v_1863).toInt = ((v_1862 + v_1863 : Nat) : Int) := by rw [nI_toInt (n := v_1862) (by omega), nI_toInt (n := v_1863) (by omega)]; omega
                      have hok : jOK (rdI (en 0) 30) (nI v_1862) (nI v_1863) (nI T_1860) (nI T_1861) := ⟨hqa, hqb, by omega, by omega⟩
                      exact hp_iretM hx hb hr rfl hlocks hh (⟨hI_1877, hf_1877, RWX_add hRW (wo := wo) hwo9 (show rdI (en 0) 30 = nI wo from by rw [es1858]; rfl) (show rdI (en_1877 0) 30 = nI (wo + 1) from by rw [es1872_1877]; rfl) (N := (v_1862 + v_1863)) (by omega) (by omega) (show rdF (en_1877 19) = upd (rdF (en 19)) wo (nI (v_1862 + v_1863)) from by rw [es1859_1877, es1859]; rfl), KPw_fv (KPw_of hkp_1876) es1872_1876 es1872_1877 hi_1872 (nI wd) (nI mo) (nI tb) pr_1872 rfl rfl rfl rfl rfl rfl rfl rfl rfl rfl, (by unfold RJO; rw [hla, hlb]; refine ⟨Or.inr (Or.inr (Or.inr ⟨hok, by rw [he30]; exact congrArg nI (by omega)⟩)), Or.inr ⟨hok, ?_⟩⟩; rw [nI_clamp (n := v_1862) (by omega), nI_clamp (n := v_1863) (by omega), nI_clamp (n := T_1860) (by omega), nI_clamp (n := T_1861) (by omega)]; exact ⟨wo, congrArg nI (by omega), he30, hwo9, by omega, by omega, (by rw [es1872_1877]; rfl), (by rw [es1859_1877, es1859]; rfl), fun x => by rw [show en_1877 18 = en_1871 18 from by rw [hen_1877, va_up_ne _ _ (by decide), hen_1876, va_up_ne _ _ (by decide)]]; have e9 : j1871 = v_1863 := (by omega); have h9 := i0_1871 x; rw [e9] at h9; exact h9⟩)⟩) dX12_join_182
                    · have n_1875 : j1871 < v_1863 := n_nle (a := v_1863) (b := j1871) c_1875 (by omega) (by omega)
                      refine lv_aload_n hx hb dX12_join_106 rfl (lv_at hl 1 rfl) ?_
                      refine hp_get hx hb hts ix12 hown hK hh (q := 0) rfl (hI.1 _ (by decide)) es1872 rfl 31 (by decide) (hts _ tw_910) (fun _ h9 => h9) rfl dX12_join_107 ?_
                      refine lv_bipush (v := 12) hx hb dX12_join_110 (by decide) ?_
                      refine lv_aload_n hx hb dX12_join_112 rfl (lv_at hl 1 rfl) ?_
                      refine hp_get hx hb hts ix12 hown hK hh (q := 0) rfl (hI.1 _ (by decide)) es1872 rfl 30 (by decide) (hts _ tw_909) (fun _ h9 => h9) rfl dX12_join_113 ?_
                      refine lv_imul hx hb dX12_join_116 ?_
                      rw [show (12 : Int32) = nI 12 from rfl, pk_mul 12 wo]
                      refine lv_aload_n hx hb dX12_join_117 rfl (lv_at hl 1 rfl) ?_
                      refine hp_get hx hb hts ix12 hown hK hh (q := 0) rfl (hI.1 _ (by decide)) es1872 rfl 32 (by decide) (hts _ tw_911) (fun _ h9 => h9) rfl dX12_join_118 ?_
                      refine lv_iload_n hx hb dX12_join_121 rfl (lv_at hl 2 rfl) ?_
                      refine hp_iald hx hb hK hh (q := 19) rfl (hI.1 _ (by decide)) es1859_1874 (vp_in_nI (n := T_1860) (by omega) (by decide)) dX12_join_122 ?_
                      rw [nI_clamp (n := T_1860) (by omega)]
                      rw [hfv_1862]
                      refine lv_iadd hx hb dX12_join_123 ?_
                      rw [nI_add (12 * wo) v_1862]
                      refine lv_iload_n hx hb dX12_join_124 rfl (lv_at hl 0 rfl) ?_
                      refine lv_iadd hx hb dX12_join_125 ?_
                      rw [nI_add ((12 * wo) + v_1862) j1871]
                      refine lv_aload_n hx hb dX12_join_126 rfl (lv_at hl 1 rfl) ?_
                      refine hp_get hx hb hts ix12 hown hK hh (q := 0) rfl (hI.1 _ (by decide)) es1872 rfl 31 (by decide) (hts _ tw_910) (fun _ h9 => h9) rfl dX12_join_127 ?_
                      refine lv_bipush (v := 12) hx hb dX12_join_130 (by decide) ?_
                      refine lv_iload_n hx hb dX12_join_132 rfl (lv_at hl 3 rfl) ?_
                      refine lv_imul hx hb dX12_join_133 ?_
                      rw [show (12 : Int32) = nI 12 from rfl, pk_mul 12 T_1861]
                      refine lv_iload_n hx hb dX12_join_134 rfl (lv_at hl 0 rfl) ?_
                      refine lv_iadd hx hb dX12_join_135 ?_
                      rw [nI_add (12 * T_1861) j1871]
                      obtain ⟨f_1878, es1878, p0_1878⟩ := getr_lt hI_1871
                      refine hp_iald hx hb hK hh (q := 18) rfl (hI.1 _ (by decide)) es1878 (vp_in_nI (n := ((12 * T_1861) + j1871)) (by omega) (by decide)) dX12_join_136 ?_
                      rw [nI_clamp (n := ((12 * T_1861) + j1871)) (by omega)]
                      obtain ⟨v_1879, hv_1879, hfv_1879⟩ := p0_1878 ((12 * T_1861) + j1871) (by omega)
                      rw [hfv_1879]
                      refine hp_iast hx hb hK hh (q := 18) rfl (hI.1 _ (by decide)) es1878 (vp_in_nI (n := (((12 * wo) + v_1862) + j1871)) (by omega) (by decide)) dX12_join_137 (fun H locs en_1880 hen_1880 hh => ?_)
                      rw [nI_clamp (n := (((12 * wo) + v_1862) + j1871)) (by omega)] at hen_1880
                      have es1872_1880 : en_1880 0 = .inr (11, [.int fa_1872, .int hi_1872, .int (nI wd), .int (nI mo), .int (nI tb), .ref (ad 1), .ref (ad 2), .ref (ad 3), .ref (ad 4), .ref (ad 5), .ref (ad 6), .ref (ad 7), .ref (ad 8), .ref (ad 9), .int dp_1872, .long many_1872, .long grt_1872, .long lst_1872, .long nou_1872, .ref (ad 10), .ref (ad 11), .ref (ad 12), .int rm_1872, .long rb_1872, .ref (ad 13), .int pr_1872, .ref (ad 14), .ref (ad 15), .ref (ad 16), .ref (ad 17), .int (nI wo), .ref (ad 18), .ref (ad 19)]) := by rw [hen_1880, va_up_ne _ _ (by decide)]; exact es1872
                      have es1859_1880 : en_1880 19 = .inl (cy 0, 10, .inl f_1859) := by rw [hen_1880, va_up_ne _ _ (by decide)]; exact es1859_1874
                      have es1878_1880 : en_1880 18 = .inl (cy 0, 120, .inl (upd f_1878 (((12 * wo) + v_1862) + j1871) (nI v_1879))) := by rw [hen_1880]; exact va_up_self _ _ _
                      have hI_1880 : RX cy cs ad en_1880 := by rw [hen_1880]; exact upr_lt hI_1871 ⟨(upd f_1878 (((12 * wo) + v_1862) + j1871) (nI v_1879)), rfl, (vals_updB p0_1878 (by omega))⟩
                      have hf_1880 : ∀ c, (c ≠ 0 ∧ c ≠ 18 ∧ c ≠ 19) → en_1880 c = en c := fun c hc => Eq.trans (show en_1880 c = en_1871 c from by rw [hen_1880, va_up_ne _ _ (by omega)]) (hf_1871 c hc)
                      have hkc19_1880 : en_1880 19 = en 19 := (show en_1880 19 = en_1871 19 from by rw [hen_1880, va_up_ne _ _ (by decide)]).trans i2_1871
                      have hkp_1880 : KP en en_1880 := KP_same i1_1871 (show en_1880 0 = en_1871 0 from by rw [hen_1880, va_up_ne _ _ (by decide)])
                      refine lv_iinc (v := (nI (j1871 + 1))) (lv' := [(3, .int (nI (j1871 + 1))), (0, .ref (ad 0)), (1, .int (nI T_1860)), (2, .int (nI T_1861))]) hx hb dX12_join_138 hl (k := 0) rfl (nI_1 _) (by decide) rfl (fun ls hl => ?_)
                      refine lv_goto (tgt := 96) hx hb dX12_join_141 (by decide) ?_
                      exact ih_1871 ((j1871 + 1))  en_1880 ls H locs (by omega) (by omega) (by omega) hI_1880 hf_1880 (fun x => by rw [es1878_1880]; exact cp_upd (c := jRG en T_1860 T_1861 v_1862) (j := (v_1862 + j1871)) (fun x => (show f_1878 x = rdF (en_1871 18) x from by rw [es1878]; rfl).trans (i0_1871 x)) (by omega) (by omega) (by unfold jRG; rw [if_neg (by omega), show v_1862 + j1871 - v_1862 = j1871 by omega]; have h9 := i0_1871 (12 * T_1861 + j1871); rw [if_neg (by omega)] at h9; exact h9.symm.trans ((show rdF (en_1871 18) (12 * T_1861 + j1871) = f_1878 (12 * T_1861 + j1871) from by rw [es1878]; rfl).trans hfv_1879)) x) (hkp_1880) (hkc19_1880) (lv_sub hl [0, 1, 2, 3] rfl) hh
                exact loop_1871 (v_1863 + 1) 0  en_1866 ls _ _ (Nat.le_refl _) (by omega) (by omega) hI_1866 hf_1866 (fun x => by have e9 : j1866 = v_1862 := (by omega); have h9 := i0_1866 x; rw [e9] at h9; exact h9) (i1_1866) (i2_1866) (lv_sub hl [0, 1, 2, 3] rfl) hh
              · have n_1870 : j1866 < v_1862 := n_nle (a := v_1862) (b := j1866) c_1870 (by omega) (by omega)
                refine lv_aload_n hx hb dX12_join_63 rfl (lv_at hl 1 rfl) ?_
                refine hp_get hx hb hts ix12 hown hK hh (q := 0) rfl (hI.1 _ (by decide)) es1867 rfl 31 (by decide) (hts _ tw_910) (fun _ h9 => h9) rfl dX12_join_64 ?_
                refine lv_bipush (v := 12) hx hb dX12_join_67 (by decide) ?_
                refine lv_aload_n hx hb dX12_join_69 rfl (lv_at hl 1 rfl) ?_
                refine hp_get hx hb hts ix12 hown hK hh (q := 0) rfl (hI.1 _ (by decide)) es1867 rfl 30 (by decide) (hts _ tw_909) (fun _ h9 => h9) rfl dX12_join_70 ?_
                refine lv_imul hx hb dX12_join_73 ?_
                rw [show (12 : Int32) = nI 12 from rfl, pk_mul 12 wo]
                refine lv_iload_n hx hb dX12_join_74 rfl (lv_at hl 0 rfl) ?_
                refine lv_iadd hx hb dX12_join_75 ?_
                rw [nI_add (12 * wo) j1866]
                refine lv_aload_n hx hb dX12_join_76 rfl (lv_at hl 1 rfl) ?_
                refine hp_get hx hb hts ix12 hown hK hh (q := 0) rfl (hI.1 _ (by decide)) es1867 rfl 31 (by decide) (hts _ tw_910) (fun _ h9 => h9) rfl dX12_join_77 ?_
                refine lv_bipush (v := 12) hx hb dX12_join_80 (by decide) ?_
                refine lv_iload_n hx hb dX12_join_82 rfl (lv_at hl 2 rfl) ?_
                refine lv_imul hx hb dX12_join_83 ?_
                rw [show (12 : Int32) = nI 12 from rfl, pk_mul 12 T_1860]
                refine lv_iload_n hx hb dX12_join_84 rfl (lv_at hl 0 rfl) ?_
                refine lv_iadd hx hb dX12_join_85 ?_
                rw [nI_add (12 * T_1860) j1866]
                obtain ⟨f_1881, es1881, p0_1881⟩ := getr_lt hI_1866
                refine hp_iald hx hb hK hh (q := 18) rfl (hI.1 _ (by decide)) es1881 (vp_in_nI (n := ((12 * T_1860) + j1866)) (by omega) (by decide)) dX12_join_86 ?_
                rw [nI_clamp (n := ((12 * T_1860) + j1866)) (by omega)]
                obtain ⟨v_1882, hv_1882, hfv_1882⟩ := p0_1881 ((12 * T_1860) + j1866) (by omega)
                rw [hfv_1882]
                refine hp_iast hx hb hK hh (q := 18) rfl (hI.1 _ (by decide)) es1881 (vp_in_nI (n := ((12 * wo) + j1866)) (by omega) (by decide)) dX12_join_87 (fun H locs en_1883 hen_1883 hh => ?_)
                rw [nI_clamp (n := ((12 * wo) + j1866)) (by omega)] at hen_1883
                have es1867_1883 : en_1883 0 = .inr (11, [.int fa_1867, .int hi_1867, .int (nI wd), .int (nI mo), .int (nI tb), .ref (ad 1), .ref (ad 2), .ref (ad 3), .ref (ad 4), .ref (ad 5), .ref (ad 6), .ref (ad 7), .ref (ad 8), .ref (ad 9), .int dp_1867, .long many_1867, .long grt_1867, .long lst_1867, .long nou_1867, .ref (ad 10), .ref (ad 11), .ref (ad 12), .int rm_1867, .long rb_1867, .ref (ad 13), .int pr_1867, .ref (ad 14), .ref (ad 15), .ref (ad 16), .ref (ad 17), .int (nI wo), .ref (ad 18), .ref (ad 19)]) := by rw [hen_1883, va_up_ne _ _ (by decide)]; exact es1867
                have es1859_1883 : en_1883 19 = .inl (cy 0, 10, .inl f_1859) := by rw [hen_1883, va_up_ne _ _ (by decide)]; exact es1859_1869
                have es1881_1883 : en_1883 18 = .inl (cy 0, 120, .inl (upd f_1881 ((12 * wo) + j1866) (nI v_1882))) := by rw [hen_1883]; exact va_up_self _ _ _
                have hI_1883 : RX cy cs ad en_1883 := by rw [hen_1883]; exact upr_lt hI_1866 ⟨(upd f_1881 ((12 * wo) + j1866) (nI v_1882)), rfl, (vals_updB p0_1881 (by omega))⟩
                have hf_1883 : ∀ c, (c ≠ 0 ∧ c ≠ 18 ∧ c ≠ 19) → en_1883 c = en c := fun c hc => Eq.trans (show en_1883 c = en_1866 c from by rw [hen_1883, va_up_ne _ _ (by omega)]) (hf_1866 c hc)
                have hkc19_1883 : en_1883 19 = en 19 := (show en_1883 19 = en_1866 19 from by rw [hen_1883, va_up_ne _ _ (by decide)]).trans i2_1866
                have hkp_1883 : KP en en_1883 := KP_same i1_1866 (show en_1883 0 = en_1866 0 from by rw [hen_1883, va_up_ne _ _ (by decide)])
                refine lv_iinc (v := (nI (j1866 + 1))) (lv' := [(3, .int (nI (j1866 + 1))), (0, .ref (ad 0)), (1, .int (nI T_1860)), (2, .int (nI T_1861))]) hx hb dX12_join_88 hl (k := 0) rfl (nI_1 _) (by decide) rfl (fun ls hl => ?_)
                refine lv_goto (tgt := 53) hx hb dX12_join_91 (by decide) ?_
                exact ih_1866 ((j1866 + 1))  en_1883 ls H locs (by omega) (by omega) (by omega) hI_1883 hf_1883 (fun x => by rw [es1881_1883]; exact cp_upd (c := jRG en T_1860 T_1861 v_1862) (j := j1866) (fun x => (show f_1881 x = rdF (en_1866 18) x from by rw [es1881]; rfl).trans (i0_1866 x)) (by omega) (by omega) (by unfold jRG; rw [if_pos (by omega)]; have h9 := i0_1866 (12 * T_1860 + j1866); rw [if_neg (by omega)] at h9; exact h9.symm.trans ((show rdF (en_1866 18) (12 * T_1860 + j1866) = f_1881 (12 * T_1860 + j1866) from by rw [es1881]; rfl).trans hfv_1882)) x) (hkp_1883) (hkc19_1883) (lv_sub hl [0, 1, 2, 3] rfl) hh
          exact loop_1866 (v_1862 + 1) 0  en ls _ _ (Nat.le_refl _) (by omega) (by omega) hI hf0 (fun x => by rw [if_neg (by omega)]) ((KP_rf en)) (rfl) (lv_sub hl [0, 1, 2, 3] rfl) hh
        · have n_1865 : wo = 10 := n_eq (a := wo) (b := 10) c_1865 (by omega) (by decide)
          refine lv_bipush (v := (-4)) hx hb dX12_join_48 (by decide) ?_
          have he30 : rdI (en 0) 30 = nI wo := by rw [es1858]; rfl
          have hc30 : (rdI (en 0) 30).toInt = (wo : Int) := by rw [he30]; exact nI_toInt (by omega)
          have hqa : hasQ (nI T_1860) (rdI (en 0) 30) := ⟨by rw [nI_toInt (n := T_1860) (by omega)]; omega, by rw [nI_toInt (n := T_1860) (by omega), hc30]; omega⟩
          have hla : rdF (en 19) (nI T_1860).toNatClampNeg = nI v_1862 := by rw [nI_clamp (n := T_1860) (by omega), show rdF (en 19) = f_1859 from by rw [es1859]; rfl]; exact hfv_1862
          have hqb : hasQ (nI T_1861) (rdI (en 0) 30) := ⟨by rw [nI_toInt (n := T_1861) (by omega)]; omega, by rw [nI_toInt (n := T_1861) (by omega), hc30]; omega⟩
          have hlb : rdF (en 19) (nI T_1861).toNatClampNeg = nI v_1863 := by rw [nI_clamp (n := T_1861) (by omega), show rdF (en 19) = f_1859 from by rw [es1859]; rfl]; exact hfv_1863
          have hs9 : (nI v_1862).toInt + (nI v_1863).toInt = ((v_1862 + v_1863 : Nat) : Int) := by rw [nI_toInt (n := v_1862) (by omega), nI_toInt (n := v_1863) (by omega)]; omega
          exact hp_iretM hx hb hr rfl hlocks hh (⟨hI, hf0, RWX_keep hRW (KP_rf en).2.2.2.2.2 rfl, KPw_of (KP_rf en), (by unfold RJO; rw [hla, hlb]; exact ⟨Or.inr (Or.inr (Or.inl ⟨⟨hqa, hqb⟩, by omega, by omega, rfl⟩)), Or.inl ⟨fun q => absurd q.2.2.2 (by omega), rfl, rfl, rfl⟩⟩)⟩) dX12_join_50
      · have n_1864 : 12 < (v_1862 + v_1863) := n_nle (a := (v_1862 + v_1863)) (b := 12) c_1864 (by omega) (by decide)
        refine lv_bipush (v := (-2)) hx hb dX12_join_36 (by decide) ?_
        have he30 : rdI (en 0) 30 = nI wo := by rw [es1858]; rfl
        have hc30 : (rdI (en 0) 30).toInt = (wo : Int) := by rw [he30]; exact nI_toInt (by omega)
        have hqa : hasQ (nI T_1860) (rdI (en 0) 30) := ⟨by rw [nI_toInt (n := T_1860) (by omega)]; omega, by rw [nI_toInt (n := T_1860) (by omega), hc30]; omega⟩
        have hla : rdF (en 19) (nI T_1860).toNatClampNeg = nI v_1862 := by rw [nI_clamp (n := T_1860) (by omega), show rdF (en 19) = f_1859 from by rw [es1859]; rfl]; exact hfv_1862
        have hqb : hasQ (nI T_1861) (rdI (en 0) 30) := ⟨by rw [nI_toInt (n := T_1861) (by omega)]; omega, by rw [nI_toInt (n := T_1861) (by omega), hc30]; omega⟩
        have hlb : rdF (en 19) (nI T_1861).toNatClampNeg = nI v_1863 := by rw [nI_clamp (n := T_1861) (by omega), show rdF (en 19) = f_1859 from by rw [es1859]; rfl]; exact hfv_1863
        have hs9 : (nI v_1862).toInt + (nI v_1863).toInt = ((v_1862 + v_1863 : Nat) : Int) := by rw [nI_toInt (n := v_1862) (by omega), nI_toInt (n := v_1863) (by omega)]; omega
        exact hp_iretM hx hb hr rfl hlocks hh (⟨hI, hf0, RWX_keep hRW (KP_rf en).2.2.2.2.2 rfl, KPw_of (KP_rf en), (by unfold RJO; rw [hla, hlb]; exact ⟨Or.inr (Or.inl ⟨⟨hqa, hqb⟩, by omega, rfl⟩), Or.inl ⟨fun q => absurd q.2.2.1 (by omega), rfl, rfl, rfl⟩⟩)⟩) dX12_join_38
    · obtain rfl : r_1861 = 0 := Eq.trans hw_1861 (if_neg hp_1861)
      refine lv_if_ne (tgt := 18) hx hb dX12_join_13 (by decide) (fun c_0 => absurd c_0 (by decide)) (fun _ => ?_)
      refine lv_iconst (v := (-1)) hx hb dX12_join_16 (by decide) ?_
      have he30 : rdI (en 0) 30 = nI wo := by rw [es1858]; rfl
      have hc30 : (rdI (en 0) 30).toInt = (wo : Int) := by rw [he30]; exact nI_toInt (by omega)
      have hnq : ¬ (hasQ (nI T_1860) (rdI (en 0) 30) ∧ hasQ b9 (rdI (en 0) 30)) := fun q => hp_1861 ⟨q.2.1, by have := q.2.2; omega⟩
      exact hp_iretM hx hb hr rfl hlocks hh (⟨hI, hf0, RWX_keep hRW (KP_rf en).2.2.2.2.2 rfl, KPw_of (KP_rf en), ⟨Or.inl ⟨hnq, rfl⟩, Or.inl ⟨fun q => hnq ⟨q.1, q.2.1⟩, rfl, rfl, rfl⟩⟩⟩) dX12_join_17
  · obtain rfl : r_1860 = 0 := Eq.trans hw_1860 (if_neg hp_1860)
    refine lv_if_eq (tgt := 16) hx hb dX12_join_5 (by decide) (fun _ => ?_) (fun c_0 => absurd c_0 (by decide))
    refine lv_iconst (v := (-1)) hx hb dX12_join_16 (by decide) ?_
    have he30 : rdI (en 0) 30 = nI wo := by rw [es1858]; rfl
    have hc30 : (rdI (en 0) 30).toInt = (wo : Int) := by rw [he30]; exact nI_toInt (by omega)
    have hnq : ¬ (hasQ a9 (rdI (en 0) 30) ∧ hasQ b9 (rdI (en 0) 30)) := fun q => hp_1860 ⟨q.1.1, by have := q.1.2; omega⟩
    exact hp_iretM hx hb hr rfl hlocks hh (⟨hI, hf0, RWX_keep hRW (KP_rf en).2.2.2.2.2 rfl, KPw_of (KP_rf en), ⟨Or.inl ⟨hnq, rfl⟩, Or.inl ⟨fun q => hnq ⟨q.1, q.2.1⟩, rfl, rfl, rfl⟩⟩⟩) dX12_join_17
theorem kw_X12_join {R : Room} {s : State} {args : Array Value} {own : String} {idx : Nat} (hts : ∀ w ∈ TB, w.before args s = true) (hl : Cond.methodLink own idx yX12_join ∈ TB) (hR : 1 + 1 ≤ R.frames ∧ 8 + (4 + 11) + 40 * 1 ≤ R.locals) : CallW R s args own RX12 idx yX12_join cX12_join 4 (some .int) (Cond.code yX12_join cX12_join 4 (some .int) :: TB) (rmN 1) 0 0 2 := cwV 2 hts (TB_V hl tw_1172 tw_1173 tw_9 tw_1174) rfl rfl rfl (by decide +kernel) hR
