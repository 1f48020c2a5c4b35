set_option maxHeartbeats 8000000 in
set_option maxRecDepth 100000 in
/-- findAll, the arrays not made -/
theorem c_X0_findAllU (l : Launch) (D : va_G) (cy : Nat → ClassId) (sz : Nat) (ad : Nat → Nat) (en : Nat → va_E) (n : Nat) (hn : 115 ≤ n) (hI : SX cy (List.range n) ad en)  (e70 : en 70 = .inr (0, [.ref (ad 1), .ref (ad 71), .ref (ad 72), .ref (ad 73), .null, .null, .null, .int 0, .int 0, .int 0, .int 0, .int 0, .int 0])) : Met l yX0_findAll (Cond.code yX0_findAll cX0_findAll 2 (some .boolean) :: TB) (rmC 4 3 24096) (va_Pc [.ref (ad 70)] (PreC D cy n ad en sz)) (va_Qi (S := Nat × (Nat → Nat) × (Nat → va_E)) (fun r u => ((∀ i, i < n → u.2.1 i = ad i) ∧ (∀ c, (c < n ∧ (c < 70 ∨ 74 ≤ c)) → u.2.2 c = en c) ∧ u.1 = n + 3 ∧ ∃ ka kb kc, n ≤ ka ∧ SC cy (List.range (n + 3)) u.2.1 ka kb kc u.2.2) ∧ (r = 0 ∨ r = 1)) (PostV D (Af (List.range n) ad sz)) (Af (List.range n) ad sz)) 3 24096 (Af (List.range n) ad sz) := by
  refine Met.ofW (cc := cX0_findAll) (maxL := 2) (ret := (some .boolean)) (by decide) rfl ?_
  intro p e s m args below meth c s₁ B hml hv
  obtain ⟨rfl, ⟨hsz, hP, hK, hD0⟩, hX⟩ := hv
  have hx := B.exec
  have hb := B.bytes
  have hr := B.returns
  have hts : ∀ w ∈ TB, w.before _ s = true := fun w h => atoms_spec (ws := _ :: TB) B.pre w (List.mem_cons_of_mem _ h)
  have hown : s.vm.findClass RX0 = some m.cls := findClass_of_methodNamed B.named
  have hlocks := B.notSynchronized
  have hh : Hp D (Af (List.range n) ad sz) (Af (List.range n) ad sz) s.heap s.heap [] (List.range n) ad en := ⟨hP, Af_self hD0, va_S.rf⟩
  have hA : ∀ q : Nat, s.heap.size ≤ q → (Af (List.range n) ad sz) q := fun q h => Or.inr (by rw [hsz] at h; exact h)
  generalize (Af (List.range n) ad sz) = A at hh hA ⊢
  have hl := lv_entry ([.ref (ad 70)]) (n := 2) (Nat.le_of_ble_eq_true rfl)
  rw [lg_entry_eq]
  generalize (lg_sl ([.ref (ad 70)]) ++ List.replicate (2 - (lg_sl ([.ref (ad 70)])).length) Slot.unset).toArray = ls at hl ⊢
  have hl : lv_has ls 2 [(0, .ref (ad 70))] := hl
  have hf0 : ∀ c, (c < n ∧ (c < 70 ∨ 74 ≤ c)) → en c = en c := fun _ _ => rfl
  obtain ⟨cnt, d, mm, es1002, hcnt, hd2, hd3, hmm⟩ := get_T hI
  refine lv_aload_n hx hb dX0_findAll_0 rfl (lv_at hl 0 rfl) ?_
  refine hv_callv (va_runV (As := []) (rest := []) ⟨hx, hb, hml, hown, hts⟩ (c_X0_prepareRowsU l D cy _ ad en n (by omega) hI e70) (kw_X0_prepareRowsU hts tw_586 ⟨by decide, by decide⟩) (preVC_of hh hK hX (List.mem_range.mpr (by omega)) e70 rfl) rfl rfl hl.1 rfl (lv_room (Nat.le_of_ble_eq_true rfl)) dX0_findAll_1 ⟨Nat.le_of_ble_eq_true rfl, Nat.le_of_ble_eq_true rfl⟩) hh hA (fun H locs n_1003 ad_1003 en_1003 hw_1003 hh => ?_)
  obtain ⟨hda_1003, hue_1003, hn1_1003, ka, kb, kc, hka0, hI_1003⟩ := hw_1003
  dsimp only at hda_1003 hue_1003 hn1_1003 hI_1003
  subst hn1_1003
  have hl : lv_has ls 2 [(0, .ref (ad_1003 70))] := by rw [hda_1003 70 (by omega)]; exact hl
  have b1_1003 : en 1 = .inr (7, [.ref (ad_1003 2), .ref (ad_1003 3), .ref (ad_1003 10), .ref (ad_1003 11), .int (nI cnt), .int (nI d), .int (nI mm)]) := by rw [hda_1003 2 (by omega), hda_1003 3 (by omega), hda_1003 10 (by omega), hda_1003 11 (by omega)]; exact es1002
  have hka1 : 115 ≤ ka := hI_1003.2.1.2.2.2.1
  have hka2 : ka < kb := hI_1003.2.1.2.2.2.2.1
  have hka3 : kb < kc := hI_1003.2.1.2.2.2.2.2
  have hkn : kc < n + 3 := List.mem_range.mp hI_1003.2.1.2.2.1
  have hf_1003 : ∀ c, (c < n ∧ (c < 70 ∨ 74 ≤ c)) → en_1003 c = en c := fun c hc => (hue_1003 c (by omega)).trans (hf0 c hc)
  refine lv_iconst (v := 0) hx hb dX0_findAll_4 (by decide) ?_
  refine lv_istore_n (lv' := [(1, .int 0), (0, .ref (ad_1003 70))]) hx hb dX0_findAll_5 rfl hl (by decide) rfl (fun ls hl => ?_)
  have loop_1004 : ∀ (fu j1004 : Nat)  (en_1004 : Nat → va_E) (ls : Array Slot) (H : Heap) (locs : List Loc), 0 ≤ j1004 → j1004 ≤ 6 → 6 < j1004 + fu → SC cy (List.range (n + 3)) ad_1003 ka kb kc en_1004 → (∀ c, (c < n ∧ (c < 70 ∨ 74 ≤ c)) → en_1004 c = en c) →  lv_has ls 2 [(1, .int (nI j1004)), (0, .ref (ad_1003 70))] → Hp D A A s.heap H locs (List.range (n + 3)) ad_1003 en_1004 → W p l e (headSpec (Cond.code yX0_findAll cX0_findAll 2 (some .boolean) :: TB) (rmC 4 3 24096)).room s m ([.ref (ad 70)] : List Value).toArray below meth c H locs 3 24096 (MQ below (va_Qi (S := Nat × (Nat → Nat) × (Nat → va_E)) (fun r u => ((∀ i, i < n → u.2.1 i = ad i) ∧ (∀ c, (c < n ∧ (c < 70 ∨ 74 ≤ c)) → u.2.2 c = en c) ∧ u.1 = n + 3 ∧ ∃ ka kb kc, n ≤ ka ∧ SC cy (List.range (n + 3)) u.2.1 ka kb kc u.2.2) ∧ (r = 0 ∨ r = 1)) (PostV D A) A) ([.ref (ad 70)] : List Value).toArray s 3 24096 A) (F0 m 6 ls []) := by
    intro fu
    induction fu with
    | zero => intro j1004  en_1004 ls H locs h0 h1 h2; exact absurd h2 (by omega)
    | succ fu ih_1004 =>
      intro j1004  en_1004 ls H locs hj0_1004 hj_1004 hfu_1004 hI_1004 hf_1004  hl hh
      refine lv_iload_n hx hb dX0_findAll_6 rfl (lv_at hl 0 rfl) ?_
      refine lv_aload_n hx hb dX0_findAll_7 rfl (lv_at hl 1 rfl) ?_
      obtain ⟨sta_1005, cc_1005, ct_1005, un_1005, ow_1005, hn_1005, es1005, p0_1005, p1_1005, p2_1005, p3_1005⟩ := get2_C hI_1004
      refine hp_get hx hb hts ix0 hown hK hh (q := 70) rfl (List.mem_range.mpr (by omega)) es1005 rfl 0 (by decide) (hts _ tw_147) (fun _ h9 => h9) rfl dX0_findAll_8 ?_
      have b1_1006 : en_1004 1 = .inr (7, [.ref (ad_1003 2), .ref (ad_1003 3), .ref (ad_1003 10), .ref (ad_1003 11), .int (nI cnt), .int (nI d), .int (nI mm)]) := (hf_1004 1 (by omega)).trans b1_1003
      refine hp_callRi (va_runV (As := []) (rest := [.int (nI j1004)]) ⟨hx, hb, hml, hown, hts⟩ (c_X8_count l D cy _ (List.range (n + 3)) ad_1003 en_1004 (List.mem_range.mpr (by omega)) cnt d mm hcnt hd2 hd3 hmm  b1_1006) (kw_X8_count hts tw_592 ⟨by decide, by decide⟩) (preV_of hh hK (List.mem_range.mpr (by omega)) b1_1006 rfl) rfl rfl hl.1 rfl (lv_room (Nat.le_of_ble_eq_true rfl)) dX0_findAll_11 ⟨Nat.le_of_ble_eq_true rfl, Nat.le_of_ble_eq_true rfl⟩) hh hA (fun r_1007 H locs hw_1007 hh => ?_)
      obtain rfl : r_1007 = (nI cnt) := hw_1007
      refine lv_icmp_ge (tgt := 41) hx hb dX0_findAll_14 (by decide) (fun c_1008 => ?_) (fun c_1008 => ?_)
      · have n_1008 : cnt ≤ j1004 := n_le (a := cnt) (b := j1004) c_1008 (by omega) (by omega)
        refine lv_iconst (v := 0) hx hb dX0_findAll_41 (by decide) ?_
        refine lv_istore_n (lv' := [(1, .int 0), (0, .ref (ad_1003 70))]) hx hb dX0_findAll_42 rfl hl (by decide) rfl (fun ls hl => ?_)
        have loop_1009 : ∀ (fu j1009 : Nat)  (en_1009 : Nat → va_E) (ls : Array Slot) (H : Heap) (locs : List Loc), 0 ≤ j1009 → j1009 ≤ 2000 → 2000 < j1009 + fu → SC cy (List.range (n + 3)) ad_1003 ka kb kc en_1009 → (∀ c, (c < n ∧ (c < 70 ∨ 74 ≤ c)) → en_1009 c = en c) →  lv_has ls 2 [(1, .int (nI j1009)), (0, .ref (ad_1003 70))] → Hp D A A s.heap H locs (List.range (n + 3)) ad_1003 en_1009 → W p l e (headSpec (Cond.code yX0_findAll cX0_findAll 2 (some .boolean) :: TB) (rmC 4 3 24096)).room s m ([.ref (ad 70)] : List Value).toArray below meth c H locs 3 24096 (MQ below (va_Qi (S := Nat × (Nat → Nat) × (Nat → va_E)) (fun r u => ((∀ i, i < n → u.2.1 i = ad i) ∧ (∀ c, (c < n ∧ (c < 70 ∨ 74 ≤ c)) → u.2.2 c = en c) ∧ u.1 = n + 3 ∧ ∃ ka kb kc, n ≤ ka ∧ SC cy (List.range (n + 3)) u.2.1 ka kb kc u.2.2) ∧ (r = 0 ∨ r = 1)) (PostV D A) A) ([.ref (ad 70)] : List Value).toArray s 3 24096 A) (F0 m 43 ls []) := by
          intro fu
          induction fu with
          | zero => intro j1009  en_1009 ls H locs h0 h1 h2; exact absurd h2 (by omega)
          | succ fu ih_1009 =>
            intro j1009  en_1009 ls H locs hj0_1009 hj_1009 hfu_1009 hI_1009 hf_1009  hl hh
            refine lv_iload_n hx hb dX0_findAll_43 rfl (lv_at hl 0 rfl) ?_
            refine lv_aload_n hx hb dX0_findAll_44 rfl (lv_at hl 1 rfl) ?_
            obtain ⟨sta_1010, cc_1010, ct_1010, un_1010, ow_1010, hn_1010, es1010, p0_1010, p1_1010, p2_1010, p3_1010⟩ := get2_C hI_1009
            refine hp_get hx hb hts ix0 hown hK hh (q := 70) rfl (List.mem_range.mpr (by omega)) es1010 rfl 9 (by decide) (hts _ tw_156) (fun _ h9 => h9) rfl dX0_findAll_45 ?_
            refine lv_icmp_ge (tgt := 74) hx hb dX0_findAll_48 (by decide) (fun c_1011 => ?_) (fun c_1011 => ?_)
            · have n_1011 : ct_1010 ≤ j1009 := n_le (a := ct_1010) (b := j1009) c_1011 (by omega) (by omega)
              refine lv_aload_n hx hb dX0_findAll_74 rfl (lv_at hl 1 rfl) ?_
              refine hp_callMv (va_runV (As := []) (rest := []) ⟨hx, hb, hml, hown, hts⟩ (c_X0_sumUp l D cy _ (List.range (n + 3)) ad_1003 en_1009 hI_1009  ) (kw_X0_sumUp hts tw_627 ⟨by decide, by decide⟩) (preV_of hh hK (List.mem_range.mpr (by omega)) es1010 rfl) rfl rfl hl.1 rfl (lv_room (Nat.le_of_ble_eq_true rfl)) dX0_findAll_75 ⟨Nat.le_of_ble_eq_true rfl, Nat.le_of_ble_eq_true rfl⟩) hh hA (fun H locs en_1012 hw_1012 hh => ?_)
              obtain ⟨hI_1012, hu_1012⟩ := hw_1012
              have hf_1012 : ∀ c, (c < n ∧ (c < 70 ∨ 74 ≤ c)) → en_1012 c = en c := fun c hc => (hu_1012 c (by omega)).trans (hf_1009 c hc)
              refine lv_iconst (v := 1) hx hb dX0_findAll_78 (by decide) ?_
              exact hv_iret hx hb hr (rfl) hlocks hh (⟨⟨(fun i hi => by dsimp only; rw [hda_1003 i (by omega)]), hf_1012, rfl, ka, kb, kc, hka0, hI_1012⟩, Or.inr rfl⟩) dX0_findAll_79
            · have n_1011 : j1009 < ct_1010 := n_nle (a := ct_1010) (b := j1009) c_1011 (by omega) (by omega)
              refine lv_iload_n hx hb dX0_findAll_51 rfl (lv_at hl 0 rfl) ?_
              refine lv_sipush (v := 2000) hx hb dX0_findAll_52 (by decide) ?_
              refine lv_icmp_ge (tgt := 74) hx hb dX0_findAll_55 (by decide) (fun c_1013 => ?_) (fun c_1013 => ?_)
              · have n_1013 : 2000 ≤ j1009 := n_le (a := 2000) (b := j1009) c_1013 (by decide) (by omega)
                refine lv_aload_n hx hb dX0_findAll_74 rfl (lv_at hl 1 rfl) ?_
                refine hp_callMv (va_runV (As := []) (rest := []) ⟨hx, hb, hml, hown, hts⟩ (c_X0_sumUp l D cy _ (List.range (n + 3)) ad_1003 en_1009 hI_1009  ) (kw_X0_sumUp hts tw_627 ⟨by decide, by decide⟩) (preV_of hh hK (List.mem_range.mpr (by omega)) es1010 rfl) rfl rfl hl.1 rfl (lv_room (Nat.le_of_ble_eq_true rfl)) dX0_findAll_75 ⟨Nat.le_of_ble_eq_true rfl, Nat.le_of_ble_eq_true rfl⟩) hh hA (fun H locs en_1014 hw_1014 hh => ?_)
                obtain ⟨hI_1014, hu_1014⟩ := hw_1014
                have hf_1014 : ∀ c, (c < n ∧ (c < 70 ∨ 74 ≤ c)) → en_1014 c = en c := fun c hc => (hu_1014 c (by omega)).trans (hf_1009 c hc)
                refine lv_iconst (v := 1) hx hb dX0_findAll_78 (by decide) ?_
                exact hv_iret hx hb hr (rfl) hlocks hh (⟨⟨(fun i hi => by dsimp only; rw [hda_1003 i (by omega)]), hf_1014, rfl, ka, kb, kc, hka0, hI_1014⟩, Or.inr rfl⟩) dX0_findAll_79
              · have n_1013 : j1009 < 2000 := n_nle (a := 2000) (b := j1009) c_1013 (by decide) (by omega)
                refine lv_aload_n hx hb dX0_findAll_58 rfl (lv_at hl 1 rfl) ?_
                refine lv_iload_n hx hb dX0_findAll_59 rfl (lv_at hl 0 rfl) ?_
                refine hp_callMi (va_runV (As := [.int (nI j1009)]) (rest := []) ⟨hx, hb, hml, hown, hts⟩ (c_X0_extendByLetters l D cy _ (List.range (n + 3)) ad_1003 en_1009 hI_1009 j1009 (by omega)) (kw_X0_extendByLetters hts tw_618 ⟨by decide, by decide⟩) (preV_of hh hK (List.mem_range.mpr (by omega)) es1010 rfl) rfl rfl hl.1 rfl (lv_room (Nat.le_of_ble_eq_true rfl)) dX0_findAll_60 ⟨Nat.le_of_ble_eq_true rfl, Nat.le_of_ble_eq_true rfl⟩) hh hA (fun r_1015 H locs en_1015 hw_1015 hh => ?_)
                obtain ⟨hI_1015, hu_1015, hx_1015⟩ := hw_1015
                have hf_1015 : ∀ c, (c < n ∧ (c < 70 ∨ 74 ≤ c)) → en_1015 c = en c := fun c hc => (hu_1015 c (by omega)).trans (hf_1009 c hc)
                have hw_1015 := hx_1015
                rcases hw_1015 with hb_1015 | hb_1015
                · obtain rfl : r_1015 = 0 := hb_1015
                  refine lv_if_ne (tgt := 68) hx hb dX0_findAll_63 (by decide) (fun c_0 => absurd c_0 (by decide)) (fun _ => ?_)
                  refine lv_iconst (v := 0) hx hb dX0_findAll_66 (by decide) ?_
                  exact hv_iret hx hb hr (rfl) hlocks hh (⟨⟨(fun i hi => by dsimp only; rw [hda_1003 i (by omega)]), hf_1015, rfl, ka, kb, kc, hka0, hI_1015⟩, Or.inl rfl⟩) dX0_findAll_67
                · obtain rfl : r_1015 = 1 := hb_1015
                  refine lv_if_ne (tgt := 68) hx hb dX0_findAll_63 (by decide) (fun _ => ?_) (fun c_0 => absurd c_0 (by decide))
                  refine lv_iinc (v := (nI (j1009 + 1))) (lv' := [(1, .int (nI (j1009 + 1))), (0, .ref (ad_1003 70))]) hx hb dX0_findAll_68 hl (k := 0) rfl (nI_1 _) (by decide) rfl (fun ls hl => ?_)
                  refine lv_goto (tgt := 43) hx hb dX0_findAll_71 (by decide) ?_
                  exact ih_1009 ((j1009 + 1))  en_1015 ls H locs (by omega) (by omega) (by omega) hI_1015 hf_1015  (lv_sub hl [0, 1] rfl) hh
        exact loop_1009 (2000 + 1) 0  en_1004 ls _ _ (Nat.le_refl _) (by omega) (by omega) hI_1004 hf_1004  (lv_sub hl [0, 1] rfl) hh
      · have n_1008 : j1004 < cnt := n_nle (a := cnt) (b := j1004) c_1008 (by omega) (by omega)
        refine lv_aload_n hx hb dX0_findAll_17 rfl (lv_at hl 1 rfl) ?_
        refine lv_aload_n hx hb dX0_findAll_18 rfl (lv_at hl 1 rfl) ?_
        refine hp_get hx hb hts ix0 hown hK hh (q := 70) rfl (List.mem_range.mpr (by omega)) es1005 rfl 0 (by decide) (hts _ tw_147) (fun _ h9 => h9) rfl dX0_findAll_19 ?_
        refine lv_iload_n hx hb dX0_findAll_22 rfl (lv_at hl 0 rfl) ?_
        have es1016 := get2_rows hI_1004
        unfold P_rows at es1016
        refine hp_callRq (va_runV (As := [.int (nI j1004)]) (rest := [.ref (ad_1003 70)]) ⟨hx, hb, hml, hown, hts⟩ (c_X8_rowOf l D cy _ (List.range (n + 3)) ad_1003 en_1004 (List.mem_range.mpr (by omega)) (List.mem_range.mpr (by omega)) cnt d mm hcnt hd2 hd3 hmm j1004 (by omega) b1_1006 es1016) (kw_X8_rowOf hts tw_593 ⟨by decide, by decide⟩) (preV_of hh hK (List.mem_range.mpr (by omega)) b1_1006 rfl) rfl rfl hl.1 rfl (lv_room (Nat.le_of_ble_eq_true rfl)) dX0_findAll_23 ⟨Nat.le_of_ble_eq_true rfl, Nat.le_of_ble_eq_true rfl⟩) hh hA (fun r_1017 H locs hw_1017 hh => ?_)
        obtain rfl : r_1017 = some (ad_1003 (4 + j1004)) := hw_1017
        refine W.eq (g2 := F0 m 26 ls [.ref (ad_1003 (4 + j1004)), .ref (ad_1003 70)]) rfl ?_
        refine lv_iconst (v := 1) hx hb dX0_findAll_26 (by decide) ?_
        obtain ⟨f_1018, es1018⟩ := get2_row hI_1004 (j := j1004) (by omega)
        refine hp_callMi (va_runV (As := [.ref (ad_1003 (4 + j1004)), .int 1]) (rest := []) ⟨hx, hb, hml, hown, hts⟩ (c_X0_take l D cy _ (List.range (n + 3)) ad_1003 en_1004 hI_1004 (4 + j1004) (List.mem_range.mpr (by omega)) (by omega) f_1018 1 es1018) (kw_X0_take hts tw_594 ⟨by decide, by decide⟩) (preV_of hh hK (List.mem_range.mpr (by omega)) es1005 rfl) rfl rfl hl.1 rfl (lv_room (Nat.le_of_ble_eq_true rfl)) dX0_findAll_27 ⟨Nat.le_of_ble_eq_true rfl, Nat.le_of_ble_eq_true rfl⟩) hh hA (fun r_1019 H locs en_1019 hw_1019 hh => ?_)
        obtain ⟨hI_1019, hu_1019, hx_1019⟩ := hw_1019
        have hf_1019 : ∀ c, (c < n ∧ (c < 70 ∨ 74 ≤ c)) → en_1019 c = en c := fun c hc => (hu_1019 c (by omega)).trans (hf_1004 c hc)
        have hw_1019 := hx_1019
        rcases hw_1019 with hb_1019 | hb_1019
        · obtain rfl : r_1019 = 0 := hb_1019
          refine lv_if_ne (tgt := 35) hx hb dX0_findAll_30 (by decide) (fun c_0 => absurd c_0 (by decide)) (fun _ => ?_)
          refine lv_iconst (v := 0) hx hb dX0_findAll_33 (by decide) ?_
          exact hv_iret hx hb hr (rfl) hlocks hh (⟨⟨(fun i hi => by dsimp only; rw [hda_1003 i (by omega)]), hf_1019, rfl, ka, kb, kc, hka0, hI_1019⟩, Or.inl rfl⟩) dX0_findAll_34
        · obtain rfl : r_1019 = 1 := hb_1019
          refine lv_if_ne (tgt := 35) hx hb dX0_findAll_30 (by decide) (fun _ => ?_) (fun c_0 => absurd c_0 (by decide))
          refine lv_iinc (v := (nI (j1004 + 1))) (lv' := [(1, .int (nI (j1004 + 1))), (0, .ref (ad_1003 70))]) hx hb dX0_findAll_35 hl (k := 0) rfl (nI_1 _) (by decide) rfl (fun ls hl => ?_)
          refine lv_goto (tgt := 6) hx hb dX0_findAll_38 (by decide) ?_
          exact ih_1004 ((j1004 + 1))  en_1019 ls H locs (by omega) (by omega) (by omega) hI_1019 hf_1019  (lv_sub hl [0, 1] rfl) hh
  exact loop_1004 (6 + 1) 0  en_1003 ls _ _ (Nat.le_refl _) (by omega) (by omega) hI_1003 hf_1003  (lv_sub hl [0, 1] rfl) hh
theorem kw_X0_findAllU {R : Room} {s : State} {args : Array Value} {own : String} {idx : Nat} (hts : ∀ w ∈ TB, w.before args s = true) (hl : Cond.methodLink own idx yX0_findAll ∈ TB) (hR : 4 + 1 ≤ R.frames ∧ 8 + (2 + 11) + 40 * 4 ≤ R.locals) : CallW R s args own RX0 idx yX0_findAll cX0_findAll 2 (some .boolean) (Cond.code yX0_findAll cX0_findAll 2 (some .boolean) :: TB) (rmC 4 3 24096) 3 24096 0 := cwV 0 hts (TB_V hl tw_584 ts_13 tw_5 tw_585) rfl rfl rfl (by decide +kernel) hR
set_option maxHeartbeats 8000000 in
set_option maxRecDepth 100000 in
/-- search, the arrays not made -/
theorem c_X0_searchU (l : Launch) (D : va_G) (cy : Nat → ClassId) (sz : Nat) (ad : Nat → Nat) (en : Nat → va_E) (n : Nat) (hn : 115 ≤ n) (hI : SX cy (List.range n) ad en)  (e70 : en 70 = .inr (0, [.ref (ad 1), .ref (ad 71), .ref (ad 72), .ref (ad 73), .null, .null, .null, .int 0, .int 0, .int 0, .int 0, .int 0, .int 0])) : Met l yX0_search (Cond.code yX0_search cX0_search 1 (some .int) :: TB) (rmC 5 3 24096) (va_Pc [.ref (ad 70)] (PreC D cy n ad en sz)) (va_Qi (S := Nat × (Nat → Nat) × (Nat → va_E)) (fun r u => (∀ i, i < n → u.2.1 i = ad i) ∧ (∀ c, (c < n ∧ (c < 70 ∨ 74 ≤ c)) → u.2.2 c = en c) ∧ u.1 = n + 3 ∧ ∃ ka kb kc, n ≤ ka ∧ SC cy (List.range (n + 3)) u.2.1 ka kb kc u.2.2) (PostV D (Af (List.range n) ad sz)) (Af (List.range n) ad sz)) 3 24096 (Af (List.range n) ad sz) := by
  refine Met.ofW (cc := cX0_search) (maxL := 1) (ret := (some .int)) (by decide) rfl ?_
  intro p e s m args below meth c s₁ B hml hv
  obtain ⟨rfl, ⟨hsz, hP, hK, hD0⟩, hX⟩ := hv
  have hx := B.exec
  have hb := B.bytes
  have hr := B.returns
  have hts : ∀ w ∈ TB, w.before _ s = true := fun w h => atoms_spec (ws := _ :: TB) B.pre w (List.mem_cons_of_mem _ h)
  have hown : s.vm.findClass RX0 = some m.cls := findClass_of_methodNamed B.named
  have hlocks := B.notSynchronized
  have hh : Hp D (Af (List.range n) ad sz) (Af (List.range n) ad sz) s.heap s.heap [] (List.range n) ad en := ⟨hP, Af_self hD0, va_S.rf⟩
  have hA : ∀ q : Nat, s.heap.size ≤ q → (Af (List.range n) ad sz) q := fun q h => Or.inr (by rw [hsz] at h; exact h)
  generalize (Af (List.range n) ad sz) = A at hh hA ⊢
  have hl := lv_entry ([.ref (ad 70)]) (n := 1) (Nat.le_of_ble_eq_true rfl)
  rw [lg_entry_eq]
  generalize (lg_sl ([.ref (ad 70)]) ++ List.replicate (1 - (lg_sl ([.ref (ad 70)])).length) Slot.unset).toArray = ls at hl ⊢
  have hl : lv_has ls 1 [(0, .ref (ad 70))] := hl
  have hf0 : ∀ c, (c < n ∧ (c < 70 ∨ 74 ≤ c)) → en c = en c := fun _ _ => rfl
  obtain ⟨cnt, d, mm, es1020, hcnt, hd2, hd3, hmm⟩ := get_T hI
  refine lv_aload_n hx hb dX0_search_0 rfl (lv_at hl 0 rfl) ?_
  refine hp_get hx hb hts ix0 hown hK hh (q := 70) rfl (List.mem_range.mpr (by omega)) e70 rfl 7 (by decide) (hts _ tw_154) (fun _ h9 => h9) rfl dX0_search_1 ?_
  refine lv_if_ne (tgt := 23) hx hb dX0_search_4 (by decide) (fun c_0 => absurd c_0 (by decide)) (fun _ => ?_)
  refine lv_aload_n hx hb dX0_search_7 rfl (lv_at hl 0 rfl) ?_
  refine lv_aload_n hx hb dX0_search_8 rfl (lv_at hl 0 rfl) ?_
  refine hv_calli (va_runV (As := []) (rest := [.ref (ad 70)]) ⟨hx, hb, hml, hown, hts⟩ (c_X0_findAllU l D cy _ ad en n (by omega) hI e70) (kw_X0_findAllU hts tw_582 ⟨by decide, by decide⟩) (preVC_of hh hK hX (List.mem_range.mpr (by omega)) e70 rfl) rfl rfl hl.1 rfl (lv_room (Nat.le_of_ble_eq_true rfl)) dX0_search_9 ⟨Nat.le_of_ble_eq_true rfl, Nat.le_of_ble_eq_true rfl⟩) hh hA (fun r_1021 H locs n_1021 ad_1021 en_1021 hw_1021 hh => ?_)
  obtain ⟨hw_1021, hbt_1021⟩ := hw_1021
  obtain ⟨hda_1021, hue_1021, hn1_1021, ka, kb, kc, hka0, hI_1021⟩ := hw_1021
  dsimp only at hda_1021 hue_1021 hn1_1021 hI_1021
  subst hn1_1021
  refine W.eq (g2 := F0 m 12 ls [.int r_1021, .ref (ad_1021 70)]) (by rw [hda_1021 70 (by omega)]) ?_
  have hl : lv_has ls 1 [(0, .ref (ad_1021 70))] := by rw [hda_1021 70 (by omega)]; exact hl
  have b1_1021 : en 1 = .inr (7, [.ref (ad_1021 2), .ref (ad_1021 3), .ref (ad_1021 10), .ref (ad_1021 11), .int (nI cnt), .int (nI d), .int (nI mm)]) := by rw [hda_1021 2 (by omega), hda_1021 3 (by omega), hda_1021 10 (by omega), hda_1021 11 (by omega)]; exact es1020
  have hka1 : 115 ≤ ka := hI_1021.2.1.2.2.2.1
  have hka2 : ka < kb := hI_1021.2.1.2.2.2.2.1
  have hka3 : kb < kc := hI_1021.2.1.2.2.2.2.2
  have hkn : kc < n + 3 := List.mem_range.mp hI_1021.2.1.2.2.1
  have hf_1021 : ∀ c, (c < n ∧ (c < 70 ∨ 74 ≤ c)) → en_1021 c = en c := fun c hc => (hue_1021 c (by omega)).trans (hf0 c hc)
  have hw_1021 := hbt_1021
  rcases hw_1021 with hb_1021 | hb_1021
  · obtain rfl : r_1021 = 0 := hb_1021
    refine lv_if_eq (tgt := 19) hx hb dX0_search_12 (by decide) (fun _ => ?_) (fun c_0 => absurd c_0 (by decide))
    refine lv_iconst (v := 2) hx hb dX0_search_19 (by decide) ?_
    obtain ⟨sta_1022, cc_1022, ct_1022, un_1022, ow_1022, hn_1022, es1022, p0_1022, p1_1022, p2_1022, p3_1022⟩ := get2_C hI_1021
    refine hp_put hx hb hts ix0 tyX0 tyX0_ok nmX0 hown hK hh (q := 70) rfl (List.mem_range.mpr (by omega)) es1022 rfl 7 (by decide) (hts _ tw_154) (fun _ h9 => h9) rfl (ty := .int) (by decide +kernel) rfl rfl (Nat.le_of_ble_eq_true rfl) dX0_search_20 (fun H locs en_1023 hen_1023 hh => ?_)
    have es1022_1023 : en_1023 70 = .inr (0, [.ref (ad_1021 1), .ref (ad_1021 71), .ref (ad_1021 72), .ref (ad_1021 73), .ref (ad_1021 ka), .ref (ad_1021 kb), .ref (ad_1021 kc), .int 2, .int (nI cc_1022), .int (nI ct_1022), .int un_1022, .int ow_1022, .int (nI hn_1022)]) := by rw [hen_1023]; exact va_up_self _ _ _
    have hI_1023 : SC cy (List.range (n + 3)) ad_1021 ka kb kc en_1023 := by rw [hen_1023]; exact up2_C hI_1021 ⟨2, cc_1022, ct_1022, un_1022, ow_1022, hn_1022, rfl, (by omega), p1_1022, p2_1022, p3_1022⟩
    have hf_1023 : ∀ c, (c < n ∧ (c < 70 ∨ 74 ≤ c)) → en_1023 c = en c := fun c hc => Eq.trans (show en_1023 c = en_1021 c from by rw [hen_1023, va_up_ne _ _ (by omega)]) (hf_1021 c hc)
    refine lv_aload_n hx hb dX0_search_23 rfl (lv_at hl 0 rfl) ?_
    refine hp_get hx hb hts ix0 hown hK hh (q := 70) rfl (List.mem_range.mpr (by omega)) es1022_1023 rfl 7 (by decide) (hts _ tw_154) (fun _ h9 => h9) rfl dX0_search_24 ?_
    refine lv_iconst (v := 1) hx hb dX0_search_27 (by decide) ?_
    refine lv_icmp_ne (tgt := 38) hx hb dX0_search_28 (by decide) (fun _ => ?_) (fun c_0 => absurd c_0 (by decide))
    refine lv_bipush (v := (-6)) hx hb dX0_search_38 (by decide) ?_
    exact hv_iret hx hb hr (rfl) hlocks hh (⟨(fun i hi => by dsimp only; rw [hda_1021 i (by omega)]), hf_1023, rfl, ka, kb, kc, hka0, hI_1023⟩) dX0_search_40
  · obtain rfl : r_1021 = 1 := hb_1021
    refine lv_if_eq (tgt := 19) hx hb dX0_search_12 (by decide) (fun c_0 => absurd c_0 (by decide)) (fun _ => ?_)
    refine lv_iconst (v := 1) hx hb dX0_search_15 (by decide) ?_
    refine lv_goto (tgt := 20) hx hb dX0_search_16 (by decide) ?_
    obtain ⟨sta_1024, cc_1024, ct_1024, un_1024, ow_1024, hn_1024, es1024, p0_1024, p1_1024, p2_1024, p3_1024⟩ := get2_C hI_1021
    refine hp_put hx hb hts ix0 tyX0 tyX0_ok nmX0 hown hK hh (q := 70) rfl (List.mem_range.mpr (by omega)) es1024 rfl 7 (by decide) (hts _ tw_154) (fun _ h9 => h9) rfl (ty := .int) (by decide +kernel) rfl rfl (Nat.le_of_ble_eq_true rfl) dX0_search_20 (fun H locs en_1025 hen_1025 hh => ?_)
    have es1024_1025 : en_1025 70 = .inr (0, [.ref (ad_1021 1), .ref (ad_1021 71), .ref (ad_1021 72), .ref (ad_1021 73), .ref (ad_1021 ka), .ref (ad_1021 kb), .ref (ad_1021 kc), .int 1, .int (nI cc_1024), .int (nI ct_1024), .int un_1024, .int ow_1024, .int (nI hn_1024)]) := by rw [hen_1025]; exact va_up_self _ _ _
    have hI_1025 : SC cy (List.range (n + 3)) ad_1021 ka kb kc en_1025 := by rw [hen_1025]; exact up2_C hI_1021 ⟨1, cc_1024, ct_1024, un_1024, ow_1024, hn_1024, rfl, (by omega), p1_1024, p2_1024, p3_1024⟩
    have hf_1025 : ∀ c, (c < n ∧ (c < 70 ∨ 74 ≤ c)) → en_1025 c = en c := fun c hc => Eq.trans (show en_1025 c = en_1021 c from by rw [hen_1025, va_up_ne _ _ (by omega)]) (hf_1021 c hc)
    refine lv_aload_n hx hb dX0_search_23 rfl (lv_at hl 0 rfl) ?_
    refine hp_get hx hb hts ix0 hown hK hh (q := 70) rfl (List.mem_range.mpr (by omega)) es1024_1025 rfl 7 (by decide) (hts _ tw_154) (fun _ h9 => h9) rfl dX0_search_24 ?_
    refine lv_iconst (v := 1) hx hb dX0_search_27 (by decide) ?_
    refine lv_icmp_ne (tgt := 38) hx hb dX0_search_28 (by decide) (fun c_0 => absurd c_0 (by decide)) (fun _ => ?_)
    refine lv_aload_n hx hb dX0_search_31 rfl (lv_at hl 0 rfl) ?_
    refine hp_get hx hb hts ix0 hown hK hh (q := 70) rfl (List.mem_range.mpr (by omega)) es1024_1025 rfl 9 (by decide) (hts _ tw_156) (fun _ h9 => h9) rfl dX0_search_32 ?_
    refine lv_goto (tgt := 40) hx hb dX0_search_35 (by decide) ?_
    exact hv_iret hx hb hr (rfl) hlocks hh (⟨(fun i hi => by dsimp only; rw [hda_1021 i (by omega)]), hf_1025, rfl, ka, kb, kc, hka0, hI_1025⟩) dX0_search_40
theorem kw_X0_searchU {R : Room} {s : State} {args : Array Value} {own : String} {idx : Nat} (hts : ∀ w ∈ TB, w.before args s = true) (hl : Cond.methodLink own idx yX0_search ∈ TB) (hR : 5 + 1 ≤ R.frames ∧ 8 + (1 + 11) + 40 * 5 ≤ R.locals) : CallW R s args own RX0 idx yX0_search cX0_search 1 (some .int) (Cond.code yX0_search cX0_search 1 (some .int) :: TB) (rmC 5 3 24096) 3 24096 0 := cwV 0 hts (TB_V hl tw_579 tw_580 tw_5 tw_581) rfl rfl rfl (by decide +kernel) hR
set_option maxHeartbeats 8000000 in
set_option maxRecDepth 100000 in
/-- close, the arrays not made -/
theorem c_X11_closeU (l : Launch) (D : va_G) (cy : Nat → ClassId) (sz : Nat) (ad : Nat → Nat) (en : Nat → va_E) (n : Nat) (hn : 115 ≤ n) (hI : SX cy (List.range n) ad en) (F : Nat → Nat → Int32) (hTX : TXF cy (List.range n) ad en F) (hct : 1 ≤ (rdI (en 1) 4).toInt) (e70 : en 70 = .inr (0, [.ref (ad 1), .ref (ad 71), .ref (ad 72), .ref (ad 73), .null, .null, .null, .int 0, .int 0, .int 0, .int 0, .int 0, .int 0])) : Met l yX11_close (Cond.code yX11_close cX11_close 1 (some .int) :: TB) (rmC 6 3 24096) (va_Pc [.ref (ad 0)] (PreC D cy n ad en sz)) (va_Qi (S := Nat × (Nat → Nat) × (Nat → va_E)) (fun r u => u.1 = n + 3 ∧ (∀ i, i < n → u.2.1 i = ad i) ∧ (∀ c, (c < n ∧ (c < 70 ∨ 74 ≤ c)) → u.2.2 c = en c) ∧ SX cy (List.range u.1) u.2.1 u.2.2 ∧ TXF cy (List.range u.1) u.2.1 u.2.2 F ∧ CPm cy (List.range u.1) u.2.1 u.2.2) (PostV D (Af (List.range n) ad sz)) (Af (List.range n) ad sz)) 3 24096 (Af (List.range n) ad sz) := by
  refine Met.ofW (cc := cX11_close) (maxL := 1) (ret := (some .int)) (by decide) rfl ?_
  intro p e s m args below meth c s₁ B hml hv
  obtain ⟨rfl, ⟨hsz, hP, hK, hD0⟩, hX⟩ := hv
  have hx := B.exec
  have hb := B.bytes
  have hr := B.returns
  have hts : ∀ w ∈ TB, w.before _ s = true := fun w h => atoms_spec (ws := _ :: TB) B.pre w (List.mem_cons_of_mem _ h)
  have hown : s.vm.findClass RX11 = some m.cls := findClass_of_methodNamed B.named
  have hlocks := B.notSynchronized
  have hh : Hp D (Af (List.range n) ad sz) (Af (List.range n) ad sz) s.heap s.heap [] (List.range n) ad en := ⟨hP, Af_self hD0, va_S.rf⟩
  have hA : ∀ q : Nat, s.heap.size ≤ q → (Af (List.range n) ad sz) q := fun q h => Or.inr (by rw [hsz] at h; exact h)
  generalize (Af (List.range n) ad sz) = A at hh hA ⊢
  have hl := lv_entry ([.ref (ad 0)]) (n := 1) (Nat.le_of_ble_eq_true rfl)
  rw [lg_entry_eq]
  generalize (lg_sl ([.ref (ad 0)]) ++ List.replicate (1 - (lg_sl ([.ref (ad 0)])).length) Slot.unset).toArray = ls at hl ⊢
  have hl : lv_has ls 1 [(0, .ref (ad 0))] := hl
  have hf0 : ∀ c, (c < n ∧ (c < 70 ∨ 74 ≤ c)) → en c = en c := fun _ _ => rfl
  obtain ⟨wc_1026, lf_1026, es1026, p0_1026⟩ := get_A hI
  obtain ⟨cnt, d, mm, es1027, hcnt, hd2, hd3, hmm⟩ := get_T hI
  have hc1 : 1 ≤ cnt := by rw [show rdI (en 1) 4 = nI cnt from by rw [es1027]; rfl, nI_toInt (by omega)] at hct; omega
  refine lv_aload_n hx hb dX11_close_0 rfl (lv_at hl 0 rfl) ?_
  refine hp_get hx hb hts ix11 hown hK hh (q := 0) rfl (List.mem_range.mpr (by omega)) es1026 rfl 0 (by decide) (hts _ tw_245) (fun _ h9 => h9) rfl dX11_close_1 ?_
  refine hp_callRi (va_runV (As := []) (rest := []) ⟨hx, hb, hml, hown, hts⟩ (c_X8_count l D cy _ (List.range n) ad en (List.mem_range.mpr (by omega)) cnt d mm hcnt hd2 hd3 hmm  es1027) (kw_X8_count hts tw_318 ⟨by decide, by decide⟩) (preV_of hh hK (List.mem_range.mpr (by omega)) es1027 rfl) rfl rfl hl.1 rfl (lv_room (Nat.le_of_ble_eq_true rfl)) dX11_close_4 ⟨Nat.le_of_ble_eq_true rfl, Nat.le_of_ble_eq_true rfl⟩) hh hA (fun r_1028 H locs hw_1028 hh => ?_)
  obtain rfl : r_1028 = (nI cnt) := hw_1028
  refine lv_if_ne (tgt := 15) hx hb dX11_close_7 (by decide) (fun c_1029 => ?_) (fun c_1029 => ?_)
  · have n_1029 : cnt ≠ 0 := n_neq (a := cnt) (b := 0) c_1029 (by omega) (by decide)
    refine lv_aload_n hx hb dX11_close_15 rfl (lv_at hl 0 rfl) ?_
    refine hp_get hx hb hts ix11 hown hK hh (q := 0) rfl (List.mem_range.mpr (by omega)) es1026 rfl 2 (by decide) (hts _ tw_247) (fun _ h9 => h9) rfl dX11_close_16 ?_
    refine hv_calli (va_runV (As := []) (rest := []) ⟨hx, hb, hml, hown, hts⟩ (c_X0_searchU l D cy _ ad en n (by omega) hI e70) (kw_X0_searchU hts tw_578 ⟨by decide, by decide⟩) (preVC_of hh hK hX (List.mem_range.mpr (by omega)) e70 rfl) rfl rfl hl.1 rfl (lv_room (Nat.le_of_ble_eq_true rfl)) dX11_close_19 ⟨Nat.le_of_ble_eq_true rfl, Nat.le_of_ble_eq_true rfl⟩) hh hA (fun r_1030 H locs n_1030 ad_1030 en_1030 hw_1030 hh => ?_)
    obtain ⟨hda_1030, hue_1030, hn1_1030, ka, kb, kc, hka0, hI_1030⟩ := hw_1030
    dsimp only at hda_1030 hue_1030 hn1_1030 hI_1030
    subst hn1_1030
    have hl : lv_has ls 1 [(0, .ref (ad_1030 0))] := by rw [hda_1030 0 (by omega)]; exact hl
    have b0_1030 : en 0 = .inr (10, [.ref (ad_1030 1), .ref (ad_1030 12), .ref (ad_1030 70), .ref (ad_1030 74), .ref (ad_1030 75), .ref (ad_1030 76), .int (nI wc_1026), .int lf_1026]) := by rw [hda_1030 1 (by omega), hda_1030 12 (by omega), hda_1030 70 (by omega), hda_1030 74 (by omega), hda_1030 75 (by omega), hda_1030 76 (by omega)]; exact es1026
    have b1_1030 : en 1 = .inr (7, [.ref (ad_1030 2), .ref (ad_1030 3), .ref (ad_1030 10), .ref (ad_1030 11), .int (nI cnt), .int (nI d), .int (nI mm)]) := by rw [hda_1030 2 (by omega), hda_1030 3 (by omega), hda_1030 10 (by omega), hda_1030 11 (by omega)]; exact es1027
    have hka1 : 115 ≤ ka := hI_1030.2.1.2.2.2.1
    have hka2 : ka < kb := hI_1030.2.1.2.2.2.2.1
    have hka3 : kb < kc := hI_1030.2.1.2.2.2.2.2
    have hkn : kc < n + 3 := List.mem_range.mp hI_1030.2.1.2.2.1
    have hf_1030 : ∀ c, (c < n ∧ (c < 70 ∨ 74 ≤ c)) → en_1030 c = en c := fun c hc => (hue_1030 c (by omega)).trans (hf0 c hc)
    exact hv_iret hx hb hr (rfl) hlocks hh (⟨rfl, (fun i hi => by dsimp only; rw [hda_1030 i (by omega)]), hf_1030, hI_1030.1, TXF_grow (by omega) hTX (fun i hi => by dsimp only; rw [hda_1030 i (by omega)]) (fun c hc => hf_1030 c (by omega)), ka, kb, kc, hI_1030.2.1, hI_1030.2.2⟩) dX11_close_22
  · have n_1029 : cnt = 0 := n_eq (a := cnt) (b := 0) c_1029 (by omega) (by decide)
    exact absurd n_1029 (by omega)
theorem kw_X11_closeU {R : Room} {s : State} {args : Array Value} {own : String} {idx : Nat} (hts : ∀ w ∈ TB, w.before args s = true) (hl : Cond.methodLink own idx yX11_close ∈ TB) (hR : 6 + 1 ≤ R.frames ∧ 8 + (1 + 11) + 40 * 6 ≤ R.locals) : CallW R s args own RX11 idx yX11_close cX11_close 1 (some .int) (Cond.code yX11_close cX11_close 1 (some .int) :: TB) (rmC 6 3 24096) 3 24096 0 := cwV 0 hts (TB_V hl tw_575 tw_576 tw_1 tw_577) rfl rfl rfl (by decide +kernel) hR
set_option maxHeartbeats 4000000 in
set_option maxRecDepth 100000 in
/-- close, no tables -/
theorem c_X11_close0 (l : Launch) (D : va_G) (cy : Nat → ClassId) (sz : Nat) (cs : List Nat) (ad : Nat → Nat) (en : Nat → va_E) (hI : SX cy cs ad en) (hct : rdI (en 1) 4 = nI 0)   : Met l yX11_close (Cond.code yX11_close cX11_close 1 (some .int) :: TB) (rmN 1) (va_Pc [.ref (ad 0)] (Pre D cy cs ad en sz)) (va_Qi (S := Unit) (fun _ _ => True) (fun _ _ => True) (Nf sz)) 0 0 (Nf sz) := by
  refine Met.ofW (cc := cX11_close) (maxL := 1) (ret := (some .int)) (by decide) rfl ?_
  intro p e s m args below meth c s₁ B hml hv
  obtain ⟨rfl, hsz, hP, hK, hD0⟩ := hv
  have hx := B.exec
  have hb := B.bytes
  have hr := B.returns
  have hts : ∀ w ∈ TB, w.before _ s = true := fun w h => atoms_spec (ws := _ :: TB) B.pre w (List.mem_cons_of_mem _ h)
  have hown : s.vm.findClass RX11 = some m.cls := findClass_of_methodNamed B.named
  have hlocks := B.notSynchronized
  have hh : Hp D (Nf sz) (fun _ => True) s.heap s.heap [] cs ad en := ⟨hP, hD0, va_S.rf⟩
  have hA : ∀ q : Nat, s.heap.size ≤ q → Nf sz q := fun q h => by rw [hsz] at h; exact h
  have hl := lv_entry ([.ref (ad 0)]) (n := 1) (Nat.le_of_ble_eq_true rfl)
  rw [lg_entry_eq]
  generalize (lg_sl ([.ref (ad 0)]) ++ List.replicate (1 - (lg_sl ([.ref (ad 0)])).length) Slot.unset).toArray = ls at hl ⊢
  have hl : lv_has ls 1 [(0, .ref (ad 0))] := hl
  obtain ⟨wc_1031, lf_1031, es1031, p0_1031⟩ := get_A hI
  obtain ⟨cnt, d, mm, es1032, hcnt, hd2, hd3, hmm⟩ := get_T hI
  have hc1 : cnt = 0 := by rw [show rdI (en 1) 4 = nI cnt from by rw [es1032]; rfl] at hct; exact n_eq hct (by omega) (by omega)
  refine lv_aload_n hx hb dX11_close_0 rfl (lv_at hl 0 rfl) ?_
  refine hp_get hx hb hts ix11 hown hK hh (q := 0) rfl (hI.1 _ (by decide)) es1031 rfl 0 (by decide) (hts _ tw_245) (fun _ h9 => h9) rfl dX11_close_1 ?_
  refine hp_callRi (va_runV (As := []) (rest := []) ⟨hx, hb, hml, hown, hts⟩ (c_X8_count l D cy _ cs ad en (hI.1 _ (by decide)) cnt d mm hcnt hd2 hd3 hmm  es1032) (kw_X8_count hts tw_318 ⟨by decide, by decide⟩) (preV_of hh hK (hI.1 _ (by decide)) es1032 rfl) rfl rfl hl.1 rfl (lv_room (Nat.le_of_ble_eq_true rfl)) dX11_close_4 ⟨Nat.le_of_ble_eq_true rfl, Nat.le_of_ble_eq_true rfl⟩) hh hA (fun r_1033 H locs hw_1033 hh => ?_)
  obtain rfl : r_1033 = (nI cnt) := hw_1033
  refine lv_if_ne (tgt := 15) hx hb dX11_close_7 (by decide) (fun c_1034 => ?_) (fun c_1034 => ?_)
  · have n_1034 : cnt ≠ 0 := n_neq (a := cnt) (b := 0) c_1034 (by omega) (by decide)
    exact absurd n_1034 (by omega)
  · have n_1034 : cnt = 0 := n_eq (a := cnt) (b := 0) c_1034 (by omega) (by decide)
    refine lv_bipush (v := (-3)) hx hb dX11_close_10 (by decide) ?_
    refine lv_goto (tgt := 22) hx hb dX11_close_12 (by decide) ?_
    exact hp_iretR hx hb hr rfl hlocks hsz hh (trivial) dX11_close_22
theorem kw_X11_close0 {R : Room} {s : State} {args : Array Value} {own : String} {idx : Nat} (hts : ∀ w ∈ TB, w.before args s = true) (hl : Cond.methodLink own idx yX11_close ∈ TB) (hR : 1 + 1 ≤ R.frames ∧ 8 + (1 + 11) + 40 * 1 ≤ R.locals) : CallW R s args own RX11 idx yX11_close cX11_close 1 (some .int) (Cond.code yX11_close cX11_close 1 (some .int) :: TB) (rmN 1) 0 0 0 := cwV 0 hts (TB_V hl tw_575 tw_576 tw_1 tw_577) rfl rfl rfl (by decide +kernel) hR
