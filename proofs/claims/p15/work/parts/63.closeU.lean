set_option maxHeartbeats 8000000 in
set_option maxRecDepth 100000 in
/-- findAll, the arrays not made -/
theorem c_X0_findAllU (l : Launch) (D : va_G) (cy : Nat → ClassId) (sz : Nat) (ad : Nat → Nat) (en : Nat → va_E) (n : Nat) (hn : 115 ≤ n) (hI : SX cy (List.range n) ad en)  (e70 : en 70 = .inr (0, [.ref (ad 1), .ref (ad 71), .ref (ad 72), .ref (ad 73), .null, .null, .null, .int 0, .int 0, .int 0, .int 0, .int 0, .int 0])) : Met l yX0_findAll (Cond.code yX0_findAll cX0_findAll 2 (some .boolean) :: TB) (rmC 4 3 24096) (va_Pc [.ref (ad 70)] (PreC D cy n ad en sz)) (va_Qi (S := Nat × (Nat → Nat) × (Nat → va_E)) (fun r u => (∀ i, i < n → u.2.1 i = ad i) ∧ (∀ c, (c < n ∧ (c < 70 ∨ 74 ≤ c)) → u.2.2 c = en c) ∧ u.1 = n + 3 ∧ ∃ ka kb kc, n ≤ ka ∧ SC cy (List.range (n + 3)) u.2.1 ka kb kc u.2.2 ∧ ((r = 1 ∧ ∃ S, cloX en = some S ∧ CL9 ka kb kc (dC en * dC en) u.2.2 S ∧ SU9 u.2.2 (dC en) (mC en) S) ∨ (r = 0 ∧ cloX en = none))) (PostV D (Af (List.range n) ad sz)) (Af (List.range n) ad sz)) 3 24096 (Af (List.range n) ad sz) := by
  refine Met.ofW (cc := cX0_findAll) (maxL := 2) (ret := (some .boolean)) (by decide) rfl ?_
  intro p e s m args below meth c s₁ B hml hv
  obtain ⟨rfl, ⟨hsz, hP, hK, hD0⟩, hX⟩ := hv
  have hx := B.exec
  have hb := B.bytes
  have hr := B.returns
  have hts : ∀ w ∈ TB, w.before _ s = true := fun w h => atoms_spec (ws := _ :: TB) B.pre w (List.mem_cons_of_mem _ h)
  have hown : s.vm.findClass RX0 = some m.cls := findClass_of_methodNamed B.named
  have hlocks := B.notSynchronized
  have hh : Hp D (Af (List.range n) ad sz) (Af (List.range n) ad sz) s.heap s.heap [] (List.range n) ad en := ⟨hP, Af_self hD0, va_S.rf⟩
  have hA : ∀ q : Nat, s.heap.size ≤ q → (Af (List.range n) ad sz) q := fun q h => Or.inr (by rw [hsz] at h; exact h)
  generalize (Af (List.range n) ad sz) = A at hh hA ⊢
  have hl := lv_entry ([.ref (ad 70)]) (n := 2) (Nat.le_of_ble_eq_true rfl)
  rw [lg_entry_eq]
  generalize (lg_sl ([.ref (ad 70)]) ++ List.replicate (2 - (lg_sl ([.ref (ad 70)])).length) Slot.unset).toArray = ls at hl ⊢
  have hl : lv_has ls 2 [(0, .ref (ad 70))] := hl
  have hf0 : ∀ c, (c < n ∧ (c < 70 ∨ 74 ≤ c)) → en c = en c := fun _ _ => rfl
  obtain ⟨cnt, d, mm, es1010, hcnt, hd2, hd3, hmm⟩ := get_T hI
  have hk9 : kC en = cnt := by unfold kC; rw [show rdI (en 1) 4 = nI cnt from by rw [es1010]; rfl]; exact nI_clamp (by omega)
  have hd9 : dC en = d := by unfold dC; rw [show rdI (en 1) 5 = nI d from by rw [es1010]; rfl]; exact nI_clamp (by omega)
  have hm9 : mC en = mm := by unfold mC; rw [show rdI (en 1) 6 = nI mm from by rw [es1010]; rfl]; exact nI_clamp (by omega)
  have hdd : d * d ≤ 9 := Nat.mul_le_mul hd3 hd3
  have hk6 : kC en ≤ 6 := by omega
  refine lv_aload_n hx hb dX0_findAll_0 rfl (lv_at hl 0 rfl) ?_
  refine hv_callv (va_runV (As := []) (rest := []) ⟨hx, hb, hml, hown, hts⟩ (c_X0_prepareRowsU l D cy _ ad en n (by omega) hI e70) (kw_X0_prepareRowsU hts tw_586 ⟨by decide, by decide⟩) (preVC_of hh hK hX (List.mem_range.mpr (by omega)) e70 rfl) rfl rfl hl.1 rfl (lv_room (Nat.le_of_ble_eq_true rfl)) dX0_findAll_1 ⟨Nat.le_of_ble_eq_true rfl, Nat.le_of_ble_eq_true rfl⟩) hh hA (fun H locs n_1011 ad_1011 en_1011 hw_1011 hh => ?_)
  obtain ⟨hda_1011, hue_1011, hn1_1011, ka, kb, kc, hka0, hI_1011, hx_1011⟩ := hw_1011
  dsimp only at hda_1011 hue_1011 hn1_1011 hI_1011 hx_1011
  subst hn1_1011
  have hl : lv_has ls 2 [(0, .ref (ad_1011 70))] := by rw [hda_1011 70 (by omega)]; exact hl
  have b1_1011 : en 1 = .inr (7, [.ref (ad_1011 2), .ref (ad_1011 3), .ref (ad_1011 10), .ref (ad_1011 11), .int (nI cnt), .int (nI d), .int (nI mm)]) := by rw [hda_1011 2 (by omega), hda_1011 3 (by omega), hda_1011 10 (by omega), hda_1011 11 (by omega)]; exact es1010
  have hka1 : 115 ≤ ka := hI_1011.2.1.2.2.2.1
  have hka2 : ka < kb := hI_1011.2.1.2.2.2.2.1
  have hka3 : kb < kc := hI_1011.2.1.2.2.2.2.2
  have hkn : kc < n + 3 := List.mem_range.mp hI_1011.2.1.2.2.1
  have hf_1011 : ∀ c, (c < n ∧ (c < 70 ∨ 74 ≤ c)) → en_1011 c = en c := fun c hc => (hue_1011 c (by omega)).trans (hf0 c hc)
  refine lv_iconst (v := 0) hx hb dX0_findAll_4 (by decide) ?_
  refine lv_istore_n (lv' := [(1, .int 0), (0, .ref (ad_1011 70))]) hx hb dX0_findAll_5 rfl hl (by decide) rfl (fun ls hl => ?_)
  have loop_1012 : ∀ (fu j1012 : Nat)  (en_1012 : Nat → va_E) (ls : Array Slot) (H : Heap) (locs : List Loc), 0 ≤ j1012 → j1012 ≤ cnt → cnt < j1012 + fu → SC cy (List.range (n + 3)) ad_1011 ka kb kc en_1012 → (∀ c, (c < n ∧ (c < 70 ∨ 74 ≤ c)) → en_1012 c = en c) → (∃ S, lt9 bX (RC en) j1012 = some S ∧ CL9 ka kb kc (dC en * dC en) en_1012 S) → lv_has ls 2 [(1, .int (nI j1012)), (0, .ref (ad_1011 70))] → Hp D A A s.heap H locs (List.range (n + 3)) ad_1011 en_1012 → W p l e (headSpec (Cond.code yX0_findAll cX0_findAll 2 (some .boolean) :: TB) (rmC 4 3 24096)).room s m ([.ref (ad 70)] : List Value).toArray below meth c H locs 3 24096 (MQ below (va_Qi (S := Nat × (Nat → Nat) × (Nat → va_E)) (fun r u => (∀ i, i < n → u.2.1 i = ad i) ∧ (∀ c, (c < n ∧ (c < 70 ∨ 74 ≤ c)) → u.2.2 c = en c) ∧ u.1 = n + 3 ∧ ∃ ka kb kc, n ≤ ka ∧ SC cy (List.range (n + 3)) u.2.1 ka kb kc u.2.2 ∧ ((r = 1 ∧ ∃ S, cloX en = some S ∧ CL9 ka kb kc (dC en * dC en) u.2.2 S ∧ SU9 u.2.2 (dC en) (mC en) S) ∨ (r = 0 ∧ cloX en = none))) (PostV D A) A) ([.ref (ad 70)] : List Value).toArray s 3 24096 A) (F0 m 6 ls []) := by
    intro fu
    induction fu with
    | zero => intro j1012  en_1012 ls H locs h0 h1 h2; exact absurd h2 (by omega)
    | succ fu ih_1012 =>
      intro j1012  en_1012 ls H locs hj0_1012 hj_1012 hfu_1012 hI_1012 hf_1012 i0_1012 hl hh
      obtain ⟨S_1012, hS_1012, hc_1012⟩ := i0_1012
      refine lv_iload_n hx hb dX0_findAll_6 rfl (lv_at hl 0 rfl) ?_
      refine lv_aload_n hx hb dX0_findAll_7 rfl (lv_at hl 1 rfl) ?_
      obtain ⟨sta_1013, cc_1013, ct_1013, un_1013, ow_1013, hn_1013, es1013, p0_1013, p1_1013, p2_1013, p3_1013⟩ := get2_C hI_1012
      refine hp_get hx hb hts ix0 hown hK hh (q := 70) rfl (List.mem_range.mpr (by omega)) es1013 rfl 0 (by decide) (hts _ tw_147) (fun _ h9 => h9) rfl dX0_findAll_8 ?_
      have b1_1014 : en_1012 1 = .inr (7, [.ref (ad_1011 2), .ref (ad_1011 3), .ref (ad_1011 10), .ref (ad_1011 11), .int (nI cnt), .int (nI d), .int (nI mm)]) := (hf_1012 1 (by omega)).trans b1_1011
      refine hp_callRi (va_runV (As := []) (rest := [.int (nI j1012)]) ⟨hx, hb, hml, hown, hts⟩ (c_X8_count l D cy _ (List.range (n + 3)) ad_1011 en_1012 (List.mem_range.mpr (by omega)) cnt d mm hcnt hd2 hd3 hmm  b1_1014) (kw_X8_count hts tw_592 ⟨by decide, by decide⟩) (preV_of hh hK (List.mem_range.mpr (by omega)) b1_1014 rfl) rfl rfl hl.1 rfl (lv_room (Nat.le_of_ble_eq_true rfl)) dX0_findAll_11 ⟨Nat.le_of_ble_eq_true rfl, Nat.le_of_ble_eq_true rfl⟩) hh hA (fun r_1015 H locs hw_1015 hh => ?_)
      obtain rfl : r_1015 = (nI cnt) := hw_1015
      refine lv_icmp_ge (tgt := 41) hx hb dX0_findAll_14 (by decide) (fun c_1016 => ?_) (fun c_1016 => ?_)
      · have n_1016 : cnt ≤ j1012 := n_le (a := cnt) (b := j1012) c_1016 (by omega) (by omega)
        refine lv_iconst (v := 0) hx hb dX0_findAll_41 (by decide) ?_
        refine lv_istore_n (lv' := [(1, .int 0), (0, .ref (ad_1011 70))]) hx hb dX0_findAll_42 rfl hl (by decide) rfl (fun ls hl => ?_)
        have loop_1017 : ∀ (fu j1017 : Nat)  (en_1017 : Nat → va_E) (ls : Array Slot) (H : Heap) (locs : List Loc), 0 ≤ j1017 → j1017 ≤ 2000 → 2000 < j1017 + fu → SC cy (List.range (n + 3)) ad_1011 ka kb kc en_1017 → (∀ c, (c < n ∧ (c < 70 ∨ 74 ≤ c)) → en_1017 c = en c) → (∃ S, st9 bX (kC en) (RC en) (MC en) j1017 = some S ∧ CL9 ka kb kc (dC en * dC en) en_1017 S) → lv_has ls 2 [(1, .int (nI j1017)), (0, .ref (ad_1011 70))] → Hp D A A s.heap H locs (List.range (n + 3)) ad_1011 en_1017 → W p l e (headSpec (Cond.code yX0_findAll cX0_findAll 2 (some .boolean) :: TB) (rmC 4 3 24096)).room s m ([.ref (ad 70)] : List Value).toArray below meth c H locs 3 24096 (MQ below (va_Qi (S := Nat × (Nat → Nat) × (Nat → va_E)) (fun r u => (∀ i, i < n → u.2.1 i = ad i) ∧ (∀ c, (c < n ∧ (c < 70 ∨ 74 ≤ c)) → u.2.2 c = en c) ∧ u.1 = n + 3 ∧ ∃ ka kb kc, n ≤ ka ∧ SC cy (List.range (n + 3)) u.2.1 ka kb kc u.2.2 ∧ ((r = 1 ∧ ∃ S, cloX en = some S ∧ CL9 ka kb kc (dC en * dC en) u.2.2 S ∧ SU9 u.2.2 (dC en) (mC en) S) ∨ (r = 0 ∧ cloX en = none))) (PostV D A) A) ([.ref (ad 70)] : List Value).toArray s 3 24096 A) (F0 m 43 ls []) := by
          intro fu
          induction fu with
          | zero => intro j1017  en_1017 ls H locs h0 h1 h2; exact absurd h2 (by omega)
          | succ fu ih_1017 =>
            intro j1017  en_1017 ls H locs hj0_1017 hj_1017 hfu_1017 hI_1017 hf_1017 i0_1017 hl hh
            obtain ⟨S_1017, hS_1017, hc_1017⟩ := i0_1017
            have hSl_1017 := hc_1017.2.2.2.1.1
            obtain ⟨sta_1018, cc_1018, ct_1018, un_1018, ow_1018, hn_1018, es1018, p0_1018, p1_1018, p2_1018, p3_1018⟩ := get2_C hI_1017
            have hct_1017 : ct_1018 = S_1017.length := n_eq ((show nI ct_1018 = rdI (en_1017 70) 9 from by rw [es1018]; rfl).trans hc_1017.2.2.1) (by omega) (by have := hc_1017.2.2.2.1.1; omega)
            refine lv_iload_n hx hb dX0_findAll_43 rfl (lv_at hl 0 rfl) ?_
            refine lv_aload_n hx hb dX0_findAll_44 rfl (lv_at hl 1 rfl) ?_
            refine hp_get hx hb hts ix0 hown hK hh (q := 70) rfl (List.mem_range.mpr (by omega)) es1018 rfl 9 (by decide) (hts _ tw_156) (fun _ h9 => h9) rfl dX0_findAll_45 ?_
            refine lv_icmp_ge (tgt := 74) hx hb dX0_findAll_48 (by decide) (fun c_1019 => ?_) (fun c_1019 => ?_)
            · have n_1019 : ct_1018 ≤ j1017 := n_le (a := ct_1018) (b := j1017) c_1019 (by omega) (by omega)
              have hcl9 : cloX en = some S_1017 := st_done hS_1017 (by omega) (by omega)
              refine lv_aload_n hx hb dX0_findAll_74 rfl (lv_at hl 1 rfl) ?_
              refine hp_callMv (va_runV (As := []) (rest := []) ⟨hx, hb, hml, hown, hts⟩ (c_X0_sumUp l D cy _ (List.range (n + 3)) ad_1011 en_1017 hI_1017 (dC en * dC en) S_1017 hc_1017 (by rw [(dC_k (hf_1017 1 (by omega)))])) (kw_X0_sumUp hts tw_627 ⟨by decide, by decide⟩) (preV_of hh hK (List.mem_range.mpr (by omega)) es1018 rfl) rfl rfl hl.1 rfl (lv_room (Nat.le_of_ble_eq_true rfl)) dX0_findAll_75 ⟨Nat.le_of_ble_eq_true rfl, Nat.le_of_ble_eq_true rfl⟩) hh hA (fun H locs en_1020 hw_1020 hh => ?_)
              obtain ⟨hI_1020, hu_1020, hx_1020⟩ := hw_1020
              have hf_1020 : ∀ c, (c < n ∧ (c < 70 ∨ 74 ≤ c)) → en_1020 c = en c := fun c hc => (hu_1020 c (by omega)).trans (hf_1017 c hc)
              refine lv_iconst (v := 1) hx hb dX0_findAll_78 (by decide) ?_
              have hfin : (((1 : Int32) = 1 ∧ ∃ S, cloX en = some S ∧ CL9 ka kb kc (dC en * dC en) en_1020 S ∧ SU9 en_1020 (dC en) (mC en) S) ∨ ((1 : Int32) = 0 ∧ cloX en = none)) := Or.inl ⟨rfl, S_1017, hcl9, hx_1020.1, (by have h9 := hx_1020.2; rw [dC_k (hf_1017 1 (by omega)), mC_k (hf_1017 1 (by omega))] at h9; exact h9)⟩
              exact hv_iret hx hb hr (rfl) hlocks hh (⟨(fun i hi => by dsimp only; rw [hda_1011 i (by omega)]), hf_1020, rfl, ka, kb, kc, hka0, hI_1020, hfin⟩) dX0_findAll_79
            · have n_1019 : j1017 < ct_1018 := n_nle (a := ct_1018) (b := j1017) c_1019 (by omega) (by omega)
              refine lv_iload_n hx hb dX0_findAll_51 rfl (lv_at hl 0 rfl) ?_
              refine lv_sipush (v := 2000) hx hb dX0_findAll_52 (by decide) ?_
              refine lv_icmp_ge (tgt := 74) hx hb dX0_findAll_55 (by decide) (fun c_1021 => ?_) (fun c_1021 => ?_)
              · have n_1021 : 2000 ≤ j1017 := n_le (a := 2000) (b := j1017) c_1021 (by decide) (by omega)
                have hcl9 : cloX en = some S_1017 := st_done hS_1017 (by omega) (by omega)
                refine lv_aload_n hx hb dX0_findAll_74 rfl (lv_at hl 1 rfl) ?_
                refine hp_callMv (va_runV (As := []) (rest := []) ⟨hx, hb, hml, hown, hts⟩ (c_X0_sumUp l D cy _ (List.range (n + 3)) ad_1011 en_1017 hI_1017 (dC en * dC en) S_1017 hc_1017 (by rw [(dC_k (hf_1017 1 (by omega)))])) (kw_X0_sumUp hts tw_627 ⟨by decide, by decide⟩) (preV_of hh hK (List.mem_range.mpr (by omega)) es1018 rfl) rfl rfl hl.1 rfl (lv_room (Nat.le_of_ble_eq_true rfl)) dX0_findAll_75 ⟨Nat.le_of_ble_eq_true rfl, Nat.le_of_ble_eq_true rfl⟩) hh hA (fun H locs en_1022 hw_1022 hh => ?_)
                obtain ⟨hI_1022, hu_1022, hx_1022⟩ := hw_1022
                have hf_1022 : ∀ c, (c < n ∧ (c < 70 ∨ 74 ≤ c)) → en_1022 c = en c := fun c hc => (hu_1022 c (by omega)).trans (hf_1017 c hc)
                refine lv_iconst (v := 1) hx hb dX0_findAll_78 (by decide) ?_
                have hfin : (((1 : Int32) = 1 ∧ ∃ S, cloX en = some S ∧ CL9 ka kb kc (dC en * dC en) en_1022 S ∧ SU9 en_1022 (dC en) (mC en) S) ∨ ((1 : Int32) = 0 ∧ cloX en = none)) := Or.inl ⟨rfl, S_1017, hcl9, hx_1022.1, (by have h9 := hx_1022.2; rw [dC_k (hf_1017 1 (by omega)), mC_k (hf_1017 1 (by omega))] at h9; exact h9)⟩
                exact hv_iret hx hb hr (rfl) hlocks hh (⟨(fun i hi => by dsimp only; rw [hda_1011 i (by omega)]), hf_1022, rfl, ka, kb, kc, hka0, hI_1022, hfin⟩) dX0_findAll_79
              · have n_1021 : j1017 < 2000 := n_nle (a := 2000) (b := j1017) c_1021 (by decide) (by omega)
                refine lv_aload_n hx hb dX0_findAll_58 rfl (lv_at hl 1 rfl) ?_
                refine lv_iload_n hx hb dX0_findAll_59 rfl (lv_at hl 0 rfl) ?_
                obtain ⟨x_1017, hgx_1017⟩ := ge_some (S := S_1017) (k := j1017) (by omega)
                have hst_1017 : st9 bX (kC en) (RC en) (MC en) (j1017 + 1) = ex9 bX (MC en_1017) x_1017.1 x_1017.2 S_1017 (kC en_1017) := (st_s hS_1017 hgx_1017).trans (EX_k hk6 (hf_1017 1 (by omega)) (fun c h1 h2 => hf_1017 c (by omega))).symm
                refine hp_callMi (va_runV (As := [.int (nI j1017)]) (rest := []) ⟨hx, hb, hml, hown, hts⟩ (c_X0_extendByLetters l D cy _ (List.range (n + 3)) ad_1011 en_1017 hI_1017 j1017 (by omega) (dC en * dC en) S_1017 hc_1017 (by rw [(dC_k (hf_1017 1 (by omega)))]) x_1017 hgx_1017) (kw_X0_extendByLetters hts tw_618 ⟨by decide, by decide⟩) (preV_of hh hK (List.mem_range.mpr (by omega)) es1018 rfl) rfl rfl hl.1 rfl (lv_room (Nat.le_of_ble_eq_true rfl)) dX0_findAll_60 ⟨Nat.le_of_ble_eq_true rfl, Nat.le_of_ble_eq_true rfl⟩) hh hA (fun r_1023 H locs en_1023 hw_1023 hh => ?_)
                obtain ⟨hI_1023, hu_1023, hx_1023⟩ := hw_1023
                have hf_1023 : ∀ c, (c < n ∧ (c < 70 ∨ 74 ≤ c)) → en_1023 c = en c := fun c hc => (hu_1023 c (by omega)).trans (hf_1017 c hc)
                rcases hx_1023 with ⟨hb_1023, T_1023, ht_1023, hc_1023⟩ | ⟨hb_1023, ht_1023⟩
                · obtain rfl : r_1023 = 1 := hb_1023
                  refine lv_if_ne (tgt := 68) hx hb dX0_findAll_63 (by decide) (fun _ => ?_) (fun c_0 => absurd c_0 (by decide))
                  refine lv_iinc (v := (nI (j1017 + 1))) (lv' := [(1, .int (nI (j1017 + 1))), (0, .ref (ad_1011 70))]) hx hb dX0_findAll_68 hl (k := 0) rfl (nI_1 _) (by decide) rfl (fun ls hl => ?_)
                  refine lv_goto (tgt := 43) hx hb dX0_findAll_71 (by decide) ?_
                  exact ih_1017 ((j1017 + 1))  en_1023 ls H locs (by omega) (by omega) (by omega) hI_1023 hf_1023 (⟨T_1023, hst_1017.trans ht_1023, hc_1023⟩) (lv_sub hl [0, 1] rfl) hh
                · obtain rfl : r_1023 = 0 := hb_1023
                  refine lv_if_ne (tgt := 68) hx hb dX0_findAll_63 (by decide) (fun c_0 => absurd c_0 (by decide)) (fun _ => ?_)
                  refine lv_iconst (v := 0) hx hb dX0_findAll_66 (by decide) ?_
                  have hfin : (((0 : Int32) = 1 ∧ ∃ S, cloX en = some S ∧ CL9 ka kb kc (dC en * dC en) en_1023 S ∧ SU9 en_1023 (dC en) (mC en) S) ∨ ((0 : Int32) = 0 ∧ cloX en = none)) := Or.inr ⟨rfl, st_none (hst_1017.trans ht_1023) (by omega)⟩
                  exact hv_iret hx hb hr (rfl) hlocks hh (⟨(fun i hi => by dsimp only; rw [hda_1011 i (by omega)]), hf_1023, rfl, ka, kb, kc, hka0, hI_1023, hfin⟩) dX0_findAll_67
        exact loop_1017 (2000 + 1) 0  en_1012 ls _ _ (Nat.le_refl _) (by omega) (by omega) hI_1012 hf_1012 (⟨S_1012, by have e9 : j1012 = cnt := (by omega); rw [e9] at hS_1012; show lt9 bX (RC en) (kC en) = some S_1012; rw [hk9]; exact hS_1012, hc_1012⟩) (lv_sub hl [0, 1] rfl) hh
      · have n_1016 : j1012 < cnt := n_nle (a := cnt) (b := j1012) c_1016 (by omega) (by omega)
        refine lv_aload_n hx hb dX0_findAll_17 rfl (lv_at hl 1 rfl) ?_
        refine lv_aload_n hx hb dX0_findAll_18 rfl (lv_at hl 1 rfl) ?_
        refine hp_get hx hb hts ix0 hown hK hh (q := 70) rfl (List.mem_range.mpr (by omega)) es1013 rfl 0 (by decide) (hts _ tw_147) (fun _ h9 => h9) rfl dX0_findAll_19 ?_
        refine lv_iload_n hx hb dX0_findAll_22 rfl (lv_at hl 0 rfl) ?_
        have es1024 := get2_rows hI_1012
        unfold P_rows at es1024
        refine hp_callRq (va_runV (As := [.int (nI j1012)]) (rest := [.ref (ad_1011 70)]) ⟨hx, hb, hml, hown, hts⟩ (c_X8_rowOf l D cy _ (List.range (n + 3)) ad_1011 en_1012 (List.mem_range.mpr (by omega)) (List.mem_range.mpr (by omega)) cnt d mm hcnt hd2 hd3 hmm j1012 (by omega) b1_1014 es1024) (kw_X8_rowOf hts tw_593 ⟨by decide, by decide⟩) (preV_of hh hK (List.mem_range.mpr (by omega)) b1_1014 rfl) rfl rfl hl.1 rfl (lv_room (Nat.le_of_ble_eq_true rfl)) dX0_findAll_23 ⟨Nat.le_of_ble_eq_true rfl, Nat.le_of_ble_eq_true rfl⟩) hh hA (fun r_1025 H locs hw_1025 hh => ?_)
        obtain rfl : r_1025 = some (ad_1011 (4 + j1012)) := hw_1025
        refine W.eq (g2 := F0 m 26 ls [.ref (ad_1011 (4 + j1012)), .ref (ad_1011 70)]) rfl ?_
        refine lv_iconst (v := 1) hx hb dX0_findAll_26 (by decide) ?_
        obtain ⟨f_1026, es1026⟩ := get2_row hI_1012 (j := j1012) (by omega)
        have hfr_1012 : f_1026 = rdL (en (4 + j1012)) := (show f_1026 = rdL (en_1012 (4 + j1012)) from by rw [es1026]; rfl).trans (congrArg rdL (hf_1012 (4 + j1012) (by omega)))
        have hst_1012 : lt9 bX (RC en) (j1012 + 1) = tk bX S_1012 (vec (dC en * dC en) f_1026) 1 := by rw [ltk_s hS_1012]; unfold RC; rw [← hfr_1012]
        refine hp_callMi (va_runV (As := [.ref (ad_1011 (4 + j1012)), .int 1]) (rest := []) ⟨hx, hb, hml, hown, hts⟩ (c_X0_take l D cy _ (List.range (n + 3)) ad_1011 en_1012 hI_1012 (4 + j1012) (List.mem_range.mpr (by omega)) (by omega) f_1026 1 (dC en * dC en) S_1012 hc_1012 es1026) (kw_X0_take hts tw_594 ⟨by decide, by decide⟩) (preV_of hh hK (List.mem_range.mpr (by omega)) es1013 rfl) rfl rfl hl.1 rfl (lv_room (Nat.le_of_ble_eq_true rfl)) dX0_findAll_27 ⟨Nat.le_of_ble_eq_true rfl, Nat.le_of_ble_eq_true rfl⟩) hh hA (fun r_1027 H locs en_1027 hw_1027 hh => ?_)
        obtain ⟨hI_1027, hu_1027, hx_1027⟩ := hw_1027
        have hf_1027 : ∀ c, (c < n ∧ (c < 70 ∨ 74 ≤ c)) → en_1027 c = en c := fun c hc => (hu_1027 c (by omega)).trans (hf_1012 c hc)
        rcases hx_1027 with ⟨hb_1027, T_1027, ht_1027, hc_1027⟩ | ⟨hb_1027, ht_1027⟩
        · obtain rfl : r_1027 = 1 := hb_1027
          refine lv_if_ne (tgt := 35) hx hb dX0_findAll_30 (by decide) (fun _ => ?_) (fun c_0 => absurd c_0 (by decide))
          refine lv_iinc (v := (nI (j1012 + 1))) (lv' := [(1, .int (nI (j1012 + 1))), (0, .ref (ad_1011 70))]) hx hb dX0_findAll_35 hl (k := 0) rfl (nI_1 _) (by decide) rfl (fun ls hl => ?_)
          refine lv_goto (tgt := 6) hx hb dX0_findAll_38 (by decide) ?_
          exact ih_1012 ((j1012 + 1))  en_1027 ls H locs (by omega) (by omega) (by omega) hI_1027 hf_1027 (⟨T_1027, hst_1012.trans ht_1027, hc_1027⟩) (lv_sub hl [0, 1] rfl) hh
        · obtain rfl : r_1027 = 0 := hb_1027
          refine lv_if_ne (tgt := 35) hx hb dX0_findAll_30 (by decide) (fun c_0 => absurd c_0 (by decide)) (fun _ => ?_)
          refine lv_iconst (v := 0) hx hb dX0_findAll_33 (by decide) ?_
          have hfin : (((0 : Int32) = 1 ∧ ∃ S, cloX en = some S ∧ CL9 ka kb kc (dC en * dC en) en_1027 S ∧ SU9 en_1027 (dC en) (mC en) S) ∨ ((0 : Int32) = 0 ∧ cloX en = none)) := Or.inr ⟨rfl, clo_l0 (hst_1012.trans ht_1027) (by omega)⟩
          exact hv_iret hx hb hr (rfl) hlocks hh (⟨(fun i hi => by dsimp only; rw [hda_1011 i (by omega)]), hf_1027, rfl, ka, kb, kc, hka0, hI_1027, hfin⟩) dX0_findAll_34
  exact loop_1012 (cnt + 1) 0  en_1011 ls _ _ (Nat.le_refl _) (by omega) (by omega) hI_1011 hf_1011 (⟨[], rfl, hx_1011⟩) (lv_sub hl [0, 1] rfl) hh
theorem kw_X0_findAllU {R : Room} {s : State} {args : Array Value} {own : String} {idx : Nat} (hts : ∀ w ∈ TB, w.before args s = true) (hl : Cond.methodLink own idx yX0_findAll ∈ TB) (hR : 4 + 1 ≤ R.frames ∧ 8 + (2 + 11) + 40 * 4 ≤ R.locals) : CallW R s args own RX0 idx yX0_findAll cX0_findAll 2 (some .boolean) (Cond.code yX0_findAll cX0_findAll 2 (some .boolean) :: TB) (rmC 4 3 24096) 3 24096 0 := cwV 0 hts (TB_V hl tw_584 ts_13 tw_5 tw_585) rfl rfl rfl (by decide +kernel) hR
set_option maxHeartbeats 8000000 in
set_option maxRecDepth 100000 in
/-- search, the arrays not made -/
theorem c_X0_searchU (l : Launch) (D : va_G) (cy : Nat → ClassId) (sz : Nat) (ad : Nat → Nat) (en : Nat → va_E) (n : Nat) (hn : 115 ≤ n) (hI : SX cy (List.range n) ad en)  (e70 : en 70 = .inr (0, [.ref (ad 1), .ref (ad 71), .ref (ad 72), .ref (ad 73), .null, .null, .null, .int 0, .int 0, .int 0, .int 0, .int 0, .int 0])) : Met l yX0_search (Cond.code yX0_search cX0_search 1 (some .int) :: TB) (rmC 5 3 24096) (va_Pc [.ref (ad 70)] (PreC D cy n ad en sz)) (va_Qi (S := Nat × (Nat → Nat) × (Nat → va_E)) (fun r u => (∀ i, i < n → u.2.1 i = ad i) ∧ (∀ c, (c < n ∧ (c < 70 ∨ 74 ≤ c)) → u.2.2 c = en c) ∧ u.1 = n + 3 ∧ ∃ ka kb kc, n ≤ ka ∧ SC cy (List.range (n + 3)) u.2.1 ka kb kc u.2.2 ∧ (XCL r en ∧ CLX ka kb kc u.2.2 ∧ (rdI (u.2.2 70) 7 = 1 ∨ rdI (u.2.2 70) 7 = 2))) (PostV D (Af (List.range n) ad sz)) (Af (List.range n) ad sz)) 3 24096 (Af (List.range n) ad sz) := by
  refine Met.ofW (cc := cX0_search) (maxL := 1) (ret := (some .int)) (by decide) rfl ?_
  intro p e s m args below meth c s₁ B hml hv
  obtain ⟨rfl, ⟨hsz, hP, hK, hD0⟩, hX⟩ := hv
  have hx := B.exec
  have hb := B.bytes
  have hr := B.returns
  have hts : ∀ w ∈ TB, w.before _ s = true := fun w h => atoms_spec (ws := _ :: TB) B.pre w (List.mem_cons_of_mem _ h)
  have hown : s.vm.findClass RX0 = some m.cls := findClass_of_methodNamed B.named
  have hlocks := B.notSynchronized
  have hh : Hp D (Af (List.range n) ad sz) (Af (List.range n) ad sz) s.heap s.heap [] (List.range n) ad en := ⟨hP, Af_self hD0, va_S.rf⟩
  have hA : ∀ q : Nat, s.heap.size ≤ q → (Af (List.range n) ad sz) q := fun q h => Or.inr (by rw [hsz] at h; exact h)
  generalize (Af (List.range n) ad sz) = A at hh hA ⊢
  have hl := lv_entry ([.ref (ad 70)]) (n := 1) (Nat.le_of_ble_eq_true rfl)
  rw [lg_entry_eq]
  generalize (lg_sl ([.ref (ad 70)]) ++ List.replicate (1 - (lg_sl ([.ref (ad 70)])).length) Slot.unset).toArray = ls at hl ⊢
  have hl : lv_has ls 1 [(0, .ref (ad 70))] := hl
  have hf0 : ∀ c, (c < n ∧ (c < 70 ∨ 74 ≤ c)) → en c = en c := fun _ _ => rfl
  obtain ⟨cnt, d, mm, es1028, hcnt, hd2, hd3, hmm⟩ := get_T hI
  have hk9 : kC en = cnt := by unfold kC; rw [show rdI (en 1) 4 = nI cnt from by rw [es1028]; rfl]; exact nI_clamp (by omega)
  have hd9 : dC en = d := by unfold dC; rw [show rdI (en 1) 5 = nI d from by rw [es1028]; rfl]; exact nI_clamp (by omega)
  have hm9 : mC en = mm := by unfold mC; rw [show rdI (en 1) 6 = nI mm from by rw [es1028]; rfl]; exact nI_clamp (by omega)
  have hk6 : kC en ≤ 6 := by omega
  refine lv_aload_n hx hb dX0_search_0 rfl (lv_at hl 0 rfl) ?_
  refine hp_get hx hb hts ix0 hown hK hh (q := 70) rfl (List.mem_range.mpr (by omega)) e70 rfl 7 (by decide) (hts _ tw_154) (fun _ h9 => h9) rfl dX0_search_1 ?_
  refine lv_if_ne (tgt := 23) hx hb dX0_search_4 (by decide) (fun c_0 => absurd c_0 (by decide)) (fun _ => ?_)
  refine lv_aload_n hx hb dX0_search_7 rfl (lv_at hl 0 rfl) ?_
  refine lv_aload_n hx hb dX0_search_8 rfl (lv_at hl 0 rfl) ?_
  refine hv_calli (va_runV (As := []) (rest := [.ref (ad 70)]) ⟨hx, hb, hml, hown, hts⟩ (c_X0_findAllU l D cy _ ad en n (by omega) hI e70) (kw_X0_findAllU hts tw_582 ⟨by decide, by decide⟩) (preVC_of hh hK hX (List.mem_range.mpr (by omega)) e70 rfl) rfl rfl hl.1 rfl (lv_room (Nat.le_of_ble_eq_true rfl)) dX0_search_9 ⟨Nat.le_of_ble_eq_true rfl, Nat.le_of_ble_eq_true rfl⟩) hh hA (fun r_1029 H locs n_1029 ad_1029 en_1029 hw_1029 hh => ?_)
  obtain ⟨hda_1029, hue_1029, hn1_1029, ka, kb, kc, hka0, hI_1029, hx_1029⟩ := hw_1029
  dsimp only at hda_1029 hue_1029 hn1_1029 hI_1029 hx_1029
  subst hn1_1029
  refine W.eq (g2 := F0 m 12 ls [.int r_1029, .ref (ad_1029 70)]) (by rw [hda_1029 70 (by omega)]) ?_
  have hl : lv_has ls 1 [(0, .ref (ad_1029 70))] := by rw [hda_1029 70 (by omega)]; exact hl
  have b1_1029 : en 1 = .inr (7, [.ref (ad_1029 2), .ref (ad_1029 3), .ref (ad_1029 10), .ref (ad_1029 11), .int (nI cnt), .int (nI d), .int (nI mm)]) := by rw [hda_1029 2 (by omega), hda_1029 3 (by omega), hda_1029 10 (by omega), hda_1029 11 (by omega)]; exact es1028
  have hka1 : 115 ≤ ka := hI_1029.2.1.2.2.2.1
  have hka2 : ka < kb := hI_1029.2.1.2.2.2.2.1
  have hka3 : kb < kc := hI_1029.2.1.2.2.2.2.2
  have hkn : kc < n + 3 := List.mem_range.mp hI_1029.2.1.2.2.1
  have hf_1029 : ∀ c, (c < n ∧ (c < 70 ∨ 74 ≤ c)) → en_1029 c = en c := fun c hc => (hue_1029 c (by omega)).trans (hf0 c hc)
  rcases hx_1029 with ⟨hb_1029, T_1029, ht_1029, hc_1029, hsu_1029⟩ | ⟨hb_1029, ht_1029⟩
  · obtain rfl : r_1029 = 1 := hb_1029
    refine lv_if_eq (tgt := 19) hx hb dX0_search_12 (by decide) (fun c_0 => absurd c_0 (by decide)) (fun _ => ?_)
    refine lv_iconst (v := 1) hx hb dX0_search_15 (by decide) ?_
    refine lv_goto (tgt := 20) hx hb dX0_search_16 (by decide) ?_
    obtain ⟨sta_1030, cc_1030, ct_1030, un_1030, ow_1030, hn_1030, es1030, p0_1030, p1_1030, p2_1030, p3_1030⟩ := get2_C hI_1029
    refine hp_put hx hb hts ix0 tyX0 tyX0_ok nmX0 hown hK hh (q := 70) rfl (List.mem_range.mpr (by omega)) es1030 rfl 7 (by decide) (hts _ tw_154) (fun _ h9 => h9) rfl (ty := .int) (by decide +kernel) rfl rfl (Nat.le_of_ble_eq_true rfl) dX0_search_20 (fun H locs en_1031 hen_1031 hh => ?_)
    have es1030_1031 : en_1031 70 = .inr (0, [.ref (ad_1029 1), .ref (ad_1029 71), .ref (ad_1029 72), .ref (ad_1029 73), .ref (ad_1029 ka), .ref (ad_1029 kb), .ref (ad_1029 kc), .int 1, .int (nI cc_1030), .int (nI ct_1030), .int un_1030, .int ow_1030, .int (nI hn_1030)]) := by rw [hen_1031]; exact va_up_self _ _ _
    have hI_1031 : SC cy (List.range (n + 3)) ad_1029 ka kb kc en_1031 := by rw [hen_1031]; exact up2_C hI_1029 ⟨1, cc_1030, ct_1030, un_1030, ow_1030, hn_1030, rfl, (by omega), p1_1030, p2_1030, p3_1030⟩
    have hf_1031 : ∀ c, (c < n ∧ (c < 70 ∨ 74 ≤ c)) → en_1031 c = en c := fun c hc => Eq.trans (show en_1031 c = en_1029 c from by rw [hen_1031, va_up_ne _ _ (by omega)]) (hf_1029 c hc)
    have hCL_1031 := CL_kp (e1 := en_1031) hc_1029 (by rw [es1030_1031, es1030]; rfl) (by rw [es1030_1031, es1030]; rfl) (by rw [hen_1031, va_up_ne _ _ (by omega)]) (by rw [hen_1031, va_up_ne _ _ (by omega)]) (by rw [hen_1031, va_up_ne _ _ (by omega)])
    refine lv_aload_n hx hb dX0_search_23 rfl (lv_at hl 0 rfl) ?_
    refine hp_get hx hb hts ix0 hown hK hh (q := 70) rfl (List.mem_range.mpr (by omega)) es1030_1031 rfl 7 (by decide) (hts _ tw_154) (fun _ h9 => h9) rfl dX0_search_24 ?_
    refine lv_iconst (v := 1) hx hb dX0_search_27 (by decide) ?_
    refine lv_icmp_ne (tgt := 38) hx hb dX0_search_28 (by decide) (fun c_0 => absurd c_0 (by decide)) (fun _ => ?_)
    refine lv_aload_n hx hb dX0_search_31 rfl (lv_at hl 0 rfl) ?_
    refine hp_get hx hb hts ix0 hown hK hh (q := 70) rfl (List.mem_range.mpr (by omega)) es1030_1031 rfl 9 (by decide) (hts _ tw_156) (fun _ h9 => h9) rfl dX0_search_32 ?_
    refine lv_goto (tgt := 40) hx hb dX0_search_35 (by decide) ?_
    have hfin : (XCL ((nI ct_1030) : Int32) en ∧ CLX ka kb kc en_1031 ∧ (rdI (en_1031 70) 7 = 1 ∨ rdI (en_1031 70) 7 = 2)) := ⟨Or.inl ⟨T_1029, ht_1029, (show nI ct_1030 = rdI (en_1031 70) 9 from by rw [es1030_1031]; rfl).trans hCL_1031.2.2.1⟩, ⟨fun _ => ⟨T_1029, (cloX_keep hk6 (hf_1031 1 (by omega)) (fun c h1 h2 => hf_1031 c (by omega))).trans ht_1029, by rw [dC_k (hf_1031 1 (by omega))]; exact hCL_1031, by rw [dC_k (hf_1031 1 (by omega)), mC_k (hf_1031 1 (by omega))]; exact SU_kp hsu_1029 (by rw [es1030_1031, es1030]; rfl) (by rw [es1030_1031, es1030]; rfl) (by rw [es1030_1031, es1030]; rfl)⟩, fun q9 => absurd ((show (1 : Int32) = rdI (en_1031 70) 7 from by rw [es1030_1031]; rfl).trans q9) (by decide)⟩, Or.inl (by rw [es1030_1031]; rfl)⟩
    exact hv_iret hx hb hr (rfl) hlocks hh (⟨(fun i hi => by dsimp only; rw [hda_1029 i (by omega)]), hf_1031, rfl, ka, kb, kc, hka0, hI_1031, hfin⟩) dX0_search_40
  · obtain rfl : r_1029 = 0 := hb_1029
    refine lv_if_eq (tgt := 19) hx hb dX0_search_12 (by decide) (fun _ => ?_) (fun c_0 => absurd c_0 (by decide))
    refine lv_iconst (v := 2) hx hb dX0_search_19 (by decide) ?_
    obtain ⟨sta_1032, cc_1032, ct_1032, un_1032, ow_1032, hn_1032, es1032, p0_1032, p1_1032, p2_1032, p3_1032⟩ := get2_C hI_1029
    refine hp_put hx hb hts ix0 tyX0 tyX0_ok nmX0 hown hK hh (q := 70) rfl (List.mem_range.mpr (by omega)) es1032 rfl 7 (by decide) (hts _ tw_154) (fun _ h9 => h9) rfl (ty := .int) (by decide +kernel) rfl rfl (Nat.le_of_ble_eq_true rfl) dX0_search_20 (fun H locs en_1033 hen_1033 hh => ?_)
    have es1032_1033 : en_1033 70 = .inr (0, [.ref (ad_1029 1), .ref (ad_1029 71), .ref (ad_1029 72), .ref (ad_1029 73), .ref (ad_1029 ka), .ref (ad_1029 kb), .ref (ad_1029 kc), .int 2, .int (nI cc_1032), .int (nI ct_1032), .int un_1032, .int ow_1032, .int (nI hn_1032)]) := by rw [hen_1033]; exact va_up_self _ _ _
    have hI_1033 : SC cy (List.range (n + 3)) ad_1029 ka kb kc en_1033 := by rw [hen_1033]; exact up2_C hI_1029 ⟨2, cc_1032, ct_1032, un_1032, ow_1032, hn_1032, rfl, (by omega), p1_1032, p2_1032, p3_1032⟩
    have hf_1033 : ∀ c, (c < n ∧ (c < 70 ∨ 74 ≤ c)) → en_1033 c = en c := fun c hc => Eq.trans (show en_1033 c = en_1029 c from by rw [hen_1033, va_up_ne _ _ (by omega)]) (hf_1029 c hc)
    refine lv_aload_n hx hb dX0_search_23 rfl (lv_at hl 0 rfl) ?_
    refine hp_get hx hb hts ix0 hown hK hh (q := 70) rfl (List.mem_range.mpr (by omega)) es1032_1033 rfl 7 (by decide) (hts _ tw_154) (fun _ h9 => h9) rfl dX0_search_24 ?_
    refine lv_iconst (v := 1) hx hb dX0_search_27 (by decide) ?_
    refine lv_icmp_ne (tgt := 38) hx hb dX0_search_28 (by decide) (fun _ => ?_) (fun c_0 => absurd c_0 (by decide))
    refine lv_bipush (v := (-6)) hx hb dX0_search_38 (by decide) ?_
    have hfin : (XCL ((-6) : Int32) en ∧ CLX ka kb kc en_1033 ∧ (rdI (en_1033 70) 7 = 1 ∨ rdI (en_1033 70) 7 = 2)) := ⟨Or.inr ⟨ht_1029, rfl⟩, ⟨fun q9 => absurd ((show (2 : Int32) = rdI (en_1033 70) 7 from by rw [es1032_1033]; rfl).trans q9) (by decide), fun _ => (cloX_keep hk6 (hf_1033 1 (by omega)) (fun c h1 h2 => hf_1033 c (by omega))).trans ht_1029⟩, Or.inr (by rw [es1032_1033]; rfl)⟩
    exact hv_iret hx hb hr (rfl) hlocks hh (⟨(fun i hi => by dsimp only; rw [hda_1029 i (by omega)]), hf_1033, rfl, ka, kb, kc, hka0, hI_1033, hfin⟩) dX0_search_40
theorem kw_X0_searchU {R : Room} {s : State} {args : Array Value} {own : String} {idx : Nat} (hts : ∀ w ∈ TB, w.before args s = true) (hl : Cond.methodLink own idx yX0_search ∈ TB) (hR : 5 + 1 ≤ R.frames ∧ 8 + (1 + 11) + 40 * 5 ≤ R.locals) : CallW R s args own RX0 idx yX0_search cX0_search 1 (some .int) (Cond.code yX0_search cX0_search 1 (some .int) :: TB) (rmC 5 3 24096) 3 24096 0 := cwV 0 hts (TB_V hl tw_579 tw_580 tw_5 tw_581) rfl rfl rfl (by decide +kernel) hR
set_option maxHeartbeats 8000000 in
set_option maxRecDepth 100000 in
/-- close, the arrays not made -/
theorem c_X11_closeU (l : Launch) (D : va_G) (cy : Nat → ClassId) (sz : Nat) (ad : Nat → Nat) (en : Nat → va_E) (n : Nat) (hn : 115 ≤ n) (hI : SX cy (List.range n) ad en) (F : Nat → Nat → Int32) (hTX : TXF cy (List.range n) ad en F) (hct : 1 ≤ (rdI (en 1) 4).toInt) (e70 : en 70 = .inr (0, [.ref (ad 1), .ref (ad 71), .ref (ad 72), .ref (ad 73), .null, .null, .null, .int 0, .int 0, .int 0, .int 0, .int 0, .int 0])) : Met l yX11_close (Cond.code yX11_close cX11_close 1 (some .int) :: TB) (rmC 6 3 24096) (va_Pc [.ref (ad 0)] (PreC D cy n ad en sz)) (va_Qi (S := Nat × (Nat → Nat) × (Nat → va_E)) (fun r u => u.1 = n + 3 ∧ (∀ i, i < n → u.2.1 i = ad i) ∧ (∀ c, (c < n ∧ (c < 70 ∨ 74 ≤ c)) → u.2.2 c = en c) ∧ SX cy (List.range u.1) u.2.1 u.2.2 ∧ TXF cy (List.range u.1) u.2.1 u.2.2 F ∧ CPm cy (List.range u.1) u.2.1 u.2.2 ∧ XCL r en ∧ QX cy (List.range u.1) u.2.1 u.2.2 ∧ (rdI (u.2.2 70) 7 = 1 ∨ rdI (u.2.2 70) 7 = 2)) (PostV D (Af (List.range n) ad sz)) (Af (List.range n) ad sz)) 3 24096 (Af (List.range n) ad sz) := by
  refine Met.ofW (cc := cX11_close) (maxL := 1) (ret := (some .int)) (by decide) rfl ?_
  intro p e s m args below meth c s₁ B hml hv
  obtain ⟨rfl, ⟨hsz, hP, hK, hD0⟩, hX⟩ := hv
  have hx := B.exec
  have hb := B.bytes
  have hr := B.returns
  have hts : ∀ w ∈ TB, w.before _ s = true := fun w h => atoms_spec (ws := _ :: TB) B.pre w (List.mem_cons_of_mem _ h)
  have hown : s.vm.findClass RX11 = some m.cls := findClass_of_methodNamed B.named
  have hlocks := B.notSynchronized
  have hh : Hp D (Af (List.range n) ad sz) (Af (List.range n) ad sz) s.heap s.heap [] (List.range n) ad en := ⟨hP, Af_self hD0, va_S.rf⟩
  have hA : ∀ q : Nat, s.heap.size ≤ q → (Af (List.range n) ad sz) q := fun q h => Or.inr (by rw [hsz] at h; exact h)
  generalize (Af (List.range n) ad sz) = A at hh hA ⊢
  have hl := lv_entry ([.ref (ad 0)]) (n := 1) (Nat.le_of_ble_eq_true rfl)
  rw [lg_entry_eq]
  generalize (lg_sl ([.ref (ad 0)]) ++ List.replicate (1 - (lg_sl ([.ref (ad 0)])).length) Slot.unset).toArray = ls at hl ⊢
  have hl : lv_has ls 1 [(0, .ref (ad 0))] := hl
  have hf0 : ∀ c, (c < n ∧ (c < 70 ∨ 74 ≤ c)) → en c = en c := fun _ _ => rfl
  obtain ⟨wc_1034, lf_1034, es1034, p0_1034⟩ := get_A hI
  obtain ⟨cnt, d, mm, es1035, hcnt, hd2, hd3, hmm⟩ := get_T hI
  have hc1 : 1 ≤ cnt := by rw [show rdI (en 1) 4 = nI cnt from by rw [es1035]; rfl, nI_toInt (by omega)] at hct; omega
  refine lv_aload_n hx hb dX11_close_0 rfl (lv_at hl 0 rfl) ?_
  refine hp_get hx hb hts ix11 hown hK hh (q := 0) rfl (List.mem_range.mpr (by omega)) es1034 rfl 0 (by decide) (hts _ tw_245) (fun _ h9 => h9) rfl dX11_close_1 ?_
  refine hp_callRi (va_runV (As := []) (rest := []) ⟨hx, hb, hml, hown, hts⟩ (c_X8_count l D cy _ (List.range n) ad en (List.mem_range.mpr (by omega)) cnt d mm hcnt hd2 hd3 hmm  es1035) (kw_X8_count hts tw_318 ⟨by decide, by decide⟩) (preV_of hh hK (List.mem_range.mpr (by omega)) es1035 rfl) rfl rfl hl.1 rfl (lv_room (Nat.le_of_ble_eq_true rfl)) dX11_close_4 ⟨Nat.le_of_ble_eq_true rfl, Nat.le_of_ble_eq_true rfl⟩) hh hA (fun r_1036 H locs hw_1036 hh => ?_)
  obtain rfl : r_1036 = (nI cnt) := hw_1036
  refine lv_if_ne (tgt := 15) hx hb dX11_close_7 (by decide) (fun c_1037 => ?_) (fun c_1037 => ?_)
  · have n_1037 : cnt ≠ 0 := n_neq (a := cnt) (b := 0) c_1037 (by omega) (by decide)
    refine lv_aload_n hx hb dX11_close_15 rfl (lv_at hl 0 rfl) ?_
    refine hp_get hx hb hts ix11 hown hK hh (q := 0) rfl (List.mem_range.mpr (by omega)) es1034 rfl 2 (by decide) (hts _ tw_247) (fun _ h9 => h9) rfl dX11_close_16 ?_
    refine hv_calli (va_runV (As := []) (rest := []) ⟨hx, hb, hml, hown, hts⟩ (c_X0_searchU l D cy _ ad en n (by omega) hI e70) (kw_X0_searchU hts tw_578 ⟨by decide, by decide⟩) (preVC_of hh hK hX (List.mem_range.mpr (by omega)) e70 rfl) rfl rfl hl.1 rfl (lv_room (Nat.le_of_ble_eq_true rfl)) dX11_close_19 ⟨Nat.le_of_ble_eq_true rfl, Nat.le_of_ble_eq_true rfl⟩) hh hA (fun r_1038 H locs n_1038 ad_1038 en_1038 hw_1038 hh => ?_)
    obtain ⟨hda_1038, hue_1038, hn1_1038, ka, kb, kc, hka0, hI_1038, hx_1038⟩ := hw_1038
    dsimp only at hda_1038 hue_1038 hn1_1038 hI_1038 hx_1038
    subst hn1_1038
    have hl : lv_has ls 1 [(0, .ref (ad_1038 0))] := by rw [hda_1038 0 (by omega)]; exact hl
    have b0_1038 : en 0 = .inr (10, [.ref (ad_1038 1), .ref (ad_1038 12), .ref (ad_1038 70), .ref (ad_1038 74), .ref (ad_1038 75), .ref (ad_1038 76), .int (nI wc_1034), .int lf_1034]) := by rw [hda_1038 1 (by omega), hda_1038 12 (by omega), hda_1038 70 (by omega), hda_1038 74 (by omega), hda_1038 75 (by omega), hda_1038 76 (by omega)]; exact es1034
    have b1_1038 : en 1 = .inr (7, [.ref (ad_1038 2), .ref (ad_1038 3), .ref (ad_1038 10), .ref (ad_1038 11), .int (nI cnt), .int (nI d), .int (nI mm)]) := by rw [hda_1038 2 (by omega), hda_1038 3 (by omega), hda_1038 10 (by omega), hda_1038 11 (by omega)]; exact es1035
    have hka1 : 115 ≤ ka := hI_1038.2.1.2.2.2.1
    have hka2 : ka < kb := hI_1038.2.1.2.2.2.2.1
    have hka3 : kb < kc := hI_1038.2.1.2.2.2.2.2
    have hkn : kc < n + 3 := List.mem_range.mp hI_1038.2.1.2.2.1
    have hf_1038 : ∀ c, (c < n ∧ (c < 70 ∨ 74 ≤ c)) → en_1038 c = en c := fun c hc => (hue_1038 c (by omega)).trans (hf0 c hc)
    exact hv_iret hx hb hr (rfl) hlocks hh (⟨rfl, (fun i hi => by dsimp only; rw [hda_1038 i (by omega)]), hf_1038, hI_1038.1, TXF_grow (by omega) hTX (fun i hi => by dsimp only; rw [hda_1038 i (by omega)]) (fun c hc => hf_1038 c (by omega)), ⟨ka, kb, kc, hI_1038.2.1, hI_1038.2.2⟩, hx_1038.1, Or.inl ⟨ka, kb, kc, hI_1038.2.1, hI_1038.2.2, hx_1038.2.1⟩, hx_1038.2.2⟩) dX11_close_22
  · have n_1037 : cnt = 0 := n_eq (a := cnt) (b := 0) c_1037 (by omega) (by decide)
    exact absurd n_1037 (by omega)
theorem kw_X11_closeU {R : Room} {s : State} {args : Array Value} {own : String} {idx : Nat} (hts : ∀ w ∈ TB, w.before args s = true) (hl : Cond.methodLink own idx yX11_close ∈ TB) (hR : 6 + 1 ≤ R.frames ∧ 8 + (1 + 11) + 40 * 6 ≤ R.locals) : CallW R s args own RX11 idx yX11_close cX11_close 1 (some .int) (Cond.code yX11_close cX11_close 1 (some .int) :: TB) (rmC 6 3 24096) 3 24096 0 := cwV 0 hts (TB_V hl tw_575 tw_576 tw_1 tw_577) rfl rfl rfl (by decide +kernel) hR
set_option maxHeartbeats 4000000 in
set_option maxRecDepth 100000 in
/-- close, no tables -/
theorem c_X11_close0 (l : Launch) (D : va_G) (cy : Nat → ClassId) (sz : Nat) (cs : List Nat) (ad : Nat → Nat) (en : Nat → va_E) (hI : SX cy cs ad en) (hct : rdI (en 1) 4 = nI 0)   : Met l yX11_close (Cond.code yX11_close cX11_close 1 (some .int) :: TB) (rmN 1) (va_Pc [.ref (ad 0)] (Pre D cy cs ad en sz)) (va_Qi (S := Unit) (fun r _ => r = -3) (fun _ _ => True) (Nf sz)) 0 0 (Nf sz) := by
  refine Met.ofW (cc := cX11_close) (maxL := 1) (ret := (some .int)) (by decide) rfl ?_
  intro p e s m args below meth c s₁ B hml hv
  obtain ⟨rfl, hsz, hP, hK, hD0⟩ := hv
  have hx := B.exec
  have hb := B.bytes
  have hr := B.returns
  have hts : ∀ w ∈ TB, w.before _ s = true := fun w h => atoms_spec (ws := _ :: TB) B.pre w (List.mem_cons_of_mem _ h)
  have hown : s.vm.findClass RX11 = some m.cls := findClass_of_methodNamed B.named
  have hlocks := B.notSynchronized
  have hh : Hp D (Nf sz) (fun _ => True) s.heap s.heap [] cs ad en := ⟨hP, hD0, va_S.rf⟩
  have hA : ∀ q : Nat, s.heap.size ≤ q → Nf sz q := fun q h => by rw [hsz] at h; exact h
  have hl := lv_entry ([.ref (ad 0)]) (n := 1) (Nat.le_of_ble_eq_true rfl)
  rw [lg_entry_eq]
  generalize (lg_sl ([.ref (ad 0)]) ++ List.replicate (1 - (lg_sl ([.ref (ad 0)])).length) Slot.unset).toArray = ls at hl ⊢
  have hl : lv_has ls 1 [(0, .ref (ad 0))] := hl
  obtain ⟨wc_1039, lf_1039, es1039, p0_1039⟩ := get_A hI
  obtain ⟨cnt, d, mm, es1040, hcnt, hd2, hd3, hmm⟩ := get_T hI
  have hc1 : cnt = 0 := by rw [show rdI (en 1) 4 = nI cnt from by rw [es1040]; rfl] at hct; exact n_eq hct (by omega) (by omega)
  refine lv_aload_n hx hb dX11_close_0 rfl (lv_at hl 0 rfl) ?_
  refine hp_get hx hb hts ix11 hown hK hh (q := 0) rfl (hI.1 _ (by decide)) es1039 rfl 0 (by decide) (hts _ tw_245) (fun _ h9 => h9) rfl dX11_close_1 ?_
  refine hp_callRi (va_runV (As := []) (rest := []) ⟨hx, hb, hml, hown, hts⟩ (c_X8_count l D cy _ cs ad en (hI.1 _ (by decide)) cnt d mm hcnt hd2 hd3 hmm  es1040) (kw_X8_count hts tw_318 ⟨by decide, by decide⟩) (preV_of hh hK (hI.1 _ (by decide)) es1040 rfl) rfl rfl hl.1 rfl (lv_room (Nat.le_of_ble_eq_true rfl)) dX11_close_4 ⟨Nat.le_of_ble_eq_true rfl, Nat.le_of_ble_eq_true rfl⟩) hh hA (fun r_1041 H locs hw_1041 hh => ?_)
  obtain rfl : r_1041 = (nI cnt) := hw_1041
  refine lv_if_ne (tgt := 15) hx hb dX11_close_7 (by decide) (fun c_1042 => ?_) (fun c_1042 => ?_)
  · have n_1042 : cnt ≠ 0 := n_neq (a := cnt) (b := 0) c_1042 (by omega) (by decide)
    exact absurd n_1042 (by omega)
  · have n_1042 : cnt = 0 := n_eq (a := cnt) (b := 0) c_1042 (by omega) (by decide)
    refine lv_bipush (v := (-3)) hx hb dX11_close_10 (by decide) ?_
    refine lv_goto (tgt := 22) hx hb dX11_close_12 (by decide) ?_
    exact hp_iretR hx hb hr rfl hlocks hsz hh (rfl) dX11_close_22
theorem kw_X11_close0 {R : Room} {s : State} {args : Array Value} {own : String} {idx : Nat} (hts : ∀ w ∈ TB, w.before args s = true) (hl : Cond.methodLink own idx yX11_close ∈ TB) (hR : 1 + 1 ≤ R.frames ∧ 8 + (1 + 11) + 40 * 1 ≤ R.locals) : CallW R s args own RX11 idx yX11_close cX11_close 1 (some .int) (Cond.code yX11_close cX11_close 1 (some .int) :: TB) (rmN 1) 0 0 0 := cwV 0 hts (TB_V hl tw_575 tw_576 tw_1 tw_577) rfl rfl rfl (by decide +kernel) hR
