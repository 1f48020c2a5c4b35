set_option maxHeartbeats 4000000 in
set_option maxRecDepth 100000 in
/-- checkLength -/
theorem c_J7_checkLength_df160 (l : Launch) (D : va_G) (cy : Nat → ClassId) (sz : Nat) (cs : List Nat) (ad : Nat → Nat) (en : Nat → va_E) (a b : Nat) (hab : a ≤ b) (hb31 : b < 2 ^ 31)   : Met l yJ7_checkLength_df160 (Cond.code yJ7_checkLength_df160 cJ7_checkLength_df160 2 none :: TB) (rmN 0) (va_Pc [.int (nI a), .int (nI b)] (Pre D cy cs ad en sz)) (va_Qv (S := Nat → va_E) (fun en1 => en1 = en) (PostM D cs ad) (Af cs ad sz)) 0 0 (Af cs ad sz) := by
  refine Met.ofW (cc := cJ7_checkLength_df160) (maxL := 2) (ret := none) (by decide) rfl ?_
  intro p e s m args below meth c s₁ B hml hv
  obtain ⟨rfl, hsz, hP, hK, hD0⟩ := hv
  have hx := B.exec
  have hb := B.bytes
  have hr := B.returns
  have hts : ∀ w ∈ TB, w.before _ s = true := fun w h => atoms_spec (ws := _ :: TB) B.pre w (List.mem_cons_of_mem _ h)
  have hown : s.vm.findClass RJ7 = some m.cls := findClass_of_methodNamed B.named
  have hlocks := B.notSynchronized
  have hh : Hp D (Af cs ad sz) (Af cs ad sz) s.heap s.heap [] cs ad en := ⟨hP, Af_self hD0, va_S.rf⟩
  have hA : ∀ q : Nat, s.heap.size ≤ q → Af cs ad sz q := fun q h => Or.inr (by rw [hsz] at h; exact h)
  have hl := lv_entry ([.int (nI a), .int (nI b)]) (n := 2) (Nat.le_of_ble_eq_true rfl)
  rw [lg_entry_eq]
  generalize (lg_sl ([.int (nI a), .int (nI b)]) ++ List.replicate (2 - (lg_sl ([.int (nI a), .int (nI b)])).length) Slot.unset).toArray = ls at hl ⊢
  have hl : lv_has ls 2 [(0, .int (nI a)), (1, .int (nI b))] := hl
  refine lv_iload_n hx hb dJ7_checkLength_df160_0 rfl (lv_at hl 1 rfl) ?_
  refine lv_iload_n hx hb dJ7_checkLength_df160_1 rfl (lv_at hl 0 rfl) ?_
  refine lv_icmp_ge (tgt := 37) hx hb dJ7_checkLength_df160_2 (by decide) (fun c_939 => ?_) (fun c_939 => ?_)
  · have n_939 : a ≤ b := n_le (a := a) (b := b) c_939 (by omega) (by omega)
    exact hp_vretM hx hb hr hlocks hh (rfl) dJ7_checkLength_df160_37
  · have n_939 : b < a := n_nle (a := a) (b := b) c_939 (by omega) (by omega)
    exact absurd n_939 (by omega)
theorem kw_J7_checkLength_df160 {R : Room} {s : State} {args : Array Value} {own : String} {idx : Nat} (hts : ∀ w ∈ TB, w.before args s = true) (hl : Cond.methodLink own idx yJ7_checkLength_df160 ∈ TB) (hR : 0 + 1 ≤ R.frames ∧ 8 + (2 + 11) + 40 * 0 ≤ R.locals) : CallB R s args own idx yJ7_checkLength_df160 cJ7_checkLength_df160 2 none (Cond.code yJ7_checkLength_df160 cJ7_checkLength_df160 2 none :: TB) (rmN 0) 0 0 2 ∧ (Cond.static yJ7_checkLength_df160).before args s = true := va_cwS 2 hts (TB_S2 hl tw_333 tw_10 tw_334) rfl rfl rfl (by decide +kernel) hR
set_option maxHeartbeats 8000000 in
set_option maxRecDepth 100000 in
/-- copyOfRangeInt -/
theorem c_J7_copyOfRangeInt_feecc (l : Launch) (D : va_G) (cy : Nat → ClassId) (sz : Nat) (ad : Nat → Nat) (en : Nat → va_E) (n : Nat) (hn : 115 ≤ n) (hI : SX cy (List.range n) ad en) (J I9 L9 : Nat) (hJ : J < 4) (hL1 : 1 ≤ L9) (hL9 : L9 ≤ 9) (hIL : I9 + L9 ≤ 40)  : Met l yJ7_copyOfRangeInt_feecc (Cond.code yJ7_copyOfRangeInt_feecc cJ7_copyOfRangeInt_feecc 5 (some (.array .int)) :: TB) (rmC 1 1 9) (va_Pc [.ref (ad (108 + 2 * J)), .int (nI I9), .int (nI (I9 + L9))] (PreC D cy n ad en sz)) (va_Qq (S := Nat × (Nat → Nat) × (Nat → va_E)) (fun r u => (∀ i, i < n → u.2.1 i = ad i) ∧ (∀ c, (c < n) → u.2.2 c = en c) ∧ u.1 = n + 1 ∧ r = some (u.2.1 n) ∧ SX cy (List.range (n + 1)) u.2.1 u.2.2 ∧ ∃ g : Nat → Int32, u.2.2 n = .inl (cy 0, L9, .inl g) ∧ ∀ i, i < L9 → g i = rdF (en (108 + 2 * J)) (I9 + i)) (PostV D (Af (List.range n) ad sz)) (Af (List.range n) ad sz)) 1 9 (Af (List.range n) ad sz) := by
  refine Met.ofW (cc := cJ7_copyOfRangeInt_feecc) (maxL := 5) (ret := (some (.array .int))) (by decide) rfl ?_
  intro p e s m args below meth c s₁ B hml hv
  obtain ⟨rfl, ⟨hsz, hP, hK, hD0⟩, hX⟩ := hv
  have hx := B.exec
  have hb := B.bytes
  have hr := B.returns
  have hts : ∀ w ∈ TB, w.before _ s = true := fun w h => atoms_spec (ws := _ :: TB) B.pre w (List.mem_cons_of_mem _ h)
  have hown : s.vm.findClass RJ7 = some m.cls := findClass_of_methodNamed B.named
  have hlocks := B.notSynchronized
  have hh : Hp D (Af (List.range n) ad sz) (Af (List.range n) ad sz) s.heap s.heap [] (List.range n) ad en := ⟨hP, Af_self hD0, va_S.rf⟩
  have hA : ∀ q : Nat, s.heap.size ≤ q → (Af (List.range n) ad sz) q := fun q h => Or.inr (by rw [hsz] at h; exact h)
  generalize (Af (List.range n) ad sz) = A at hh hA ⊢
  have hl := lv_entry ([.ref (ad (108 + 2 * J)), .int (nI I9), .int (nI (I9 + L9))]) (n := 5) (Nat.le_of_ble_eq_true rfl)
  rw [lg_entry_eq]
  generalize (lg_sl ([.ref (ad (108 + 2 * J)), .int (nI I9), .int (nI (I9 + L9))]) ++ List.replicate (5 - (lg_sl ([.ref (ad (108 + 2 * J)), .int (nI I9), .int (nI (I9 + L9))])).length) Slot.unset).toArray = ls at hl ⊢
  have hl : lv_has ls 5 [(0, .ref (ad (108 + 2 * J))), (1, .int (nI I9)), (2, .int (nI (I9 + L9)))] := hl
  have hf0 : ∀ c, (c < n) → en c = en c := fun _ _ => rfl
  obtain ⟨f_940, es940⟩ := get_shc hI (j := J) (by omega)
  refine lv_iload_n hx hb dJ7_copyOfRangeInt_feecc_0 rfl (lv_at hl 1 rfl) ?_
  refine lv_iload_n hx hb dJ7_copyOfRangeInt_feecc_1 rfl (lv_at hl 2 rfl) ?_
  refine hp_callMv (va_runS (As := [.int (nI I9), .int (nI (I9 + L9))]) (rest := []) ⟨hx, hb, hml, hown, hts⟩ (c_J7_checkLength_df160 l D cy _ (List.range n) ad en I9 (I9 + L9) (by omega) (by omega)) (kw_J7_checkLength_df160 hts tw_332 ⟨by decide, by decide⟩) (preS_of hh hK) rfl rfl hl.1 rfl (lv_room (Nat.le_of_ble_eq_true rfl)) dJ7_copyOfRangeInt_feecc_2 ⟨Nat.le_of_ble_eq_true rfl, Nat.le_of_ble_eq_true rfl⟩) hh hA (fun H locs en_941 hw_941 hh => ?_)
  rw [hw_941] at hh
  refine lv_iload_n hx hb dJ7_copyOfRangeInt_feecc_5 rfl (lv_at hl 2 rfl) ?_
  refine lv_iload_n hx hb dJ7_copyOfRangeInt_feecc_6 rfl (lv_at hl 1 rfl) ?_
  refine lv_isub hx hb dJ7_copyOfRangeInt_feecc_7 ?_
  rw [pk_sub (a := (I9 + L9)) (b := I9) (by omega), show I9 + L9 - I9 = L9 by omega]
  refine lv_istore_n (lv' := [(3, .int (nI L9)), (0, .ref (ad (108 + 2 * J))), (1, .int (nI I9)), (2, .int (nI (I9 + L9)))]) hx hb dJ7_copyOfRangeInt_feecc_8 rfl hl (by decide) rfl (fun ls hl => ?_)
  refine lv_iload_n hx hb dJ7_copyOfRangeInt_feecc_9 rfl (lv_at hl 0 rfl) ?_
  refine hq_newa (atype := .int) (ty := .int) hx hb (hts _ tw_121) rfl hK hh hA 0 rfl (N' := L9) (a0 := (L9, .inl (fun _ => 0))) (fun _ => rfl) (nI_pos (by omega)) (nI_clamp (by omega)) (by show L9 * 4 ≤ _; omega) (Nat.le_of_ble_eq_true rfl) (by show 0 + L9 ≤ 9; omega) dJ7_copyOfRangeInt_feecc_10 (fun q_942 H ad_942 en_942 had_942 hen_942 hh => ?_)
  have hda_942 : ∀ i, i < n → ad_942 i = ad i := fun i hi => by rw [had_942, va_up_ne _ _ (by omega)]
  have hue_942 : ∀ i, i < n → en_942 i = en i := fun i hi => by rw [hen_942, va_up_ne _ _ (by omega)]
  have hh : Hp D A A s.heap H _ (List.range (n + 1)) ad_942 en_942 := hh
  have hl : lv_has ls 5 [(3, .int (nI L9)), (0, .ref (ad_942 (108 + 2 * J))), (1, .int (nI I9)), (2, .int (nI (I9 + L9)))] := by rw [hda_942 (108 + 2 * J) (by omega)]; exact hl
  have es940_942 : en_942 (108 + 2 * J) = .inl (cy 0, 40, .inl f_940) := by rw [hue_942 (108 + 2 * J) (by omega)]; exact es940
  have b1082J_942 : en (108 + 2 * J) = .inl (cy 0, 40, .inl f_940) := by exact es940
  have hI_942 : SX cy (List.range (n + 1)) ad_942 en_942 := SX_grow hI (fun c h => List.mem_range.mpr (by omega)) (fun i h => hda_942 i (by omega)) (fun i h => hue_942 i (by omega))
  have hf_942 : ∀ c, (c < n) → en_942 c = en c := fun c hc => (hue_942 c (by omega)).trans (hf0 c hc)
  have en1_942 : en_942 n = .inl (cy 0, L9, .inl (fun _ => 0)) := by rw [hen_942]; exact va_up_self _ _ _
  refine W.eq (g2 := F0 m 12 ls [.ref (ad_942 n)]) (by rw [show ad_942 n = q_942 from by rw [had_942]; exact va_up_self _ _ _]) ?_
  refine W.widen (k := 1) (n := 9) (by omega) (by omega) ?_
  refine lv_astore (lv' := [(4, .ref (ad_942 n)), (3, .int (nI L9)), (0, .ref (ad_942 (108 + 2 * J))), (1, .int (nI I9)), (2, .int (nI (I9 + L9)))]) hx hb dJ7_copyOfRangeInt_feecc_12 hl (by decide) rfl (fun ls hl => ?_)
  refine lv_aload_n hx hb dJ7_copyOfRangeInt_feecc_14 rfl (lv_at hl 2 rfl) ?_
  refine lv_iload_n hx hb dJ7_copyOfRangeInt_feecc_15 rfl (lv_at hl 3 rfl) ?_
  refine lv_aload hx hb dJ7_copyOfRangeInt_feecc_16 (lv_at hl 0 rfl) ?_
  refine lv_iconst (v := 0) hx hb dJ7_copyOfRangeInt_feecc_18 (by decide) ?_
  refine lv_aload_n hx hb dJ7_copyOfRangeInt_feecc_19 rfl (lv_at hl 2 rfl) ?_
  refine hp_alen hx hb hK hh (q := (108 + 2 * J)) rfl (List.mem_range.mpr (by omega)) 0 es940_942 rfl (v := nI 40) (rfl) dJ7_copyOfRangeInt_feecc_20 ?_
  refine lv_iload_n hx hb dJ7_copyOfRangeInt_feecc_21 rfl (lv_at hl 3 rfl) ?_
  refine lv_isub hx hb dJ7_copyOfRangeInt_feecc_22 ?_
  rw [pk_sub (a := 40) (b := I9) (by omega)]
  refine lv_iload_n hx hb dJ7_copyOfRangeInt_feecc_23 rfl (lv_at hl 1 rfl) ?_
  refine va_mmin hx hb (hml.trans hl.1.symm) hown (hts _ tw_335) (hts _ tw_336) (hts _ tw_11) (hts _ tw_337) (Nat.le_of_ble_eq_true rfl) (Nat.le_of_ble_eq_true rfl) (Nat.le_of_ble_eq_true rfl) (by show 9 ≤ 9; omega) dJ7_copyOfRangeInt_feecc_24 ?_
  rw [min_nat (a := L9) (b := (40 - I9)) (by omega) (by omega)]
  refine W.eq (g2 := F0 m 27 ls [.int (nI L9), .int (nI 0), .ref (ad_942 n), .int (nI I9), .ref (ad_942 (108 + 2 * J))]) rfl ?_
  refine hp_copyi hx hb (hml.trans hl.1.symm) hown (hts _ tw_338) (hts _ tw_340) (hts _ tw_339) (hts _ tw_12) hK hh (List.mem_range.mpr (by omega)) (List.mem_range.mpr (by omega)) es940_942 en1_942 I9 0 L9 (by omega) (by decide) (by omega) (by omega) (by omega) (Nat.le_of_ble_eq_true rfl) (Nat.le_of_ble_eq_true rfl) dJ7_copyOfRangeInt_feecc_27 (fun H locs en_943 hen_943 hh => ?_)
  have es940_943 : en_943 (108 + 2 * J) = .inl (cy 0, 40, .inl f_940) := by rw [hen_943, va_up_ne _ _ (by omega)]; exact es940_942
  have en1_943 : en_943 n = .inl (cy 0, L9, .inl (va_cpy f_940 (fun _ => 0) I9 0 L9)) := by rw [hen_943]; exact va_up_self _ _ _
  have hI_943 : SX cy (List.range (n + 1)) ad_942 en_943 := SX_pt hI_942 (fun c => c = n) (fun c hc => by rw [hen_943, va_up_ne _ _ hc]) (fun c hc h9 => absurd h9 (by omega))
  have hf_943 : ∀ c, (c < n) → en_943 c = en c := fun c hc => Eq.trans (show en_943 c = en_942 c from by rw [hen_943, va_up_ne _ _ (by omega)]) (hf_942 c hc)
  refine lv_aload hx hb dJ7_copyOfRangeInt_feecc_30 (lv_at hl 0 rfl) ?_
  exact hv_aret (v := some (ad_942 n)) rfl hx hb hr (Or.inr ⟨_, rfl⟩) hlocks hh (⟨(fun i hi => by dsimp only; rw [hda_942 i (by omega)]), hf_943, rfl, rfl, hI_943, _, en1_943, fun i hi => by rw [pk_cpy_in (Nat.zero_le _) (by omega), show rdF (en (108 + 2 * J)) = f_940 from by rw [es940]; rfl]; rfl⟩) dJ7_copyOfRangeInt_feecc_32
theorem kw_J7_copyOfRangeInt_feecc {R : Room} {s : State} {args : Array Value} {own : String} {idx : Nat} (hts : ∀ w ∈ TB, w.before args s = true) (hl : Cond.methodLink own idx yJ7_copyOfRangeInt_feecc ∈ TB) (hR : 1 + 1 ≤ R.frames ∧ 8 + (5 + 11) + 40 * 1 ≤ R.locals) : CallB R s args own idx yJ7_copyOfRangeInt_feecc cJ7_copyOfRangeInt_feecc 5 (some (.array .int)) (Cond.code yJ7_copyOfRangeInt_feecc cJ7_copyOfRangeInt_feecc 5 (some (.array .int)) :: TB) (rmC 1 1 9) 1 9 3 ∧ (Cond.static yJ7_copyOfRangeInt_feecc).before args s = true := va_cwS 3 hts (TB_S2 hl tw_330 tw_10 tw_331) rfl rfl rfl (by decide +kernel) hR
set_option maxHeartbeats 8000000 in
set_option maxRecDepth 100000 in
/-- copyOfRange -/
theorem c_J7_copyOfRange_feecc (l : Launch) (D : va_G) (cy : Nat → ClassId) (sz : Nat) (ad : Nat → Nat) (en : Nat → va_E) (n : Nat) (hn : 115 ≤ n) (hI : SX cy (List.range n) ad en) (J I9 L9 : Nat) (hJ : J < 4) (hL1 : 1 ≤ L9) (hL9 : L9 ≤ 9) (hIL : I9 + L9 ≤ 40)  : Met l yJ7_copyOfRange_feecc (Cond.code yJ7_copyOfRange_feecc cJ7_copyOfRange_feecc 3 (some (.array .int)) :: TB) (rmC 2 1 9) (va_Pc [.ref (ad (108 + 2 * J)), .int (nI I9), .int (nI (I9 + L9))] (PreC D cy n ad en sz)) (va_Qq (S := Nat × (Nat → Nat) × (Nat → va_E)) (fun r u => (∀ i, i < n → u.2.1 i = ad i) ∧ (∀ c, (c < n) → u.2.2 c = en c) ∧ u.1 = n + 1 ∧ r = some (u.2.1 n) ∧ SX cy (List.range (n + 1)) u.2.1 u.2.2 ∧ ∃ g : Nat → Int32, u.2.2 n = .inl (cy 0, L9, .inl g) ∧ ∀ i, i < L9 → g i = rdF (en (108 + 2 * J)) (I9 + i)) (PostV D (Af (List.range n) ad sz)) (Af (List.range n) ad sz)) 1 9 (Af (List.range n) ad sz) := by
  refine Met.ofW (cc := cJ7_copyOfRange_feecc) (maxL := 3) (ret := (some (.array .int))) (by decide) rfl ?_
  intro p e s m args below meth c s₁ B hml hv
  obtain ⟨rfl, ⟨hsz, hP, hK, hD0⟩, hX⟩ := hv
  have hx := B.exec
  have hb := B.bytes
  have hr := B.returns
  have hts : ∀ w ∈ TB, w.before _ s = true := fun w h => atoms_spec (ws := _ :: TB) B.pre w (List.mem_cons_of_mem _ h)
  have hown : s.vm.findClass RJ7 = some m.cls := findClass_of_methodNamed B.named
  have hlocks := B.notSynchronized
  have hh : Hp D (Af (List.range n) ad sz) (Af (List.range n) ad sz) s.heap s.heap [] (List.range n) ad en := ⟨hP, Af_self hD0, va_S.rf⟩
  have hA : ∀ q : Nat, s.heap.size ≤ q → (Af (List.range n) ad sz) q := fun q h => Or.inr (by rw [hsz] at h; exact h)
  generalize (Af (List.range n) ad sz) = A at hh hA ⊢
  have hl := lv_entry ([.ref (ad (108 + 2 * J)), .int (nI I9), .int (nI (I9 + L9))]) (n := 3) (Nat.le_of_ble_eq_true rfl)
  rw [lg_entry_eq]
  generalize (lg_sl ([.ref (ad (108 + 2 * J)), .int (nI I9), .int (nI (I9 + L9))]) ++ List.replicate (3 - (lg_sl ([.ref (ad (108 + 2 * J)), .int (nI I9), .int (nI (I9 + L9))])).length) Slot.unset).toArray = ls at hl ⊢
  have hl : lv_has ls 3 [(0, .ref (ad (108 + 2 * J))), (1, .int (nI I9)), (2, .int (nI (I9 + L9)))] := hl
  have hf0 : ∀ c, (c < n) → en c = en c := fun _ _ => rfl
  refine lv_iload_n hx hb dJ7_copyOfRange_feecc_0 rfl (lv_at hl 1 rfl) ?_
  refine lv_if_ne (tgt := 10) hx hb dJ7_copyOfRange_feecc_1 (by decide) (fun c_944 => ?_) (fun c_944 => ?_)
  · have n_944 : I9 ≠ 0 := n_neq (a := I9) (b := 0) c_944 (by omega) (by decide)
    refine lv_aload_n hx hb dJ7_copyOfRange_feecc_10 rfl (lv_at hl 0 rfl) ?_
    refine lv_iload_n hx hb dJ7_copyOfRange_feecc_11 rfl (lv_at hl 1 rfl) ?_
    refine lv_iload_n hx hb dJ7_copyOfRange_feecc_12 rfl (lv_at hl 2 rfl) ?_
    obtain ⟨f_945, es945⟩ := get_shc hI (j := J) (by omega)
    refine hv_callq (va_runS (As := [.ref (ad (108 + 2 * J)), .int (nI I9), .int (nI (I9 + L9))]) (rest := []) ⟨hx, hb, hml, hown, hts⟩ (c_J7_copyOfRangeInt_feecc l D cy _ ad en n (by omega) hI J I9 L9 (by omega) (by omega) (by omega) (by omega)) (kw_J7_copyOfRangeInt_feecc hts tw_329 ⟨by decide, by decide⟩) (preC_of hh hK hX) rfl rfl hl.1 rfl (lv_room (Nat.le_of_ble_eq_true rfl)) dJ7_copyOfRange_feecc_13 ⟨Nat.le_of_ble_eq_true rfl, Nat.le_of_ble_eq_true rfl⟩) hh hA (fun r_946 H locs n_946 ad_946 en_946 hw_946 hh => ?_)
    obtain ⟨hda_946, hue_946, hn1_946, hr_946, hI_946, g_946, eg_946, hg_946⟩ := hw_946
    dsimp only at hda_946 hue_946 hn1_946 hr_946 hI_946 eg_946
    subst hn1_946
    rw [hr_946]
    have hl : lv_has ls 3 [(0, .ref (ad_946 (108 + 2 * J))), (1, .int (nI I9)), (2, .int (nI (I9 + L9)))] := by rw [hda_946 (108 + 2 * J) (by omega)]; exact hl
    have es945_946 : en_946 (108 + 2 * J) = .inl (cy 0, 40, .inl f_945) := by rw [hue_946 (108 + 2 * J) (by omega)]; exact es945
    have b1082J_946 : en (108 + 2 * J) = .inl (cy 0, 40, .inl f_945) := by exact es945
    refine W.eq (g2 := F0 m 16 ls [.ref (ad_946 n)]) rfl ?_
    have hf_946 : ∀ c, (c < n) → en_946 c = en c := fun c hc => (hue_946 c (by omega)).trans (hf0 c hc)
    exact hv_aret (v := some (ad_946 n)) rfl hx hb hr (Or.inr ⟨_, rfl⟩) hlocks hh (⟨(fun i hi => by dsimp only; rw [hda_946 i (by omega)]), hf_946, rfl, rfl, hI_946, _, eg_946, hg_946⟩) dJ7_copyOfRange_feecc_16
  · have n_944 : I9 = 0 := n_eq (a := I9) (b := 0) c_944 (by omega) (by decide)
    refine lv_iload_n hx hb dJ7_copyOfRange_feecc_4 rfl (lv_at hl 2 rfl) ?_
    refine lv_aload_n hx hb dJ7_copyOfRange_feecc_5 rfl (lv_at hl 0 rfl) ?_
    obtain ⟨f_947, es947⟩ := get_shc hI (j := J) (by omega)
    refine hp_alen hx hb hK hh (q := (108 + 2 * J)) rfl (List.mem_range.mpr (by omega)) 0 es947 rfl (v := nI 40) (rfl) dJ7_copyOfRange_feecc_6 ?_
    refine lv_icmp_eq (tgt := 17) hx hb dJ7_copyOfRange_feecc_7 (by decide) (fun c_948 => ?_) (fun c_948 => ?_)
    · have n_948 : (I9 + L9) = 40 := n_eq (a := (I9 + L9)) (b := 40) c_948 (by omega) (by decide)
      exact absurd n_948 (by omega)
    · have n_948 : (I9 + L9) ≠ 40 := n_neq (a := (I9 + L9)) (b := 40) c_948 (by omega) (by decide)
      refine lv_aload_n hx hb dJ7_copyOfRange_feecc_10 rfl (lv_at hl 0 rfl) ?_
      refine lv_iload_n hx hb dJ7_copyOfRange_feecc_11 rfl (lv_at hl 1 rfl) ?_
      refine lv_iload_n hx hb dJ7_copyOfRange_feecc_12 rfl (lv_at hl 2 rfl) ?_
      refine hv_callq (va_runS (As := [.ref (ad (108 + 2 * J)), .int (nI I9), .int (nI (I9 + L9))]) (rest := []) ⟨hx, hb, hml, hown, hts⟩ (c_J7_copyOfRangeInt_feecc l D cy _ ad en n (by omega) hI J I9 L9 (by omega) (by omega) (by omega) (by omega)) (kw_J7_copyOfRangeInt_feecc hts tw_329 ⟨by decide, by decide⟩) (preC_of hh hK hX) rfl rfl hl.1 rfl (lv_room (Nat.le_of_ble_eq_true rfl)) dJ7_copyOfRange_feecc_13 ⟨Nat.le_of_ble_eq_true rfl, Nat.le_of_ble_eq_true rfl⟩) hh hA (fun r_949 H locs n_949 ad_949 en_949 hw_949 hh => ?_)
      obtain ⟨hda_949, hue_949, hn1_949, hr_949, hI_949, g_949, eg_949, hg_949⟩ := hw_949
      dsimp only at hda_949 hue_949 hn1_949 hr_949 hI_949 eg_949
      subst hn1_949
      rw [hr_949]
      have hl : lv_has ls 3 [(0, .ref (ad_949 (108 + 2 * J))), (1, .int (nI I9)), (2, .int (nI (I9 + L9)))] := by rw [hda_949 (108 + 2 * J) (by omega)]; exact hl
      have es947_949 : en_949 (108 + 2 * J) = .inl (cy 0, 40, .inl f_947) := by rw [hue_949 (108 + 2 * J) (by omega)]; exact es947
      have b1082J_949 : en (108 + 2 * J) = .inl (cy 0, 40, .inl f_947) := by exact es947
      refine W.eq (g2 := F0 m 16 ls [.ref (ad_949 n)]) rfl ?_
      have hf_949 : ∀ c, (c < n) → en_949 c = en c := fun c hc => (hue_949 c (by omega)).trans (hf0 c hc)
      exact hv_aret (v := some (ad_949 n)) rfl hx hb hr (Or.inr ⟨_, rfl⟩) hlocks hh (⟨(fun i hi => by dsimp only; rw [hda_949 i (by omega)]), hf_949, rfl, rfl, hI_949, _, eg_949, hg_949⟩) dJ7_copyOfRange_feecc_16
theorem kw_J7_copyOfRange_feecc {R : Room} {s : State} {args : Array Value} {own : String} {idx : Nat} (hts : ∀ w ∈ TB, w.before args s = true) (hl : Cond.methodLink own idx yJ7_copyOfRange_feecc ∈ TB) (hR : 2 + 1 ≤ R.frames ∧ 8 + (3 + 11) + 40 * 2 ≤ R.locals) : CallB R s args own idx yJ7_copyOfRange_feecc cJ7_copyOfRange_feecc 3 (some (.array .int)) (Cond.code yJ7_copyOfRange_feecc cJ7_copyOfRange_feecc 3 (some (.array .int)) :: TB) (rmC 2 1 9) 1 9 3 ∧ (Cond.static yJ7_copyOfRange_feecc).before args s = true := va_cwS 3 hts (TB_S2 hl tw_327 tw_10 tw_328) rfl rfl rfl (by decide +kernel) hR
set_option maxHeartbeats 4000000 in
set_option maxRecDepth 100000 in
/-- X7_init -/
theorem c_X7_init_6 (l : Launch) (D : va_G) (cy : Nat → ClassId) (sz : Nat) (cs : List Nat) (ad : Nat → Nat) (en : Nat → va_E) (tb t d te : Nat) (htb : tb ∈ cs) (etb : en tb = .inr (6, [.int 0, .int 0, .null]))  : Met l yX7_init (Cond.code yX7_init cX7_init 4 none :: TB) (rmN 1) (va_Pc [.ref (ad tb), .int (nI t), .int (nI d), .ref (ad te)] (Pre D cy cs ad en sz)) (va_Qv (S := Nat → va_E) (fun en1 => en1 = va_up en tb (.inr (6, [.int (nI t), .int (nI d), .ref (ad te)]))) (PostM D cs ad) (Af cs ad sz)) 0 0 (Af cs ad sz) := by
  refine Met.ofW (cc := cX7_init) (maxL := 4) (ret := none) (by decide) rfl ?_
  intro p e s m args below meth c s₁ B hml hv
  obtain ⟨rfl, hsz, hP, hK, hD0⟩ := hv
  have hx := B.exec
  have hb := B.bytes
  have hr := B.returns
  have hts : ∀ w ∈ TB, w.before _ s = true := fun w h => atoms_spec (ws := _ :: TB) B.pre w (List.mem_cons_of_mem _ h)
  have hown : s.vm.findClass RX7 = some m.cls := findClass_of_methodNamed B.named
  have hlocks := B.notSynchronized
  have hh : Hp D (Af cs ad sz) (Af cs ad sz) s.heap s.heap [] cs ad en := ⟨hP, Af_self hD0, va_S.rf⟩
  have hA : ∀ q : Nat, s.heap.size ≤ q → Af cs ad sz q := fun q h => Or.inr (by rw [hsz] at h; exact h)
  have hl := lv_entry ([.ref (ad tb), .int (nI t), .int (nI d), .ref (ad te)]) (n := 4) (Nat.le_of_ble_eq_true rfl)
  rw [lg_entry_eq]
  generalize (lg_sl ([.ref (ad tb), .int (nI t), .int (nI d), .ref (ad te)]) ++ List.replicate (4 - (lg_sl ([.ref (ad tb), .int (nI t), .int (nI d), .ref (ad te)])).length) Slot.unset).toArray = ls at hl ⊢
  have hl : lv_has ls 4 [(0, .ref (ad tb)), (1, .int (nI t)), (2, .int (nI d)), (3, .ref (ad te))] := hl
  have hin : meth.name = "<init>" := (name_of_methodNamed B.named B.method).1
  refine lv_aload_n hx hb dX7_init_0 rfl (lv_at hl 0 rfl) ?_
  refine W.objInit hx hb hown (hts _ tw_375) (hts _ tw_23) (hts _ tw_24) rfl (by rw [hml]; exact hl.1) rfl dX7_init_1 (Nat.le_of_ble_eq_true rfl) (Nat.le_of_ble_eq_true rfl) ?_
  refine W.eq (g2 := F0 m 4 ls []) rfl ?_
  refine lv_aload_n hx hb dX7_init_4 rfl (lv_at hl 0 rfl) ?_
  refine lv_iload_n hx hb dX7_init_5 rfl (lv_at hl 1 rfl) ?_
  refine hp_putF hx hb hts ix7 tyX7 tyX7_ok nmX7 hown hK hh (q := tb) rfl htb etb rfl 0 (by decide) (hts _ tw_376) (fun _ h9 => h9) rfl hin rfl (ty := .int) (by decide +kernel) rfl rfl (Nat.le_of_ble_eq_true rfl) dX7_init_6 (fun H locs en_950 hen_950 hh => ?_)
  have etb_950 : en_950 tb = .inr (6, [.int (nI t), .int 0, .null]) := by rw [hen_950]; exact va_up_self _ _ _
  refine lv_aload_n hx hb dX7_init_9 rfl (lv_at hl 0 rfl) ?_
  refine lv_iload_n hx hb dX7_init_10 rfl (lv_at hl 2 rfl) ?_
  refine hp_putF hx hb hts ix7 tyX7 tyX7_ok nmX7 hown hK hh (q := tb) rfl htb etb_950 rfl 1 (by decide) (hts _ tw_377) (fun _ h9 => h9) rfl hin rfl (ty := .int) (by decide +kernel) rfl rfl (Nat.le_of_ble_eq_true rfl) dX7_init_11 (fun H locs en_951 hen_951 hh => ?_)
  have etb_951 : en_951 tb = .inr (6, [.int (nI t), .int (nI d), .null]) := by rw [hen_951]; exact va_up_self _ _ _
  refine lv_aload_n hx hb dX7_init_14 rfl (lv_at hl 0 rfl) ?_
  refine lv_aload_n hx hb dX7_init_15 rfl (lv_at hl 3 rfl) ?_
  refine hp_putF hx hb hts ix7 tyX7 tyX7_ok nmX7 hown hK hh (q := tb) rfl htb etb_951 rfl 2 (by decide) (hts _ tw_380) (fun _ h9 => h9) rfl hin rfl (ty := (.array .int)) (by decide +kernel) rfl rfl (Nat.le_of_ble_eq_true rfl) dX7_init_16 (fun H locs en_952 hen_952 hh => ?_)
  have etb_952 : en_952 tb = .inr (6, [.int (nI t), .int (nI d), .ref (ad te)]) := by rw [hen_952]; exact va_up_self _ _ _
  exact hp_vretM hx hb hr hlocks hh (by rw [hen_952, hen_951, hen_950, bx_uu, bx_uu]; try rfl) dX7_init_19
set_option maxHeartbeats 4000000 in
set_option maxRecDepth 100000 in
/-- X7_init -/
theorem c_X7_init_1 (l : Launch) (D : va_G) (cy : Nat → ClassId) (sz : Nat) (cs : List Nat) (ad : Nat → Nat) (en : Nat → va_E) (tb t d te : Nat) (htb : tb ∈ cs) (etb : en tb = .inr (1, [.int 0, .int 0, .null]))  : Met l yX7_init (Cond.code yX7_init cX7_init 4 none :: TB) (rmN 1) (va_Pc [.ref (ad tb), .int (nI t), .int (nI d), .ref (ad te)] (Pre D cy cs ad en sz)) (va_Qv (S := Nat → va_E) (fun en1 => en1 = va_up en tb (.inr (1, [.int (nI t), .int (nI d), .ref (ad te)]))) (PostM D cs ad) (Af cs ad sz)) 0 0 (Af cs ad sz) := by
  refine Met.ofW (cc := cX7_init) (maxL := 4) (ret := none) (by decide) rfl ?_
  intro p e s m args below meth c s₁ B hml hv
  obtain ⟨rfl, hsz, hP, hK, hD0⟩ := hv
  have hx := B.exec
  have hb := B.bytes
  have hr := B.returns
  have hts : ∀ w ∈ TB, w.before _ s = true := fun w h => atoms_spec (ws := _ :: TB) B.pre w (List.mem_cons_of_mem _ h)
  have hown : s.vm.findClass RX7 = some m.cls := findClass_of_methodNamed B.named
  have hlocks := B.notSynchronized
  have hh : Hp D (Af cs ad sz) (Af cs ad sz) s.heap s.heap [] cs ad en := ⟨hP, Af_self hD0, va_S.rf⟩
  have hA : ∀ q : Nat, s.heap.size ≤ q → Af cs ad sz q := fun q h => Or.inr (by rw [hsz] at h; exact h)
  have hl := lv_entry ([.ref (ad tb), .int (nI t), .int (nI d), .ref (ad te)]) (n := 4) (Nat.le_of_ble_eq_true rfl)
  rw [lg_entry_eq]
  generalize (lg_sl ([.ref (ad tb), .int (nI t), .int (nI d), .ref (ad te)]) ++ List.replicate (4 - (lg_sl ([.ref (ad tb), .int (nI t), .int (nI d), .ref (ad te)])).length) Slot.unset).toArray = ls at hl ⊢
  have hl : lv_has ls 4 [(0, .ref (ad tb)), (1, .int (nI t)), (2, .int (nI d)), (3, .ref (ad te))] := hl
  have hin : meth.name = "<init>" := (name_of_methodNamed B.named B.method).1
  refine lv_aload_n hx hb dX7_init_0 rfl (lv_at hl 0 rfl) ?_
  refine W.objInit hx hb hown (hts _ tw_375) (hts _ tw_23) (hts _ tw_24) rfl (by rw [hml]; exact hl.1) rfl dX7_init_1 (Nat.le_of_ble_eq_true rfl) (Nat.le_of_ble_eq_true rfl) ?_
  refine W.eq (g2 := F0 m 4 ls []) rfl ?_
  refine lv_aload_n hx hb dX7_init_4 rfl (lv_at hl 0 rfl) ?_
  refine lv_iload_n hx hb dX7_init_5 rfl (lv_at hl 1 rfl) ?_
  refine hp_putF hx hb hts ix1 tyX1 tyX1_ok nmX1 hown hK hh (q := tb) rfl htb etb rfl 0 (by decide) (hts _ tw_376) (fun _ h9 => h9) rfl hin rfl (ty := .int) (by decide +kernel) rfl rfl (Nat.le_of_ble_eq_true rfl) dX7_init_6 (fun H locs en_953 hen_953 hh => ?_)
  have etb_953 : en_953 tb = .inr (1, [.int (nI t), .int 0, .null]) := by rw [hen_953]; exact va_up_self _ _ _
  refine lv_aload_n hx hb dX7_init_9 rfl (lv_at hl 0 rfl) ?_
  refine lv_iload_n hx hb dX7_init_10 rfl (lv_at hl 2 rfl) ?_
  refine hp_putF hx hb hts ix1 tyX1 tyX1_ok nmX1 hown hK hh (q := tb) rfl htb etb_953 rfl 1 (by decide) (hts _ tw_377) (fun _ h9 => h9) rfl hin rfl (ty := .int) (by decide +kernel) rfl rfl (Nat.le_of_ble_eq_true rfl) dX7_init_11 (fun H locs en_954 hen_954 hh => ?_)
  have etb_954 : en_954 tb = .inr (1, [.int (nI t), .int (nI d), .null]) := by rw [hen_954]; exact va_up_self _ _ _
  refine lv_aload_n hx hb dX7_init_14 rfl (lv_at hl 0 rfl) ?_
  refine lv_aload_n hx hb dX7_init_15 rfl (lv_at hl 3 rfl) ?_
  refine hp_putF hx hb hts ix1 tyX1 tyX1_ok nmX1 hown hK hh (q := tb) rfl htb etb_954 rfl 2 (by decide) (hts _ tw_380) (fun _ h9 => h9) rfl hin rfl (ty := (.array .int)) (by decide +kernel) rfl rfl (Nat.le_of_ble_eq_true rfl) dX7_init_16 (fun H locs en_955 hen_955 hh => ?_)
  have etb_955 : en_955 tb = .inr (1, [.int (nI t), .int (nI d), .ref (ad te)]) := by rw [hen_955]; exact va_up_self _ _ _
  exact hp_vretM hx hb hr hlocks hh (by rw [hen_955, hen_954, hen_953, bx_uu, bx_uu]; try rfl) dX7_init_19
set_option maxHeartbeats 4000000 in
set_option maxRecDepth 100000 in
/-- X7_init -/
theorem c_X7_init_4 (l : Launch) (D : va_G) (cy : Nat → ClassId) (sz : Nat) (cs : List Nat) (ad : Nat → Nat) (en : Nat → va_E) (tb t d te : Nat) (htb : tb ∈ cs) (etb : en tb = .inr (4, [.int 0, .int 0, .null]))  : Met l yX7_init (Cond.code yX7_init cX7_init 4 none :: TB) (rmN 1) (va_Pc [.ref (ad tb), .int (nI t), .int (nI d), .ref (ad te)] (Pre D cy cs ad en sz)) (va_Qv (S := Nat → va_E) (fun en1 => en1 = va_up en tb (.inr (4, [.int (nI t), .int (nI d), .ref (ad te)]))) (PostM D cs ad) (Af cs ad sz)) 0 0 (Af cs ad sz) := by
  refine Met.ofW (cc := cX7_init) (maxL := 4) (ret := none) (by decide) rfl ?_
  intro p e s m args below meth c s₁ B hml hv
  obtain ⟨rfl, hsz, hP, hK, hD0⟩ := hv
  have hx := B.exec
  have hb := B.bytes
  have hr := B.returns
  have hts : ∀ w ∈ TB, w.before _ s = true := fun w h => atoms_spec (ws := _ :: TB) B.pre w (List.mem_cons_of_mem _ h)
  have hown : s.vm.findClass RX7 = some m.cls := findClass_of_methodNamed B.named
  have hlocks := B.notSynchronized
  have hh : Hp D (Af cs ad sz) (Af cs ad sz) s.heap s.heap [] cs ad en := ⟨hP, Af_self hD0, va_S.rf⟩
  have hA : ∀ q : Nat, s.heap.size ≤ q → Af cs ad sz q := fun q h => Or.inr (by rw [hsz] at h; exact h)
  have hl := lv_entry ([.ref (ad tb), .int (nI t), .int (nI d), .ref (ad te)]) (n := 4) (Nat.le_of_ble_eq_true rfl)
  rw [lg_entry_eq]
  generalize (lg_sl ([.ref (ad tb), .int (nI t), .int (nI d), .ref (ad te)]) ++ List.replicate (4 - (lg_sl ([.ref (ad tb), .int (nI t), .int (nI d), .ref (ad te)])).length) Slot.unset).toArray = ls at hl ⊢
  have hl : lv_has ls 4 [(0, .ref (ad tb)), (1, .int (nI t)), (2, .int (nI d)), (3, .ref (ad te))] := hl
  have hin : meth.name = "<init>" := (name_of_methodNamed B.named B.method).1
  refine lv_aload_n hx hb dX7_init_0 rfl (lv_at hl 0 rfl) ?_
  refine W.objInit hx hb hown (hts _ tw_375) (hts _ tw_23) (hts _ tw_24) rfl (by rw [hml]; exact hl.1) rfl dX7_init_1 (Nat.le_of_ble_eq_true rfl) (Nat.le_of_ble_eq_true rfl) ?_
  refine W.eq (g2 := F0 m 4 ls []) rfl ?_
  refine lv_aload_n hx hb dX7_init_4 rfl (lv_at hl 0 rfl) ?_
  refine lv_iload_n hx hb dX7_init_5 rfl (lv_at hl 1 rfl) ?_
  refine hp_putF hx hb hts ix4 tyX4 tyX4_ok nmX4 hown hK hh (q := tb) rfl htb etb rfl 0 (by decide) (hts _ tw_376) (fun _ h9 => h9) rfl hin rfl (ty := .int) (by decide +kernel) rfl rfl (Nat.le_of_ble_eq_true rfl) dX7_init_6 (fun H locs en_956 hen_956 hh => ?_)
  have etb_956 : en_956 tb = .inr (4, [.int (nI t), .int 0, .null]) := by rw [hen_956]; exact va_up_self _ _ _
  refine lv_aload_n hx hb dX7_init_9 rfl (lv_at hl 0 rfl) ?_
  refine lv_iload_n hx hb dX7_init_10 rfl (lv_at hl 2 rfl) ?_
  refine hp_putF hx hb hts ix4 tyX4 tyX4_ok nmX4 hown hK hh (q := tb) rfl htb etb_956 rfl 1 (by decide) (hts _ tw_377) (fun _ h9 => h9) rfl hin rfl (ty := .int) (by decide +kernel) rfl rfl (Nat.le_of_ble_eq_true rfl) dX7_init_11 (fun H locs en_957 hen_957 hh => ?_)
  have etb_957 : en_957 tb = .inr (4, [.int (nI t), .int (nI d), .null]) := by rw [hen_957]; exact va_up_self _ _ _
  refine lv_aload_n hx hb dX7_init_14 rfl (lv_at hl 0 rfl) ?_
  refine lv_aload_n hx hb dX7_init_15 rfl (lv_at hl 3 rfl) ?_
  refine hp_putF hx hb hts ix4 tyX4 tyX4_ok nmX4 hown hK hh (q := tb) rfl htb etb_957 rfl 2 (by decide) (hts _ tw_380) (fun _ h9 => h9) rfl hin rfl (ty := (.array .int)) (by decide +kernel) rfl rfl (Nat.le_of_ble_eq_true rfl) dX7_init_16 (fun H locs en_958 hen_958 hh => ?_)
  have etb_958 : en_958 tb = .inr (4, [.int (nI t), .int (nI d), .ref (ad te)]) := by rw [hen_958]; exact va_up_self _ _ _
  exact hp_vretM hx hb hr hlocks hh (by rw [hen_958, hen_957, hen_956, bx_uu, bx_uu]; try rfl) dX7_init_19
theorem kw_X7_init {R : Room} {s : State} {args : Array Value} {own : String} {idx : Nat} (hts : ∀ w ∈ TB, w.before args s = true) (hl : Cond.methodLink own idx yX7_init ∈ TB) (hR : 1 + 1 ≤ R.frames ∧ 8 + (4 + 11) + 40 * 1 ≤ R.locals) : CallB R s args own idx yX7_init cX7_init 4 none (Cond.code yX7_init cX7_init 4 none :: TB) (rmC 1 0 0) 0 0 3 ∧ yX7_init.name = "<init>" ∧ (Cond.instanceMethod yX7_init).before args s = true := cwI 3 hts (TB_W tw_374) rfl rfl rfl (hts _ tw_13) (hts _ hl) (hts _ tw_373) rfl (by decide +kernel) hR
set_option maxHeartbeats 4000000 in
set_option maxRecDepth 100000 in
/-- X1_init -/
theorem c_X1_init_1 (l : Launch) (D : va_G) (cy : Nat → ClassId) (sz : Nat) (cs : List Nat) (ad : Nat → Nat) (en : Nat → va_E) (tb t d te : Nat) (htb : tb ∈ cs) (etb : en tb = .inr (1, [.int 0, .int 0, .null]))  : Met l yX1_init (Cond.code yX1_init cX1_init 4 none :: TB) (rmN 2) (va_Pc [.ref (ad tb), .int (nI t), .int (nI d), .ref (ad te)] (Pre D cy cs ad en sz)) (va_Qv (S := Nat → va_E) (fun en1 => en1 = va_up en tb (.inr (1, [.int (nI t), .int (nI d), .ref (ad te)]))) (PostM D cs ad) (Af cs ad sz)) 0 0 (Af cs ad sz) := by
  refine Met.ofW (cc := cX1_init) (maxL := 4) (ret := none) (by decide) rfl ?_
  intro p e s m args below meth c s₁ B hml hv
  obtain ⟨rfl, hsz, hP, hK, hD0⟩ := hv
  have hx := B.exec
  have hb := B.bytes
  have hr := B.returns
  have hts : ∀ w ∈ TB, w.before _ s = true := fun w h => atoms_spec (ws := _ :: TB) B.pre w (List.mem_cons_of_mem _ h)
  have hown : s.vm.findClass RX1 = some m.cls := findClass_of_methodNamed B.named
  have hlocks := B.notSynchronized
  have hh : Hp D (Af cs ad sz) (Af cs ad sz) s.heap s.heap [] cs ad en := ⟨hP, Af_self hD0, va_S.rf⟩
  have hA : ∀ q : Nat, s.heap.size ≤ q → Af cs ad sz q := fun q h => Or.inr (by rw [hsz] at h; exact h)
  have hl := lv_entry ([.ref (ad tb), .int (nI t), .int (nI d), .ref (ad te)]) (n := 4) (Nat.le_of_ble_eq_true rfl)
  rw [lg_entry_eq]
  generalize (lg_sl ([.ref (ad tb), .int (nI t), .int (nI d), .ref (ad te)]) ++ List.replicate (4 - (lg_sl ([.ref (ad tb), .int (nI t), .int (nI d), .ref (ad te)])).length) Slot.unset).toArray = ls at hl ⊢
  have hl : lv_has ls 4 [(0, .ref (ad tb)), (1, .int (nI t)), (2, .int (nI d)), (3, .ref (ad te))] := hl
  have hin : meth.name = "<init>" := (name_of_methodNamed B.named B.method).1
  refine lv_aload_n hx hb dX1_init_0 rfl (lv_at hl 0 rfl) ?_
  refine lv_iload_n hx hb dX1_init_1 rfl (lv_at hl 1 rfl) ?_
  refine lv_iload_n hx hb dX1_init_2 rfl (lv_at hl 2 rfl) ?_
  refine lv_aload_n hx hb dX1_init_3 rfl (lv_at hl 3 rfl) ?_
  refine hp_callMv (va_runI (As := [.int (nI t), .int (nI d), .ref (ad te)]) (rest := []) ⟨hx, hb, hml, hown, hts⟩ (c_X7_init_1 l D cy _ cs ad en tb t d te htb etb) (kw_X7_init hts tw_372 ⟨by decide, by decide⟩) (preS_of hh hK) rfl rfl hl.1 rfl (lv_room (Nat.le_of_ble_eq_true rfl)) dX1_init_4 ⟨Nat.le_of_ble_eq_true rfl, Nat.le_of_ble_eq_true rfl⟩) hh hA (fun H locs en_959 hw_959 hh => ?_)
  have hen_959 := hw_959
  have etb_959 : en_959 tb = .inr (1, [.int (nI t), .int (nI d), .ref (ad te)]) := by rw [hen_959]; exact va_up_self _ _ _
  exact hp_vretM hx hb hr hlocks hh (by rw [hen_959]; try rfl) dX1_init_7
set_option maxHeartbeats 4000000 in
set_option maxRecDepth 100000 in
/-- X1_init -/
theorem c_X1_init_4 (l : Launch) (D : va_G) (cy : Nat → ClassId) (sz : Nat) (cs : List Nat) (ad : Nat → Nat) (en : Nat → va_E) (tb t d te : Nat) (htb : tb ∈ cs) (etb : en tb = .inr (4, [.int 0, .int 0, .null]))  : Met l yX1_init (Cond.code yX1_init cX1_init 4 none :: TB) (rmN 2) (va_Pc [.ref (ad tb), .int (nI t), .int (nI d), .ref (ad te)] (Pre D cy cs ad en sz)) (va_Qv (S := Nat → va_E) (fun en1 => en1 = va_up en tb (.inr (4, [.int (nI t), .int (nI d), .ref (ad te)]))) (PostM D cs ad) (Af cs ad sz)) 0 0 (Af cs ad sz) := by
  refine Met.ofW (cc := cX1_init) (maxL := 4) (ret := none) (by decide) rfl ?_
  intro p e s m args below meth c s₁ B hml hv
  obtain ⟨rfl, hsz, hP, hK, hD0⟩ := hv
  have hx := B.exec
  have hb := B.bytes
  have hr := B.returns
  have hts : ∀ w ∈ TB, w.before _ s = true := fun w h => atoms_spec (ws := _ :: TB) B.pre w (List.mem_cons_of_mem _ h)
  have hown : s.vm.findClass RX1 = some m.cls := findClass_of_methodNamed B.named
  have hlocks := B.notSynchronized
  have hh : Hp D (Af cs ad sz) (Af cs ad sz) s.heap s.heap [] cs ad en := ⟨hP, Af_self hD0, va_S.rf⟩
  have hA : ∀ q : Nat, s.heap.size ≤ q → Af cs ad sz q := fun q h => Or.inr (by rw [hsz] at h; exact h)
  have hl := lv_entry ([.ref (ad tb), .int (nI t), .int (nI d), .ref (ad te)]) (n := 4) (Nat.le_of_ble_eq_true rfl)
  rw [lg_entry_eq]
  generalize (lg_sl ([.ref (ad tb), .int (nI t), .int (nI d), .ref (ad te)]) ++ List.replicate (4 - (lg_sl ([.ref (ad tb), .int (nI t), .int (nI d), .ref (ad te)])).length) Slot.unset).toArray = ls at hl ⊢
  have hl : lv_has ls 4 [(0, .ref (ad tb)), (1, .int (nI t)), (2, .int (nI d)), (3, .ref (ad te))] := hl
  have hin : meth.name = "<init>" := (name_of_methodNamed B.named B.method).1
  refine lv_aload_n hx hb dX1_init_0 rfl (lv_at hl 0 rfl) ?_
  refine lv_iload_n hx hb dX1_init_1 rfl (lv_at hl 1 rfl) ?_
  refine lv_iload_n hx hb dX1_init_2 rfl (lv_at hl 2 rfl) ?_
  refine lv_aload_n hx hb dX1_init_3 rfl (lv_at hl 3 rfl) ?_
  refine hp_callMv (va_runI (As := [.int (nI t), .int (nI d), .ref (ad te)]) (rest := []) ⟨hx, hb, hml, hown, hts⟩ (c_X7_init_4 l D cy _ cs ad en tb t d te htb etb) (kw_X7_init hts tw_372 ⟨by decide, by decide⟩) (preS_of hh hK) rfl rfl hl.1 rfl (lv_room (Nat.le_of_ble_eq_true rfl)) dX1_init_4 ⟨Nat.le_of_ble_eq_true rfl, Nat.le_of_ble_eq_true rfl⟩) hh hA (fun H locs en_960 hw_960 hh => ?_)
  have hen_960 := hw_960
  have etb_960 : en_960 tb = .inr (4, [.int (nI t), .int (nI d), .ref (ad te)]) := by rw [hen_960]; exact va_up_self _ _ _
  exact hp_vretM hx hb hr hlocks hh (by rw [hen_960]; try rfl) dX1_init_7
theorem kw_X1_init {R : Room} {s : State} {args : Array Value} {own : String} {idx : Nat} (hts : ∀ w ∈ TB, w.before args s = true) (hl : Cond.methodLink own idx yX1_init ∈ TB) (hR : 2 + 1 ≤ R.frames ∧ 8 + (4 + 11) + 40 * 2 ≤ R.locals) : CallB R s args own idx yX1_init cX1_init 4 none (Cond.code yX1_init cX1_init 4 none :: TB) (rmC 2 0 0) 0 0 3 ∧ yX1_init.name = "<init>" ∧ (Cond.instanceMethod yX1_init).before args s = true := cwI 3 hts (TB_W tw_371) rfl rfl rfl (hts _ tw_14) (hts _ hl) (hts _ tw_370) rfl (by decide +kernel) hR
set_option maxHeartbeats 4000000 in
set_option maxRecDepth 100000 in
/-- X4_init -/
theorem c_X4_init_4 (l : Launch) (D : va_G) (cy : Nat → ClassId) (sz : Nat) (cs : List Nat) (ad : Nat → Nat) (en : Nat → va_E) (tb t d te : Nat) (htb : tb ∈ cs) (etb : en tb = .inr (4, [.int 0, .int 0, .null]))  : Met l yX4_init (Cond.code yX4_init cX4_init 4 none :: TB) (rmN 3) (va_Pc [.ref (ad tb), .int (nI t), .int (nI d), .ref (ad te)] (Pre D cy cs ad en sz)) (va_Qv (S := Nat → va_E) (fun en1 => en1 = va_up en tb (.inr (4, [.int (nI t), .int (nI d), .ref (ad te)]))) (PostM D cs ad) (Af cs ad sz)) 0 0 (Af cs ad sz) := by
  refine Met.ofW (cc := cX4_init) (maxL := 4) (ret := none) (by decide) rfl ?_
  intro p e s m args below meth c s₁ B hml hv
  obtain ⟨rfl, hsz, hP, hK, hD0⟩ := hv
  have hx := B.exec
  have hb := B.bytes
  have hr := B.returns
  have hts : ∀ w ∈ TB, w.before _ s = true := fun w h => atoms_spec (ws := _ :: TB) B.pre w (List.mem_cons_of_mem _ h)
  have hown : s.vm.findClass RX4 = some m.cls := findClass_of_methodNamed B.named
  have hlocks := B.notSynchronized
  have hh : Hp D (Af cs ad sz) (Af cs ad sz) s.heap s.heap [] cs ad en := ⟨hP, Af_self hD0, va_S.rf⟩
  have hA : ∀ q : Nat, s.heap.size ≤ q → Af cs ad sz q := fun q h => Or.inr (by rw [hsz] at h; exact h)
  have hl := lv_entry ([.ref (ad tb), .int (nI t), .int (nI d), .ref (ad te)]) (n := 4) (Nat.le_of_ble_eq_true rfl)
  rw [lg_entry_eq]
  generalize (lg_sl ([.ref (ad tb), .int (nI t), .int (nI d), .ref (ad te)]) ++ List.replicate (4 - (lg_sl ([.ref (ad tb), .int (nI t), .int (nI d), .ref (ad te)])).length) Slot.unset).toArray = ls at hl ⊢
  have hl : lv_has ls 4 [(0, .ref (ad tb)), (1, .int (nI t)), (2, .int (nI d)), (3, .ref (ad te))] := hl
  have hin : meth.name = "<init>" := (name_of_methodNamed B.named B.method).1
  refine lv_aload_n hx hb dX4_init_0 rfl (lv_at hl 0 rfl) ?_
  refine lv_iload_n hx hb dX4_init_1 rfl (lv_at hl 1 rfl) ?_
  refine lv_iload_n hx hb dX4_init_2 rfl (lv_at hl 2 rfl) ?_
  refine lv_aload_n hx hb dX4_init_3 rfl (lv_at hl 3 rfl) ?_
  refine hp_callMv (va_runI (As := [.int (nI t), .int (nI d), .ref (ad te)]) (rest := []) ⟨hx, hb, hml, hown, hts⟩ (c_X1_init_4 l D cy _ cs ad en tb t d te htb etb) (kw_X1_init hts tw_369 ⟨by decide, by decide⟩) (preS_of hh hK) rfl rfl hl.1 rfl (lv_room (Nat.le_of_ble_eq_true rfl)) dX4_init_4 ⟨Nat.le_of_ble_eq_true rfl, Nat.le_of_ble_eq_true rfl⟩) hh hA (fun H locs en_961 hw_961 hh => ?_)
  have hen_961 := hw_961
  have etb_961 : en_961 tb = .inr (4, [.int (nI t), .int (nI d), .ref (ad te)]) := by rw [hen_961]; exact va_up_self _ _ _
  exact hp_vretM hx hb hr hlocks hh (by rw [hen_961]; try rfl) dX4_init_7
theorem kw_X4_init {R : Room} {s : State} {args : Array Value} {own : String} {idx : Nat} (hts : ∀ w ∈ TB, w.before args s = true) (hl : Cond.methodLink own idx yX4_init ∈ TB) (hR : 3 + 1 ≤ R.frames ∧ 8 + (4 + 11) + 40 * 3 ≤ R.locals) : CallB R s args own idx yX4_init cX4_init 4 none (Cond.code yX4_init cX4_init 4 none :: TB) (rmC 3 0 0) 0 0 3 ∧ yX4_init.name = "<init>" ∧ (Cond.instanceMethod yX4_init).before args s = true := cwI 3 hts (TB_W tw_368) rfl rfl rfl (hts _ tw_15) (hts _ hl) (hts _ tw_367) rfl (by decide +kernel) hR
set_option maxHeartbeats 8000000 in
set_option maxRecDepth 100000 in
/-- makeTable -/
theorem c_X8_makeTable (l : Launch) (D : va_G) (cy : Nat → ClassId) (sz : Nat) (ad : Nat → Nat) (en : Nat → va_E) (n : Nat) (hn : 115 ≤ n) (hI : SX cy (List.range n) ad en) (t q : Nat) (hq115 : 115 ≤ q) (hqn : q < n) (f0 : Nat → Int32) (dq : Nat) (hdq : ∀ d, rdI (en 1) 5 = nI d → d ≤ 3 → dq = d * d) (eq : en q = .inl (cy 0, dq, .inl f0)) : Met l yX8_makeTable (Cond.code yX8_makeTable cX8_makeTable 3 (some (.object "AnyOrder$Table")) :: TB) (rmC 4 1 3) (va_Pc [.ref (ad 1), .int (nI t), .ref (ad q)] (PreC D cy n ad en sz)) (va_Qq (S := Nat × (Nat → Nat) × (Nat → va_E)) (fun r u => (∀ i, i < n → u.2.1 i = ad i) ∧ (∀ c, (c < n) → u.2.2 c = en c) ∧ u.1 = n + 1 ∧ r = some (u.2.1 n) ∧ SX cy (List.range (n + 1)) u.2.1 u.2.2 ∧ ∃ ci : Nat, (ci = 6 ∨ ci = 1 ∨ ci = 4) ∧ u.2.2 n = .inr (ci, [.int (nI t), .int (rdI (en 1) 5), .ref (u.2.1 q)]) ∧ kdP ci f0 (rdI (en 1) 5).toNatClampNeg) (PostV D (Af (List.range n) ad sz)) (Af (List.range n) ad sz)) 1 3 (Af (List.range n) ad sz) := by
  refine Met.ofW (cc := cX8_makeTable) (maxL := 3) (ret := (some (.object "AnyOrder$Table"))) (by decide) rfl ?_
  intro p e s m args below meth c s₁ B hml hv
  obtain ⟨rfl, ⟨hsz, hP, hK, hD0⟩, hX⟩ := hv
  have hx := B.exec
  have hb := B.bytes
  have hr := B.returns
  have hts : ∀ w ∈ TB, w.before _ s = true := fun w h => atoms_spec (ws := _ :: TB) B.pre w (List.mem_cons_of_mem _ h)
  have hown : s.vm.findClass RX8 = some m.cls := findClass_of_methodNamed B.named
  have hlocks := B.notSynchronized
  have hh : Hp D (Af (List.range n) ad sz) (Af (List.range n) ad sz) s.heap s.heap [] (List.range n) ad en := ⟨hP, Af_self hD0, va_S.rf⟩
  have hA : ∀ q : Nat, s.heap.size ≤ q → (Af (List.range n) ad sz) q := fun q h => Or.inr (by rw [hsz] at h; exact h)
  generalize (Af (List.range n) ad sz) = A at hh hA ⊢
  have hl := lv_entry ([.ref (ad 1), .int (nI t), .ref (ad q)]) (n := 3) (Nat.le_of_ble_eq_true rfl)
  rw [lg_entry_eq]
  generalize (lg_sl ([.ref (ad 1), .int (nI t), .ref (ad q)]) ++ List.replicate (3 - (lg_sl ([.ref (ad 1), .int (nI t), .ref (ad q)])).length) Slot.unset).toArray = ls at hl ⊢
  have hl : lv_has ls 3 [(0, .ref (ad 1)), (1, .int (nI t)), (2, .ref (ad q))] := hl
  have hf0 : ∀ c, (c < n) → en c = en c := fun _ _ => rfl
  obtain ⟨cnt, d, mm, es962, hcnt, hd2, hd3, hmm⟩ := get_T hI
  have hdd : d * d ≤ 9 := Nat.mul_le_mul hd3 hd3
  have hdq9 := hdq d (by rw [es962]; rfl) hd3
  rw [hdq9] at eq
  refine lv_aload_n hx hb dX8_makeTable_0 rfl (lv_at hl 0 rfl) ?_
  refine lv_aload_n hx hb dX8_makeTable_1 rfl (lv_at hl 2 rfl) ?_
  refine hp_callRi (va_runV (As := [.ref (ad q)]) (rest := []) ⟨hx, hb, hml, hown, hts⟩ (c_X8_isShuffle l D cy _ (List.range n) ad en (List.mem_range.mpr (by omega)) cnt d mm hcnt hd2 hd3 hmm hdd q (List.mem_range.mpr (by omega)) f0 es962 eq) (kw_X8_isShuffle hts tw_356 ⟨by decide, by decide⟩) (preV_of hh hK (List.mem_range.mpr (by omega)) es962 rfl) rfl rfl hl.1 rfl (lv_room (Nat.le_of_ble_eq_true rfl)) dX8_makeTable_2 ⟨Nat.le_of_ble_eq_true rfl, Nat.le_of_ble_eq_true rfl⟩) hh hA (fun r_963 H locs hw_963 hh => ?_)
  rcases hw_963 with ⟨hb_963, ht_963⟩ | ⟨hb_963, ht_963⟩
  · obtain rfl : r_963 = 1 := hb_963
    refine lv_if_eq (tgt := 22) hx hb dX8_makeTable_5 (by decide) (fun c_0 => absurd c_0 (by decide)) (fun _ => ?_)
    refine hq_new (ci := 4) (fs := [.int 0, .int 0, .null]) hx hb hts ix4 tyX4 tyX4_ok hown (hts _ tw_364) (hts _ tw_365) (hts _ tw_15) hK hh hA rfl (fun j hj => by rcases (show j = 0 ∨ j = 1 ∨ j = 2 by omega) with rfl | rfl | rfl <;> rfl) (Nat.le_of_ble_eq_true rfl) (Nat.le_of_ble_eq_true rfl) dX8_makeTable_8 (fun q_964 H ad_964 en_964 had_964 hen_964 hh => ?_)
    have hda_964 : ∀ i, i < n → ad_964 i = ad i := fun i hi => by rw [had_964, va_up_ne _ _ (by omega)]
    have hue_964 : ∀ i, i < n → en_964 i = en i := fun i hi => by rw [hen_964, va_up_ne _ _ (by omega)]
    have hh : Hp D A A s.heap H _ (List.range (n + 1)) ad_964 en_964 := hh
    have hl : lv_has ls 3 [(0, .ref (ad_964 1)), (1, .int (nI t)), (2, .ref (ad_964 q))] := by rw [hda_964 1 (by omega), hda_964 q (by omega)]; exact hl
    have eq_964 : en_964 q = .inl (cy 0, (d * d), .inl f0) := by rw [hue_964 q (by omega)]; exact eq
    have es962_964 : en_964 1 = .inr (7, [.ref (ad_964 2), .ref (ad_964 3), .ref (ad_964 10), .ref (ad_964 11), .int (nI cnt), .int (nI d), .int (nI mm)]) := by rw [hue_964 1 (by omega), hda_964 2 (by omega), hda_964 3 (by omega), hda_964 10 (by omega), hda_964 11 (by omega)]; exact es962
    have b1_964 : en 1 = .inr (7, [.ref (ad_964 2), .ref (ad_964 3), .ref (ad_964 10), .ref (ad_964 11), .int (nI cnt), .int (nI d), .int (nI mm)]) := by rw [hda_964 2 (by omega), hda_964 3 (by omega), hda_964 10 (by omega), hda_964 11 (by omega)]; exact es962
    have hI_964 : SX cy (List.range (n + 1)) ad_964 en_964 := SX_grow hI (fun c h => List.mem_range.mpr (by omega)) (fun i h => hda_964 i (by omega)) (fun i h => hue_964 i (by omega))
    have hf_964 : ∀ c, (c < n) → en_964 c = en c := fun c hc => (hue_964 c (by omega)).trans (hf0 c hc)
    have en1_964 : en_964 n = .inr (4, [.int 0, .int 0, .null]) := by rw [hen_964]; exact va_up_self _ _ _
    refine W.eq (g2 := F0 m 11 ls [.ref (ad_964 n)]) (by rw [show ad_964 n = q_964 from by rw [had_964]; exact va_up_self _ _ _]) ?_
    refine W.widen (k := 1) (n := 3) (by omega) (by omega) ?_
    refine lv_dup hx hb dX8_makeTable_11 rfl ?_
    refine lv_iload_n hx hb dX8_makeTable_12 rfl (lv_at hl 1 rfl) ?_
    refine lv_aload_n hx hb dX8_makeTable_13 rfl (lv_at hl 0 rfl) ?_
    refine hp_get hx hb hts ix8 hown hK hh (q := 1) rfl (List.mem_range.mpr (by omega)) es962_964 rfl 5 (by decide) (hts _ tw_44) (fun _ h9 => h9) rfl dX8_makeTable_14 ?_
    refine lv_aload_n hx hb dX8_makeTable_17 rfl (lv_at hl 2 rfl) ?_
    refine hp_callMv (va_runI (As := [.int (nI t), .int (nI d), .ref (ad_964 q)]) (rest := [.ref (ad_964 n)]) ⟨hx, hb, hml, hown, hts⟩ (c_X4_init_4 l D cy _ (List.range (n + 1)) ad_964 en_964 n t d q (List.mem_range.mpr (by omega)) en1_964) (kw_X4_init hts tw_366 ⟨by decide, by decide⟩) (preS_of hh hK) rfl rfl hl.1 rfl (lv_room (Nat.le_of_ble_eq_true rfl)) dX8_makeTable_18 ⟨Nat.le_of_ble_eq_true rfl, Nat.le_of_ble_eq_true rfl⟩) hh hA (fun H locs en_965 hw_965 hh => ?_)
    have hen_965 := hw_965
    have eq_965 : en_965 q = .inl (cy 0, (d * d), .inl f0) := by rw [hen_965, va_up_ne _ _ (by omega)]; exact eq_964
    have es962_965 : en_965 1 = .inr (7, [.ref (ad_964 2), .ref (ad_964 3), .ref (ad_964 10), .ref (ad_964 11), .int (nI cnt), .int (nI d), .int (nI mm)]) := by rw [hen_965, va_up_ne _ _ (by omega)]; exact es962_964
    have en1_965 : en_965 n = .inr (4, [.int (nI t), .int (nI d), .ref (ad_964 q)]) := by rw [hen_965]; exact va_up_self _ _ _
    have hI_965 : SX cy (List.range (n + 1)) ad_964 en_965 := SX_pt hI_964 (fun c => c = n) (fun c hc => by rw [hen_965, va_up_ne _ _ hc]) (fun c hc h9 => absurd h9 (by omega))
    have hf_965 : ∀ c, (c < n) → en_965 c = en c := fun c hc => Eq.trans (show en_965 c = en_964 c from by rw [hen_965, va_up_ne _ _ (by omega)]) (hf_964 c hc)
    exact hv_aret (v := some (ad_964 n)) rfl hx hb hr (Or.inl ⟨_, rfl⟩) hlocks hh (⟨(fun i hi => by dsimp only; rw [hda_964 i (by omega)]), hf_965, rfl, rfl, hI_965, 4, Or.inr (Or.inr rfl), by dsimp only; rw [show rdI (en 1) 5 = nI d from by rw [es962]; rfl]; exact en1_965, by rw [show rdI (en 1) 5 = nI d from by rw [es962]; rfl, nI_clamp (by omega)]; exact Or.inl ⟨rfl, ht_963⟩⟩) dX8_makeTable_21
  · obtain rfl : r_963 = 0 := hb_963
    refine lv_if_eq (tgt := 22) hx hb dX8_makeTable_5 (by decide) (fun _ => ?_) (fun c_0 => absurd c_0 (by decide))
    refine lv_aload_n hx hb dX8_makeTable_22 rfl (lv_at hl 0 rfl) ?_
    refine lv_aload_n hx hb dX8_makeTable_23 rfl (lv_at hl 2 rfl) ?_
    refine hp_callRi (va_runV (As := [.ref (ad q)]) (rest := []) ⟨hx, hb, hml, hown, hts⟩ (c_X8_isEven l D cy _ (List.range n) ad en (List.mem_range.mpr (by omega)) cnt d mm hcnt hd2 hd3 hmm hdd q (List.mem_range.mpr (by omega)) f0 es962 eq) (kw_X8_isEven hts tw_360 ⟨by decide, by decide⟩) (preV_of hh hK (List.mem_range.mpr (by omega)) es962 rfl) rfl rfl hl.1 rfl (lv_room (Nat.le_of_ble_eq_true rfl)) dX8_makeTable_24 ⟨Nat.le_of_ble_eq_true rfl, Nat.le_of_ble_eq_true rfl⟩) hh hA (fun r_966 H locs hw_966 hh => ?_)
    rcases hw_966 with ⟨hb_966, ht_966⟩ | ⟨hb_966, ht_966⟩
    · obtain rfl : r_966 = 1 := hb_966
      refine lv_if_eq (tgt := 46) hx hb dX8_makeTable_27 (by decide) (fun c_0 => absurd c_0 (by decide)) (fun _ => ?_)
      refine hq_new (ci := 1) (fs := [.int 0, .int 0, .null]) hx hb hts ix1 tyX1 tyX1_ok hown (hts _ tw_391) (hts _ tw_392) (hts _ tw_14) hK hh hA rfl (fun j hj => by rcases (show j = 0 ∨ j = 1 ∨ j = 2 by omega) with rfl | rfl | rfl <;> rfl) (Nat.le_of_ble_eq_true rfl) (Nat.le_of_ble_eq_true rfl) dX8_makeTable_30 (fun q_967 H ad_967 en_967 had_967 hen_967 hh => ?_)
      have hda_967 : ∀ i, i < n → ad_967 i = ad i := fun i hi => by rw [had_967, va_up_ne _ _ (by omega)]
      have hue_967 : ∀ i, i < n → en_967 i = en i := fun i hi => by rw [hen_967, va_up_ne _ _ (by omega)]
      have hh : Hp D A A s.heap H _ (List.range (n + 1)) ad_967 en_967 := hh
      have hl : lv_has ls 3 [(0, .ref (ad_967 1)), (1, .int (nI t)), (2, .ref (ad_967 q))] := by rw [hda_967 1 (by omega), hda_967 q (by omega)]; exact hl
      have eq_967 : en_967 q = .inl (cy 0, (d * d), .inl f0) := by rw [hue_967 q (by omega)]; exact eq
      have es962_967 : en_967 1 = .inr (7, [.ref (ad_967 2), .ref (ad_967 3), .ref (ad_967 10), .ref (ad_967 11), .int (nI cnt), .int (nI d), .int (nI mm)]) := by rw [hue_967 1 (by omega), hda_967 2 (by omega), hda_967 3 (by omega), hda_967 10 (by omega), hda_967 11 (by omega)]; exact es962
      have b1_967 : en 1 = .inr (7, [.ref (ad_967 2), .ref (ad_967 3), .ref (ad_967 10), .ref (ad_967 11), .int (nI cnt), .int (nI d), .int (nI mm)]) := by rw [hda_967 2 (by omega), hda_967 3 (by omega), hda_967 10 (by omega), hda_967 11 (by omega)]; exact es962
      have hI_967 : SX cy (List.range (n + 1)) ad_967 en_967 := SX_grow hI (fun c h => List.mem_range.mpr (by omega)) (fun i h => hda_967 i (by omega)) (fun i h => hue_967 i (by omega))
      have hf_967 : ∀ c, (c < n) → en_967 c = en c := fun c hc => (hue_967 c (by omega)).trans (hf0 c hc)
      have en1_967 : en_967 n = .inr (1, [.int 0, .int 0, .null]) := by rw [hen_967]; exact va_up_self _ _ _
      refine W.eq (g2 := F0 m 33 ls [.ref (ad_967 n)]) (by rw [show ad_967 n = q_967 from by rw [had_967]; exact va_up_self _ _ _]) ?_
      refine W.widen (k := 1) (n := 3) (by omega) (by omega) ?_
      refine lv_dup hx hb dX8_makeTable_33 rfl ?_
      refine lv_iload_n hx hb dX8_makeTable_34 rfl (lv_at hl 1 rfl) ?_
      refine lv_aload_n hx hb dX8_makeTable_35 rfl (lv_at hl 0 rfl) ?_
      refine hp_get hx hb hts ix8 hown hK hh (q := 1) rfl (List.mem_range.mpr (by omega)) es962_967 rfl 5 (by decide) (hts _ tw_44) (fun _ h9 => h9) rfl dX8_makeTable_36 ?_
      refine lv_aload_n hx hb dX8_makeTable_39 rfl (lv_at hl 2 rfl) ?_
      refine hp_callMv (va_runI (As := [.int (nI t), .int (nI d), .ref (ad_967 q)]) (rest := [.ref (ad_967 n)]) ⟨hx, hb, hml, hown, hts⟩ (c_X1_init_1 l D cy _ (List.range (n + 1)) ad_967 en_967 n t d q (List.mem_range.mpr (by omega)) en1_967) (kw_X1_init hts tw_393 ⟨by decide, by decide⟩) (preS_of hh hK) rfl rfl hl.1 rfl (lv_room (Nat.le_of_ble_eq_true rfl)) dX8_makeTable_40 ⟨Nat.le_of_ble_eq_true rfl, Nat.le_of_ble_eq_true rfl⟩) hh hA (fun H locs en_968 hw_968 hh => ?_)
      have hen_968 := hw_968
      have eq_968 : en_968 q = .inl (cy 0, (d * d), .inl f0) := by rw [hen_968, va_up_ne _ _ (by omega)]; exact eq_967
      have es962_968 : en_968 1 = .inr (7, [.ref (ad_967 2), .ref (ad_967 3), .ref (ad_967 10), .ref (ad_967 11), .int (nI cnt), .int (nI d), .int (nI mm)]) := by rw [hen_968, va_up_ne _ _ (by omega)]; exact es962_967
      have en1_968 : en_968 n = .inr (1, [.int (nI t), .int (nI d), .ref (ad_967 q)]) := by rw [hen_968]; exact va_up_self _ _ _
      have hI_968 : SX cy (List.range (n + 1)) ad_967 en_968 := SX_pt hI_967 (fun c => c = n) (fun c hc => by rw [hen_968, va_up_ne _ _ hc]) (fun c hc h9 => absurd h9 (by omega))
      have hf_968 : ∀ c, (c < n) → en_968 c = en c := fun c hc => Eq.trans (show en_968 c = en_967 c from by rw [hen_968, va_up_ne _ _ (by omega)]) (hf_967 c hc)
      refine lv_goto (tgt := 59) hx hb dX8_makeTable_43 (by decide) ?_
      exact hv_aret (v := some (ad_967 n)) rfl hx hb hr (Or.inl ⟨_, rfl⟩) hlocks hh (⟨(fun i hi => by dsimp only; rw [hda_967 i (by omega)]), hf_968, rfl, rfl, hI_968, 1, Or.inr (Or.inl rfl), by dsimp only; rw [show rdI (en 1) 5 = nI d from by rw [es962]; rfl]; exact en1_968, by rw [show rdI (en 1) 5 = nI d from by rw [es962]; rfl, nI_clamp (by omega)]; exact Or.inr (Or.inl ⟨rfl, ht_963, ht_966⟩)⟩) dX8_makeTable_59
    · obtain rfl : r_966 = 0 := hb_966
      refine lv_if_eq (tgt := 46) hx hb dX8_makeTable_27 (by decide) (fun _ => ?_) (fun c_0 => absurd c_0 (by decide))
      refine hq_new (ci := 6) (fs := [.int 0, .int 0, .null]) hx hb hts ix7 tyX7 tyX7_ok hown (hts _ tw_31) (hts _ tw_398) (hts _ tw_13) hK hh hA rfl (fun j hj => by rcases (show j = 0 ∨ j = 1 ∨ j = 2 by omega) with rfl | rfl | rfl <;> rfl) (Nat.le_of_ble_eq_true rfl) (Nat.le_of_ble_eq_true rfl) dX8_makeTable_46 (fun q_969 H ad_969 en_969 had_969 hen_969 hh => ?_)
      have hda_969 : ∀ i, i < n → ad_969 i = ad i := fun i hi => by rw [had_969, va_up_ne _ _ (by omega)]
      have hue_969 : ∀ i, i < n → en_969 i = en i := fun i hi => by rw [hen_969, va_up_ne _ _ (by omega)]
      have hh : Hp D A A s.heap H _ (List.range (n + 1)) ad_969 en_969 := hh
      have hl : lv_has ls 3 [(0, .ref (ad_969 1)), (1, .int (nI t)), (2, .ref (ad_969 q))] := by rw [hda_969 1 (by omega), hda_969 q (by omega)]; exact hl
      have eq_969 : en_969 q = .inl (cy 0, (d * d), .inl f0) := by rw [hue_969 q (by omega)]; exact eq
      have es962_969 : en_969 1 = .inr (7, [.ref (ad_969 2), .ref (ad_969 3), .ref (ad_969 10), .ref (ad_969 11), .int (nI cnt), .int (nI d), .int (nI mm)]) := by rw [hue_969 1 (by omega), hda_969 2 (by omega), hda_969 3 (by omega), hda_969 10 (by omega), hda_969 11 (by omega)]; exact es962
      have b1_969 : en 1 = .inr (7, [.ref (ad_969 2), .ref (ad_969 3), .ref (ad_969 10), .ref (ad_969 11), .int (nI cnt), .int (nI d), .int (nI mm)]) := by rw [hda_969 2 (by omega), hda_969 3 (by omega), hda_969 10 (by omega), hda_969 11 (by omega)]; exact es962
      have hI_969 : SX cy (List.range (n + 1)) ad_969 en_969 := SX_grow hI (fun c h => List.mem_range.mpr (by omega)) (fun i h => hda_969 i (by omega)) (fun i h => hue_969 i (by omega))
      have hf_969 : ∀ c, (c < n) → en_969 c = en c := fun c hc => (hue_969 c (by omega)).trans (hf0 c hc)
      have en1_969 : en_969 n = .inr (6, [.int 0, .int 0, .null]) := by rw [hen_969]; exact va_up_self _ _ _
      refine W.eq (g2 := F0 m 49 ls [.ref (ad_969 n)]) (by rw [show ad_969 n = q_969 from by rw [had_969]; exact va_up_self _ _ _]) ?_
      refine W.widen (k := 1) (n := 3) (by omega) (by omega) ?_
      refine lv_dup hx hb dX8_makeTable_49 rfl ?_
      refine lv_iload_n hx hb dX8_makeTable_50 rfl (lv_at hl 1 rfl) ?_
      refine lv_aload_n hx hb dX8_makeTable_51 rfl (lv_at hl 0 rfl) ?_
      refine hp_get hx hb hts ix8 hown hK hh (q := 1) rfl (List.mem_range.mpr (by omega)) es962_969 rfl 5 (by decide) (hts _ tw_44) (fun _ h9 => h9) rfl dX8_makeTable_52 ?_
      refine lv_aload_n hx hb dX8_makeTable_55 rfl (lv_at hl 2 rfl) ?_
      refine hp_callMv (va_runI (As := [.int (nI t), .int (nI d), .ref (ad_969 q)]) (rest := [.ref (ad_969 n)]) ⟨hx, hb, hml, hown, hts⟩ (c_X7_init_6 l D cy _ (List.range (n + 1)) ad_969 en_969 n t d q (List.mem_range.mpr (by omega)) en1_969) (kw_X7_init hts tw_399 ⟨by decide, by decide⟩) (preS_of hh hK) rfl rfl hl.1 rfl (lv_room (Nat.le_of_ble_eq_true rfl)) dX8_makeTable_56 ⟨Nat.le_of_ble_eq_true rfl, Nat.le_of_ble_eq_true rfl⟩) hh hA (fun H locs en_970 hw_970 hh => ?_)
      have hen_970 := hw_970
      have eq_970 : en_970 q = .inl (cy 0, (d * d), .inl f0) := by rw [hen_970, va_up_ne _ _ (by omega)]; exact eq_969
      have es962_970 : en_970 1 = .inr (7, [.ref (ad_969 2), .ref (ad_969 3), .ref (ad_969 10), .ref (ad_969 11), .int (nI cnt), .int (nI d), .int (nI mm)]) := by rw [hen_970, va_up_ne _ _ (by omega)]; exact es962_969
      have en1_970 : en_970 n = .inr (6, [.int (nI t), .int (nI d), .ref (ad_969 q)]) := by rw [hen_970]; exact va_up_self _ _ _
      have hI_970 : SX cy (List.range (n + 1)) ad_969 en_970 := SX_pt hI_969 (fun c => c = n) (fun c hc => by rw [hen_970, va_up_ne _ _ hc]) (fun c hc h9 => absurd h9 (by omega))
      have hf_970 : ∀ c, (c < n) → en_970 c = en c := fun c hc => Eq.trans (show en_970 c = en_969 c from by rw [hen_970, va_up_ne _ _ (by omega)]) (hf_969 c hc)
      exact hv_aret (v := some (ad_969 n)) rfl hx hb hr (Or.inl ⟨_, rfl⟩) hlocks hh (⟨(fun i hi => by dsimp only; rw [hda_969 i (by omega)]), hf_970, rfl, rfl, hI_970, 6, Or.inl rfl, by dsimp only; rw [show rdI (en 1) 5 = nI d from by rw [es962]; rfl]; exact en1_970, by rw [show rdI (en 1) 5 = nI d from by rw [es962]; rfl, nI_clamp (by omega)]; exact Or.inr (Or.inr ⟨rfl, ht_966⟩)⟩) dX8_makeTable_59
theorem kw_X8_makeTable {R : Room} {s : State} {args : Array Value} {own : String} {idx : Nat} (hts : ∀ w ∈ TB, w.before args s = true) (hl : Cond.methodLink own idx yX8_makeTable ∈ TB) (hR : 4 + 1 ≤ R.frames ∧ 8 + (3 + 11) + 40 * 4 ≤ R.locals) : CallW R s args own RX8 idx yX8_makeTable cX8_makeTable 3 (some (.object "AnyOrder$Table")) (Cond.code yX8_makeTable cX8_makeTable 3 (some (.object "AnyOrder$Table")) :: TB) (rmC 4 1 3) 1 3 2 := cwV 2 hts (TB_V hl tw_354 ts_4 tw_2 tw_355) rfl rfl rfl (by decide +kernel) hR
set_option maxHeartbeats 8000000 in
set_option maxRecDepth 100000 in
/-- add -/
theorem c_X8_add (l : Launch) (D : va_G) (cy : Nat → ClassId) (sz : Nat) (ad : Nat → Nat) (en : Nat → va_E) (n : Nat) (hn : 115 ≤ n) (hI : SX cy (List.range n) ad en) (J I9 : Nat) (hJ : J < 4) (hcnt6 : (rdI (en 1) 4).toInt < 6) (hIL : ∀ d, rdI (en 1) 5 = nI d → d ≤ 3 → I9 + d * d ≤ 40)  : Met l yX8_add (Cond.code yX8_add cX8_add 6 (some .int) :: TB) (rmC 5 2 12) (va_Pc [.ref (ad 1), .ref (ad (108 + 2 * J)), .int (nI I9)] (PreC D cy n ad en sz)) (va_Qi (S := Nat × (Nat → Nat) × (Nat → va_E)) (fun r u => u.1 = n + 2 ∧ ADP cy J I9 n ad en r u.2.1 u.2.2) (PostV D (Af (List.range n) ad sz)) (Af (List.range n) ad sz)) 2 12 (Af (List.range n) ad sz) := by
  refine Met.ofW (cc := cX8_add) (maxL := 6) (ret := (some .int)) (by decide) rfl ?_
  intro p e s m args below meth c s₁ B hml hv
  obtain ⟨rfl, ⟨hsz, hP, hK, hD0⟩, hX⟩ := hv
  have hx := B.exec
  have hb := B.bytes
  have hr := B.returns
  have hts : ∀ w ∈ TB, w.before _ s = true := fun w h => atoms_spec (ws := _ :: TB) B.pre w (List.mem_cons_of_mem _ h)
  have hown : s.vm.findClass RX8 = some m.cls := findClass_of_methodNamed B.named
  have hlocks := B.notSynchronized
  have hh : Hp D (Af (List.range n) ad sz) (Af (List.range n) ad sz) s.heap s.heap [] (List.range n) ad en := ⟨hP, Af_self hD0, va_S.rf⟩
  have hA : ∀ q : Nat, s.heap.size ≤ q → (Af (List.range n) ad sz) q := fun q h => Or.inr (by rw [hsz] at h; exact h)
  generalize (Af (List.range n) ad sz) = A at hh hA ⊢
  have hl := lv_entry ([.ref (ad 1), .ref (ad (108 + 2 * J)), .int (nI I9)]) (n := 6) (Nat.le_of_ble_eq_true rfl)
  rw [lg_entry_eq]
  generalize (lg_sl ([.ref (ad 1), .ref (ad (108 + 2 * J)), .int (nI I9)]) ++ List.replicate (6 - (lg_sl ([.ref (ad 1), .ref (ad (108 + 2 * J)), .int (nI I9)])).length) Slot.unset).toArray = ls at hl ⊢
  have hl : lv_has ls 6 [(0, .ref (ad 1)), (1, .ref (ad (108 + 2 * J))), (2, .int (nI I9))] := hl
  have hf0 : ∀ c, (c < n ∧ c ≠ 1 ∧ c ≠ 2 ∧ (c < 4 ∨ 10 ≤ c)) → en c = en c := fun _ _ => rfl
  obtain ⟨cnt, d, mm, es971, hcnt, hd2, hd3, hmm⟩ := get_T hI
  have hdd : d * d ≤ 9 := Nat.mul_le_mul hd3 hd3
  have hdd4 : 4 ≤ d * d := Nat.mul_le_mul hd2 hd2
  have hc6 : cnt < 6 := by rw [show rdI (en 1) 4 = nI cnt from by rw [es971]; rfl, nI_toInt (by omega)] at hcnt6; omega
  have hIL9 : I9 + d * d ≤ 40 := hIL d (by rw [es971]; rfl) hd3
  obtain ⟨f_972, es972⟩ := get_all hI
  refine lv_aload_n hx hb dX8_add_0 rfl (lv_at hl 0 rfl) ?_
  refine hp_get hx hb hts ix8 hown hK hh (q := 1) rfl (List.mem_range.mpr (by omega)) es971 rfl 4 (by decide) (hts _ tw_43) (fun _ h9 => h9) rfl dX8_add_1 ?_
  refine lv_istore_n (lv' := [(3, .int (nI cnt)), (0, .ref (ad 1)), (1, .ref (ad (108 + 2 * J))), (2, .int (nI I9))]) hx hb dX8_add_4 rfl hl (by decide) rfl (fun ls hl => ?_)
  refine lv_aload_n hx hb dX8_add_5 rfl (lv_at hl 2 rfl) ?_
  refine lv_iload_n hx hb dX8_add_6 rfl (lv_at hl 3 rfl) ?_
  refine lv_iload_n hx hb dX8_add_7 rfl (lv_at hl 3 rfl) ?_
  refine lv_aload_n hx hb dX8_add_8 rfl (lv_at hl 1 rfl) ?_
  refine hp_get hx hb hts ix8 hown hK hh (q := 1) rfl (List.mem_range.mpr (by omega)) es971 rfl 5 (by decide) (hts _ tw_44) (fun _ h9 => h9) rfl dX8_add_9 ?_
  refine lv_aload_n hx hb dX8_add_12 rfl (lv_at hl 1 rfl) ?_
  refine hp_get hx hb hts ix8 hown hK hh (q := 1) rfl (List.mem_range.mpr (by omega)) es971 rfl 5 (by decide) (hts _ tw_44) (fun _ h9 => h9) rfl dX8_add_13 ?_
  refine lv_imul hx hb dX8_add_16 ?_
  rw [pk_mul d d]
  refine lv_iadd hx hb dX8_add_17 ?_
  rw [nI_add I9 (d * d)]
  obtain ⟨f_973, es973⟩ := get_shc hI (j := J) (by omega)
  refine hv_callq (va_runS (As := [.ref (ad (108 + 2 * J)), .int (nI I9), .int (nI (I9 + (d * d)))]) (rest := []) ⟨hx, hb, hml, hown, hts⟩ (c_J7_copyOfRange_feecc l D cy _ ad en n (by omega) hI J I9 (d * d) (by omega) (by omega) (by omega) (by omega)) (kw_J7_copyOfRange_feecc hts tw_326 ⟨by decide, by decide⟩) (preC_of hh hK hX) rfl rfl hl.1 rfl (lv_room (Nat.le_of_ble_eq_true rfl)) dX8_add_18 ⟨Nat.le_of_ble_eq_true rfl, Nat.le_of_ble_eq_true rfl⟩) hh hA (fun r_974 H locs n_974 ad_974 en_974 hw_974 hh => ?_)
  obtain ⟨hda_974, hue_974, hn1_974, hr_974, hI_974, g_974, eg_974, hg_974⟩ := hw_974
  dsimp only at hda_974 hue_974 hn1_974 hr_974 hI_974 eg_974
  subst hn1_974
  rw [hr_974]
  have hl : lv_has ls 6 [(3, .int (nI cnt)), (0, .ref (ad_974 1)), (1, .ref (ad_974 (108 + 2 * J))), (2, .int (nI I9))] := by rw [hda_974 1 (by omega), hda_974 (108 + 2 * J) (by omega)]; exact hl
  have es971_974 : en_974 1 = .inr (7, [.ref (ad_974 2), .ref (ad_974 3), .ref (ad_974 10), .ref (ad_974 11), .int (nI cnt), .int (nI d), .int (nI mm)]) := by rw [hue_974 1 (by omega), hda_974 2 (by omega), hda_974 3 (by omega), hda_974 10 (by omega), hda_974 11 (by omega)]; exact es971
  have es972_974 : en_974 2 = .inl (cy 3, 6, .inr (.inr (.inr (.inr f_972)))) := by rw [hue_974 2 (by omega)]; exact es972
  have es973_974 : en_974 (108 + 2 * J) = .inl (cy 0, 40, .inl f_973) := by rw [hue_974 (108 + 2 * J) (by omega)]; exact es973
  have b1_974 : en 1 = .inr (7, [.ref (ad_974 2), .ref (ad_974 3), .ref (ad_974 10), .ref (ad_974 11), .int (nI cnt), .int (nI d), .int (nI mm)]) := by rw [hda_974 2 (by omega), hda_974 3 (by omega), hda_974 10 (by omega), hda_974 11 (by omega)]; exact es971
  have b2_974 : en 2 = .inl (cy 3, 6, .inr (.inr (.inr (.inr f_972)))) := by exact es972
  have b1082J_974 : en (108 + 2 * J) = .inl (cy 0, 40, .inl f_973) := by exact es973
  refine W.eq (g2 := F0 m 21 ls [.ref (ad_974 n)]) rfl ?_
  have hf_974 : ∀ c, (c < n ∧ c ≠ 1 ∧ c ≠ 2 ∧ (c < 4 ∨ 10 ≤ c)) → en_974 c = en c := fun c hc => (hue_974 c (by omega)).trans (hf0 c hc)
  refine lv_astore (lv' := [(4, .ref (ad_974 n)), (3, .int (nI cnt)), (0, .ref (ad_974 1)), (1, .ref (ad_974 (108 + 2 * J))), (2, .int (nI I9))]) hx hb dX8_add_21 hl (by decide) rfl (fun ls hl => ?_)
  refine lv_iconst (v := 0) hx hb dX8_add_23 (by decide) ?_
  refine lv_istore (lv' := [(5, .int 0), (4, .ref (ad_974 n)), (3, .int (nI cnt)), (0, .ref (ad_974 1)), (1, .ref (ad_974 (108 + 2 * J))), (2, .int (nI I9))]) hx hb dX8_add_24 hl (by decide) rfl (fun ls hl => ?_)
  have loop_975 : ∀ (fu j975 : Nat)  (en_975 : Nat → va_E) (ls : Array Slot) (H : Heap) (locs : List Loc), 0 ≤ j975 → j975 ≤ (d * d) → (d * d) < j975 + fu → SX cy (List.range (n + 1)) ad_974 en_975 → (∀ c, (c < n ∧ c ≠ 1 ∧ c ≠ 2 ∧ (c < 4 ∨ 10 ≤ c)) → en_975 c = en c) → (∀ x, x < j975 → rdL (en_975 (4 + cnt)) x = restL mm (g_974 x).toInt64) → (∀ t, t < 6 → t ≠ cnt → en_975 (4 + t) = en (4 + t)) → (en_975 1 = .inr (7, [.ref (ad_974 2), .ref (ad_974 3), .ref (ad_974 10), .ref (ad_974 11), .int (nI cnt), .int (nI d), .int (nI mm)])) → (en_975 2 = .inl (cy 3, 6, .inr (.inr (.inr (.inr f_972))))) → (en_975 n = .inl (cy 0, (d * d), .inl g_974)) → lv_has ls 6 [(5, .int (nI j975)), (4, .ref (ad_974 n)), (3, .int (nI cnt)), (0, .ref (ad_974 1)), (1, .ref (ad_974 (108 + 2 * J))), (2, .int (nI I9))] → Hp D A A s.heap H locs (List.range (n + 1)) ad_974 en_975 → W p l e (headSpec (Cond.code yX8_add cX8_add 6 (some .int) :: TB) (rmC 5 2 12)).room s m ([.ref (ad 1), .ref (ad (108 + 2 * J)), .int (nI I9)] : List Value).toArray below meth c H locs 1 9 (MQ below (va_Qi (S := Nat × (Nat → Nat) × (Nat → va_E)) (fun r u => u.1 = n + 2 ∧ ADP cy J I9 n ad en r u.2.1 u.2.2) (PostV D A) A) ([.ref (ad 1), .ref (ad (108 + 2 * J)), .int (nI I9)] : List Value).toArray s 2 12 A) (F0 m 26 ls []) := by
    intro fu
    induction fu with
    | zero => intro j975  en_975 ls H locs h0 h1 h2; exact absurd h2 (by omega)
    | succ fu ih_975 =>
      intro j975  en_975 ls H locs hj0_975 hj_975 hfu_975 hI_975 hf_975 i0_975 i1_975 i2_975 i3_975 i4_975 hl hh
      refine lv_iload hx hb dX8_add_26 (lv_at hl 0 rfl) ?_
      refine lv_aload_n hx hb dX8_add_28 rfl (lv_at hl 3 rfl) ?_
      refine hp_get hx hb hts ix8 hown hK hh (q := 1) rfl (List.mem_range.mpr (by omega)) i2_975 rfl 5 (by decide) (hts _ tw_44) (fun _ h9 => h9) rfl dX8_add_29 ?_
      refine lv_aload_n hx hb dX8_add_32 rfl (lv_at hl 3 rfl) ?_
      refine hp_get hx hb hts ix8 hown hK hh (q := 1) rfl (List.mem_range.mpr (by omega)) i2_975 rfl 5 (by decide) (hts _ tw_44) (fun _ h9 => h9) rfl dX8_add_33 ?_
      refine lv_imul hx hb dX8_add_36 ?_
      rw [pk_mul d d]
      refine lv_icmp_ge (tgt := 65) hx hb dX8_add_37 (by decide) (fun c_976 => ?_) (fun c_976 => ?_)
      · have n_976 : (d * d) ≤ j975 := n_le (a := (d * d)) (b := j975) c_976 (by omega) (by omega)
        refine lv_aload_n hx hb dX8_add_65 rfl (lv_at hl 3 rfl) ?_
        refine hp_get hx hb hts ix8 hown hK hh (q := 1) rfl (List.mem_range.mpr (by omega)) i2_975 rfl 0 (by decide) (hts _ tw_39) (fun _ h9 => h9) rfl dX8_add_66 ?_
        refine lv_iload_n hx hb dX8_add_69 rfl (lv_at hl 2 rfl) ?_
        refine lv_aload_n hx hb dX8_add_70 rfl (lv_at hl 3 rfl) ?_
        refine lv_iload_n hx hb dX8_add_71 rfl (lv_at hl 2 rfl) ?_
        refine lv_aload hx hb dX8_add_72 (lv_at hl 1 rfl) ?_
        refine hv_callq (va_runV (As := [.int (nI cnt), .ref (ad_974 n)]) (rest := [.int (nI cnt), .ref (ad_974 2)]) ⟨hx, hb, hml, hown, hts⟩ (c_X8_makeTable l D cy _ ad_974 en_975 (n + 1) (by omega) hI_975 cnt n (by omega) (by omega) g_974 (d * d) (fun d9 h9 h8 => by have e9 : d9 = d := n_eq (h9.symm.trans (show rdI (en_975 1) 5 = nI d from by rw [i2_975]; rfl)) (by omega) (by omega); rw [e9]) i4_975) (kw_X8_makeTable hts tw_352 ⟨by decide, by decide⟩) (preVC_of hh hK hX (List.mem_range.mpr (by omega)) i2_975 rfl) rfl rfl hl.1 rfl (lv_room (Nat.le_of_ble_eq_true rfl)) dX8_add_74 ⟨Nat.le_of_ble_eq_true rfl, Nat.le_of_ble_eq_true rfl⟩) hh hA (fun r_977 H locs n_977 ad_977 en_977 hw_977 hh => ?_)
        obtain ⟨hda_977, hue_977, hn1_977, hr_977, hI_977, ci9, hci9, eo_977, hkd9⟩ := hw_977
        rw [show rdI (en_975 1) 5 = nI d from by rw [i2_975]; rfl, nI_clamp (by omega)] at hkd9
        dsimp only at hda_977 hue_977 hn1_977 hr_977 hI_977 eo_977
        subst hn1_977
        rw [hr_977]
        rw [show rdI (en_975 1) 5 = nI d from by rw [i2_975]; rfl] at eo_977
        refine W.eq (g2 := F0 m 77 ls [va_rf (some (ad_977 (n + 1))), .int (nI cnt), .ref (ad_977 2)]) (by rw [hda_977 2 (by omega)]) ?_
        have hl : lv_has ls 6 [(5, .int (nI j975)), (4, .ref (ad_977 n)), (3, .int (nI cnt)), (0, .ref (ad_977 1)), (1, .ref (ad_977 (108 + 2 * J))), (2, .int (nI I9))] := by rw [hda_977 n (by omega), hda_977 1 (by omega), hda_977 (108 + 2 * J) (by omega)]; exact hl
        have i2_977 : en_977 1 = .inr (7, [.ref (ad_977 2), .ref (ad_977 3), .ref (ad_977 10), .ref (ad_977 11), .int (nI cnt), .int (nI d), .int (nI mm)]) := by rw [hue_977 1 (by omega), hda_977 2 (by omega), hda_977 3 (by omega), hda_977 10 (by omega), hda_977 11 (by omega)]; exact i2_975
        have i3_977 : en_977 2 = .inl (cy 3, 6, .inr (.inr (.inr (.inr f_972)))) := by rw [hue_977 2 (by omega)]; exact i3_975
        have i4_977 : en_977 n = .inl (cy 0, (d * d), .inl g_974) := by rw [hue_977 n (by omega)]; exact i4_975
        have b1_977 : en 1 = .inr (7, [.ref (ad_977 2), .ref (ad_977 3), .ref (ad_977 10), .ref (ad_977 11), .int (nI cnt), .int (nI d), .int (nI mm)]) := by rw [hda_977 2 (by omega), hda_977 3 (by omega), hda_977 10 (by omega), hda_977 11 (by omega)]; exact b1_974
        have b2_977 : en 2 = .inl (cy 3, 6, .inr (.inr (.inr (.inr f_972)))) := by exact b2_974
        have b1082J_977 : en (108 + 2 * J) = .inl (cy 0, 40, .inl f_973) := by exact b1082J_974
        refine W.eq (g2 := F0 m 77 ls [.ref (ad_977 (n + 1)), .int (nI cnt), .ref (ad_977 2)]) rfl ?_
        have hf_977 : ∀ c, (c < n ∧ c ≠ 1 ∧ c ≠ 2 ∧ (c < 4 ∨ 10 ≤ c)) → en_977 c = en c := fun c hc => (hue_977 c (by omega)).trans (hf_975 c hc)
        rcases hci9 with rfl | rfl | rfl
        · refine hp_astq hx hb hK hh (q := 2) (v := (n + 1)) rfl (List.mem_range.mpr (by omega)) rfl (List.mem_range.mpr (by omega)) i3_977 eo_977 rfl rfl (vp_in_nI (n := cnt) (by omega) (by decide)) dX8_add_77 (fun H locs en_978 hen_978 hh => ?_)
          rw [nI_clamp (n := cnt) (by omega)] at hen_978
          have i2_978 : en_978 1 = .inr (7, [.ref (ad_977 2), .ref (ad_977 3), .ref (ad_977 10), .ref (ad_977 11), .int (nI cnt), .int (nI d), .int (nI mm)]) := by rw [hen_978, va_up_ne _ _ (by decide)]; exact i2_977
          have i4_978 : en_978 n = .inl (cy 0, (d * d), .inl g_974) := by rw [hen_978, va_up_ne _ _ (by omega)]; exact i4_977
          have eo_978 : en_978 (n + 1) = .inr (6, [.int (nI cnt), .int (nI d), .ref (ad_977 n)]) := by rw [hen_978, va_up_ne _ _ (by omega)]; exact eo_977
          have i3_978 : en_978 2 = .inl (cy 3, 6, .inr (.inr (.inr (.inr (va_up f_972 cnt (some (ad_977 (n + 1)))))))) := by rw [hen_978]; exact va_up_self _ _ _
          have hI_978 : SX cy (List.range (n + 2)) ad_977 en_978 := by rw [hen_978]; exact up_all hI_977 ⟨(va_up f_972 cnt (some (ad_977 (n + 1)))), rfl⟩
          have hf_978 : ∀ c, (c < n ∧ c ≠ 1 ∧ c ≠ 2 ∧ (c < 4 ∨ 10 ≤ c)) → en_978 c = en c := fun c hc => Eq.trans (show en_978 c = en_977 c from by rw [hen_978, va_up_ne _ _ (by omega)]) (hf_977 c hc)
          refine lv_aload_n hx hb dX8_add_78 rfl (lv_at hl 3 rfl) ?_
          refine lv_dup hx hb dX8_add_79 rfl ?_
          refine hp_get hx hb hts ix8 hown hK hh (q := 1) rfl (List.mem_range.mpr (by omega)) i2_978 rfl 4 (by decide) (hts _ tw_43) (fun _ h9 => h9) rfl dX8_add_80 ?_
          refine lv_iconst (v := 1) hx hb dX8_add_83 (by decide) ?_
          refine lv_iadd hx hb dX8_add_84 ?_
          rw [show (1 : Int32) = nI 1 from rfl, nI_add cnt 1]
          refine hp_put hx hb hts ix8 tyX8 tyX8_ok nmX8 hown hK hh (q := 1) rfl (List.mem_range.mpr (by omega)) i2_978 rfl 4 (by decide) (hts _ tw_43) (fun _ h9 => h9) rfl (ty := .int) (by decide +kernel) rfl rfl (Nat.le_of_ble_eq_true rfl) dX8_add_85 (fun H locs en_979 hen_979 hh => ?_)
          have i4_979 : en_979 n = .inl (cy 0, (d * d), .inl g_974) := by rw [hen_979, va_up_ne _ _ (by omega)]; exact i4_978
          have eo_979 : en_979 (n + 1) = .inr (6, [.int (nI cnt), .int (nI d), .ref (ad_977 n)]) := by rw [hen_979, va_up_ne _ _ (by omega)]; exact eo_978
          have i3_979 : en_979 2 = .inl (cy 3, 6, .inr (.inr (.inr (.inr (va_up f_972 cnt (some (ad_977 (n + 1)))))))) := by rw [hen_979, va_up_ne _ _ (by decide)]; exact i3_978
          have i2_979 : en_979 1 = .inr (7, [.ref (ad_977 2), .ref (ad_977 3), .ref (ad_977 10), .ref (ad_977 11), .int (nI (cnt + 1)), .int (nI d), .int (nI mm)]) := by rw [hen_979]; exact va_up_self _ _ _
          have hI_979 : SX cy (List.range (n + 2)) ad_977 en_979 := by rw [hen_979]; exact up_T hI_978 ⟨(cnt + 1), d, mm, rfl, (by omega), hd2, hd3, hmm⟩
          have hf_979 : ∀ c, (c < n ∧ c ≠ 1 ∧ c ≠ 2 ∧ (c < 4 ∨ 10 ≤ c)) → en_979 c = en c := fun c hc => Eq.trans (show en_979 c = en_978 c from by rw [hen_979, va_up_ne _ _ (by omega)]) (hf_978 c hc)
          refine lv_iload_n hx hb dX8_add_88 rfl (lv_at hl 2 rfl) ?_
          exact hv_iret hx hb hr (rfl) hlocks hh (⟨rfl, (fun i hi => by dsimp only; rw [hda_977 i (by omega), hda_974 i (by omega)]), hf_979, hI_979, cnt, d, 6, _, rfl, hc6, hd3, by rw [es971]; rfl, by rw [es971]; rfl, by dsimp only; rw [i2_979]; rfl, by dsimp only; rw [i2_979]; rfl, by dsimp only; rw [i2_979, es971]; rfl, fun t => by dsimp only; rw [i3_979, show rdR (en 2) = f_972 from by rw [es972]; rfl]; exact ad_ite _ _ _ _, eo_979, Or.inl rfl, i4_979, hkd9, hg_974, fun t ht9 hne9 => (show en_979 (4 + t) = en_975 (4 + t) from by rw [hen_979, va_up_ne _ _ (by omega), hen_978, va_up_ne _ _ (by omega), hue_977 (4 + t) (by omega)]).trans (i1_975 t ht9 hne9), fun x hx9 => by dsimp only; rw [(show en_979 (4 + cnt) = en_975 (4 + cnt) from by rw [hen_979, va_up_ne _ _ (by omega), hen_978, va_up_ne _ _ (by omega), hue_977 (4 + cnt) (by omega)]), show (rdI (en 1) 6).toNatClampNeg = mm from by rw [show rdI (en 1) 6 = nI mm from by rw [es971]; rfl]; exact nI_clamp (by omega)]; exact i0_975 x (by omega)⟩) dX8_add_89
        · refine hp_astqO hx hb hK hh (q := 2) (v := (n + 1)) rfl (List.mem_range.mpr (by omega)) rfl (List.mem_range.mpr (by omega)) i3_977 eo_977 rfl rfl hX.2.2.2.2.2.2.2.2.2.2.2 (vp_in_nI (n := cnt) (by omega) (by decide)) dX8_add_77 (fun H locs en_980 hen_980 hh => ?_)
          rw [nI_clamp (n := cnt) (by omega)] at hen_980
          have i2_980 : en_980 1 = .inr (7, [.ref (ad_977 2), .ref (ad_977 3), .ref (ad_977 10), .ref (ad_977 11), .int (nI cnt), .int (nI d), .int (nI mm)]) := by rw [hen_980, va_up_ne _ _ (by decide)]; exact i2_977
          have i4_980 : en_980 n = .inl (cy 0, (d * d), .inl g_974) := by rw [hen_980, va_up_ne _ _ (by omega)]; exact i4_977
          have eo_980 : en_980 (n + 1) = .inr (1, [.int (nI cnt), .int (nI d), .ref (ad_977 n)]) := by rw [hen_980, va_up_ne _ _ (by omega)]; exact eo_977
          have i3_980 : en_980 2 = .inl (cy 3, 6, .inr (.inr (.inr (.inr (va_up f_972 cnt (some (ad_977 (n + 1)))))))) := by rw [hen_980]; exact va_up_self _ _ _
          have hI_980 : SX cy (List.range (n + 2)) ad_977 en_980 := by rw [hen_980]; exact up_all hI_977 ⟨(va_up f_972 cnt (some (ad_977 (n + 1)))), rfl⟩
          have hf_980 : ∀ c, (c < n ∧ c ≠ 1 ∧ c ≠ 2 ∧ (c < 4 ∨ 10 ≤ c)) → en_980 c = en c := fun c hc => Eq.trans (show en_980 c = en_977 c from by rw [hen_980, va_up_ne _ _ (by omega)]) (hf_977 c hc)
          refine lv_aload_n hx hb dX8_add_78 rfl (lv_at hl 3 rfl) ?_
          refine lv_dup hx hb dX8_add_79 rfl ?_
          refine hp_get hx hb hts ix8 hown hK hh (q := 1) rfl (List.mem_range.mpr (by omega)) i2_980 rfl 4 (by decide) (hts _ tw_43) (fun _ h9 => h9) rfl dX8_add_80 ?_
          refine lv_iconst (v := 1) hx hb dX8_add_83 (by decide) ?_
          refine lv_iadd hx hb dX8_add_84 ?_
          rw [show (1 : Int32) = nI 1 from rfl, nI_add cnt 1]
          refine hp_put hx hb hts ix8 tyX8 tyX8_ok nmX8 hown hK hh (q := 1) rfl (List.mem_range.mpr (by omega)) i2_980 rfl 4 (by decide) (hts _ tw_43) (fun _ h9 => h9) rfl (ty := .int) (by decide +kernel) rfl rfl (Nat.le_of_ble_eq_true rfl) dX8_add_85 (fun H locs en_981 hen_981 hh => ?_)
          have i4_981 : en_981 n = .inl (cy 0, (d * d), .inl g_974) := by rw [hen_981, va_up_ne _ _ (by omega)]; exact i4_980
          have eo_981 : en_981 (n + 1) = .inr (1, [.int (nI cnt), .int (nI d), .ref (ad_977 n)]) := by rw [hen_981, va_up_ne _ _ (by omega)]; exact eo_980
          have i3_981 : en_981 2 = .inl (cy 3, 6, .inr (.inr (.inr (.inr (va_up f_972 cnt (some (ad_977 (n + 1)))))))) := by rw [hen_981, va_up_ne _ _ (by decide)]; exact i3_980
          have i2_981 : en_981 1 = .inr (7, [.ref (ad_977 2), .ref (ad_977 3), .ref (ad_977 10), .ref (ad_977 11), .int (nI (cnt + 1)), .int (nI d), .int (nI mm)]) := by rw [hen_981]; exact va_up_self _ _ _
          have hI_981 : SX cy (List.range (n + 2)) ad_977 en_981 := by rw [hen_981]; exact up_T hI_980 ⟨(cnt + 1), d, mm, rfl, (by omega), hd2, hd3, hmm⟩
          have hf_981 : ∀ c, (c < n ∧ c ≠ 1 ∧ c ≠ 2 ∧ (c < 4 ∨ 10 ≤ c)) → en_981 c = en c := fun c hc => Eq.trans (show en_981 c = en_980 c from by rw [hen_981, va_up_ne _ _ (by omega)]) (hf_980 c hc)
          refine lv_iload_n hx hb dX8_add_88 rfl (lv_at hl 2 rfl) ?_
          exact hv_iret hx hb hr (rfl) hlocks hh (⟨rfl, (fun i hi => by dsimp only; rw [hda_977 i (by omega), hda_974 i (by omega)]), hf_981, hI_981, cnt, d, 1, _, rfl, hc6, hd3, by rw [es971]; rfl, by rw [es971]; rfl, by dsimp only; rw [i2_981]; rfl, by dsimp only; rw [i2_981]; rfl, by dsimp only; rw [i2_981, es971]; rfl, fun t => by dsimp only; rw [i3_981, show rdR (en 2) = f_972 from by rw [es972]; rfl]; exact ad_ite _ _ _ _, eo_981, Or.inr (Or.inl rfl), i4_981, hkd9, hg_974, fun t ht9 hne9 => (show en_981 (4 + t) = en_975 (4 + t) from by rw [hen_981, va_up_ne _ _ (by omega), hen_980, va_up_ne _ _ (by omega), hue_977 (4 + t) (by omega)]).trans (i1_975 t ht9 hne9), fun x hx9 => by dsimp only; rw [(show en_981 (4 + cnt) = en_975 (4 + cnt) from by rw [hen_981, va_up_ne _ _ (by omega), hen_980, va_up_ne _ _ (by omega), hue_977 (4 + cnt) (by omega)]), show (rdI (en 1) 6).toNatClampNeg = mm from by rw [show rdI (en 1) 6 = nI mm from by rw [es971]; rfl]; exact nI_clamp (by omega)]; exact i0_975 x (by omega)⟩) dX8_add_89
        · refine hp_astqO hx hb hK hh (q := 2) (v := (n + 1)) rfl (List.mem_range.mpr (by omega)) rfl (List.mem_range.mpr (by omega)) i3_977 eo_977 rfl rfl hX.2.2.2.2.2.2.2.2.2.2.1 (vp_in_nI (n := cnt) (by omega) (by decide)) dX8_add_77 (fun H locs en_982 hen_982 hh => ?_)
          rw [nI_clamp (n := cnt) (by omega)] at hen_982
          have i2_982 : en_982 1 = .inr (7, [.ref (ad_977 2), .ref (ad_977 3), .ref (ad_977 10), .ref (ad_977 11), .int (nI cnt), .int (nI d), .int (nI mm)]) := by rw [hen_982, va_up_ne _ _ (by decide)]; exact i2_977
          have i4_982 : en_982 n = .inl (cy 0, (d * d), .inl g_974) := by rw [hen_982, va_up_ne _ _ (by omega)]; exact i4_977
          have eo_982 : en_982 (n + 1) = .inr (4, [.int (nI cnt), .int (nI d), .ref (ad_977 n)]) := by rw [hen_982, va_up_ne _ _ (by omega)]; exact eo_977
          have i3_982 : en_982 2 = .inl (cy 3, 6, .inr (.inr (.inr (.inr (va_up f_972 cnt (some (ad_977 (n + 1)))))))) := by rw [hen_982]; exact va_up_self _ _ _
          have hI_982 : SX cy (List.range (n + 2)) ad_977 en_982 := by rw [hen_982]; exact up_all hI_977 ⟨(va_up f_972 cnt (some (ad_977 (n + 1)))), rfl⟩
          have hf_982 : ∀ c, (c < n ∧ c ≠ 1 ∧ c ≠ 2 ∧ (c < 4 ∨ 10 ≤ c)) → en_982 c = en c := fun c hc => Eq.trans (show en_982 c = en_977 c from by rw [hen_982, va_up_ne _ _ (by omega)]) (hf_977 c hc)
          refine lv_aload_n hx hb dX8_add_78 rfl (lv_at hl 3 rfl) ?_
          refine lv_dup hx hb dX8_add_79 rfl ?_
          refine hp_get hx hb hts ix8 hown hK hh (q := 1) rfl (List.mem_range.mpr (by omega)) i2_982 rfl 4 (by decide) (hts _ tw_43) (fun _ h9 => h9) rfl dX8_add_80 ?_
          refine lv_iconst (v := 1) hx hb dX8_add_83 (by decide) ?_
          refine lv_iadd hx hb dX8_add_84 ?_
          rw [show (1 : Int32) = nI 1 from rfl, nI_add cnt 1]
          refine hp_put hx hb hts ix8 tyX8 tyX8_ok nmX8 hown hK hh (q := 1) rfl (List.mem_range.mpr (by omega)) i2_982 rfl 4 (by decide) (hts _ tw_43) (fun _ h9 => h9) rfl (ty := .int) (by decide +kernel) rfl rfl (Nat.le_of_ble_eq_true rfl) dX8_add_85 (fun H locs en_983 hen_983 hh => ?_)
          have i4_983 : en_983 n = .inl (cy 0, (d * d), .inl g_974) := by rw [hen_983, va_up_ne _ _ (by omega)]; exact i4_982
          have eo_983 : en_983 (n + 1) = .inr (4, [.int (nI cnt), .int (nI d), .ref (ad_977 n)]) := by rw [hen_983, va_up_ne _ _ (by omega)]; exact eo_982
          have i3_983 : en_983 2 = .inl (cy 3, 6, .inr (.inr (.inr (.inr (va_up f_972 cnt (some (ad_977 (n + 1)))))))) := by rw [hen_983, va_up_ne _ _ (by decide)]; exact i3_982
          have i2_983 : en_983 1 = .inr (7, [.ref (ad_977 2), .ref (ad_977 3), .ref (ad_977 10), .ref (ad_977 11), .int (nI (cnt + 1)), .int (nI d), .int (nI mm)]) := by rw [hen_983]; exact va_up_self _ _ _
          have hI_983 : SX cy (List.range (n + 2)) ad_977 en_983 := by rw [hen_983]; exact up_T hI_982 ⟨(cnt + 1), d, mm, rfl, (by omega), hd2, hd3, hmm⟩
          have hf_983 : ∀ c, (c < n ∧ c ≠ 1 ∧ c ≠ 2 ∧ (c < 4 ∨ 10 ≤ c)) → en_983 c = en c := fun c hc => Eq.trans (show en_983 c = en_982 c from by rw [hen_983, va_up_ne _ _ (by omega)]) (hf_982 c hc)
          refine lv_iload_n hx hb dX8_add_88 rfl (lv_at hl 2 rfl) ?_
          exact hv_iret hx hb hr (rfl) hlocks hh (⟨rfl, (fun i hi => by dsimp only; rw [hda_977 i (by omega), hda_974 i (by omega)]), hf_983, hI_983, cnt, d, 4, _, rfl, hc6, hd3, by rw [es971]; rfl, by rw [es971]; rfl, by dsimp only; rw [i2_983]; rfl, by dsimp only; rw [i2_983]; rfl, by dsimp only; rw [i2_983, es971]; rfl, fun t => by dsimp only; rw [i3_983, show rdR (en 2) = f_972 from by rw [es972]; rfl]; exact ad_ite _ _ _ _, eo_983, Or.inr (Or.inr rfl), i4_983, hkd9, hg_974, fun t ht9 hne9 => (show en_983 (4 + t) = en_975 (4 + t) from by rw [hen_983, va_up_ne _ _ (by omega), hen_982, va_up_ne _ _ (by omega), hue_977 (4 + t) (by omega)]).trans (i1_975 t ht9 hne9), fun x hx9 => by dsimp only; rw [(show en_983 (4 + cnt) = en_975 (4 + cnt) from by rw [hen_983, va_up_ne _ _ (by omega), hen_982, va_up_ne _ _ (by omega), hue_977 (4 + cnt) (by omega)]), show (rdI (en 1) 6).toNatClampNeg = mm from by rw [show rdI (en 1) 6 = nI mm from by rw [es971]; rfl]; exact nI_clamp (by omega)]; exact i0_975 x (by omega)⟩) dX8_add_89
      · have n_976 : j975 < (d * d) := n_nle (a := (d * d)) (b := j975) c_976 (by omega) (by omega)
        refine lv_aload_n hx hb dX8_add_40 rfl (lv_at hl 3 rfl) ?_
        refine hp_get hx hb hts ix8 hown hK hh (q := 1) rfl (List.mem_range.mpr (by omega)) i2_975 rfl 1 (by decide) (hts _ tw_40) (fun _ h9 => h9) rfl dX8_add_41 ?_
        refine lv_iload_n hx hb dX8_add_44 rfl (lv_at hl 2 rfl) ?_
        have es984 := get_rows hI_975
        unfold P_rows at es984
        refine hp_aald hx hb hK hh (q := 3) rfl (List.mem_range.mpr (by omega)) 8 es984 rfl rfl (vp_in_nI (n := cnt) (by omega) (by decide)) (v := .ref (ad_974 (4 + cnt))) (by rw [nI_clamp (n := cnt) (by omega)]; exact rfA_v (by omega)) dX8_add_45 ?_
        refine lv_iload hx hb dX8_add_46 (lv_at hl 0 rfl) ?_
        refine lv_aload_n hx hb dX8_add_48 rfl (lv_at hl 3 rfl) ?_
        refine lv_aload hx hb dX8_add_49 (lv_at hl 1 rfl) ?_
        refine lv_iload hx hb dX8_add_51 (lv_at hl 0 rfl) ?_
        refine hp_iald hx hb hK hh (q := n) rfl (List.mem_range.mpr (by omega)) i4_975 (vp_in_nI (n := j975) (by omega) (by omega)) dX8_add_53 ?_
        rw [nI_clamp (n := j975) (by omega)]
        refine lv_i2l hx hb dX8_add_54 rfl ?_
        refine hp_callRl (va_runV (As := [.long ((g_974 j975).toInt64)]) (rest := [.int (nI j975), .ref (ad_974 (4 + cnt))]) ⟨hx, hb, hml, hown, hts⟩ (c_X8_restOf l D cy _ (List.range (n + 1)) ad_974 en_975 (List.mem_range.mpr (by omega)) cnt d mm hcnt hd2 hd3 hmm ((g_974 j975).toInt64) i2_975) (kw_X8_restOf hts tw_348 ⟨by decide, by decide⟩) (preV_of hh hK (List.mem_range.mpr (by omega)) i2_975 rfl) rfl rfl hl.1 rfl (lv_room (Nat.le_of_ble_eq_true rfl)) dX8_add_55 ⟨Nat.le_of_ble_eq_true rfl, Nat.le_of_ble_eq_true rfl⟩) hh hA (fun r_985 H locs hw_985 hh => ?_)
        obtain rfl : r_985 = (restL mm ((g_974 j975).toInt64)) := hw_985
        obtain ⟨f_986, es986⟩ := get_row hI_975 (j := cnt) (by omega)
        refine hp_last hx hb hK hh (q := (4 + cnt)) rfl (List.mem_range.mpr (by omega)) es986 (vp_in_nI (n := j975) (by omega) (by decide)) dX8_add_58 (fun H locs en_987 hen_987 hh => ?_)
        rw [nI_clamp (n := j975) (by omega)] at hen_987
        have i2_987 : en_987 1 = .inr (7, [.ref (ad_974 2), .ref (ad_974 3), .ref (ad_974 10), .ref (ad_974 11), .int (nI cnt), .int (nI d), .int (nI mm)]) := by rw [hen_987, va_up_ne _ _ (by omega)]; exact i2_975
        have i3_987 : en_987 2 = .inl (cy 3, 6, .inr (.inr (.inr (.inr f_972)))) := by rw [hen_987, va_up_ne _ _ (by omega)]; exact i3_975
        have i4_987 : en_987 n = .inl (cy 0, (d * d), .inl g_974) := by rw [hen_987, va_up_ne _ _ (by omega)]; exact i4_975
        have es984_987 : en_987 3 = .inl (cy 8, 6, .inr (.inr (.inr (.inr (rfA ad_974 6 4))))) := by rw [hen_987, va_up_ne _ _ (by omega)]; exact es984
        have es986_987 : en_987 (4 + cnt) = .inl (cy 1, 9, .inr (.inl (vp_updL f_986 j975 (restL mm ((g_974 j975).toInt64))))) := by rw [hen_987]; exact va_up_self _ _ _
        have hI_987 : SX cy (List.range (n + 1)) ad_974 en_987 := by rw [hen_987]; exact up_row hI_975 (j := cnt) (by omega) ⟨(vp_updL f_986 j975 (restL mm ((g_974 j975).toInt64))), rfl⟩
        have hf_987 : ∀ c, (c < n ∧ c ≠ 1 ∧ c ≠ 2 ∧ (c < 4 ∨ 10 ≤ c)) → en_987 c = en c := fun c hc => Eq.trans (show en_987 c = en_975 c from by rw [hen_987, va_up_ne _ _ (by omega)]) (hf_975 c hc)
        refine lv_iinc (v := (nI (j975 + 1))) (lv' := [(5, .int (nI (j975 + 1))), (4, .ref (ad_974 n)), (3, .int (nI cnt)), (0, .ref (ad_974 1)), (1, .ref (ad_974 (108 + 2 * J))), (2, .int (nI I9))]) hx hb dX8_add_59 hl (k := 0) rfl (nI_1 _) (by decide) rfl (fun ls hl => ?_)
        refine lv_goto (tgt := 26) hx hb dX8_add_62 (by decide) ?_
        exact ih_975 ((j975 + 1))  en_987 ls H locs (by omega) (by omega) (by omega) hI_987 hf_987 (fun x hx9 => by rw [es986_987]; exact rw_upd (fun h9 => (show f_986 x = rdL (en_975 (4 + cnt)) x from by rw [es986]; rfl).trans (i0_975 x h9)) hx9 (fun e9 => by rw [e9])) (fun t ht9 hne9 => (show en_987 (4 + t) = en_975 (4 + t) from by rw [hen_987, va_up_ne _ _ (by omega)]).trans (i1_975 t ht9 hne9)) (i2_987) (i3_987) (i4_987) (lv_sub hl [0, 1, 2, 3, 4, 5] rfl) hh
  exact loop_975 ((d * d) + 1) 0  en_974 ls _ _ (Nat.le_refl _) (by omega) (by omega) hI_974 hf_974 (fun x h => absurd h (Nat.not_lt_zero x)) (fun t ht9 hne9 => hue_974 (4 + t) (by omega)) (es971_974) (es972_974) (eg_974) (lv_sub hl [0, 1, 2, 3, 4, 5] rfl) hh
theorem kw_X8_add {R : Room} {s : State} {args : Array Value} {own : String} {idx : Nat} (hts : ∀ w ∈ TB, w.before args s = true) (hl : Cond.methodLink own idx yX8_add ∈ TB) (hR : 5 + 1 ≤ R.frames ∧ 8 + (6 + 11) + 40 * 5 ≤ R.locals) : CallW R s args own RX8 idx yX8_add cX8_add 6 (some .int) (Cond.code yX8_add cX8_add 6 (some .int) :: TB) (rmC 5 2 12) 2 12 2 := cwV 2 hts (TB_V hl tw_323 tw_324 tw_2 tw_325) rfl rfl rfl (by decide +kernel) hR
set_option maxHeartbeats 8000000 in
set_option maxRecDepth 100000 in
/-- addTable -/
theorem c_X11_addTable (l : Launch) (D : va_G) (cy : Nat → ClassId) (sz : Nat) (ad : Nat → Nat) (en : Nat → va_E) (n : Nat) (hn : 115 ≤ n) (hI : SX cy (List.range n) ad en) (kz la iz : Int32) (z : Nat) (F : Nat → Nat → Int32) (hTX : TXF cy (List.range n) ad en F) (hC : CPz z cy (List.range n) ad en)  : Met l yX11_addTable (Cond.code yX11_addTable cX11_addTable 8 (some .int) :: TB) (rmC 6 2 12) (va_Pc [.ref (ad 0), .int kz, .int la, .int iz] (PreC D cy n ad en sz)) (va_Qi (S := Nat × (Nat → Nat) × (Nat → va_E)) (fun r u => n ≤ u.1 ∧ u.1 ≤ n + 2 ∧ (∀ i, i < n → u.2.1 i = ad i) ∧ (∀ c, (c < n ∧ (c = 0 ∨ c = 3 ∨ c = 10 ∨ c = 11 ∨ 71 ≤ c)) → u.2.2 c = en c) ∧ SX cy (List.range u.1) u.2.1 u.2.2 ∧ (∃ F1 : Nat → Nat → Int32, TXF cy (List.range u.1) u.2.1 u.2.2 F1 ∧ XTB F F1 kz la iz r en u.2.2 ∧ (RW F en → RW F1 u.2.2) ∧ (QX cy (List.range n) ad en → QX cy (List.range u.1) u.2.1 u.2.2) ∧ ((rdI (u.2.2 70) 7 = 0 ∧ ¬ rdI (u.2.2 1) 4 = rdI (en 1) 4) ∨ (u.2.2 70 = en 70 ∧ rdI (u.2.2 1) 4 = rdI (en 1) 4))) ∧ CPz z cy (List.range u.1) u.2.1 u.2.2) (PostV D (Af (List.range n) ad sz)) (Af (List.range n) ad sz)) 2 12 (Af (List.range n) ad sz) := by
  refine Met.ofW (cc := cX11_addTable) (maxL := 8) (ret := (some .int)) (by decide) rfl ?_
  intro p e s m args below meth c s₁ B hml hv
  obtain ⟨rfl, ⟨hsz, hP, hK, hD0⟩, hX⟩ := hv
  have hx := B.exec
  have hb := B.bytes
  have hr := B.returns
  have hts : ∀ w ∈ TB, w.before _ s = true := fun w h => atoms_spec (ws := _ :: TB) B.pre w (List.mem_cons_of_mem _ h)
  have hown : s.vm.findClass RX11 = some m.cls := findClass_of_methodNamed B.named
  have hlocks := B.notSynchronized
  have hh : Hp D (Af (List.range n) ad sz) (Af (List.range n) ad sz) s.heap s.heap [] (List.range n) ad en := ⟨hP, Af_self hD0, va_S.rf⟩
  have hA : ∀ q : Nat, s.heap.size ≤ q → (Af (List.range n) ad sz) q := fun q h => Or.inr (by rw [hsz] at h; exact h)
  generalize (Af (List.range n) ad sz) = A at hh hA ⊢
  have hl := lv_entry ([.ref (ad 0), .int kz, .int la, .int iz]) (n := 8) (Nat.le_of_ble_eq_true rfl)
  rw [lg_entry_eq]
  generalize (lg_sl ([.ref (ad 0), .int kz, .int la, .int iz]) ++ List.replicate (8 - (lg_sl ([.ref (ad 0), .int kz, .int la, .int iz])).length) Slot.unset).toArray = ls at hl ⊢
  have hl : lv_has ls 8 [(0, .ref (ad 0)), (1, .int kz), (2, .int la), (3, .int iz)] := hl
  have hf0 : ∀ c, (c < n ∧ (c = 0 ∨ c = 3 ∨ c = 10 ∨ c = 11 ∨ 71 ≤ c)) → en c = en c := fun _ _ => rfl
  obtain ⟨wc_988, lf_988, es988, p0_988⟩ := get_A hI
  obtain ⟨cnt, d, mm, es989, hcnt, hd2, hd3, hmm⟩ := get_T hI
  have hdd : d * d ≤ 9 := Nat.mul_le_mul hd3 hd3
  have hdd4 : 4 ≤ d * d := Nat.mul_le_mul hd2 hd2
  refine lv_aload_n hx hb dX11_addTable_0 rfl (lv_at hl 0 rfl) ?_
  refine hp_get hx hb hts ix11 hown hK hh (q := 0) rfl (List.mem_range.mpr (by omega)) es988 rfl 0 (by decide) (hts _ tw_245) (fun _ h9 => h9) rfl dX11_addTable_1 ?_
  refine hp_callRi (va_runV (As := []) (rest := []) ⟨hx, hb, hml, hown, hts⟩ (c_X8_cellCount l D cy _ (List.range n) ad en (List.mem_range.mpr (by omega)) cnt d mm hcnt hd2 hd3 hmm  es989) (kw_X8_cellCount hts tw_297 ⟨by decide, by decide⟩) (preV_of hh hK (List.mem_range.mpr (by omega)) es989 rfl) rfl rfl hl.1 rfl (lv_room (Nat.le_of_ble_eq_true rfl)) dX11_addTable_4 ⟨Nat.le_of_ble_eq_true rfl, Nat.le_of_ble_eq_true rfl⟩) hh hA (fun r_990 H locs hw_990 hh => ?_)
  obtain rfl : r_990 = nI (d * d) := hw_990
  refine lv_istore (lv' := [(4, .int (nI (d * d))), (0, .ref (ad 0)), (1, .int kz), (2, .int la), (3, .int iz)]) hx hb dX11_addTable_7 hl (by decide) rfl (fun ls hl => ?_)
  refine lv_aload_n hx hb dX11_addTable_9 rfl (lv_at hl 1 rfl) ?_
  refine lv_iload_n hx hb dX11_addTable_10 rfl (lv_at hl 2 rfl) ?_
  refine lv_iload_n hx hb dX11_addTable_11 rfl (lv_at hl 3 rfl) ?_
  refine lv_iload_n hx hb dX11_addTable_12 rfl (lv_at hl 4 rfl) ?_
  refine lv_iload hx hb dX11_addTable_13 (lv_at hl 0 rfl) ?_
  refine hp_callRi (va_runV (As := [.int kz, .int la, .int iz, .int (nI (d * d))]) (rest := []) ⟨hx, hb, hml, hown, hts⟩ (c_X11_lookAtCells l D cy _ (List.range n) ad en hI kz la iz (nI (d * d))) (kw_X11_lookAtCells hts tw_301 ⟨by decide, by decide⟩) (preV_of hh hK (List.mem_range.mpr (by omega)) es988 rfl) rfl rfl hl.1 rfl (lv_room (Nat.le_of_ble_eq_true rfl)) dX11_addTable_15 ⟨Nat.le_of_ble_eq_true rfl, Nat.le_of_ble_eq_true rfl⟩) hh hA (fun r_991 H locs hw_991 hh => ?_)
  refine lv_istore (lv' := [(5, .int r_991), (4, .int (nI (d * d))), (0, .ref (ad 0)), (1, .int kz), (2, .int la), (3, .int iz)]) hx hb dX11_addTable_18 hl (by decide) rfl (fun ls hl => ?_)
  refine lv_iload hx hb dX11_addTable_20 (lv_at hl 0 rfl) ?_
  refine lv_iconst (v := 1) hx hb dX11_addTable_22 (by decide) ?_
  refine lv_icmp_eq (tgt := 29) hx hb dX11_addTable_23 (by decide) (fun c_992 => ?_) (fun c_992 => ?_)
  · obtain ⟨hw1, -, -, -, hw5⟩ := lookF_1 (hw_991.symm.trans c_992)
    obtain ⟨K9, rfl, -, hK9⟩ := wi_natB hw1 0 3 (by decide) (by decide)
    obtain ⟨sc_993, sl_993, sr_993, es993, p0_993, p1_993⟩ := get_sh hI (j := K9) (by omega)
    obtain ⟨f_994, es994⟩ := get_shc hI (j := K9) (by omega)
    rw [nI_clamp (n := K9) (by omega), nI_clamp (n := d * d) (by omega), show rdI (en (107 + 2 * K9)) 1 = nI sc_993 from by rw [es993]; rfl] at hw5
    obtain ⟨I9, rfl, hI9⟩ := hcP_nat (by omega) hw5 (by omega)
    refine lv_aload_n hx hb dX11_addTable_29 rfl (lv_at hl 2 rfl) ?_
    refine hp_get hx hb hts ix11 hown hK hh (q := 0) rfl (List.mem_range.mpr (by omega)) es988 rfl 4 (by decide) (hts _ tw_249) (fun _ h9 => h9) rfl dX11_addTable_30 ?_
    refine lv_iload_n hx hb dX11_addTable_33 rfl (lv_at hl 3 rfl) ?_
    have es995 := get_shs hI
    unfold P_shs at es995
    refine hp_aald hx hb hK hh (q := 75) rfl (List.mem_range.mpr (by omega)) 6 es995 rfl rfl (vp_in_nI (n := K9) (by omega) (by decide)) (v := .ref (ad (107 + 2 * K9))) (by rw [nI_clamp (n := K9) (by omega)]; exact rfB_v (by omega)) dX11_addTable_34 ?_
    refine hp_get hx hb hts ix3 hown hK hh (q := (107 + 2 * K9)) rfl (List.mem_range.mpr (by omega)) es993 rfl 0 (by decide) (hts _ tw_230) (fun _ h9 => h9) rfl dX11_addTable_35 ?_
    refine lv_astore (lv' := [(6, .ref (ad (108 + 2 * K9))), (5, .int r_991), (4, .int (nI (d * d))), (0, .ref (ad 0)), (1, .int (nI K9)), (2, .int la), (3, .int (nI I9))]) hx hb dX11_addTable_38 hl (by decide) rfl (fun ls hl => ?_)
    refine lv_iconst (v := 0) hx hb dX11_addTable_40 (by decide) ?_
    refine lv_istore (lv' := [(7, .int 0), (6, .ref (ad (108 + 2 * K9))), (5, .int r_991), (4, .int (nI (d * d))), (0, .ref (ad 0)), (1, .int (nI K9)), (2, .int la), (3, .int (nI I9))]) hx hb dX11_addTable_41 hl (by decide) rfl (fun ls hl => ?_)
    have loop_996 : ∀ (fu j996 : Nat)   (ls : Array Slot) (H : Heap) (locs : List Loc), 0 ≤ j996 → j996 ≤ (d * d) → (d * d) < j996 + fu →  (∀ x, x < j996 → wi (f_994 (I9 + x)) (-9) 9) → lv_has ls 8 [(7, .int (nI j996)), (6, .ref (ad (108 + 2 * K9))), (5, .int r_991), (4, .int (nI (d * d))), (0, .ref (ad 0)), (1, .int (nI K9)), (2, .int la), (3, .int (nI I9))] → Hp D A A s.heap H locs (List.range n) ad en → W p l e (headSpec (Cond.code yX11_addTable cX11_addTable 8 (some .int) :: TB) (rmC 6 2 12)).room s m ([.ref (ad 0), .int (nI K9), .int la, .int (nI I9)] : List Value).toArray below meth c H locs 0 0 (MQ below (va_Qi (S := Nat × (Nat → Nat) × (Nat → va_E)) (fun r u => n ≤ u.1 ∧ u.1 ≤ n + 2 ∧ (∀ i, i < n → u.2.1 i = ad i) ∧ (∀ c, (c < n ∧ (c = 0 ∨ c = 3 ∨ c = 10 ∨ c = 11 ∨ 71 ≤ c)) → u.2.2 c = en c) ∧ SX cy (List.range u.1) u.2.1 u.2.2 ∧ (∃ F1 : Nat → Nat → Int32, TXF cy (List.range u.1) u.2.1 u.2.2 F1 ∧ XTB F F1 (nI K9) la (nI I9) r en u.2.2 ∧ (RW F en → RW F1 u.2.2) ∧ (QX cy (List.range n) ad en → QX cy (List.range u.1) u.2.1 u.2.2) ∧ ((rdI (u.2.2 70) 7 = 0 ∧ ¬ rdI (u.2.2 1) 4 = rdI (en 1) 4) ∨ (u.2.2 70 = en 70 ∧ rdI (u.2.2 1) 4 = rdI (en 1) 4))) ∧ CPz z cy (List.range u.1) u.2.1 u.2.2) (PostV D A) A) ([.ref (ad 0), .int (nI K9), .int la, .int (nI I9)] : List Value).toArray s 2 12 A) (F0 m 43 ls []) := by
      intro fu
      induction fu with
      | zero => intro j996  ls H locs h0 h1 h2; exact absurd h2 (by omega)
      | succ fu ih_996 =>
        intro j996  ls H locs hj0_996 hj_996 hfu_996 i0_996 hl hh
        refine lv_iload hx hb dX11_addTable_43 (lv_at hl 0 rfl) ?_
        refine lv_iload hx hb dX11_addTable_45 (lv_at hl 3 rfl) ?_
        refine lv_icmp_ge (tgt := 76) hx hb dX11_addTable_47 (by decide) (fun c_997 => ?_) (fun c_997 => ?_)
        · have n_997 : (d * d) ≤ j996 := n_le (a := (d * d)) (b := j996) c_997 (by omega) (by omega)
          have hok9 : okC en K9 I9 (d * d) := fun x hx => by rw [show rdF (en (108 + 2 * K9)) = f_994 from by rw [es994]; rfl]; exact i0_996 x (by omega)
          refine lv_aload_n hx hb dX11_addTable_76 rfl (lv_at hl 4 rfl) ?_
          refine hp_get hx hb hts ix11 hown hK hh (q := 0) rfl (List.mem_range.mpr (by omega)) es988 rfl 0 (by decide) (hts _ tw_245) (fun _ h9 => h9) rfl dX11_addTable_77 ?_
          refine hp_callRi (va_runV (As := []) (rest := []) ⟨hx, hb, hml, hown, hts⟩ (c_X8_count l D cy _ (List.range n) ad en (List.mem_range.mpr (by omega)) cnt d mm hcnt hd2 hd3 hmm  es989) (kw_X8_count hts tw_318 ⟨by decide, by decide⟩) (preV_of hh hK (List.mem_range.mpr (by omega)) es989 rfl) rfl rfl hl.1 rfl (lv_room (Nat.le_of_ble_eq_true rfl)) dX11_addTable_80 ⟨Nat.le_of_ble_eq_true rfl, Nat.le_of_ble_eq_true rfl⟩) hh hA (fun r_998 H locs hw_998 hh => ?_)
          obtain rfl : r_998 = (nI cnt) := hw_998
          refine lv_bipush (v := 6) hx hb dX11_addTable_83 (by decide) ?_
          refine lv_icmp_lt (tgt := 91) hx hb dX11_addTable_85 (by decide) (fun c_999 => ?_) (fun c_999 => ?_)
          · have n_999 : cnt < 6 := n_lt (a := cnt) (b := 6) c_999 (by omega) (by decide)
            refine lv_aload_n hx hb dX11_addTable_91 rfl (lv_at hl 4 rfl) ?_
            refine hp_get hx hb hts ix11 hown hK hh (q := 0) rfl (List.mem_range.mpr (by omega)) es988 rfl 1 (by decide) (hts _ tw_246) (fun _ h9 => h9) rfl dX11_addTable_92 ?_
            obtain ⟨hw_1000, es1000, p0_1000⟩ := get_L hI
            refine hp_callMv (va_runV (As := []) (rest := []) ⟨hx, hb, hml, hown, hts⟩ (c_X2_forget l D cy _ (List.range n) ad en hI  ) (kw_X2_forget hts tw_281 ⟨by decide, by decide⟩) (preV_of hh hK (List.mem_range.mpr (by omega)) es1000 rfl) rfl rfl hl.1 rfl (lv_room (Nat.le_of_ble_eq_true rfl)) dX11_addTable_95 ⟨Nat.le_of_ble_eq_true rfl, Nat.le_of_ble_eq_true rfl⟩) hh hA (fun H locs en_1001 hw_1001 hh => ?_)
            obtain ⟨hI_1001, hu_1001⟩ := hw_1001
            have es988_1001 : en_1001 0 = .inr (10, [.ref (ad 1), .ref (ad 12), .ref (ad 70), .ref (ad 74), .ref (ad 75), .ref (ad 76), .int (nI wc_988), .int lf_988]) := (hu_1001 0 (by omega)).trans es988
            have es989_1001 : en_1001 1 = .inr (7, [.ref (ad 2), .ref (ad 3), .ref (ad 10), .ref (ad 11), .int (nI cnt), .int (nI d), .int (nI mm)]) := (hu_1001 1 (by omega)).trans es989
            have es993_1001 : en_1001 (107 + 2 * K9) = .inr (3, [.ref (ad (108 + 2 * K9)), .int (nI sc_993), .int sl_993, .int (nI sr_993)]) := (hu_1001 (107 + 2 * K9) (by omega)).trans es993
            have es994_1001 : en_1001 (108 + 2 * K9) = .inl (cy 0, 40, .inl f_994) := (hu_1001 (108 + 2 * K9) (by omega)).trans es994
            have es995_1001 : en_1001 75 = .inl (cy 6, 4, .inr (.inr (.inr (.inr (rfB ad 4 107 2))))) := (hu_1001 75 (by omega)).trans es995
            have hf_1001 : ∀ c, (c < n ∧ (c = 0 ∨ c = 3 ∨ c = 10 ∨ c = 11 ∨ 71 ≤ c)) → en_1001 c = en c := fun c hc => (hu_1001 c (by omega)).trans (hf0 c hc)
            refine lv_aload_n hx hb dX11_addTable_98 rfl (lv_at hl 4 rfl) ?_
            refine hp_get hx hb hts ix11 hown hK hh (q := 0) rfl (List.mem_range.mpr (by omega)) es988_1001 rfl 2 (by decide) (hts _ tw_247) (fun _ h9 => h9) rfl dX11_addTable_99 ?_
            obtain ⟨ea_1002, eb_1002, ec_1002, st0_1002, cc0_1002, ct0_1002, un0_1002, ow0_1002, hn0_1002, es1002⟩ := get_C hI_1001
            refine hp_callMv (va_runV (As := []) (rest := []) ⟨hx, hb, hml, hown, hts⟩ (c_X0_forget l D cy _ (List.range n) ad en_1001 hI_1001) (kw_X0_forget hts tw_285 ⟨by decide, by decide⟩) (preV_of hh hK (List.mem_range.mpr (by omega)) es1002 rfl) rfl rfl hl.1 rfl (lv_room (Nat.le_of_ble_eq_true rfl)) dX11_addTable_102 ⟨Nat.le_of_ble_eq_true rfl, Nat.le_of_ble_eq_true rfl⟩) hh hA (fun H locs en_1003 hw_1003 hh => ?_)
            obtain ⟨hI_1003, hu_1003, hx_1003⟩ := hw_1003
            have es988_1003 : en_1003 0 = .inr (10, [.ref (ad 1), .ref (ad 12), .ref (ad 70), .ref (ad 74), .ref (ad 75), .ref (ad 76), .int (nI wc_988), .int lf_988]) := (hu_1003 0 (by omega)).trans es988_1001
            have es989_1003 : en_1003 1 = .inr (7, [.ref (ad 2), .ref (ad 3), .ref (ad 10), .ref (ad 11), .int (nI cnt), .int (nI d), .int (nI mm)]) := (hu_1003 1 (by omega)).trans es989_1001
            have es993_1003 : en_1003 (107 + 2 * K9) = .inr (3, [.ref (ad (108 + 2 * K9)), .int (nI sc_993), .int sl_993, .int (nI sr_993)]) := (hu_1003 (107 + 2 * K9) (by omega)).trans es993_1001
            have es994_1003 : en_1003 (108 + 2 * K9) = .inl (cy 0, 40, .inl f_994) := (hu_1003 (108 + 2 * K9) (by omega)).trans es994_1001
            have es995_1003 : en_1003 75 = .inl (cy 6, 4, .inr (.inr (.inr (.inr (rfB ad 4 107 2))))) := (hu_1003 75 (by omega)).trans es995_1001
            have hf_1003 : ∀ c, (c < n ∧ (c = 0 ∨ c = 3 ∨ c = 10 ∨ c = 11 ∨ 71 ≤ c)) → en_1003 c = en c := fun c hc => (hu_1003 c (by omega)).trans (hf_1001 c hc)
            refine lv_aload_n hx hb dX11_addTable_105 rfl (lv_at hl 4 rfl) ?_
            refine hp_get hx hb hts ix11 hown hK hh (q := 0) rfl (List.mem_range.mpr (by omega)) es988_1003 rfl 0 (by decide) (hts _ tw_245) (fun _ h9 => h9) rfl dX11_addTable_106 ?_
            refine lv_aload hx hb dX11_addTable_109 (lv_at hl 1 rfl) ?_
            refine lv_iload_n hx hb dX11_addTable_111 rfl (lv_at hl 7 rfl) ?_
            refine hv_calli (va_runV (As := [.ref (ad (108 + 2 * K9)), .int (nI I9)]) (rest := []) ⟨hx, hb, hml, hown, hts⟩ (c_X8_add l D cy _ ad en_1003 n (by omega) hI_1003 K9 I9 (by omega) (by rw [show rdI (en_1003 1) 4 = nI cnt from by rw [es989_1003]; rfl, nI_toInt (by omega)]; omega) (fun d9 h9 h8 => by have e9 : d9 = d := n_eq (h9.symm.trans (show rdI (en_1003 1) 5 = nI d from by rw [es989_1003]; rfl)) (by omega) (by omega); rw [e9]; omega)) (kw_X8_add hts tw_322 ⟨by decide, by decide⟩) (preVC_of hh hK hX (List.mem_range.mpr (by omega)) es989_1003 rfl) rfl rfl hl.1 rfl (lv_room (Nat.le_of_ble_eq_true rfl)) dX11_addTable_112 ⟨Nat.le_of_ble_eq_true rfl, Nat.le_of_ble_eq_true rfl⟩) hh hA (fun r_1004 H locs n_1004 ad_1004 en_1004 hw_1004 hh => ?_)
            obtain ⟨hn1_1004, hA_1004⟩ := hw_1004
            dsimp only at hn1_1004 hA_1004
            subst hn1_1004
            have hda_1004 := hA_1004.1
            have hua_1004 := hA_1004.2.1
            obtain ⟨F1, hTX_1004, cn9, dn9, hT3, hT4, hT5, hTr, hTc, hT4n, hT5n, hT6n, hFo, hFn, hRWa⟩ := TXF_add hn (TXF_keep hTX (fun c hc => (hu_1003 c (by omega)).trans (hu_1001 c (by omega)))) hA_1004 (fun d9 h9 h8 x hx => by have e9 : d9 = d := n_eq (h9.symm.trans (show rdI (en_1003 1) 5 = nI d from by rw [es989_1003]; rfl)) (by omega) (by omega); rw [e9] at hx; rw [hu_1003 _ (by omega), hu_1001 _ (by omega)]; exact hok9 x hx)
            have hcn : cnt = cn9 := n_eq ((show rdI (en_1003 1) 4 = nI cnt from by rw [es989_1003]; rfl).symm.trans hT4) (by omega) (by omega)
            have hdn : d = dn9 := n_eq ((show rdI (en_1003 1) 5 = nI d from by rw [es989_1003]; rfl).symm.trans hT5) (by omega) (by omega)
            subst hcn
            subst hdn
            rw [hu_1003 _ (by omega), hu_1001 _ (by omega)] at hT6n
            have hFn9 : ∀ x, x < d * d → F1 cnt x = rdF (en (108 + 2 * K9)) (I9 + x) := fun x hx => by rw [hFn x hx, hu_1003 _ (by omega), hu_1001 _ (by omega)]
            have hCP_1004 : CPz z cy (List.range (n + 2)) ad_1004 en_1004 := CPz_grow (by omega) hn (CPz_forget (CPz_keep hC (fun c hc => hu_1001 c (by omega))) (fun c hc => hu_1003 c (by omega)) (hx_1003)) hda_1004 (fun c hc => hua_1004 c (by omega))
            have hz7_1004 : rdI (en_1004 70) 7 = 0 := by obtain ⟨_, _, _, _, _, _, _, _, _, -, e9⟩ := hx_1003; rw [hua_1004 70 (by omega), e9]; rfl
            have hl : lv_has ls 8 [(7, .int (nI j996)), (6, .ref (ad_1004 (108 + 2 * K9))), (5, .int r_991), (4, .int (nI (d * d))), (0, .ref (ad_1004 0)), (1, .int (nI K9)), (2, .int la), (3, .int (nI I9))] := by rw [hda_1004 (108 + 2 * K9) (by omega), hda_1004 0 (by omega)]; exact hl
            have b0_1004 : en 0 = .inr (10, [.ref (ad_1004 1), .ref (ad_1004 12), .ref (ad_1004 70), .ref (ad_1004 74), .ref (ad_1004 75), .ref (ad_1004 76), .int (nI wc_988), .int lf_988]) := by rw [hda_1004 1 (by omega), hda_1004 12 (by omega), hda_1004 70 (by omega), hda_1004 74 (by omega), hda_1004 75 (by omega), hda_1004 76 (by omega)]; exact es988
            have b1_1004 : en 1 = .inr (7, [.ref (ad_1004 2), .ref (ad_1004 3), .ref (ad_1004 10), .ref (ad_1004 11), .int (nI cnt), .int (nI d), .int (nI mm)]) := by rw [hda_1004 2 (by omega), hda_1004 3 (by omega), hda_1004 10 (by omega), hda_1004 11 (by omega)]; exact es989
            have b1072K9_1004 : en (107 + 2 * K9) = .inr (3, [.ref (ad_1004 (108 + 2 * K9)), .int (nI sc_993), .int sl_993, .int (nI sr_993)]) := by rw [hda_1004 (108 + 2 * K9) (by omega)]; exact es993
            have b1082K9_1004 : en (108 + 2 * K9) = .inl (cy 0, 40, .inl f_994) := by exact es994
            have b12_1004 : en 12 = .inr (2, [.ref (ad_1004 1), .ref (ad_1004 13), .ref (ad_1004 14), .ref (ad_1004 24), .ref (ad_1004 33), .int (nI hw_1000)]) := by rw [hda_1004 1 (by omega), hda_1004 13 (by omega), hda_1004 14 (by omega), hda_1004 24 (by omega), hda_1004 33 (by omega)]; exact es1000
            have hf_1004 : ∀ c, (c < n ∧ (c = 0 ∨ c = 3 ∨ c = 10 ∨ c = 11 ∨ 71 ≤ c)) → en_1004 c = en c := fun c hc => (hua_1004 c (by omega)).trans (hf_1003 c hc)
            exact hv_iret hx hb hr (rfl) hlocks hh (⟨by show n ≤ n + 2; omega, Nat.le_refl _, (fun i hi => by dsimp only; rw [hda_1004 i (by omega)]), hf_1004, hA_1004.2.2.1, ⟨F1, hTX_1004, ⟨d, cnt, hd2, hd3, hcnt, (by rw [es989]; rfl), (by rw [es989]; rfl), hT5n, hT6n, Or.inr ⟨hw_991.symm.trans c_992, K9, I9, rfl, rfl, by omega, by omega, Or.inr (Or.inr ⟨hok9, hTc, hTr, hT4n, hFo, hFn9⟩)⟩⟩, fun q => hRWa (RW_keep q ((hu_1003 1 (by omega)).trans (hu_1001 1 (by omega))) (fun t ht9 => (hu_1003 _ (by omega)).trans (hu_1001 _ (by omega)))), fun _ => QX_0 (CPz_CP hCP_1004) hz7_1004, Or.inl ⟨hz7_1004, fun q => absurd (n_eq (a := cnt + 1) (b := cnt) (hT4n.symm.trans (q.trans (show rdI (en 1) 4 = nI cnt from by rw [es989]; rfl))) (by omega) (by omega)) (by omega)⟩⟩, hCP_1004⟩) dX11_addTable_115
          · have n_999 : 6 ≤ cnt := n_nlt (a := cnt) (b := 6) c_999 (by omega) (by decide)
            refine lv_bipush (v := (-4)) hx hb dX11_addTable_88 (by decide) ?_
            refine W.widen (k := 2) (n := 12) (by decide) (by decide) ?_
            exact hv_iret hx hb hr (rfl) hlocks hh (⟨Nat.le_refl _, by show n ≤ n + 2; omega, fun i hi => rfl, hf0, hI, ⟨F, hTX, ⟨d, cnt, hd2, hd3, hcnt, (by rw [es989]; rfl), (by rw [es989]; rfl), (by dsimp only; rw [es989]; rfl), rfl, Or.inr ⟨hw_991.symm.trans c_992, K9, I9, rfl, rfl, by omega, by omega, Or.inr (Or.inl ⟨hok9, by omega, rfl, rfl, (by dsimp only; rw [es989]; rfl)⟩)⟩⟩, fun q => q, fun q => q, Or.inr ⟨rfl, rfl⟩⟩, hC⟩) dX11_addTable_90
        · have n_997 : j996 < (d * d) := n_nle (a := (d * d)) (b := j996) c_997 (by omega) (by omega)
          refine lv_aload hx hb dX11_addTable_50 (lv_at hl 1 rfl) ?_
          refine lv_iload_n hx hb dX11_addTable_52 rfl (lv_at hl 7 rfl) ?_
          refine lv_iload hx hb dX11_addTable_53 (lv_at hl 0 rfl) ?_
          refine lv_iadd hx hb dX11_addTable_55 ?_
          rw [nI_add I9 j996]
          refine hp_iald hx hb hK hh (q := (108 + 2 * K9)) rfl (List.mem_range.mpr (by omega)) es994 (vp_in_nI (n := (I9 + j996)) (by omega) (by decide)) dX11_addTable_56 ?_
          rw [nI_clamp (n := (I9 + j996)) (by omega)]
          refine lv_bipush (v := (-9)) hx hb dX11_addTable_57 (by decide) ?_
          refine lv_bipush (v := 9) hx hb dX11_addTable_59 (by decide) ?_
          refine hp_callRi (va_runS (As := [.int (f_994 (I9 + j996)), .int (-9), .int 9]) (rest := []) ⟨hx, hb, hml, hown, hts⟩ (c_X11_isWithin l D cy _ (List.range n) ad en (f_994 (I9 + j996)) (-9) 9) (kw_X11_isWithin hts tw_274 ⟨by decide, by decide⟩) (preS_of hh hK) rfl rfl hl.1 rfl (lv_room (Nat.le_of_ble_eq_true rfl)) dX11_addTable_61 ⟨Nat.le_of_ble_eq_true rfl, Nat.le_of_ble_eq_true rfl⟩) hh hA (fun r_1005 H locs hw_1005 hh => ?_)
          rcases Decidable.em (wi (f_994 (I9 + j996)) (-9) 9) with hp_1005 | hp_1005
          · obtain rfl : r_1005 = 1 := Eq.trans hw_1005 (if_pos hp_1005)
            refine lv_if_ne (tgt := 70) hx hb dX11_addTable_64 (by decide) (fun _ => ?_) (fun c_0 => absurd c_0 (by decide))
            refine lv_iinc (v := (nI (j996 + 1))) (lv' := [(7, .int (nI (j996 + 1))), (6, .ref (ad (108 + 2 * K9))), (5, .int r_991), (4, .int (nI (d * d))), (0, .ref (ad 0)), (1, .int (nI K9)), (2, .int la), (3, .int (nI I9))]) hx hb dX11_addTable_70 hl (k := 0) rfl (nI_1 _) (by decide) rfl (fun ls hl => ?_)
            refine lv_goto (tgt := 43) hx hb dX11_addTable_73 (by decide) ?_
            exact ih_996 ((j996 + 1))  ls H locs (by omega) (by omega) (by omega) (fun x hx => (Nat.lt_or_ge x j996).elim (fun h => i0_996 x h) (fun h => by have e : x = j996 := (by omega); rw [e]; exact hp_1005)) (lv_sub hl [0, 1, 2, 3, 4, 5, 6, 7] rfl) hh
          · obtain rfl : r_1005 = 0 := Eq.trans hw_1005 (if_neg hp_1005)
            refine lv_if_ne (tgt := 70) hx hb dX11_addTable_64 (by decide) (fun c_0 => absurd c_0 (by decide)) (fun _ => ?_)
            refine lv_bipush (v := (-2)) hx hb dX11_addTable_67 (by decide) ?_
            refine W.widen (k := 2) (n := 12) (by decide) (by decide) ?_
            exact hv_iret hx hb hr (rfl) hlocks hh (⟨Nat.le_refl _, by show n ≤ n + 2; omega, fun i hi => rfl, hf0, hI, ⟨F, hTX, ⟨d, cnt, hd2, hd3, hcnt, (by rw [es989]; rfl), (by rw [es989]; rfl), (by dsimp only; rw [es989]; rfl), rfl, Or.inr ⟨hw_991.symm.trans c_992, K9, I9, rfl, rfl, by omega, by omega, Or.inl ⟨fun q => hp_1005 (by have h9 := q j996 (by omega); rw [show rdF (en (108 + 2 * K9)) = f_994 from by rw [es994]; rfl] at h9; exact h9), rfl, rfl, (by dsimp only; rw [es989]; rfl)⟩⟩⟩, fun q => q, fun q => q, Or.inr ⟨rfl, rfl⟩⟩, hC⟩) dX11_addTable_69
    exact loop_996 ((d * d) + 1) 0  ls _ _ (Nat.le_refl _) (by omega) (by omega) (fun x h => absurd h (Nat.not_lt_zero x)) (lv_sub hl [0, 1, 2, 3, 4, 5, 6, 7] rfl) hh
  · refine lv_iload hx hb dX11_addTable_26 (lv_at hl 0 rfl) ?_
    refine W.widen (k := 2) (n := 12) (by decide) (by decide) ?_
    exact hv_iret hx hb hr (rfl) hlocks hh (⟨Nat.le_refl _, by show n ≤ n + 2; omega, fun i hi => rfl, hf0, hI, ⟨F, hTX, ⟨d, cnt, hd2, hd3, hcnt, (by rw [es989]; rfl), (by rw [es989]; rfl), (by dsimp only; rw [es989]; rfl), rfl, Or.inl ⟨fun q => c_992 (hw_991.trans q), hw_991, rfl, (by dsimp only; rw [es989]; rfl)⟩⟩, fun q => q, fun q => q, Or.inr ⟨rfl, rfl⟩⟩, hC⟩) dX11_addTable_28
theorem kw_X11_addTable {R : Room} {s : State} {args : Array Value} {own : String} {idx : Nat} (hts : ∀ w ∈ TB, w.before args s = true) (hl : Cond.methodLink own idx yX11_addTable ∈ TB) (hR : 6 + 1 ≤ R.frames ∧ 8 + (8 + 11) + 40 * 6 ≤ R.locals) : CallW R s args own RX11 idx yX11_addTable cX11_addTable 8 (some .int) (Cond.code yX11_addTable cX11_addTable 8 (some .int) :: TB) (rmC 6 2 12) 2 12 3 := cwV 3 hts (TB_V hl tw_295 ts_1 tw_1 tw_296) rfl rfl rfl (by decide +kernel) hR
set_option maxHeartbeats 8000000 in
set_option maxRecDepth 100000 in
/-- table -/
theorem c_X11_table (l : Launch) (D : va_G) (cy : Nat → ClassId) (sz : Nat) (ad : Nat → Nat) (en : Nat → va_E) (n : Nat) (hn : 115 ≤ n) (hI : SX cy (List.range n) ad en) (kz la iz : Int32) (z : Nat) (F : Nat → Nat → Int32) (hTX : TXF cy (List.range n) ad en F) (hC : CPz z cy (List.range n) ad en)  : Met l yX11_table (Cond.code yX11_table cX11_table 4 (some .int) :: TB) (rmC 7 2 12) (va_Pc [.ref (ad 0), .int kz, .int la, .int iz] (PreC D cy n ad en sz)) (va_Qi (S := Nat × (Nat → Nat) × (Nat → va_E)) (fun r u => n ≤ u.1 ∧ u.1 ≤ n + 2 ∧ (∀ i, i < n → u.2.1 i = ad i) ∧ (∀ c, (c < n ∧ (c = 3 ∨ c = 10 ∨ c = 11 ∨ 71 ≤ c)) → u.2.2 c = en c) ∧ SX cy (List.range u.1) u.2.1 u.2.2 ∧ (∃ F1 : Nat → Nat → Int32, TXF cy (List.range u.1) u.2.1 u.2.2 F1 ∧ XTB F F1 kz la iz r en u.2.2 ∧ (RW F en → RW F1 u.2.2) ∧ (QX cy (List.range n) ad en → QX cy (List.range u.1) u.2.1 u.2.2) ∧ ((rdI (u.2.2 70) 7 = 0 ∧ ¬ rdI (u.2.2 1) 4 = rdI (en 1) 4) ∨ (u.2.2 70 = en 70 ∧ rdI (u.2.2 1) 4 = rdI (en 1) 4))) ∧ CPz z cy (List.range u.1) u.2.1 u.2.2 ∧ rdI (u.2.2 0) 6 = rdI (en 0) 6) (PostV D (Af (List.range n) ad sz)) (Af (List.range n) ad sz)) 2 12 (Af (List.range n) ad sz) := by
  refine Met.ofW (cc := cX11_table) (maxL := 4) (ret := (some .int)) (by decide) rfl ?_
  intro p e s m args below meth c s₁ B hml hv
  obtain ⟨rfl, ⟨hsz, hP, hK, hD0⟩, hX⟩ := hv
  have hx := B.exec
  have hb := B.bytes
  have hr := B.returns
  have hts : ∀ w ∈ TB, w.before _ s = true := fun w h => atoms_spec (ws := _ :: TB) B.pre w (List.mem_cons_of_mem _ h)
  have hown : s.vm.findClass RX11 = some m.cls := findClass_of_methodNamed B.named
  have hlocks := B.notSynchronized
  have hh : Hp D (Af (List.range n) ad sz) (Af (List.range n) ad sz) s.heap s.heap [] (List.range n) ad en := ⟨hP, Af_self hD0, va_S.rf⟩
  have hA : ∀ q : Nat, s.heap.size ≤ q → (Af (List.range n) ad sz) q := fun q h => Or.inr (by rw [hsz] at h; exact h)
  generalize (Af (List.range n) ad sz) = A at hh hA ⊢
  have hl := lv_entry ([.ref (ad 0), .int kz, .int la, .int iz]) (n := 4) (Nat.le_of_ble_eq_true rfl)
  rw [lg_entry_eq]
  generalize (lg_sl ([.ref (ad 0), .int kz, .int la, .int iz]) ++ List.replicate (4 - (lg_sl ([.ref (ad 0), .int kz, .int la, .int iz])).length) Slot.unset).toArray = ls at hl ⊢
  have hl : lv_has ls 4 [(0, .ref (ad 0)), (1, .int kz), (2, .int la), (3, .int iz)] := hl
  have hf0 : ∀ c, (c < n ∧ (c = 3 ∨ c = 10 ∨ c = 11 ∨ 71 ≤ c)) → en c = en c := fun _ _ => rfl
  obtain ⟨wc_1006, lf_1006, es1006, p0_1006⟩ := get_A hI
  refine lv_aload_n hx hb dX11_table_0 rfl (lv_at hl 0 rfl) ?_
  refine lv_aload_n hx hb dX11_table_1 rfl (lv_at hl 0 rfl) ?_
  refine lv_iload_n hx hb dX11_table_2 rfl (lv_at hl 1 rfl) ?_
  refine lv_iload_n hx hb dX11_table_3 rfl (lv_at hl 2 rfl) ?_
  refine lv_iload_n hx hb dX11_table_4 rfl (lv_at hl 3 rfl) ?_
  refine hv_calli (va_runV (As := [.int kz, .int la, .int iz]) (rest := [.ref (ad 0)]) ⟨hx, hb, hml, hown, hts⟩ (c_X11_addTable l D cy _ ad en n (by omega) hI kz la iz z F hTX hC) (kw_X11_addTable hts tw_293 ⟨by decide, by decide⟩) (preVC_of hh hK hX (List.mem_range.mpr (by omega)) es1006 rfl) rfl rfl hl.1 rfl (lv_room (Nat.le_of_ble_eq_true rfl)) dX11_table_5 ⟨Nat.le_of_ble_eq_true rfl, Nat.le_of_ble_eq_true rfl⟩) hh hA (fun r_1007 H locs n_1007 ad_1007 en_1007 hw_1007 hh => ?_)
  obtain ⟨hnl_1007, hnh_1007, hda_1007, hue_1007, hI_1007, ⟨F1, hTX_1007, hXT_1007, hRW_1007, hQA_1007, hTI_1007⟩, hCP_1007⟩ := hw_1007
  dsimp only at hnl_1007 hnh_1007 hda_1007 hue_1007 hI_1007 hTX_1007 hXT_1007 hRW_1007 hQA_1007 hTI_1007 hCP_1007
  refine W.eq (g2 := F0 m 8 ls [.int r_1007, .ref (ad_1007 0)]) (by rw [hda_1007 0 (by omega)]) ?_
  have hl : lv_has ls 4 [(0, .ref (ad_1007 0)), (1, .int kz), (2, .int la), (3, .int iz)] := by rw [hda_1007 0 (by omega)]; exact hl
  have hf_1007 : ∀ c, (c < n ∧ (c = 3 ∨ c = 10 ∨ c = 11 ∨ 71 ≤ c)) → en_1007 c = en c := fun c hc => (hue_1007 c (by omega)).trans (hf0 c hc)
  obtain ⟨wc_1008, lf_1008, es1008, p0_1008⟩ := get_A hI_1007
  refine hp_callMi (va_runV (As := [.int r_1007]) (rest := []) ⟨hx, hb, hml, hown, hts⟩ (c_X11_settle l D cy _ (List.range n_1007) ad_1007 en_1007 hI_1007 r_1007) (kw_X11_settle hts tw_404 ⟨by decide, by decide⟩) (preV_of hh hK (List.mem_range.mpr (by omega)) es1008 rfl) rfl rfl hl.1 rfl (lv_room (Nat.le_of_ble_eq_true rfl)) dX11_table_8 ⟨Nat.le_of_ble_eq_true rfl, Nat.le_of_ble_eq_true rfl⟩) hh hA (fun r_1009 H locs en_1009 hw_1009 hh => ?_)
  obtain ⟨hI_1009, hu_1009, hr_1009, hwc_1009⟩ := hw_1009
  have hf_1009 : ∀ c, (c < n ∧ (c = 3 ∨ c = 10 ∨ c = 11 ∨ 71 ≤ c)) → en_1009 c = en c := fun c hc => (hu_1009 c (by omega)).trans (hf_1007 c hc)
  rw [hr_1009]
  exact hv_iret hx hb hr (rfl) hlocks hh (⟨hnl_1007, hnh_1007, (fun i hi => by dsimp only; rw [hda_1007 i (by omega)]), hf_1009, hI_1009, ⟨F1, TXF_keep hTX_1007 (fun c hc => hu_1009 c (by omega)), XTB_s hXT_1007 (hu_1009 1 (by omega)) rfl, fun q => RW_keep (hRW_1007 q) (hu_1009 1 (by omega)) (fun t ht9 => hu_1009 _ (by omega)), fun q => QX_keep (hQA_1007 q) (kC_6 hI_1007) (fun c hc => hu_1009 c (by omega)), hTI_1007.imp (fun q => ⟨(congrArg (fun x => rdI x 7) (hu_1009 70 (by omega))).trans q.1, fun q9 => q.2 ((congrArg (fun x => rdI x 4) (hu_1009 1 (by omega))).symm.trans q9)⟩) (fun q => ⟨(hu_1009 70 (by omega)).trans q.1, (congrArg (fun x => rdI x 4) (hu_1009 1 (by omega))).trans q.2⟩)⟩, CPz_keep hCP_1007 (fun c hc => hu_1009 c (by omega)), hwc_1009.trans (by rw [hue_1007 0 (by omega)])⟩) dX11_table_11
theorem kw_X11_table {R : Room} {s : State} {args : Array Value} {own : String} {idx : Nat} (hts : ∀ w ∈ TB, w.before args s = true) (hl : Cond.methodLink own idx yX11_table ∈ TB) (hR : 7 + 1 ≤ R.frames ∧ 8 + (4 + 11) + 40 * 7 ≤ R.locals) : CallW R s args own RX11 idx yX11_table cX11_table 4 (some .int) (Cond.code yX11_table cX11_table 4 (some .int) :: TB) (rmC 7 2 12) 2 12 3 := cwV 3 hts (TB_V hl tw_290 tw_291 tw_1 tw_292) rfl rfl rfl (by decide +kernel) hR
