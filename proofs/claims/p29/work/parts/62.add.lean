set_option maxHeartbeats 4000000 in
set_option maxRecDepth 100000 in
/-- checkLength -/
theorem c_J7_checkLength_df160 (l : Launch) (D : va_G) (cy : Nat → ClassId) (sz : Nat) (cs : List Nat) (ad : Nat → Nat) (en : Nat → va_E) (a b : Nat) (hab : a ≤ b) (hb31 : b < 2 ^ 31)   : Met l yJ7_checkLength_df160 (Cond.code yJ7_checkLength_df160 cJ7_checkLength_df160 2 none :: TB) (rmN 0) (va_Pc [.int (nI a), .int (nI b)] (Pre D cy cs ad en sz)) (va_Qv (S := Nat → va_E) (fun en1 => en1 = en) (PostM D cs ad) (Af cs ad sz)) 0 0 (Af cs ad sz) := by
  refine Met.ofW (cc := cJ7_checkLength_df160) (maxL := 2) (ret := none) (by decide) rfl ?_
  intro p e s m args below meth c s₁ B hml hv
  obtain ⟨rfl, hsz, hP, hK, hD0⟩ := hv
  have hx := B.exec
  have hb := B.bytes
  have hr := B.returns
  have hts : ∀ w ∈ TB, w.before _ s = true := fun w h => atoms_spec (ws := _ :: TB) B.pre w (List.mem_cons_of_mem _ h)
  have hown : s.vm.findClass RJ7 = some m.cls := findClass_of_methodNamed B.named
  have hlocks := B.notSynchronized
  have hh : Hp D (Af cs ad sz) (Af cs ad sz) s.heap s.heap [] cs ad en := ⟨hP, Af_self hD0, va_S.rf⟩
  have hA : ∀ q : Nat, s.heap.size ≤ q → Af cs ad sz q := fun q h => Or.inr (by rw [hsz] at h; exact h)
  have hl := lv_entry ([.int (nI a), .int (nI b)]) (n := 2) (Nat.le_of_ble_eq_true rfl)
  rw [lg_entry_eq]
  generalize (lg_sl ([.int (nI a), .int (nI b)]) ++ List.replicate (2 - (lg_sl ([.int (nI a), .int (nI b)])).length) Slot.unset).toArray = ls at hl ⊢
  have hl : lv_has ls 2 [(0, .int (nI a)), (1, .int (nI b))] := hl
  refine lv_iload_n hx hb dJ7_checkLength_df160_0 rfl (lv_at hl 1 rfl) ?_
  refine lv_iload_n hx hb dJ7_checkLength_df160_1 rfl (lv_at hl 0 rfl) ?_
  refine lv_icmp_ge (tgt := 37) hx hb dJ7_checkLength_df160_2 (by decide) (fun c_940 => ?_) (fun c_940 => ?_)
  · have n_940 : a ≤ b := n_le (a := a) (b := b) c_940 (by omega) (by omega)
    exact hp_vretM hx hb hr hlocks hh (rfl) dJ7_checkLength_df160_37
  · have n_940 : b < a := n_nle (a := a) (b := b) c_940 (by omega) (by omega)
    exact absurd n_940 (by omega)
theorem kw_J7_checkLength_df160 {R : Room} {s : State} {args : Array Value} {own : String} {idx : Nat} (hts : ∀ w ∈ TB, w.before args s = true) (hl : Cond.methodLink own idx yJ7_checkLength_df160 ∈ TB) (hR : 0 + 1 ≤ R.frames ∧ 8 + (2 + 11) + 40 * 0 ≤ R.locals) : CallB R s args own idx yJ7_checkLength_df160 cJ7_checkLength_df160 2 none (Cond.code yJ7_checkLength_df160 cJ7_checkLength_df160 2 none :: TB) (rmN 0) 0 0 2 ∧ (Cond.static yJ7_checkLength_df160).before args s = true := va_cwS 2 hts (TB_S2 hl tw_333 tw_10 tw_334) rfl rfl rfl (by decide +kernel) hR
set_option maxHeartbeats 8000000 in
set_option maxRecDepth 100000 in
/-- copyOfRangeInt -/
theorem c_J7_copyOfRangeInt_feecc (l : Launch) (D : va_G) (cy : Nat → ClassId) (sz : Nat) (ad : Nat → Nat) (en : Nat → va_E) (n : Nat) (hn : 115 ≤ n) (hI : SX cy (List.range n) ad en) (J I9 L9 : Nat) (hJ : J < 4) (hL1 : 1 ≤ L9) (hL9 : L9 ≤ 9) (hIL : I9 + L9 ≤ 40)  : Met l yJ7_copyOfRangeInt_feecc (Cond.code yJ7_copyOfRangeInt_feecc cJ7_copyOfRangeInt_feecc 5 (some (.array .int)) :: TB) (rmC 1 1 9) (va_Pc [.ref (ad (108 + 2 * J)), .int (nI I9), .int (nI (I9 + L9))] (PreC D cy n ad en sz)) (va_Qq (S := Nat × (Nat → Nat) × (Nat → va_E)) (fun r u => (∀ i, i < n → u.2.1 i = ad i) ∧ (∀ c, (c < n) → u.2.2 c = en c) ∧ u.1 = n + 1 ∧ r = some (u.2.1 n) ∧ SX cy (List.range (n + 1)) u.2.1 u.2.2 ∧ ∃ g : Nat → Int32, u.2.2 n = .inl (cy 0, L9, .inl g) ∧ ∀ i, i < L9 → g i = rdF (en (108 + 2 * J)) (I9 + i)) (PostV D (Af (List.range n) ad sz)) (Af (List.range n) ad sz)) 1 9 (Af (List.range n) ad sz) := by
  refine Met.ofW (cc := cJ7_copyOfRangeInt_feecc) (maxL := 5) (ret := (some (.array .int))) (by decide) rfl ?_
  intro p e s m args below meth c s₁ B hml hv
  obtain ⟨rfl, ⟨hsz, hP, hK, hD0⟩, hX⟩ := hv
  have hx := B.exec
  have hb := B.bytes
  have hr := B.returns
  have hts : ∀ w ∈ TB, w.before _ s = true := fun w h => atoms_spec (ws := _ :: TB) B.pre w (List.mem_cons_of_mem _ h)
  have hown : s.vm.findClass RJ7 = some m.cls := findClass_of_methodNamed B.named
  have hlocks := B.notSynchronized
  have hh : Hp D (Af (List.range n) ad sz) (Af (List.range n) ad sz) s.heap s.heap [] (List.range n) ad en := ⟨hP, Af_self hD0, va_S.rf⟩
  have hA : ∀ q : Nat, s.heap.size ≤ q → (Af (List.range n) ad sz) q := fun q h => Or.inr (by rw [hsz] at h; exact h)
  generalize (Af (List.range n) ad sz) = A at hh hA ⊢
  have hl := lv_entry ([.ref (ad (108 + 2 * J)), .int (nI I9), .int (nI (I9 + L9))]) (n := 5) (Nat.le_of_ble_eq_true rfl)
  rw [lg_entry_eq]
  generalize (lg_sl ([.ref (ad (108 + 2 * J)), .int (nI I9), .int (nI (I9 + L9))]) ++ List.replicate (5 - (lg_sl ([.ref (ad (108 + 2 * J)), .int (nI I9), .int (nI (I9 + L9))])).length) Slot.unset).toArray = ls at hl ⊢
  have hl : lv_has ls 5 [(0, .ref (ad (108 + 2 * J))), (1, .int (nI I9)), (2, .int (nI (I9 + L9)))] := hl
  have hf0 : ∀ c, (c < n) → en c = en c := fun _ _ => rfl
  obtain ⟨f_941, es941⟩ := get_shc hI (j := J) (by omega)
  refine lv_iload_n hx hb dJ7_copyOfRangeInt_feecc_0 rfl (lv_at hl 1 rfl) ?_
  refine lv_iload_n hx hb dJ7_copyOfRangeInt_feecc_1 rfl (lv_at hl 2 rfl) ?_
  refine hp_callMv (va_runS (As := [.int (nI I9), .int (nI (I9 + L9))]) (rest := []) ⟨hx, hb, hml, hown, hts⟩ (c_J7_checkLength_df160 l D cy _ (List.range n) ad en I9 (I9 + L9) (by omega) (by omega)) (kw_J7_checkLength_df160 hts tw_332 ⟨by decide, by decide⟩) (preS_of hh hK) rfl rfl hl.1 rfl (lv_room (Nat.le_of_ble_eq_true rfl)) dJ7_copyOfRangeInt_feecc_2 ⟨Nat.le_of_ble_eq_true rfl, Nat.le_of_ble_eq_true rfl⟩) hh hA (fun H locs en_942 hw_942 hh => ?_)
  rw [hw_942] at hh
  refine lv_iload_n hx hb dJ7_copyOfRangeInt_feecc_5 rfl (lv_at hl 2 rfl) ?_
  refine lv_iload_n hx hb dJ7_copyOfRangeInt_feecc_6 rfl (lv_at hl 1 rfl) ?_
  refine lv_isub hx hb dJ7_copyOfRangeInt_feecc_7 ?_
  rw [pk_sub (a := (I9 + L9)) (b := I9) (by omega), show I9 + L9 - I9 = L9 by omega]
  refine lv_istore_n (lv' := [(3, .int (nI L9)), (0, .ref (ad (108 + 2 * J))), (1, .int (nI I9)), (2, .int (nI (I9 + L9)))]) hx hb dJ7_copyOfRangeInt_feecc_8 rfl hl (by decide) rfl (fun ls hl => ?_)
  refine lv_iload_n hx hb dJ7_copyOfRangeInt_feecc_9 rfl (lv_at hl 0 rfl) ?_
  refine hq_newa (atype := .int) (ty := .int) hx hb (hts _ tw_121) rfl hK hh hA 0 rfl (N' := L9) (a0 := (L9, .inl (fun _ => 0))) (fun _ => rfl) (nI_pos (by omega)) (nI_clamp (by omega)) (by show L9 * 4 ≤ _; omega) (Nat.le_of_ble_eq_true rfl) (by show 0 + L9 ≤ 9; omega) dJ7_copyOfRangeInt_feecc_10 (fun q_943 H ad_943 en_943 had_943 hen_943 hh => ?_)
  have hda_943 : ∀ i, i < n → ad_943 i = ad i := fun i hi => by rw [had_943, va_up_ne _ _ (by omega)]
  have hue_943 : ∀ i, i < n → en_943 i = en i := fun i hi => by rw [hen_943, va_up_ne _ _ (by omega)]
  have hh : Hp D A A s.heap H _ (List.range (n + 1)) ad_943 en_943 := hh
  have hl : lv_has ls 5 [(3, .int (nI L9)), (0, .ref (ad_943 (108 + 2 * J))), (1, .int (nI I9)), (2, .int (nI (I9 + L9)))] := by rw [hda_943 (108 + 2 * J) (by omega)]; exact hl
  have es941_943 : en_943 (108 + 2 * J) = .inl (cy 0, 40, .inl f_941) := by rw [hue_943 (108 + 2 * J) (by omega)]; exact es941
  have b1082J_943 : en (108 + 2 * J) = .inl (cy 0, 40, .inl f_941) := by exact es941
  have hI_943 : SX cy (List.range (n + 1)) ad_943 en_943 := SX_grow hI (fun c h => List.mem_range.mpr (by omega)) (fun i h => hda_943 i (by omega)) (fun i h => hue_943 i (by omega))
  have hf_943 : ∀ c, (c < n) → en_943 c = en c := fun c hc => (hue_943 c (by omega)).trans (hf0 c hc)
  have en1_943 : en_943 n = .inl (cy 0, L9, .inl (fun _ => 0)) := by rw [hen_943]; exact va_up_self _ _ _
  refine W.eq (g2 := F0 m 12 ls [.ref (ad_943 n)]) (by rw [show ad_943 n = q_943 from by rw [had_943]; exact va_up_self _ _ _]) ?_
  refine W.widen (k := 1) (n := 9) (by omega) (by omega) ?_
  refine lv_astore (lv' := [(4, .ref (ad_943 n)), (3, .int (nI L9)), (0, .ref (ad_943 (108 + 2 * J))), (1, .int (nI I9)), (2, .int (nI (I9 + L9)))]) hx hb dJ7_copyOfRangeInt_feecc_12 hl (by decide) rfl (fun ls hl => ?_)
  refine lv_aload_n hx hb dJ7_copyOfRangeInt_feecc_14 rfl (lv_at hl 2 rfl) ?_
  refine lv_iload_n hx hb dJ7_copyOfRangeInt_feecc_15 rfl (lv_at hl 3 rfl) ?_
  refine lv_aload hx hb dJ7_copyOfRangeInt_feecc_16 (lv_at hl 0 rfl) ?_
  refine lv_iconst (v := 0) hx hb dJ7_copyOfRangeInt_feecc_18 (by decide) ?_
  refine lv_aload_n hx hb dJ7_copyOfRangeInt_feecc_19 rfl (lv_at hl 2 rfl) ?_
  refine hp_alen hx hb hK hh (q := (108 + 2 * J)) rfl (List.mem_range.mpr (by omega)) 0 es941_943 rfl (v := nI 40) (rfl) dJ7_copyOfRangeInt_feecc_20 ?_
  refine lv_iload_n hx hb dJ7_copyOfRangeInt_feecc_21 rfl (lv_at hl 3 rfl) ?_
  refine lv_isub hx hb dJ7_copyOfRangeInt_feecc_22 ?_
  rw [pk_sub (a := 40) (b := I9) (by omega)]
  refine lv_iload_n hx hb dJ7_copyOfRangeInt_feecc_23 rfl (lv_at hl 1 rfl) ?_
  refine va_mmin hx hb (hml.trans hl.1.symm) hown (hts _ tw_335) (hts _ tw_336) (hts _ tw_11) (hts _ tw_337) (Nat.le_of_ble_eq_true rfl) (Nat.le_of_ble_eq_true rfl) (Nat.le_of_ble_eq_true rfl) (by show 9 ≤ 9; omega) dJ7_copyOfRangeInt_feecc_24 ?_
  rw [min_nat (a := L9) (b := (40 - I9)) (by omega) (by omega)]
  refine W.eq (g2 := F0 m 27 ls [.int (nI L9), .int (nI 0), .ref (ad_943 n), .int (nI I9), .ref (ad_943 (108 + 2 * J))]) rfl ?_
  refine hp_copyi hx hb (hml.trans hl.1.symm) hown (hts _ tw_338) (hts _ tw_340) (hts _ tw_339) (hts _ tw_12) hK hh (List.mem_range.mpr (by omega)) (List.mem_range.mpr (by omega)) es941_943 en1_943 I9 0 L9 (by omega) (by decide) (by omega) (by omega) (by omega) (Nat.le_of_ble_eq_true rfl) (Nat.le_of_ble_eq_true rfl) dJ7_copyOfRangeInt_feecc_27 (fun H locs en_944 hen_944 hh => ?_)
  have es941_944 : en_944 (108 + 2 * J) = .inl (cy 0, 40, .inl f_941) := by rw [hen_944, va_up_ne _ _ (by omega)]; exact es941_943
  have en1_944 : en_944 n = .inl (cy 0, L9, .inl (va_cpy f_941 (fun _ => 0) I9 0 L9)) := by rw [hen_944]; exact va_up_self _ _ _
  have hI_944 : SX cy (List.range (n + 1)) ad_943 en_944 := SX_pt hI_943 (fun c => c = n) (fun c hc => by rw [hen_944, va_up_ne _ _ hc]) (fun c hc h9 => absurd h9 (by omega))
  have hf_944 : ∀ c, (c < n) → en_944 c = en c := fun c hc => Eq.trans (show en_944 c = en_943 c from by rw [hen_944, va_up_ne _ _ (by omega)]) (hf_943 c hc)
  refine lv_aload hx hb dJ7_copyOfRangeInt_feecc_30 (lv_at hl 0 rfl) ?_
  exact hv_aret (v := some (ad_943 n)) rfl hx hb hr (Or.inr ⟨_, rfl⟩) hlocks hh (⟨(fun i hi => by dsimp only; rw [hda_943 i (by omega)]), hf_944, rfl, rfl, hI_944, _, en1_944, fun i hi => by rw [pk_cpy_in (Nat.zero_le _) (by omega), show rdF (en (108 + 2 * J)) = f_941 from by rw [es941]; rfl]; rfl⟩) dJ7_copyOfRangeInt_feecc_32
theorem kw_J7_copyOfRangeInt_feecc {R : Room} {s : State} {args : Array Value} {own : String} {idx : Nat} (hts : ∀ w ∈ TB, w.before args s = true) (hl : Cond.methodLink own idx yJ7_copyOfRangeInt_feecc ∈ TB) (hR : 1 + 1 ≤ R.frames ∧ 8 + (5 + 11) + 40 * 1 ≤ R.locals) : CallB R s args own idx yJ7_copyOfRangeInt_feecc cJ7_copyOfRangeInt_feecc 5 (some (.array .int)) (Cond.code yJ7_copyOfRangeInt_feecc cJ7_copyOfRangeInt_feecc 5 (some (.array .int)) :: TB) (rmC 1 1 9) 1 9 3 ∧ (Cond.static yJ7_copyOfRangeInt_feecc).before args s = true := va_cwS 3 hts (TB_S2 hl tw_330 tw_10 tw_331) rfl rfl rfl (by decide +kernel) hR
set_option maxHeartbeats 8000000 in
set_option maxRecDepth 100000 in
/-- copyOfRange -/
theorem c_J7_copyOfRange_feecc (l : Launch) (D : va_G) (cy : Nat → ClassId) (sz : Nat) (ad : Nat → Nat) (en : Nat → va_E) (n : Nat) (hn : 115 ≤ n) (hI : SX cy (List.range n) ad en) (J I9 L9 : Nat) (hJ : J < 4) (hL1 : 1 ≤ L9) (hL9 : L9 ≤ 9) (hIL : I9 + L9 ≤ 40)  : Met l yJ7_copyOfRange_feecc (Cond.code yJ7_copyOfRange_feecc cJ7_copyOfRange_feecc 3 (some (.array .int)) :: TB) (rmC 2 1 9) (va_Pc [.ref (ad (108 + 2 * J)), .int (nI I9), .int (nI (I9 + L9))] (PreC D cy n ad en sz)) (va_Qq (S := Nat × (Nat → Nat) × (Nat → va_E)) (fun r u => (∀ i, i < n → u.2.1 i = ad i) ∧ (∀ c, (c < n) → u.2.2 c = en c) ∧ u.1 = n + 1 ∧ r = some (u.2.1 n) ∧ SX cy (List.range (n + 1)) u.2.1 u.2.2 ∧ ∃ g : Nat → Int32, u.2.2 n = .inl (cy 0, L9, .inl g) ∧ ∀ i, i < L9 → g i = rdF (en (108 + 2 * J)) (I9 + i)) (PostV D (Af (List.range n) ad sz)) (Af (List.range n) ad sz)) 1 9 (Af (List.range n) ad sz) := by
  refine Met.ofW (cc := cJ7_copyOfRange_feecc) (maxL := 3) (ret := (some (.array .int))) (by decide) rfl ?_
  intro p e s m args below meth c s₁ B hml hv
  obtain ⟨rfl, ⟨hsz, hP, hK, hD0⟩, hX⟩ := hv
  have hx := B.exec
  have hb := B.bytes
  have hr := B.returns
  have hts : ∀ w ∈ TB, w.before _ s = true := fun w h => atoms_spec (ws := _ :: TB) B.pre w (List.mem_cons_of_mem _ h)
  have hown : s.vm.findClass RJ7 = some m.cls := findClass_of_methodNamed B.named
  have hlocks := B.notSynchronized
  have hh : Hp D (Af (List.range n) ad sz) (Af (List.range n) ad sz) s.heap s.heap [] (List.range n) ad en := ⟨hP, Af_self hD0, va_S.rf⟩
  have hA : ∀ q : Nat, s.heap.size ≤ q → (Af (List.range n) ad sz) q := fun q h => Or.inr (by rw [hsz] at h; exact h)
  generalize (Af (List.range n) ad sz) = A at hh hA ⊢
  have hl := lv_entry ([.ref (ad (108 + 2 * J)), .int (nI I9), .int (nI (I9 + L9))]) (n := 3) (Nat.le_of_ble_eq_true rfl)
  rw [lg_entry_eq]
  generalize (lg_sl ([.ref (ad (108 + 2 * J)), .int (nI I9), .int (nI (I9 + L9))]) ++ List.replicate (3 - (lg_sl ([.ref (ad (108 + 2 * J)), .int (nI I9), .int (nI (I9 + L9))])).length) Slot.unset).toArray = ls at hl ⊢
  have hl : lv_has ls 3 [(0, .ref (ad (108 + 2 * J))), (1, .int (nI I9)), (2, .int (nI (I9 + L9)))] := hl
  have hf0 : ∀ c, (c < n) → en c = en c := fun _ _ => rfl
  refine lv_iload_n hx hb dJ7_copyOfRange_feecc_0 rfl (lv_at hl 1 rfl) ?_
  refine lv_if_ne (tgt := 10) hx hb dJ7_copyOfRange_feecc_1 (by decide) (fun c_945 => ?_) (fun c_945 => ?_)
  · have n_945 : I9 ≠ 0 := n_neq (a := I9) (b := 0) c_945 (by omega) (by decide)
    refine lv_aload_n hx hb dJ7_copyOfRange_feecc_10 rfl (lv_at hl 0 rfl) ?_
    refine lv_iload_n hx hb dJ7_copyOfRange_feecc_11 rfl (lv_at hl 1 rfl) ?_
    refine lv_iload_n hx hb dJ7_copyOfRange_feecc_12 rfl (lv_at hl 2 rfl) ?_
    obtain ⟨f_946, es946⟩ := get_shc hI (j := J) (by omega)
    refine hv_callq (va_runS (As := [.ref (ad (108 + 2 * J)), .int (nI I9), .int (nI (I9 + L9))]) (rest := []) ⟨hx, hb, hml, hown, hts⟩ (c_J7_copyOfRangeInt_feecc l D cy _ ad en n (by omega) hI J I9 L9 (by omega) (by omega) (by omega) (by omega)) (kw_J7_copyOfRangeInt_feecc hts tw_329 ⟨by decide, by decide⟩) (preC_of hh hK hX) rfl rfl hl.1 rfl (lv_room (Nat.le_of_ble_eq_true rfl)) dJ7_copyOfRange_feecc_13 ⟨Nat.le_of_ble_eq_true rfl, Nat.le_of_ble_eq_true rfl⟩) hh hA (fun r_947 H locs n_947 ad_947 en_947 hw_947 hh => ?_)
    obtain ⟨hda_947, hue_947, hn1_947, hr_947, hI_947, g_947, eg_947, hg_947⟩ := hw_947
    dsimp only at hda_947 hue_947 hn1_947 hr_947 hI_947 eg_947
    subst hn1_947
    rw [hr_947]
    have hl : lv_has ls 3 [(0, .ref (ad_947 (108 + 2 * J))), (1, .int (nI I9)), (2, .int (nI (I9 + L9)))] := by rw [hda_947 (108 + 2 * J) (by omega)]; exact hl
    have es946_947 : en_947 (108 + 2 * J) = .inl (cy 0, 40, .inl f_946) := by rw [hue_947 (108 + 2 * J) (by omega)]; exact es946
    have b1082J_947 : en (108 + 2 * J) = .inl (cy 0, 40, .inl f_946) := by exact es946
    refine W.eq (g2 := F0 m 16 ls [.ref (ad_947 n)]) rfl ?_
    have hf_947 : ∀ c, (c < n) → en_947 c = en c := fun c hc => (hue_947 c (by omega)).trans (hf0 c hc)
    exact hv_aret (v := some (ad_947 n)) rfl hx hb hr (Or.inr ⟨_, rfl⟩) hlocks hh (⟨(fun i hi => by dsimp only; rw [hda_947 i (by omega)]), hf_947, rfl, rfl, hI_947, _, eg_947, hg_947⟩) dJ7_copyOfRange_feecc_16
  · have n_945 : I9 = 0 := n_eq (a := I9) (b := 0) c_945 (by omega) (by decide)
    refine lv_iload_n hx hb dJ7_copyOfRange_feecc_4 rfl (lv_at hl 2 rfl) ?_
    refine lv_aload_n hx hb dJ7_copyOfRange_feecc_5 rfl (lv_at hl 0 rfl) ?_
    obtain ⟨f_948, es948⟩ := get_shc hI (j := J) (by omega)
    refine hp_alen hx hb hK hh (q := (108 + 2 * J)) rfl (List.mem_range.mpr (by omega)) 0 es948 rfl (v := nI 40) (rfl) dJ7_copyOfRange_feecc_6 ?_
    refine lv_icmp_eq (tgt := 17) hx hb dJ7_copyOfRange_feecc_7 (by decide) (fun c_949 => ?_) (fun c_949 => ?_)
    · have n_949 : (I9 + L9) = 40 := n_eq (a := (I9 + L9)) (b := 40) c_949 (by omega) (by decide)
      exact absurd n_949 (by omega)
    · have n_949 : (I9 + L9) ≠ 40 := n_neq (a := (I9 + L9)) (b := 40) c_949 (by omega) (by decide)
      refine lv_aload_n hx hb dJ7_copyOfRange_feecc_10 rfl (lv_at hl 0 rfl) ?_
      refine lv_iload_n hx hb dJ7_copyOfRange_feecc_11 rfl (lv_at hl 1 rfl) ?_
      refine lv_iload_n hx hb dJ7_copyOfRange_feecc_12 rfl (lv_at hl 2 rfl) ?_
      refine hv_callq (va_runS (As := [.ref (ad (108 + 2 * J)), .int (nI I9), .int (nI (I9 + L9))]) (rest := []) ⟨hx, hb, hml, hown, hts⟩ (c_J7_copyOfRangeInt_feecc l D cy _ ad en n (by omega) hI J I9 L9 (by omega) (by omega) (by omega) (by omega)) (kw_J7_copyOfRangeInt_feecc hts tw_329 ⟨by decide, by decide⟩) (preC_of hh hK hX) rfl rfl hl.1 rfl (lv_room (Nat.le_of_ble_eq_true rfl)) dJ7_copyOfRange_feecc_13 ⟨Nat.le_of_ble_eq_true rfl, Nat.le_of_ble_eq_true rfl⟩) hh hA (fun r_950 H locs n_950 ad_950 en_950 hw_950 hh => ?_)
      obtain ⟨hda_950, hue_950, hn1_950, hr_950, hI_950, g_950, eg_950, hg_950⟩ := hw_950
      dsimp only at hda_950 hue_950 hn1_950 hr_950 hI_950 eg_950
      subst hn1_950
      rw [hr_950]
      have hl : lv_has ls 3 [(0, .ref (ad_950 (108 + 2 * J))), (1, .int (nI I9)), (2, .int (nI (I9 + L9)))] := by rw [hda_950 (108 + 2 * J) (by omega)]; exact hl
      have es948_950 : en_950 (108 + 2 * J) = .inl (cy 0, 40, .inl f_948) := by rw [hue_950 (108 + 2 * J) (by omega)]; exact es948
      have b1082J_950 : en (108 + 2 * J) = .inl (cy 0, 40, .inl f_948) := by exact es948
      refine W.eq (g2 := F0 m 16 ls [.ref (ad_950 n)]) rfl ?_
      have hf_950 : ∀ c, (c < n) → en_950 c = en c := fun c hc => (hue_950 c (by omega)).trans (hf0 c hc)
      exact hv_aret (v := some (ad_950 n)) rfl hx hb hr (Or.inr ⟨_, rfl⟩) hlocks hh (⟨(fun i hi => by dsimp only; rw [hda_950 i (by omega)]), hf_950, rfl, rfl, hI_950, _, eg_950, hg_950⟩) dJ7_copyOfRange_feecc_16
theorem kw_J7_copyOfRange_feecc {R : Room} {s : State} {args : Array Value} {own : String} {idx : Nat} (hts : ∀ w ∈ TB, w.before args s = true) (hl : Cond.methodLink own idx yJ7_copyOfRange_feecc ∈ TB) (hR : 2 + 1 ≤ R.frames ∧ 8 + (3 + 11) + 40 * 2 ≤ R.locals) : CallB R s args own idx yJ7_copyOfRange_feecc cJ7_copyOfRange_feecc 3 (some (.array .int)) (Cond.code yJ7_copyOfRange_feecc cJ7_copyOfRange_feecc 3 (some (.array .int)) :: TB) (rmC 2 1 9) 1 9 3 ∧ (Cond.static yJ7_copyOfRange_feecc).before args s = true := va_cwS 3 hts (TB_S2 hl tw_327 tw_10 tw_328) rfl rfl rfl (by decide +kernel) hR
set_option maxHeartbeats 4000000 in
set_option maxRecDepth 100000 in
/-- X7_init -/
theorem c_X7_init_6 (l : Launch) (D : va_G) (cy : Nat → ClassId) (sz : Nat) (cs : List Nat) (ad : Nat → Nat) (en : Nat → va_E) (tb t d te : Nat) (htb : tb ∈ cs) (etb : en tb = .inr (6, [.int 0, .int 0, .null]))  : Met l yX7_init (Cond.code yX7_init cX7_init 4 none :: TB) (rmN 1) (va_Pc [.ref (ad tb), .int (nI t), .int (nI d), .ref (ad te)] (Pre D cy cs ad en sz)) (va_Qv (S := Nat → va_E) (fun en1 => en1 = va_up en tb (.inr (6, [.int (nI t), .int (nI d), .ref (ad te)]))) (PostM D cs ad) (Af cs ad sz)) 0 0 (Af cs ad sz) := by
  refine Met.ofW (cc := cX7_init) (maxL := 4) (ret := none) (by decide) rfl ?_
  intro p e s m args below meth c s₁ B hml hv
  obtain ⟨rfl, hsz, hP, hK, hD0⟩ := hv
  have hx := B.exec
  have hb := B.bytes
  have hr := B.returns
  have hts : ∀ w ∈ TB, w.before _ s = true := fun w h => atoms_spec (ws := _ :: TB) B.pre w (List.mem_cons_of_mem _ h)
  have hown : s.vm.findClass RX7 = some m.cls := findClass_of_methodNamed B.named
  have hlocks := B.notSynchronized
  have hh : Hp D (Af cs ad sz) (Af cs ad sz) s.heap s.heap [] cs ad en := ⟨hP, Af_self hD0, va_S.rf⟩
  have hA : ∀ q : Nat, s.heap.size ≤ q → Af cs ad sz q := fun q h => Or.inr (by rw [hsz] at h; exact h)
  have hl := lv_entry ([.ref (ad tb), .int (nI t), .int (nI d), .ref (ad te)]) (n := 4) (Nat.le_of_ble_eq_true rfl)
  rw [lg_entry_eq]
  generalize (lg_sl ([.ref (ad tb), .int (nI t), .int (nI d), .ref (ad te)]) ++ List.replicate (4 - (lg_sl ([.ref (ad tb), .int (nI t), .int (nI d), .ref (ad te)])).length) Slot.unset).toArray = ls at hl ⊢
  have hl : lv_has ls 4 [(0, .ref (ad tb)), (1, .int (nI t)), (2, .int (nI d)), (3, .ref (ad te))] := hl
  have hin : meth.name = "<init>" := (name_of_methodNamed B.named B.method).1
  refine lv_aload_n hx hb dX7_init_0 rfl (lv_at hl 0 rfl) ?_
  refine W.objInit hx hb hown (hts _ tw_375) (hts _ tw_23) (hts _ tw_24) rfl (by rw [hml]; exact hl.1) rfl dX7_init_1 (Nat.le_of_ble_eq_true rfl) (Nat.le_of_ble_eq_true rfl) ?_
  refine W.eq (g2 := F0 m 4 ls []) rfl ?_
  refine lv_aload_n hx hb dX7_init_4 rfl (lv_at hl 0 rfl) ?_
  refine lv_iload_n hx hb dX7_init_5 rfl (lv_at hl 1 rfl) ?_
  refine hp_putF hx hb hts ix7 tyX7 tyX7_ok nmX7 hown hK hh (q := tb) rfl htb etb rfl 0 (by decide) (hts _ tw_376) (fun _ h9 => h9) rfl hin rfl (ty := .int) (by decide +kernel) rfl rfl (Nat.le_of_ble_eq_true rfl) dX7_init_6 (fun H locs en_951 hen_951 hh => ?_)
  have etb_951 : en_951 tb = .inr (6, [.int (nI t), .int 0, .null]) := by rw [hen_951]; exact va_up_self _ _ _
  refine lv_aload_n hx hb dX7_init_9 rfl (lv_at hl 0 rfl) ?_
  refine lv_iload_n hx hb dX7_init_10 rfl (lv_at hl 2 rfl) ?_
  refine hp_putF hx hb hts ix7 tyX7 tyX7_ok nmX7 hown hK hh (q := tb) rfl htb etb_951 rfl 1 (by decide) (hts _ tw_377) (fun _ h9 => h9) rfl hin rfl (ty := .int) (by decide +kernel) rfl rfl (Nat.le_of_ble_eq_true rfl) dX7_init_11 (fun H locs en_952 hen_952 hh => ?_)
  have etb_952 : en_952 tb = .inr (6, [.int (nI t), .int (nI d), .null]) := by rw [hen_952]; exact va_up_self _ _ _
  refine lv_aload_n hx hb dX7_init_14 rfl (lv_at hl 0 rfl) ?_
  refine lv_aload_n hx hb dX7_init_15 rfl (lv_at hl 3 rfl) ?_
  refine hp_putF hx hb hts ix7 tyX7 tyX7_ok nmX7 hown hK hh (q := tb) rfl htb etb_952 rfl 2 (by decide) (hts _ tw_380) (fun _ h9 => h9) rfl hin rfl (ty := (.array .int)) (by decide +kernel) rfl rfl (Nat.le_of_ble_eq_true rfl) dX7_init_16 (fun H locs en_953 hen_953 hh => ?_)
  have etb_953 : en_953 tb = .inr (6, [.int (nI t), .int (nI d), .ref (ad te)]) := by rw [hen_953]; exact va_up_self _ _ _
  exact hp_vretM hx hb hr hlocks hh (by rw [hen_953, hen_952, hen_951, bx_uu, bx_uu]; try rfl) dX7_init_19
set_option maxHeartbeats 4000000 in
set_option maxRecDepth 100000 in
/-- X7_init -/
theorem c_X7_init_1 (l : Launch) (D : va_G) (cy : Nat → ClassId) (sz : Nat) (cs : List Nat) (ad : Nat → Nat) (en : Nat → va_E) (tb t d te : Nat) (htb : tb ∈ cs) (etb : en tb = .inr (1, [.int 0, .int 0, .null]))  : Met l yX7_init (Cond.code yX7_init cX7_init 4 none :: TB) (rmN 1) (va_Pc [.ref (ad tb), .int (nI t), .int (nI d), .ref (ad te)] (Pre D cy cs ad en sz)) (va_Qv (S := Nat → va_E) (fun en1 => en1 = va_up en tb (.inr (1, [.int (nI t), .int (nI d), .ref (ad te)]))) (PostM D cs ad) (Af cs ad sz)) 0 0 (Af cs ad sz) := by
  refine Met.ofW (cc := cX7_init) (maxL := 4) (ret := none) (by decide) rfl ?_
  intro p e s m args below meth c s₁ B hml hv
  obtain ⟨rfl, hsz, hP, hK, hD0⟩ := hv
  have hx := B.exec
  have hb := B.bytes
  have hr := B.returns
  have hts : ∀ w ∈ TB, w.before _ s = true := fun w h => atoms_spec (ws := _ :: TB) B.pre w (List.mem_cons_of_mem _ h)
  have hown : s.vm.findClass RX7 = some m.cls := findClass_of_methodNamed B.named
  have hlocks := B.notSynchronized
  have hh : Hp D (Af cs ad sz) (Af cs ad sz) s.heap s.heap [] cs ad en := ⟨hP, Af_self hD0, va_S.rf⟩
  have hA : ∀ q : Nat, s.heap.size ≤ q → Af cs ad sz q := fun q h => Or.inr (by rw [hsz] at h; exact h)
  have hl := lv_entry ([.ref (ad tb), .int (nI t), .int (nI d), .ref (ad te)]) (n := 4) (Nat.le_of_ble_eq_true rfl)
  rw [lg_entry_eq]
  generalize (lg_sl ([.ref (ad tb), .int (nI t), .int (nI d), .ref (ad te)]) ++ List.replicate (4 - (lg_sl ([.ref (ad tb), .int (nI t), .int (nI d), .ref (ad te)])).length) Slot.unset).toArray = ls at hl ⊢
  have hl : lv_has ls 4 [(0, .ref (ad tb)), (1, .int (nI t)), (2, .int (nI d)), (3, .ref (ad te))] := hl
  have hin : meth.name = "<init>" := (name_of_methodNamed B.named B.method).1
  refine lv_aload_n hx hb dX7_init_0 rfl (lv_at hl 0 rfl) ?_
  refine W.objInit hx hb hown (hts _ tw_375) (hts _ tw_23) (hts _ tw_24) rfl (by rw [hml]; exact hl.1) rfl dX7_init_1 (Nat.le_of_ble_eq_true rfl) (Nat.le_of_ble_eq_true rfl) ?_
  refine W.eq (g2 := F0 m 4 ls []) rfl ?_
  refine lv_aload_n hx hb dX7_init_4 rfl (lv_at hl 0 rfl) ?_
  refine lv_iload_n hx hb dX7_init_5 rfl (lv_at hl 1 rfl) ?_
  refine hp_putF hx hb hts ix1 tyX1 tyX1_ok nmX1 hown hK hh (q := tb) rfl htb etb rfl 0 (by decide) (hts _ tw_376) (fun _ h9 => h9) rfl hin rfl (ty := .int) (by decide +kernel) rfl rfl (Nat.le_of_ble_eq_true rfl) dX7_init_6 (fun H locs en_954 hen_954 hh => ?_)
  have etb_954 : en_954 tb = .inr (1, [.int (nI t), .int 0, .null]) := by rw [hen_954]; exact va_up_self _ _ _
  refine lv_aload_n hx hb dX7_init_9 rfl (lv_at hl 0 rfl) ?_
  refine lv_iload_n hx hb dX7_init_10 rfl (lv_at hl 2 rfl) ?_
  refine hp_putF hx hb hts ix1 tyX1 tyX1_ok nmX1 hown hK hh (q := tb) rfl htb etb_954 rfl 1 (by decide) (hts _ tw_377) (fun _ h9 => h9) rfl hin rfl (ty := .int) (by decide +kernel) rfl rfl (Nat.le_of_ble_eq_true rfl) dX7_init_11 (fun H locs en_955 hen_955 hh => ?_)
  have etb_955 : en_955 tb = .inr (1, [.int (nI t), .int (nI d), .null]) := by rw [hen_955]; exact va_up_self _ _ _
  refine lv_aload_n hx hb dX7_init_14 rfl (lv_at hl 0 rfl) ?_
  refine lv_aload_n hx hb dX7_init_15 rfl (lv_at hl 3 rfl) ?_
  refine hp_putF hx hb hts ix1 tyX1 tyX1_ok nmX1 hown hK hh (q := tb) rfl htb etb_955 rfl 2 (by decide) (hts _ tw_380) (fun _ h9 => h9) rfl hin rfl (ty := (.array .int)) (by decide +kernel) rfl rfl (Nat.le_of_ble_eq_true rfl) dX7_init_16 (fun H locs en_956 hen_956 hh => ?_)
  have etb_956 : en_956 tb = .inr (1, [.int (nI t), .int (nI d), .ref (ad te)]) := by rw [hen_956]; exact va_up_self _ _ _
  exact hp_vretM hx hb hr hlocks hh (by rw [hen_956, hen_955, hen_954, bx_uu, bx_uu]; try rfl) dX7_init_19
set_option maxHeartbeats 4000000 in
set_option maxRecDepth 100000 in
/-- X7_init -/
theorem c_X7_init_4 (l : Launch) (D : va_G) (cy : Nat → ClassId) (sz : Nat) (cs : List Nat) (ad : Nat → Nat) (en : Nat → va_E) (tb t d te : Nat) (htb : tb ∈ cs) (etb : en tb = .inr (4, [.int 0, .int 0, .null]))  : Met l yX7_init (Cond.code yX7_init cX7_init 4 none :: TB) (rmN 1) (va_Pc [.ref (ad tb), .int (nI t), .int (nI d), .ref (ad te)] (Pre D cy cs ad en sz)) (va_Qv (S := Nat → va_E) (fun en1 => en1 = va_up en tb (.inr (4, [.int (nI t), .int (nI d), .ref (ad te)]))) (PostM D cs ad) (Af cs ad sz)) 0 0 (Af cs ad sz) := by
  refine Met.ofW (cc := cX7_init) (maxL := 4) (ret := none) (by decide) rfl ?_
  intro p e s m args below meth c s₁ B hml hv
  obtain ⟨rfl, hsz, hP, hK, hD0⟩ := hv
  have hx := B.exec
  have hb := B.bytes
  have hr := B.returns
  have hts : ∀ w ∈ TB, w.before _ s = true := fun w h => atoms_spec (ws := _ :: TB) B.pre w (List.mem_cons_of_mem _ h)
  have hown : s.vm.findClass RX7 = some m.cls := findClass_of_methodNamed B.named
  have hlocks := B.notSynchronized
  have hh : Hp D (Af cs ad sz) (Af cs ad sz) s.heap s.heap [] cs ad en := ⟨hP, Af_self hD0, va_S.rf⟩
  have hA : ∀ q : Nat, s.heap.size ≤ q → Af cs ad sz q := fun q h => Or.inr (by rw [hsz] at h; exact h)
  have hl := lv_entry ([.ref (ad tb), .int (nI t), .int (nI d), .ref (ad te)]) (n := 4) (Nat.le_of_ble_eq_true rfl)
  rw [lg_entry_eq]
  generalize (lg_sl ([.ref (ad tb), .int (nI t), .int (nI d), .ref (ad te)]) ++ List.replicate (4 - (lg_sl ([.ref (ad tb), .int (nI t), .int (nI d), .ref (ad te)])).length) Slot.unset).toArray = ls at hl ⊢
  have hl : lv_has ls 4 [(0, .ref (ad tb)), (1, .int (nI t)), (2, .int (nI d)), (3, .ref (ad te))] := hl
  have hin : meth.name = "<init>" := (name_of_methodNamed B.named B.method).1
  refine lv_aload_n hx hb dX7_init_0 rfl (lv_at hl 0 rfl) ?_
  refine W.objInit hx hb hown (hts _ tw_375) (hts _ tw_23) (hts _ tw_24) rfl (by rw [hml]; exact hl.1) rfl dX7_init_1 (Nat.le_of_ble_eq_true rfl) (Nat.le_of_ble_eq_true rfl) ?_
  refine W.eq (g2 := F0 m 4 ls []) rfl ?_
  refine lv_aload_n hx hb dX7_init_4 rfl (lv_at hl 0 rfl) ?_
  refine lv_iload_n hx hb dX7_init_5 rfl (lv_at hl 1 rfl) ?_
  refine hp_putF hx hb hts ix4 tyX4 tyX4_ok nmX4 hown hK hh (q := tb) rfl htb etb rfl 0 (by decide) (hts _ tw_376) (fun _ h9 => h9) rfl hin rfl (ty := .int) (by decide +kernel) rfl rfl (Nat.le_of_ble_eq_true rfl) dX7_init_6 (fun H locs en_957 hen_957 hh => ?_)
  have etb_957 : en_957 tb = .inr (4, [.int (nI t), .int 0, .null]) := by rw [hen_957]; exact va_up_self _ _ _
  refine lv_aload_n hx hb dX7_init_9 rfl (lv_at hl 0 rfl) ?_
  refine lv_iload_n hx hb dX7_init_10 rfl (lv_at hl 2 rfl) ?_
  refine hp_putF hx hb hts ix4 tyX4 tyX4_ok nmX4 hown hK hh (q := tb) rfl htb etb_957 rfl 1 (by decide) (hts _ tw_377) (fun _ h9 => h9) rfl hin rfl (ty := .int) (by decide +kernel) rfl rfl (Nat.le_of_ble_eq_true rfl) dX7_init_11 (fun H locs en_958 hen_958 hh => ?_)
  have etb_958 : en_958 tb = .inr (4, [.int (nI t), .int (nI d), .null]) := by rw [hen_958]; exact va_up_self _ _ _
  refine lv_aload_n hx hb dX7_init_14 rfl (lv_at hl 0 rfl) ?_
  refine lv_aload_n hx hb dX7_init_15 rfl (lv_at hl 3 rfl) ?_
  refine hp_putF hx hb hts ix4 tyX4 tyX4_ok nmX4 hown hK hh (q := tb) rfl htb etb_958 rfl 2 (by decide) (hts _ tw_380) (fun _ h9 => h9) rfl hin rfl (ty := (.array .int)) (by decide +kernel) rfl rfl (Nat.le_of_ble_eq_true rfl) dX7_init_16 (fun H locs en_959 hen_959 hh => ?_)
  have etb_959 : en_959 tb = .inr (4, [.int (nI t), .int (nI d), .ref (ad te)]) := by rw [hen_959]; exact va_up_self _ _ _
  exact hp_vretM hx hb hr hlocks hh (by rw [hen_959, hen_958, hen_957, bx_uu, bx_uu]; try rfl) dX7_init_19
theorem kw_X7_init {R : Room} {s : State} {args : Array Value} {own : String} {idx : Nat} (hts : ∀ w ∈ TB, w.before args s = true) (hl : Cond.methodLink own idx yX7_init ∈ TB) (hR : 1 + 1 ≤ R.frames ∧ 8 + (4 + 11) + 40 * 1 ≤ R.locals) : CallB R s args own idx yX7_init cX7_init 4 none (Cond.code yX7_init cX7_init 4 none :: TB) (rmC 1 0 0) 0 0 3 ∧ yX7_init.name = "<init>" ∧ (Cond.instanceMethod yX7_init).before args s = true := cwI 3 hts (TB_W tw_374) rfl rfl rfl (hts _ tw_13) (hts _ hl) (hts _ tw_373) rfl (by decide +kernel) hR
set_option maxHeartbeats 4000000 in
set_option maxRecDepth 100000 in
/-- X1_init -/
theorem c_X1_init_1 (l : Launch) (D : va_G) (cy : Nat → ClassId) (sz : Nat) (cs : List Nat) (ad : Nat → Nat) (en : Nat → va_E) (tb t d te : Nat) (htb : tb ∈ cs) (etb : en tb = .inr (1, [.int 0, .int 0, .null]))  : Met l yX1_init (Cond.code yX1_init cX1_init 4 none :: TB) (rmN 2) (va_Pc [.ref (ad tb), .int (nI t), .int (nI d), .ref (ad te)] (Pre D cy cs ad en sz)) (va_Qv (S := Nat → va_E) (fun en1 => en1 = va_up en tb (.inr (1, [.int (nI t), .int (nI d), .ref (ad te)]))) (PostM D cs ad) (Af cs ad sz)) 0 0 (Af cs ad sz) := by
  refine Met.ofW (cc := cX1_init) (maxL := 4) (ret := none) (by decide) rfl ?_
  intro p e s m args below meth c s₁ B hml hv
  obtain ⟨rfl, hsz, hP, hK, hD0⟩ := hv
  have hx := B.exec
  have hb := B.bytes
  have hr := B.returns
  have hts : ∀ w ∈ TB, w.before _ s = true := fun w h => atoms_spec (ws := _ :: TB) B.pre w (List.mem_cons_of_mem _ h)
  have hown : s.vm.findClass RX1 = some m.cls := findClass_of_methodNamed B.named
  have hlocks := B.notSynchronized
  have hh : Hp D (Af cs ad sz) (Af cs ad sz) s.heap s.heap [] cs ad en := ⟨hP, Af_self hD0, va_S.rf⟩
  have hA : ∀ q : Nat, s.heap.size ≤ q → Af cs ad sz q := fun q h => Or.inr (by rw [hsz] at h; exact h)
  have hl := lv_entry ([.ref (ad tb), .int (nI t), .int (nI d), .ref (ad te)]) (n := 4) (Nat.le_of_ble_eq_true rfl)
  rw [lg_entry_eq]
  generalize (lg_sl ([.ref (ad tb), .int (nI t), .int (nI d), .ref (ad te)]) ++ List.replicate (4 - (lg_sl ([.ref (ad tb), .int (nI t), .int (nI d), .ref (ad te)])).length) Slot.unset).toArray = ls at hl ⊢
  have hl : lv_has ls 4 [(0, .ref (ad tb)), (1, .int (nI t)), (2, .int (nI d)), (3, .ref (ad te))] := hl
  have hin : meth.name = "<init>" := (name_of_methodNamed B.named B.method).1
  refine lv_aload_n hx hb dX1_init_0 rfl (lv_at hl 0 rfl) ?_
  refine lv_iload_n hx hb dX1_init_1 rfl (lv_at hl 1 rfl) ?_
  refine lv_iload_n hx hb dX1_init_2 rfl (lv_at hl 2 rfl) ?_
  refine lv_aload_n hx hb dX1_init_3 rfl (lv_at hl 3 rfl) ?_
  refine hp_callMv (va_runI (As := [.int (nI t), .int (nI d), .ref (ad te)]) (rest := []) ⟨hx, hb, hml, hown, hts⟩ (c_X7_init_1 l D cy _ cs ad en tb t d te htb etb) (kw_X7_init hts tw_372 ⟨by decide, by decide⟩) (preS_of hh hK) rfl rfl hl.1 rfl (lv_room (Nat.le_of_ble_eq_true rfl)) dX1_init_4 ⟨Nat.le_of_ble_eq_true rfl, Nat.le_of_ble_eq_true rfl⟩) hh hA (fun H locs en_960 hw_960 hh => ?_)
  have hen_960 := hw_960
  have etb_960 : en_960 tb = .inr (1, [.int (nI t), .int (nI d), .ref (ad te)]) := by rw [hen_960]; exact va_up_self _ _ _
  exact hp_vretM hx hb hr hlocks hh (by rw [hen_960]; try rfl) dX1_init_7
set_option maxHeartbeats 4000000 in
set_option maxRecDepth 100000 in
/-- X1_init -/
theorem c_X1_init_4 (l : Launch) (D : va_G) (cy : Nat → ClassId) (sz : Nat) (cs : List Nat) (ad : Nat → Nat) (en : Nat → va_E) (tb t d te : Nat) (htb : tb ∈ cs) (etb : en tb = .inr (4, [.int 0, .int 0, .null]))  : Met l yX1_init (Cond.code yX1_init cX1_init 4 none :: TB) (rmN 2) (va_Pc [.ref (ad tb), .int (nI t), .int (nI d), .ref (ad te)] (Pre D cy cs ad en sz)) (va_Qv (S := Nat → va_E) (fun en1 => en1 = va_up en tb (.inr (4, [.int (nI t), .int (nI d), .ref (ad te)]))) (PostM D cs ad) (Af cs ad sz)) 0 0 (Af cs ad sz) := by
  refine Met.ofW (cc := cX1_init) (maxL := 4) (ret := none) (by decide) rfl ?_
  intro p e s m args below meth c s₁ B hml hv
  obtain ⟨rfl, hsz, hP, hK, hD0⟩ := hv
  have hx := B.exec
  have hb := B.bytes
  have hr := B.returns
  have hts : ∀ w ∈ TB, w.before _ s = true := fun w h => atoms_spec (ws := _ :: TB) B.pre w (List.mem_cons_of_mem _ h)
  have hown : s.vm.findClass RX1 = some m.cls := findClass_of_methodNamed B.named
  have hlocks := B.notSynchronized
  have hh : Hp D (Af cs ad sz) (Af cs ad sz) s.heap s.heap [] cs ad en := ⟨hP, Af_self hD0, va_S.rf⟩
  have hA : ∀ q : Nat, s.heap.size ≤ q → Af cs ad sz q := fun q h => Or.inr (by rw [hsz] at h; exact h)
  have hl := lv_entry ([.ref (ad tb), .int (nI t), .int (nI d), .ref (ad te)]) (n := 4) (Nat.le_of_ble_eq_true rfl)
  rw [lg_entry_eq]
  generalize (lg_sl ([.ref (ad tb), .int (nI t), .int (nI d), .ref (ad te)]) ++ List.replicate (4 - (lg_sl ([.ref (ad tb), .int (nI t), .int (nI d), .ref (ad te)])).length) Slot.unset).toArray = ls at hl ⊢
  have hl : lv_has ls 4 [(0, .ref (ad tb)), (1, .int (nI t)), (2, .int (nI d)), (3, .ref (ad te))] := hl
  have hin : meth.name = "<init>" := (name_of_methodNamed B.named B.method).1
  refine lv_aload_n hx hb dX1_init_0 rfl (lv_at hl 0 rfl) ?_
  refine lv_iload_n hx hb dX1_init_1 rfl (lv_at hl 1 rfl) ?_
  refine lv_iload_n hx hb dX1_init_2 rfl (lv_at hl 2 rfl) ?_
  refine lv_aload_n hx hb dX1_init_3 rfl (lv_at hl 3 rfl) ?_
  refine hp_callMv (va_runI (As := [.int (nI t), .int (nI d), .ref (ad te)]) (rest := []) ⟨hx, hb, hml, hown, hts⟩ (c_X7_init_4 l D cy _ cs ad en tb t d te htb etb) (kw_X7_init hts tw_372 ⟨by decide, by decide⟩) (preS_of hh hK) rfl rfl hl.1 rfl (lv_room (Nat.le_of_ble_eq_true rfl)) dX1_init_4 ⟨Nat.le_of_ble_eq_true rfl, Nat.le_of_ble_eq_true rfl⟩) hh hA (fun H locs en_961 hw_961 hh => ?_)
  have hen_961 := hw_961
  have etb_961 : en_961 tb = .inr (4, [.int (nI t), .int (nI d), .ref (ad te)]) := by rw [hen_961]; exact va_up_self _ _ _
  exact hp_vretM hx hb hr hlocks hh (by rw [hen_961]; try rfl) dX1_init_7
theorem kw_X1_init {R : Room} {s : State} {args : Array Value} {own : String} {idx : Nat} (hts : ∀ w ∈ TB, w.before args s = true) (hl : Cond.methodLink own idx yX1_init ∈ TB) (hR : 2 + 1 ≤ R.frames ∧ 8 + (4 + 11) + 40 * 2 ≤ R.locals) : CallB R s args own idx yX1_init cX1_init 4 none (Cond.code yX1_init cX1_init 4 none :: TB) (rmC 2 0 0) 0 0 3 ∧ yX1_init.name = "<init>" ∧ (Cond.instanceMethod yX1_init).before args s = true := cwI 3 hts (TB_W tw_371) rfl rfl rfl (hts _ tw_14) (hts _ hl) (hts _ tw_370) rfl (by decide +kernel) hR
set_option maxHeartbeats 4000000 in
set_option maxRecDepth 100000 in
/-- X4_init -/
theorem c_X4_init_4 (l : Launch) (D : va_G) (cy : Nat → ClassId) (sz : Nat) (cs : List Nat) (ad : Nat → Nat) (en : Nat → va_E) (tb t d te : Nat) (htb : tb ∈ cs) (etb : en tb = .inr (4, [.int 0, .int 0, .null]))  : Met l yX4_init (Cond.code yX4_init cX4_init 4 none :: TB) (rmN 3) (va_Pc [.ref (ad tb), .int (nI t), .int (nI d), .ref (ad te)] (Pre D cy cs ad en sz)) (va_Qv (S := Nat → va_E) (fun en1 => en1 = va_up en tb (.inr (4, [.int (nI t), .int (nI d), .ref (ad te)]))) (PostM D cs ad) (Af cs ad sz)) 0 0 (Af cs ad sz) := by
  refine Met.ofW (cc := cX4_init) (maxL := 4) (ret := none) (by decide) rfl ?_
  intro p e s m args below meth c s₁ B hml hv
  obtain ⟨rfl, hsz, hP, hK, hD0⟩ := hv
  have hx := B.exec
  have hb := B.bytes
  have hr := B.returns
  have hts : ∀ w ∈ TB, w.before _ s = true := fun w h => atoms_spec (ws := _ :: TB) B.pre w (List.mem_cons_of_mem _ h)
  have hown : s.vm.findClass RX4 = some m.cls := findClass_of_methodNamed B.named
  have hlocks := B.notSynchronized
  have hh : Hp D (Af cs ad sz) (Af cs ad sz) s.heap s.heap [] cs ad en := ⟨hP, Af_self hD0, va_S.rf⟩
  have hA : ∀ q : Nat, s.heap.size ≤ q → Af cs ad sz q := fun q h => Or.inr (by rw [hsz] at h; exact h)
  have hl := lv_entry ([.ref (ad tb), .int (nI t), .int (nI d), .ref (ad te)]) (n := 4) (Nat.le_of_ble_eq_true rfl)
  rw [lg_entry_eq]
  generalize (lg_sl ([.ref (ad tb), .int (nI t), .int (nI d), .ref (ad te)]) ++ List.replicate (4 - (lg_sl ([.ref (ad tb), .int (nI t), .int (nI d), .ref (ad te)])).length) Slot.unset).toArray = ls at hl ⊢
  have hl : lv_has ls 4 [(0, .ref (ad tb)), (1, .int (nI t)), (2, .int (nI d)), (3, .ref (ad te))] := hl
  have hin : meth.name = "<init>" := (name_of_methodNamed B.named B.method).1
  refine lv_aload_n hx hb dX4_init_0 rfl (lv_at hl 0 rfl) ?_
  refine lv_iload_n hx hb dX4_init_1 rfl (lv_at hl 1 rfl) ?_
  refine lv_iload_n hx hb dX4_init_2 rfl (lv_at hl 2 rfl) ?_
  refine lv_aload_n hx hb dX4_init_3 rfl (lv_at hl 3 rfl) ?_
  refine hp_callMv (va_runI (As := [.int (nI t), .int (nI d), .ref (ad te)]) (rest := []) ⟨hx, hb, hml, hown, hts⟩ (c_X1_init_4 l D cy _ cs ad en tb t d te htb etb) (kw_X1_init hts tw_369 ⟨by decide, by decide⟩) (preS_of hh hK) rfl rfl hl.1 rfl (lv_room (Nat.le_of_ble_eq_true rfl)) dX4_init_4 ⟨Nat.le_of_ble_eq_true rfl, Nat.le_of_ble_eq_true rfl⟩) hh hA (fun H locs en_962 hw_962 hh => ?_)
  have hen_962 := hw_962
  have etb_962 : en_962 tb = .inr (4, [.int (nI t), .int (nI d), .ref (ad te)]) := by rw [hen_962]; exact va_up_self _ _ _
  exact hp_vretM hx hb hr hlocks hh (by rw [hen_962]; try rfl) dX4_init_7
theorem kw_X4_init {R : Room} {s : State} {args : Array Value} {own : String} {idx : Nat} (hts : ∀ w ∈ TB, w.before args s = true) (hl : Cond.methodLink own idx yX4_init ∈ TB) (hR : 3 + 1 ≤ R.frames ∧ 8 + (4 + 11) + 40 * 3 ≤ R.locals) : CallB R s args own idx yX4_init cX4_init 4 none (Cond.code yX4_init cX4_init 4 none :: TB) (rmC 3 0 0) 0 0 3 ∧ yX4_init.name = "<init>" ∧ (Cond.instanceMethod yX4_init).before args s = true := cwI 3 hts (TB_W tw_368) rfl rfl rfl (hts _ tw_15) (hts _ hl) (hts _ tw_367) rfl (by decide +kernel) hR
set_option maxHeartbeats 8000000 in
set_option maxRecDepth 100000 in
/-- makeTable -/
theorem c_X8_makeTable (l : Launch) (D : va_G) (cy : Nat → ClassId) (sz : Nat) (ad : Nat → Nat) (en : Nat → va_E) (n : Nat) (hn : 115 ≤ n) (hI : SX cy (List.range n) ad en) (t q : Nat) (hq115 : 115 ≤ q) (hqn : q < n) (f0 : Nat → Int32) (dq : Nat) (hdq : ∀ d, rdI (en 1) 5 = nI d → d ≤ 3 → dq = d * d) (eq : en q = .inl (cy 0, dq, .inl f0)) : Met l yX8_makeTable (Cond.code yX8_makeTable cX8_makeTable 3 (some (.object "AnyOrder$Table")) :: TB) (rmC 4 1 3) (va_Pc [.ref (ad 1), .int (nI t), .ref (ad q)] (PreC D cy n ad en sz)) (va_Qq (S := Nat × (Nat → Nat) × (Nat → va_E)) (fun r u => (∀ i, i < n → u.2.1 i = ad i) ∧ (∀ c, (c < n) → u.2.2 c = en c) ∧ u.1 = n + 1 ∧ r = some (u.2.1 n) ∧ SX cy (List.range (n + 1)) u.2.1 u.2.2 ∧ ∃ ci : Nat, (ci = 6 ∨ ci = 1 ∨ ci = 4) ∧ u.2.2 n = .inr (ci, [.int (nI t), .int (rdI (en 1) 5), .ref (u.2.1 q)]) ∧ kdP ci f0 (rdI (en 1) 5).toNatClampNeg) (PostV D (Af (List.range n) ad sz)) (Af (List.range n) ad sz)) 1 3 (Af (List.range n) ad sz) := by
  refine Met.ofW (cc := cX8_makeTable) (maxL := 3) (ret := (some (.object "AnyOrder$Table"))) (by decide) rfl ?_
  intro p e s m args below meth c s₁ B hml hv
  obtain ⟨rfl, ⟨hsz, hP, hK, hD0⟩, hX⟩ := hv
  have hx := B.exec
  have hb := B.bytes
  have hr := B.returns
  have hts : ∀ w ∈ TB, w.before _ s = true := fun w h => atoms_spec (ws := _ :: TB) B.pre w (List.mem_cons_of_mem _ h)
  have hown : s.vm.findClass RX8 = some m.cls := findClass_of_methodNamed B.named
  have hlocks := B.notSynchronized
  have hh : Hp D (Af (List.range n) ad sz) (Af (List.range n) ad sz) s.heap s.heap [] (List.range n) ad en := ⟨hP, Af_self hD0, va_S.rf⟩
  have hA : ∀ q : Nat, s.heap.size ≤ q → (Af (List.range n) ad sz) q := fun q h => Or.inr (by rw [hsz] at h; exact h)
  generalize (Af (List.range n) ad sz) = A at hh hA ⊢
  have hl := lv_entry ([.ref (ad 1), .int (nI t), .ref (ad q)]) (n := 3) (Nat.le_of_ble_eq_true rfl)
  rw [lg_entry_eq]
  generalize (lg_sl ([.ref (ad 1), .int (nI t), .ref (ad q)]) ++ List.replicate (3 - (lg_sl ([.ref (ad 1), .int (nI t), .ref (ad q)])).length) Slot.unset).toArray = ls at hl ⊢
  have hl : lv_has ls 3 [(0, .ref (ad 1)), (1, .int (nI t)), (2, .ref (ad q))] := hl
  have hf0 : ∀ c, (c < n) → en c = en c := fun _ _ => rfl
  obtain ⟨cnt, d, mm, es963, hcnt, hd2, hd3, hmm⟩ := get_T hI
  have hdd : d * d ≤ 9 := Nat.mul_le_mul hd3 hd3
  have hdq9 := hdq d (by rw [es963]; rfl) hd3
  rw [hdq9] at eq
  refine lv_aload_n hx hb dX8_makeTable_0 rfl (lv_at hl 0 rfl) ?_
  refine lv_aload_n hx hb dX8_makeTable_1 rfl (lv_at hl 2 rfl) ?_
  refine hp_callRi (va_runV (As := [.ref (ad q)]) (rest := []) ⟨hx, hb, hml, hown, hts⟩ (c_X8_isShuffle l D cy _ (List.range n) ad en (List.mem_range.mpr (by omega)) cnt d mm hcnt hd2 hd3 hmm hdd q (List.mem_range.mpr (by omega)) f0 es963 eq) (kw_X8_isShuffle hts tw_356 ⟨by decide, by decide⟩) (preV_of hh hK (List.mem_range.mpr (by omega)) es963 rfl) rfl rfl hl.1 rfl (lv_room (Nat.le_of_ble_eq_true rfl)) dX8_makeTable_2 ⟨Nat.le_of_ble_eq_true rfl, Nat.le_of_ble_eq_true rfl⟩) hh hA (fun r_964 H locs hw_964 hh => ?_)
  rcases hw_964 with ⟨hb_964, ht_964⟩ | ⟨hb_964, ht_964⟩
  · obtain rfl : r_964 = 1 := hb_964
    refine lv_if_eq (tgt := 22) hx hb dX8_makeTable_5 (by decide) (fun c_0 => absurd c_0 (by decide)) (fun _ => ?_)
    refine hq_new (ci := 4) (fs := [.int 0, .int 0, .null]) hx hb hts ix4 tyX4 tyX4_ok hown (hts _ tw_364) (hts _ tw_365) (hts _ tw_15) hK hh hA rfl (fun j hj => by rcases (show j = 0 ∨ j = 1 ∨ j = 2 by omega) with rfl | rfl | rfl <;> rfl) (Nat.le_of_ble_eq_true rfl) (Nat.le_of_ble_eq_true rfl) dX8_makeTable_8 (fun q_965 H ad_965 en_965 had_965 hen_965 hh => ?_)
    have hda_965 : ∀ i, i < n → ad_965 i = ad i := fun i hi => by rw [had_965, va_up_ne _ _ (by omega)]
    have hue_965 : ∀ i, i < n → en_965 i = en i := fun i hi => by rw [hen_965, va_up_ne _ _ (by omega)]
    have hh : Hp D A A s.heap H _ (List.range (n + 1)) ad_965 en_965 := hh
    have hl : lv_has ls 3 [(0, .ref (ad_965 1)), (1, .int (nI t)), (2, .ref (ad_965 q))] := by rw [hda_965 1 (by omega), hda_965 q (by omega)]; exact hl
    have eq_965 : en_965 q = .inl (cy 0, (d * d), .inl f0) := by rw [hue_965 q (by omega)]; exact eq
    have es963_965 : en_965 1 = .inr (7, [.ref (ad_965 2), .ref (ad_965 3), .ref (ad_965 10), .ref (ad_965 11), .int (nI cnt), .int (nI d), .int (nI mm)]) := by rw [hue_965 1 (by omega), hda_965 2 (by omega), hda_965 3 (by omega), hda_965 10 (by omega), hda_965 11 (by omega)]; exact es963
    have b1_965 : en 1 = .inr (7, [.ref (ad_965 2), .ref (ad_965 3), .ref (ad_965 10), .ref (ad_965 11), .int (nI cnt), .int (nI d), .int (nI mm)]) := by rw [hda_965 2 (by omega), hda_965 3 (by omega), hda_965 10 (by omega), hda_965 11 (by omega)]; exact es963
    have hI_965 : SX cy (List.range (n + 1)) ad_965 en_965 := SX_grow hI (fun c h => List.mem_range.mpr (by omega)) (fun i h => hda_965 i (by omega)) (fun i h => hue_965 i (by omega))
    have hf_965 : ∀ c, (c < n) → en_965 c = en c := fun c hc => (hue_965 c (by omega)).trans (hf0 c hc)
    have en1_965 : en_965 n = .inr (4, [.int 0, .int 0, .null]) := by rw [hen_965]; exact va_up_self _ _ _
    refine W.eq (g2 := F0 m 11 ls [.ref (ad_965 n)]) (by rw [show ad_965 n = q_965 from by rw [had_965]; exact va_up_self _ _ _]) ?_
    refine W.widen (k := 1) (n := 3) (by omega) (by omega) ?_
    refine lv_dup hx hb dX8_makeTable_11 rfl ?_
    refine lv_iload_n hx hb dX8_makeTable_12 rfl (lv_at hl 1 rfl) ?_
    refine lv_aload_n hx hb dX8_makeTable_13 rfl (lv_at hl 0 rfl) ?_
    refine hp_get hx hb hts ix8 hown hK hh (q := 1) rfl (List.mem_range.mpr (by omega)) es963_965 rfl 5 (by decide) (hts _ tw_44) (fun _ h9 => h9) rfl dX8_makeTable_14 ?_
    refine lv_aload_n hx hb dX8_makeTable_17 rfl (lv_at hl 2 rfl) ?_
    refine hp_callMv (va_runI (As := [.int (nI t), .int (nI d), .ref (ad_965 q)]) (rest := [.ref (ad_965 n)]) ⟨hx, hb, hml, hown, hts⟩ (c_X4_init_4 l D cy _ (List.range (n + 1)) ad_965 en_965 n t d q (List.mem_range.mpr (by omega)) en1_965) (kw_X4_init hts tw_366 ⟨by decide, by decide⟩) (preS_of hh hK) rfl rfl hl.1 rfl (lv_room (Nat.le_of_ble_eq_true rfl)) dX8_makeTable_18 ⟨Nat.le_of_ble_eq_true rfl, Nat.le_of_ble_eq_true rfl⟩) hh hA (fun H locs en_966 hw_966 hh => ?_)
    have hen_966 := hw_966
    have eq_966 : en_966 q = .inl (cy 0, (d * d), .inl f0) := by rw [hen_966, va_up_ne _ _ (by omega)]; exact eq_965
    have es963_966 : en_966 1 = .inr (7, [.ref (ad_965 2), .ref (ad_965 3), .ref (ad_965 10), .ref (ad_965 11), .int (nI cnt), .int (nI d), .int (nI mm)]) := by rw [hen_966, va_up_ne _ _ (by omega)]; exact es963_965
    have en1_966 : en_966 n = .inr (4, [.int (nI t), .int (nI d), .ref (ad_965 q)]) := by rw [hen_966]; exact va_up_self _ _ _
    have hI_966 : SX cy (List.range (n + 1)) ad_965 en_966 := SX_pt hI_965 (fun c => c = n) (fun c hc => by rw [hen_966, va_up_ne _ _ hc]) (fun c hc h9 => absurd h9 (by omega))
    have hf_966 : ∀ c, (c < n) → en_966 c = en c := fun c hc => Eq.trans (show en_966 c = en_965 c from by rw [hen_966, va_up_ne _ _ (by omega)]) (hf_965 c hc)
    exact hv_aret (v := some (ad_965 n)) rfl hx hb hr (Or.inl ⟨_, rfl⟩) hlocks hh (⟨(fun i hi => by dsimp only; rw [hda_965 i (by omega)]), hf_966, rfl, rfl, hI_966, 4, Or.inr (Or.inr rfl), by dsimp only; rw [show rdI (en 1) 5 = nI d from by rw [es963]; rfl]; exact en1_966, by rw [show rdI (en 1) 5 = nI d from by rw [es963]; rfl, nI_clamp (by omega)]; exact Or.inl ⟨rfl, ht_964⟩⟩) dX8_makeTable_21
  · obtain rfl : r_964 = 0 := hb_964
    refine lv_if_eq (tgt := 22) hx hb dX8_makeTable_5 (by decide) (fun _ => ?_) (fun c_0 => absurd c_0 (by decide))
    refine lv_aload_n hx hb dX8_makeTable_22 rfl (lv_at hl 0 rfl) ?_
    refine lv_aload_n hx hb dX8_makeTable_23 rfl (lv_at hl 2 rfl) ?_
    refine hp_callRi (va_runV (As := [.ref (ad q)]) (rest := []) ⟨hx, hb, hml, hown, hts⟩ (c_X8_isEven l D cy _ (List.range n) ad en (List.mem_range.mpr (by omega)) cnt d mm hcnt hd2 hd3 hmm hdd q (List.mem_range.mpr (by omega)) f0 es963 eq) (kw_X8_isEven hts tw_360 ⟨by decide, by decide⟩) (preV_of hh hK (List.mem_range.mpr (by omega)) es963 rfl) rfl rfl hl.1 rfl (lv_room (Nat.le_of_ble_eq_true rfl)) dX8_makeTable_24 ⟨Nat.le_of_ble_eq_true rfl, Nat.le_of_ble_eq_true rfl⟩) hh hA (fun r_967 H locs hw_967 hh => ?_)
    rcases hw_967 with ⟨hb_967, ht_967⟩ | ⟨hb_967, ht_967⟩
    · obtain rfl : r_967 = 1 := hb_967
      refine lv_if_eq (tgt := 46) hx hb dX8_makeTable_27 (by decide) (fun c_0 => absurd c_0 (by decide)) (fun _ => ?_)
      refine hq_new (ci := 1) (fs := [.int 0, .int 0, .null]) hx hb hts ix1 tyX1 tyX1_ok hown (hts _ tw_391) (hts _ tw_392) (hts _ tw_14) hK hh hA rfl (fun j hj => by rcases (show j = 0 ∨ j = 1 ∨ j = 2 by omega) with rfl | rfl | rfl <;> rfl) (Nat.le_of_ble_eq_true rfl) (Nat.le_of_ble_eq_true rfl) dX8_makeTable_30 (fun q_968 H ad_968 en_968 had_968 hen_968 hh => ?_)
      have hda_968 : ∀ i, i < n → ad_968 i = ad i := fun i hi => by rw [had_968, va_up_ne _ _ (by omega)]
      have hue_968 : ∀ i, i < n → en_968 i = en i := fun i hi => by rw [hen_968, va_up_ne _ _ (by omega)]
      have hh : Hp D A A s.heap H _ (List.range (n + 1)) ad_968 en_968 := hh
      have hl : lv_has ls 3 [(0, .ref (ad_968 1)), (1, .int (nI t)), (2, .ref (ad_968 q))] := by rw [hda_968 1 (by omega), hda_968 q (by omega)]; exact hl
      have eq_968 : en_968 q = .inl (cy 0, (d * d), .inl f0) := by rw [hue_968 q (by omega)]; exact eq
      have es963_968 : en_968 1 = .inr (7, [.ref (ad_968 2), .ref (ad_968 3), .ref (ad_968 10), .ref (ad_968 11), .int (nI cnt), .int (nI d), .int (nI mm)]) := by rw [hue_968 1 (by omega), hda_968 2 (by omega), hda_968 3 (by omega), hda_968 10 (by omega), hda_968 11 (by omega)]; exact es963
      have b1_968 : en 1 = .inr (7, [.ref (ad_968 2), .ref (ad_968 3), .ref (ad_968 10), .ref (ad_968 11), .int (nI cnt), .int (nI d), .int (nI mm)]) := by rw [hda_968 2 (by omega), hda_968 3 (by omega), hda_968 10 (by omega), hda_968 11 (by omega)]; exact es963
      have hI_968 : SX cy (List.range (n + 1)) ad_968 en_968 := SX_grow hI (fun c h => List.mem_range.mpr (by omega)) (fun i h => hda_968 i (by omega)) (fun i h => hue_968 i (by omega))
      have hf_968 : ∀ c, (c < n) → en_968 c = en c := fun c hc => (hue_968 c (by omega)).trans (hf0 c hc)
      have en1_968 : en_968 n = .inr (1, [.int 0, .int 0, .null]) := by rw [hen_968]; exact va_up_self _ _ _
      refine W.eq (g2 := F0 m 33 ls [.ref (ad_968 n)]) (by rw [show ad_968 n = q_968 from by rw [had_968]; exact va_up_self _ _ _]) ?_
      refine W.widen (k := 1) (n := 3) (by omega) (by omega) ?_
      refine lv_dup hx hb dX8_makeTable_33 rfl ?_
      refine lv_iload_n hx hb dX8_makeTable_34 rfl (lv_at hl 1 rfl) ?_
      refine lv_aload_n hx hb dX8_makeTable_35 rfl (lv_at hl 0 rfl) ?_
      refine hp_get hx hb hts ix8 hown hK hh (q := 1) rfl (List.mem_range.mpr (by omega)) es963_968 rfl 5 (by decide) (hts _ tw_44) (fun _ h9 => h9) rfl dX8_makeTable_36 ?_
      refine lv_aload_n hx hb dX8_makeTable_39 rfl (lv_at hl 2 rfl) ?_
      refine hp_callMv (va_runI (As := [.int (nI t), .int (nI d), .ref (ad_968 q)]) (rest := [.ref (ad_968 n)]) ⟨hx, hb, hml, hown, hts⟩ (c_X1_init_1 l D cy _ (List.range (n + 1)) ad_968 en_968 n t d q (List.mem_range.mpr (by omega)) en1_968) (kw_X1_init hts tw_393 ⟨by decide, by decide⟩) (preS_of hh hK) rfl rfl hl.1 rfl (lv_room (Nat.le_of_ble_eq_true rfl)) dX8_makeTable_40 ⟨Nat.le_of_ble_eq_true rfl, Nat.le_of_ble_eq_true rfl⟩) hh hA (fun H locs en_969 hw_969 hh => ?_)
      have hen_969 := hw_969
      have eq_969 : en_969 q = .inl (cy 0, (d * d), .inl f0) := by rw [hen_969, va_up_ne _ _ (by omega)]; exact eq_968
      have es963_969 : en_969 1 = .inr (7, [.ref (ad_968 2), .ref (ad_968 3), .ref (ad_968 10), .ref (ad_968 11), .int (nI cnt), .int (nI d), .int (nI mm)]) := by rw [hen_969, va_up_ne _ _ (by omega)]; exact es963_968
      have en1_969 : en_969 n = .inr (1, [.int (nI t), .int (nI d), .ref (ad_968 q)]) := by rw [hen_969]; exact va_up_self _ _ _
      have hI_969 : SX cy (List.range (n + 1)) ad_968 en_969 := SX_pt hI_968 (fun c => c = n) (fun c hc => by rw [hen_969, va_up_ne _ _ hc]) (fun c hc h9 => absurd h9 (by omega))
      have hf_969 : ∀ c, (c < n) → en_969 c = en c := fun c hc => Eq.trans (show en_969 c = en_968 c from by rw [hen_969, va_up_ne _ _ (by omega)]) (hf_968 c hc)
      refine lv_goto (tgt := 59) hx hb dX8_makeTable_43 (by decide) ?_
      exact hv_aret (v := some (ad_968 n)) rfl hx hb hr (Or.inl ⟨_, rfl⟩) hlocks hh (⟨(fun i hi => by dsimp only; rw [hda_968 i (by omega)]), hf_969, rfl, rfl, hI_969, 1, Or.inr (Or.inl rfl), by dsimp only; rw [show rdI (en 1) 5 = nI d from by rw [es963]; rfl]; exact en1_969, by rw [show rdI (en 1) 5 = nI d from by rw [es963]; rfl, nI_clamp (by omega)]; exact Or.inr (Or.inl ⟨rfl, ht_964, ht_967⟩)⟩) dX8_makeTable_59
    · obtain rfl : r_967 = 0 := hb_967
      refine lv_if_eq (tgt := 46) hx hb dX8_makeTable_27 (by decide) (fun _ => ?_) (fun c_0 => absurd c_0 (by decide))
      refine hq_new (ci := 6) (fs := [.int 0, .int 0, .null]) hx hb hts ix7 tyX7 tyX7_ok hown (hts _ tw_31) (hts _ tw_398) (hts _ tw_13) hK hh hA rfl (fun j hj => by rcases (show j = 0 ∨ j = 1 ∨ j = 2 by omega) with rfl | rfl | rfl <;> rfl) (Nat.le_of_ble_eq_true rfl) (Nat.le_of_ble_eq_true rfl) dX8_makeTable_46 (fun q_970 H ad_970 en_970 had_970 hen_970 hh => ?_)
      have hda_970 : ∀ i, i < n → ad_970 i = ad i := fun i hi => by rw [had_970, va_up_ne _ _ (by omega)]
      have hue_970 : ∀ i, i < n → en_970 i = en i := fun i hi => by rw [hen_970, va_up_ne _ _ (by omega)]
      have hh : Hp D A A s.heap H _ (List.range (n + 1)) ad_970 en_970 := hh
      have hl : lv_has ls 3 [(0, .ref (ad_970 1)), (1, .int (nI t)), (2, .ref (ad_970 q))] := by rw [hda_970 1 (by omega), hda_970 q (by omega)]; exact hl
      have eq_970 : en_970 q = .inl (cy 0, (d * d), .inl f0) := by rw [hue_970 q (by omega)]; exact eq
      have es963_970 : en_970 1 = .inr (7, [.ref (ad_970 2), .ref (ad_970 3), .ref (ad_970 10), .ref (ad_970 11), .int (nI cnt), .int (nI d), .int (nI mm)]) := by rw [hue_970 1 (by omega), hda_970 2 (by omega), hda_970 3 (by omega), hda_970 10 (by omega), hda_970 11 (by omega)]; exact es963
      have b1_970 : en 1 = .inr (7, [.ref (ad_970 2), .ref (ad_970 3), .ref (ad_970 10), .ref (ad_970 11), .int (nI cnt), .int (nI d), .int (nI mm)]) := by rw [hda_970 2 (by omega), hda_970 3 (by omega), hda_970 10 (by omega), hda_970 11 (by omega)]; exact es963
      have hI_970 : SX cy (List.range (n + 1)) ad_970 en_970 := SX_grow hI (fun c h => List.mem_range.mpr (by omega)) (fun i h => hda_970 i (by omega)) (fun i h => hue_970 i (by omega))
      have hf_970 : ∀ c, (c < n) → en_970 c = en c := fun c hc => (hue_970 c (by omega)).trans (hf0 c hc)
      have en1_970 : en_970 n = .inr (6, [.int 0, .int 0, .null]) := by rw [hen_970]; exact va_up_self _ _ _
      refine W.eq (g2 := F0 m 49 ls [.ref (ad_970 n)]) (by rw [show ad_970 n = q_970 from by rw [had_970]; exact va_up_self _ _ _]) ?_
      refine W.widen (k := 1) (n := 3) (by omega) (by omega) ?_
      refine lv_dup hx hb dX8_makeTable_49 rfl ?_
      refine lv_iload_n hx hb dX8_makeTable_50 rfl (lv_at hl 1 rfl) ?_
      refine lv_aload_n hx hb dX8_makeTable_51 rfl (lv_at hl 0 rfl) ?_
      refine hp_get hx hb hts ix8 hown hK hh (q := 1) rfl (List.mem_range.mpr (by omega)) es963_970 rfl 5 (by decide) (hts _ tw_44) (fun _ h9 => h9) rfl dX8_makeTable_52 ?_
      refine lv_aload_n hx hb dX8_makeTable_55 rfl (lv_at hl 2 rfl) ?_
      refine hp_callMv (va_runI (As := [.int (nI t), .int (nI d), .ref (ad_970 q)]) (rest := [.ref (ad_970 n)]) ⟨hx, hb, hml, hown, hts⟩ (c_X7_init_6 l D cy _ (List.range (n + 1)) ad_970 en_970 n t d q (List.mem_range.mpr (by omega)) en1_970) (kw_X7_init hts tw_399 ⟨by decide, by decide⟩) (preS_of hh hK) rfl rfl hl.1 rfl (lv_room (Nat.le_of_ble_eq_true rfl)) dX8_makeTable_56 ⟨Nat.le_of_ble_eq_true rfl, Nat.le_of_ble_eq_true rfl⟩) hh hA (fun H locs en_971 hw_971 hh => ?_)
      have hen_971 := hw_971
      have eq_971 : en_971 q = .inl (cy 0, (d * d), .inl f0) := by rw [hen_971, va_up_ne _ _ (by omega)]; exact eq_970
      have es963_971 : en_971 1 = .inr (7, [.ref (ad_970 2), .ref (ad_970 3), .ref (ad_970 10), .ref (ad_970 11), .int (nI cnt), .int (nI d), .int (nI mm)]) := by rw [hen_971, va_up_ne _ _ (by omega)]; exact es963_970
      have en1_971 : en_971 n = .inr (6, [.int (nI t), .int (nI d), .ref (ad_970 q)]) := by rw [hen_971]; exact va_up_self _ _ _
      have hI_971 : SX cy (List.range (n + 1)) ad_970 en_971 := SX_pt hI_970 (fun c => c = n) (fun c hc => by rw [hen_971, va_up_ne _ _ hc]) (fun c hc h9 => absurd h9 (by omega))
      have hf_971 : ∀ c, (c < n) → en_971 c = en c := fun c hc => Eq.trans (show en_971 c = en_970 c from by rw [hen_971, va_up_ne _ _ (by omega)]) (hf_970 c hc)
      exact hv_aret (v := some (ad_970 n)) rfl hx hb hr (Or.inl ⟨_, rfl⟩) hlocks hh (⟨(fun i hi => by dsimp only; rw [hda_970 i (by omega)]), hf_971, rfl, rfl, hI_971, 6, Or.inl rfl, by dsimp only; rw [show rdI (en 1) 5 = nI d from by rw [es963]; rfl]; exact en1_971, by rw [show rdI (en 1) 5 = nI d from by rw [es963]; rfl, nI_clamp (by omega)]; exact Or.inr (Or.inr ⟨rfl, ht_967⟩)⟩) dX8_makeTable_59
theorem kw_X8_makeTable {R : Room} {s : State} {args : Array Value} {own : String} {idx : Nat} (hts : ∀ w ∈ TB, w.before args s = true) (hl : Cond.methodLink own idx yX8_makeTable ∈ TB) (hR : 4 + 1 ≤ R.frames ∧ 8 + (3 + 11) + 40 * 4 ≤ R.locals) : CallW R s args own RX8 idx yX8_makeTable cX8_makeTable 3 (some (.object "AnyOrder$Table")) (Cond.code yX8_makeTable cX8_makeTable 3 (some (.object "AnyOrder$Table")) :: TB) (rmC 4 1 3) 1 3 2 := cwV 2 hts (TB_V hl tw_354 ts_4 tw_2 tw_355) rfl rfl rfl (by decide +kernel) hR
set_option maxHeartbeats 8000000 in
set_option maxRecDepth 100000 in
/-- add -/
theorem c_X8_add (l : Launch) (D : va_G) (cy : Nat → ClassId) (sz : Nat) (ad : Nat → Nat) (en : Nat → va_E) (n : Nat) (hn : 115 ≤ n) (hI : SX cy (List.range n) ad en) (J I9 : Nat) (hJ : J < 4) (hcnt6 : (rdI (en 1) 4).toInt < 6) (hIL : ∀ d, rdI (en 1) 5 = nI d → d ≤ 3 → I9 + d * d ≤ 40)  : Met l yX8_add (Cond.code yX8_add cX8_add 6 (some .int) :: TB) (rmC 5 2 12) (va_Pc [.ref (ad 1), .ref (ad (108 + 2 * J)), .int (nI I9)] (PreC D cy n ad en sz)) (va_Qi (S := Nat × (Nat → Nat) × (Nat → va_E)) (fun r u => u.1 = n + 2 ∧ ADP cy J I9 n ad en r u.2.1 u.2.2) (PostV D (Af (List.range n) ad sz)) (Af (List.range n) ad sz)) 2 12 (Af (List.range n) ad sz) := by
  refine Met.ofW (cc := cX8_add) (maxL := 6) (ret := (some .int)) (by decide) rfl ?_
  intro p e s m args below meth c s₁ B hml hv
  obtain ⟨rfl, ⟨hsz, hP, hK, hD0⟩, hX⟩ := hv
  have hx := B.exec
  have hb := B.bytes
  have hr := B.returns
  have hts : ∀ w ∈ TB, w.before _ s = true := fun w h => atoms_spec (ws := _ :: TB) B.pre w (List.mem_cons_of_mem _ h)
  have hown : s.vm.findClass RX8 = some m.cls := findClass_of_methodNamed B.named
  have hlocks := B.notSynchronized
  have hh : Hp D (Af (List.range n) ad sz) (Af (List.range n) ad sz) s.heap s.heap [] (List.range n) ad en := ⟨hP, Af_self hD0, va_S.rf⟩
  have hA : ∀ q : Nat, s.heap.size ≤ q → (Af (List.range n) ad sz) q := fun q h => Or.inr (by rw [hsz] at h; exact h)
  generalize (Af (List.range n) ad sz) = A at hh hA ⊢
  have hl := lv_entry ([.ref (ad 1), .ref (ad (108 + 2 * J)), .int (nI I9)]) (n := 6) (Nat.le_of_ble_eq_true rfl)
  rw [lg_entry_eq]
  generalize (lg_sl ([.ref (ad 1), .ref (ad (108 + 2 * J)), .int (nI I9)]) ++ List.replicate (6 - (lg_sl ([.ref (ad 1), .ref (ad (108 + 2 * J)), .int (nI I9)])).length) Slot.unset).toArray = ls at hl ⊢
  have hl : lv_has ls 6 [(0, .ref (ad 1)), (1, .ref (ad (108 + 2 * J))), (2, .int (nI I9))] := hl
  have hf0 : ∀ c, (c < n ∧ c ≠ 1 ∧ c ≠ 2 ∧ (c < 4 ∨ 10 ≤ c)) → en c = en c := fun _ _ => rfl
  obtain ⟨cnt, d, mm, es972, hcnt, hd2, hd3, hmm⟩ := get_T hI
  have hdd : d * d ≤ 9 := Nat.mul_le_mul hd3 hd3
  have hdd4 : 4 ≤ d * d := Nat.mul_le_mul hd2 hd2
  have hc6 : cnt < 6 := by rw [show rdI (en 1) 4 = nI cnt from by rw [es972]; rfl, nI_toInt (by omega)] at hcnt6; omega
  have hIL9 : I9 + d * d ≤ 40 := hIL d (by rw [es972]; rfl) hd3
  obtain ⟨f_973, es973⟩ := get_all hI
  refine lv_aload_n hx hb dX8_add_0 rfl (lv_at hl 0 rfl) ?_
  refine hp_get hx hb hts ix8 hown hK hh (q := 1) rfl (List.mem_range.mpr (by omega)) es972 rfl 4 (by decide) (hts _ tw_43) (fun _ h9 => h9) rfl dX8_add_1 ?_
  refine lv_istore_n (lv' := [(3, .int (nI cnt)), (0, .ref (ad 1)), (1, .ref (ad (108 + 2 * J))), (2, .int (nI I9))]) hx hb dX8_add_4 rfl hl (by decide) rfl (fun ls hl => ?_)
  refine lv_aload_n hx hb dX8_add_5 rfl (lv_at hl 2 rfl) ?_
  refine lv_iload_n hx hb dX8_add_6 rfl (lv_at hl 3 rfl) ?_
  refine lv_iload_n hx hb dX8_add_7 rfl (lv_at hl 3 rfl) ?_
  refine lv_aload_n hx hb dX8_add_8 rfl (lv_at hl 1 rfl) ?_
  refine hp_get hx hb hts ix8 hown hK hh (q := 1) rfl (List.mem_range.mpr (by omega)) es972 rfl 5 (by decide) (hts _ tw_44) (fun _ h9 => h9) rfl dX8_add_9 ?_
  refine lv_aload_n hx hb dX8_add_12 rfl (lv_at hl 1 rfl) ?_
  refine hp_get hx hb hts ix8 hown hK hh (q := 1) rfl (List.mem_range.mpr (by omega)) es972 rfl 5 (by decide) (hts _ tw_44) (fun _ h9 => h9) rfl dX8_add_13 ?_
  refine lv_imul hx hb dX8_add_16 ?_
  rw [pk_mul d d]
  refine lv_iadd hx hb dX8_add_17 ?_
  rw [nI_add I9 (d * d)]
  obtain ⟨f_974, es974⟩ := get_shc hI (j := J) (by omega)
  refine hv_callq (va_runS (As := [.ref (ad (108 + 2 * J)), .int (nI I9), .int (nI (I9 + (d * d)))]) (rest := []) ⟨hx, hb, hml, hown, hts⟩ (c_J7_copyOfRange_feecc l D cy _ ad en n (by omega) hI J I9 (d * d) (by omega) (by omega) (by omega) (by omega)) (kw_J7_copyOfRange_feecc hts tw_326 ⟨by decide, by decide⟩) (preC_of hh hK hX) rfl rfl hl.1 rfl (lv_room (Nat.le_of_ble_eq_true rfl)) dX8_add_18 ⟨Nat.le_of_ble_eq_true rfl, Nat.le_of_ble_eq_true rfl⟩) hh hA (fun r_975 H locs n_975 ad_975 en_975 hw_975 hh => ?_)
  obtain ⟨hda_975, hue_975, hn1_975, hr_975, hI_975, g_975, eg_975, hg_975⟩ := hw_975
  dsimp only at hda_975 hue_975 hn1_975 hr_975 hI_975 eg_975
  subst hn1_975
  rw [hr_975]
  have hl : lv_has ls 6 [(3, .int (nI cnt)), (0, .ref (ad_975 1)), (1, .ref (ad_975 (108 + 2 * J))), (2, .int (nI I9))] := by rw [hda_975 1 (by omega), hda_975 (108 + 2 * J) (by omega)]; exact hl
  have es972_975 : en_975 1 = .inr (7, [.ref (ad_975 2), .ref (ad_975 3), .ref (ad_975 10), .ref (ad_975 11), .int (nI cnt), .int (nI d), .int (nI mm)]) := by rw [hue_975 1 (by omega), hda_975 2 (by omega), hda_975 3 (by omega), hda_975 10 (by omega), hda_975 11 (by omega)]; exact es972
  have es973_975 : en_975 2 = .inl (cy 3, 6, .inr (.inr (.inr (.inr f_973)))) := by rw [hue_975 2 (by omega)]; exact es973
  have es974_975 : en_975 (108 + 2 * J) = .inl (cy 0, 40, .inl f_974) := by rw [hue_975 (108 + 2 * J) (by omega)]; exact es974
  have b1_975 : en 1 = .inr (7, [.ref (ad_975 2), .ref (ad_975 3), .ref (ad_975 10), .ref (ad_975 11), .int (nI cnt), .int (nI d), .int (nI mm)]) := by rw [hda_975 2 (by omega), hda_975 3 (by omega), hda_975 10 (by omega), hda_975 11 (by omega)]; exact es972
  have b2_975 : en 2 = .inl (cy 3, 6, .inr (.inr (.inr (.inr f_973)))) := by exact es973
  have b1082J_975 : en (108 + 2 * J) = .inl (cy 0, 40, .inl f_974) := by exact es974
  refine W.eq (g2 := F0 m 21 ls [.ref (ad_975 n)]) rfl ?_
  have hf_975 : ∀ c, (c < n ∧ c ≠ 1 ∧ c ≠ 2 ∧ (c < 4 ∨ 10 ≤ c)) → en_975 c = en c := fun c hc => (hue_975 c (by omega)).trans (hf0 c hc)
  refine lv_astore (lv' := [(4, .ref (ad_975 n)), (3, .int (nI cnt)), (0, .ref (ad_975 1)), (1, .ref (ad_975 (108 + 2 * J))), (2, .int (nI I9))]) hx hb dX8_add_21 hl (by decide) rfl (fun ls hl => ?_)
  refine lv_iconst (v := 0) hx hb dX8_add_23 (by decide) ?_
  refine lv_istore (lv' := [(5, .int 0), (4, .ref (ad_975 n)), (3, .int (nI cnt)), (0, .ref (ad_975 1)), (1, .ref (ad_975 (108 + 2 * J))), (2, .int (nI I9))]) hx hb dX8_add_24 hl (by decide) rfl (fun ls hl => ?_)
  have loop_976 : ∀ (fu j976 : Nat)  (en_976 : Nat → va_E) (ls : Array Slot) (H : Heap) (locs : List Loc), 0 ≤ j976 → j976 ≤ (d * d) → (d * d) < j976 + fu → SX cy (List.range (n + 1)) ad_975 en_976 → (∀ c, (c < n ∧ c ≠ 1 ∧ c ≠ 2 ∧ (c < 4 ∨ 10 ≤ c)) → en_976 c = en c) → (∀ x, x < j976 → rdL (en_976 (4 + cnt)) x = restL mm (g_975 x).toInt64) → (∀ t, t < 6 → t ≠ cnt → en_976 (4 + t) = en (4 + t)) → (en_976 1 = .inr (7, [.ref (ad_975 2), .ref (ad_975 3), .ref (ad_975 10), .ref (ad_975 11), .int (nI cnt), .int (nI d), .int (nI mm)])) → (en_976 2 = .inl (cy 3, 6, .inr (.inr (.inr (.inr f_973))))) → (en_976 n = .inl (cy 0, (d * d), .inl g_975)) → lv_has ls 6 [(5, .int (nI j976)), (4, .ref (ad_975 n)), (3, .int (nI cnt)), (0, .ref (ad_975 1)), (1, .ref (ad_975 (108 + 2 * J))), (2, .int (nI I9))] → Hp D A A s.heap H locs (List.range (n + 1)) ad_975 en_976 → W p l e (headSpec (Cond.code yX8_add cX8_add 6 (some .int) :: TB) (rmC 5 2 12)).room s m ([.ref (ad 1), .ref (ad (108 + 2 * J)), .int (nI I9)] : List Value).toArray below meth c H locs 1 9 (MQ below (va_Qi (S := Nat × (Nat → Nat) × (Nat → va_E)) (fun r u => u.1 = n + 2 ∧ ADP cy J I9 n ad en r u.2.1 u.2.2) (PostV D A) A) ([.ref (ad 1), .ref (ad (108 + 2 * J)), .int (nI I9)] : List Value).toArray s 2 12 A) (F0 m 26 ls []) := by
    intro fu
    induction fu with
    | zero => intro j976  en_976 ls H locs h0 h1 h2; exact absurd h2 (by omega)
    | succ fu ih_976 =>
      intro j976  en_976 ls H locs hj0_976 hj_976 hfu_976 hI_976 hf_976 i0_976 i1_976 i2_976 i3_976 i4_976 hl hh
      refine lv_iload hx hb dX8_add_26 (lv_at hl 0 rfl) ?_
      refine lv_aload_n hx hb dX8_add_28 rfl (lv_at hl 3 rfl) ?_
      refine hp_get hx hb hts ix8 hown hK hh (q := 1) rfl (List.mem_range.mpr (by omega)) i2_976 rfl 5 (by decide) (hts _ tw_44) (fun _ h9 => h9) rfl dX8_add_29 ?_
      refine lv_aload_n hx hb dX8_add_32 rfl (lv_at hl 3 rfl) ?_
      refine hp_get hx hb hts ix8 hown hK hh (q := 1) rfl (List.mem_range.mpr (by omega)) i2_976 rfl 5 (by decide) (hts _ tw_44) (fun _ h9 => h9) rfl dX8_add_33 ?_
      refine lv_imul hx hb dX8_add_36 ?_
      rw [pk_mul d d]
      refine lv_icmp_ge (tgt := 65) hx hb dX8_add_37 (by decide) (fun c_977 => ?_) (fun c_977 => ?_)
      · have n_977 : (d * d) ≤ j976 := n_le (a := (d * d)) (b := j976) c_977 (by omega) (by omega)
        refine lv_aload_n hx hb dX8_add_65 rfl (lv_at hl 3 rfl) ?_
        refine hp_get hx hb hts ix8 hown hK hh (q := 1) rfl (List.mem_range.mpr (by omega)) i2_976 rfl 0 (by decide) (hts _ tw_39) (fun _ h9 => h9) rfl dX8_add_66 ?_
        refine lv_iload_n hx hb dX8_add_69 rfl (lv_at hl 2 rfl) ?_
        refine lv_aload_n hx hb dX8_add_70 rfl (lv_at hl 3 rfl) ?_
        refine lv_iload_n hx hb dX8_add_71 rfl (lv_at hl 2 rfl) ?_
        refine lv_aload hx hb dX8_add_72 (lv_at hl 1 rfl) ?_
        refine hv_callq (va_runV (As := [.int (nI cnt), .ref (ad_975 n)]) (rest := [.int (nI cnt), .ref (ad_975 2)]) ⟨hx, hb, hml, hown, hts⟩ (c_X8_makeTable l D cy _ ad_975 en_976 (n + 1) (by omega) hI_976 cnt n (by omega) (by omega) g_975 (d * d) (fun d9 h9 h8 => by have e9 : d9 = d := n_eq (h9.symm.trans (show rdI (en_976 1) 5 = nI d from by rw [i2_976]; rfl)) (by omega) (by omega); rw [e9]) i4_976) (kw_X8_makeTable hts tw_352 ⟨by decide, by decide⟩) (preVC_of hh hK hX (List.mem_range.mpr (by omega)) i2_976 rfl) rfl rfl hl.1 rfl (lv_room (Nat.le_of_ble_eq_true rfl)) dX8_add_74 ⟨Nat.le_of_ble_eq_true rfl, Nat.le_of_ble_eq_true rfl⟩) hh hA (fun r_978 H locs n_978 ad_978 en_978 hw_978 hh => ?_)
        obtain ⟨hda_978, hue_978, hn1_978, hr_978, hI_978, ci9, hci9, eo_978, hkd9⟩ := hw_978
        rw [show rdI (en_976 1) 5 = nI d from by rw [i2_976]; rfl, nI_clamp (by omega)] at hkd9
        dsimp only at hda_978 hue_978 hn1_978 hr_978 hI_978 eo_978
        subst hn1_978
        rw [hr_978]
        rw [show rdI (en_976 1) 5 = nI d from by rw [i2_976]; rfl] at eo_978
        refine W.eq (g2 := F0 m 77 ls [va_rf (some (ad_978 (n + 1))), .int (nI cnt), .ref (ad_978 2)]) (by rw [hda_978 2 (by omega)]) ?_
        have hl : lv_has ls 6 [(5, .int (nI j976)), (4, .ref (ad_978 n)), (3, .int (nI cnt)), (0, .ref (ad_978 1)), (1, .ref (ad_978 (108 + 2 * J))), (2, .int (nI I9))] := by rw [hda_978 n (by omega), hda_978 1 (by omega), hda_978 (108 + 2 * J) (by omega)]; exact hl
        have i2_978 : en_978 1 = .inr (7, [.ref (ad_978 2), .ref (ad_978 3), .ref (ad_978 10), .ref (ad_978 11), .int (nI cnt), .int (nI d), .int (nI mm)]) := by rw [hue_978 1 (by omega), hda_978 2 (by omega), hda_978 3 (by omega), hda_978 10 (by omega), hda_978 11 (by omega)]; exact i2_976
        have i3_978 : en_978 2 = .inl (cy 3, 6, .inr (.inr (.inr (.inr f_973)))) := by rw [hue_978 2 (by omega)]; exact i3_976
        have i4_978 : en_978 n = .inl (cy 0, (d * d), .inl g_975) := by rw [hue_978 n (by omega)]; exact i4_976
        have b1_978 : en 1 = .inr (7, [.ref (ad_978 2), .ref (ad_978 3), .ref (ad_978 10), .ref (ad_978 11), .int (nI cnt), .int (nI d), .int (nI mm)]) := by rw [hda_978 2 (by omega), hda_978 3 (by omega), hda_978 10 (by omega), hda_978 11 (by omega)]; exact b1_975
        have b2_978 : en 2 = .inl (cy 3, 6, .inr (.inr (.inr (.inr f_973)))) := by exact b2_975
        have b1082J_978 : en (108 + 2 * J) = .inl (cy 0, 40, .inl f_974) := by exact b1082J_975
        refine W.eq (g2 := F0 m 77 ls [.ref (ad_978 (n + 1)), .int (nI cnt), .ref (ad_978 2)]) rfl ?_
        have hf_978 : ∀ c, (c < n ∧ c ≠ 1 ∧ c ≠ 2 ∧ (c < 4 ∨ 10 ≤ c)) → en_978 c = en c := fun c hc => (hue_978 c (by omega)).trans (hf_976 c hc)
        rcases hci9 with rfl | rfl | rfl
        · refine hp_astq hx hb hK hh (q := 2) (v := (n + 1)) rfl (List.mem_range.mpr (by omega)) rfl (List.mem_range.mpr (by omega)) i3_978 eo_978 rfl rfl (vp_in_nI (n := cnt) (by omega) (by decide)) dX8_add_77 (fun H locs en_979 hen_979 hh => ?_)
          rw [nI_clamp (n := cnt) (by omega)] at hen_979
          have i2_979 : en_979 1 = .inr (7, [.ref (ad_978 2), .ref (ad_978 3), .ref (ad_978 10), .ref (ad_978 11), .int (nI cnt), .int (nI d), .int (nI mm)]) := by rw [hen_979, va_up_ne _ _ (by decide)]; exact i2_978
          have i4_979 : en_979 n = .inl (cy 0, (d * d), .inl g_975) := by rw [hen_979, va_up_ne _ _ (by omega)]; exact i4_978
          have eo_979 : en_979 (n + 1) = .inr (6, [.int (nI cnt), .int (nI d), .ref (ad_978 n)]) := by rw [hen_979, va_up_ne _ _ (by omega)]; exact eo_978
          have i3_979 : en_979 2 = .inl (cy 3, 6, .inr (.inr (.inr (.inr (va_up f_973 cnt (some (ad_978 (n + 1)))))))) := by rw [hen_979]; exact va_up_self _ _ _
          have hI_979 : SX cy (List.range (n + 2)) ad_978 en_979 := by rw [hen_979]; exact up_all hI_978 ⟨(va_up f_973 cnt (some (ad_978 (n + 1)))), rfl⟩
          have hf_979 : ∀ c, (c < n ∧ c ≠ 1 ∧ c ≠ 2 ∧ (c < 4 ∨ 10 ≤ c)) → en_979 c = en c := fun c hc => Eq.trans (show en_979 c = en_978 c from by rw [hen_979, va_up_ne _ _ (by omega)]) (hf_978 c hc)
          refine lv_aload_n hx hb dX8_add_78 rfl (lv_at hl 3 rfl) ?_
          refine lv_dup hx hb dX8_add_79 rfl ?_
          refine hp_get hx hb hts ix8 hown hK hh (q := 1) rfl (List.mem_range.mpr (by omega)) i2_979 rfl 4 (by decide) (hts _ tw_43) (fun _ h9 => h9) rfl dX8_add_80 ?_
          refine lv_iconst (v := 1) hx hb dX8_add_83 (by decide) ?_
          refine lv_iadd hx hb dX8_add_84 ?_
          rw [show (1 : Int32) = nI 1 from rfl, nI_add cnt 1]
          refine hp_put hx hb hts ix8 tyX8 tyX8_ok nmX8 hown hK hh (q := 1) rfl (List.mem_range.mpr (by omega)) i2_979 rfl 4 (by decide) (hts _ tw_43) (fun _ h9 => h9) rfl (ty := .int) (by decide +kernel) rfl rfl (Nat.le_of_ble_eq_true rfl) dX8_add_85 (fun H locs en_980 hen_980 hh => ?_)
          have i4_980 : en_980 n = .inl (cy 0, (d * d), .inl g_975) := by rw [hen_980, va_up_ne _ _ (by omega)]; exact i4_979
          have eo_980 : en_980 (n + 1) = .inr (6, [.int (nI cnt), .int (nI d), .ref (ad_978 n)]) := by rw [hen_980, va_up_ne _ _ (by omega)]; exact eo_979
          have i3_980 : en_980 2 = .inl (cy 3, 6, .inr (.inr (.inr (.inr (va_up f_973 cnt (some (ad_978 (n + 1)))))))) := by rw [hen_980, va_up_ne _ _ (by decide)]; exact i3_979
          have i2_980 : en_980 1 = .inr (7, [.ref (ad_978 2), .ref (ad_978 3), .ref (ad_978 10), .ref (ad_978 11), .int (nI (cnt + 1)), .int (nI d), .int (nI mm)]) := by rw [hen_980]; exact va_up_self _ _ _
          have hI_980 : SX cy (List.range (n + 2)) ad_978 en_980 := by rw [hen_980]; exact up_T hI_979 ⟨(cnt + 1), d, mm, rfl, (by omega), hd2, hd3, hmm⟩
          have hf_980 : ∀ c, (c < n ∧ c ≠ 1 ∧ c ≠ 2 ∧ (c < 4 ∨ 10 ≤ c)) → en_980 c = en c := fun c hc => Eq.trans (show en_980 c = en_979 c from by rw [hen_980, va_up_ne _ _ (by omega)]) (hf_979 c hc)
          refine lv_iload_n hx hb dX8_add_88 rfl (lv_at hl 2 rfl) ?_
          exact hv_iret hx hb hr (rfl) hlocks hh (⟨rfl, (fun i hi => by dsimp only; rw [hda_978 i (by omega), hda_975 i (by omega)]), hf_980, hI_980, cnt, d, 6, _, rfl, hc6, hd3, by rw [es972]; rfl, by rw [es972]; rfl, by dsimp only; rw [i2_980]; rfl, by dsimp only; rw [i2_980]; rfl, by dsimp only; rw [i2_980, es972]; rfl, fun t => by dsimp only; rw [i3_980, show rdR (en 2) = f_973 from by rw [es973]; rfl]; exact ad_ite _ _ _ _, eo_980, Or.inl rfl, i4_980, hkd9, hg_975, fun t ht9 hne9 => (show en_980 (4 + t) = en_976 (4 + t) from by rw [hen_980, va_up_ne _ _ (by omega), hen_979, va_up_ne _ _ (by omega), hue_978 (4 + t) (by omega)]).trans (i1_976 t ht9 hne9), fun x hx9 => by dsimp only; rw [(show en_980 (4 + cnt) = en_976 (4 + cnt) from by rw [hen_980, va_up_ne _ _ (by omega), hen_979, va_up_ne _ _ (by omega), hue_978 (4 + cnt) (by omega)]), show (rdI (en 1) 6).toNatClampNeg = mm from by rw [show rdI (en 1) 6 = nI mm from by rw [es972]; rfl]; exact nI_clamp (by omega)]; exact i0_976 x (by omega)⟩) dX8_add_89
        · refine hp_astqO hx hb hK hh (q := 2) (v := (n + 1)) rfl (List.mem_range.mpr (by omega)) rfl (List.mem_range.mpr (by omega)) i3_978 eo_978 rfl rfl hX.2.2.2.2.2.2.2.2.2.2.2 (vp_in_nI (n := cnt) (by omega) (by decide)) dX8_add_77 (fun H locs en_981 hen_981 hh => ?_)
          rw [nI_clamp (n := cnt) (by omega)] at hen_981
          have i2_981 : en_981 1 = .inr (7, [.ref (ad_978 2), .ref (ad_978 3), .ref (ad_978 10), .ref (ad_978 11), .int (nI cnt), .int (nI d), .int (nI mm)]) := by rw [hen_981, va_up_ne _ _ (by decide)]; exact i2_978
          have i4_981 : en_981 n = .inl (cy 0, (d * d), .inl g_975) := by rw [hen_981, va_up_ne _ _ (by omega)]; exact i4_978
          have eo_981 : en_981 (n + 1) = .inr (1, [.int (nI cnt), .int (nI d), .ref (ad_978 n)]) := by rw [hen_981, va_up_ne _ _ (by omega)]; exact eo_978
          have i3_981 : en_981 2 = .inl (cy 3, 6, .inr (.inr (.inr (.inr (va_up f_973 cnt (some (ad_978 (n + 1)))))))) := by rw [hen_981]; exact va_up_self _ _ _
          have hI_981 : SX cy (List.range (n + 2)) ad_978 en_981 := by rw [hen_981]; exact up_all hI_978 ⟨(va_up f_973 cnt (some (ad_978 (n + 1)))), rfl⟩
          have hf_981 : ∀ c, (c < n ∧ c ≠ 1 ∧ c ≠ 2 ∧ (c < 4 ∨ 10 ≤ c)) → en_981 c = en c := fun c hc => Eq.trans (show en_981 c = en_978 c from by rw [hen_981, va_up_ne _ _ (by omega)]) (hf_978 c hc)
          refine lv_aload_n hx hb dX8_add_78 rfl (lv_at hl 3 rfl) ?_
          refine lv_dup hx hb dX8_add_79 rfl ?_
          refine hp_get hx hb hts ix8 hown hK hh (q := 1) rfl (List.mem_range.mpr (by omega)) i2_981 rfl 4 (by decide) (hts _ tw_43) (fun _ h9 => h9) rfl dX8_add_80 ?_
          refine lv_iconst (v := 1) hx hb dX8_add_83 (by decide) ?_
          refine lv_iadd hx hb dX8_add_84 ?_
          rw [show (1 : Int32) = nI 1 from rfl, nI_add cnt 1]
          refine hp_put hx hb hts ix8 tyX8 tyX8_ok nmX8 hown hK hh (q := 1) rfl (List.mem_range.mpr (by omega)) i2_981 rfl 4 (by decide) (hts _ tw_43) (fun _ h9 => h9) rfl (ty := .int) (by decide +kernel) rfl rfl (Nat.le_of_ble_eq_true rfl) dX8_add_85 (fun H locs en_982 hen_982 hh => ?_)
          have i4_982 : en_982 n = .inl (cy 0, (d * d), .inl g_975) := by rw [hen_982, va_up_ne _ _ (by omega)]; exact i4_981
          have eo_982 : en_982 (n + 1) = .inr (1, [.int (nI cnt), .int (nI d), .ref (ad_978 n)]) := by rw [hen_982, va_up_ne _ _ (by omega)]; exact eo_981
          have i3_982 : en_982 2 = .inl (cy 3, 6, .inr (.inr (.inr (.inr (va_up f_973 cnt (some (ad_978 (n + 1)))))))) := by rw [hen_982, va_up_ne _ _ (by decide)]; exact i3_981
          have i2_982 : en_982 1 = .inr (7, [.ref (ad_978 2), .ref (ad_978 3), .ref (ad_978 10), .ref (ad_978 11), .int (nI (cnt + 1)), .int (nI d), .int (nI mm)]) := by rw [hen_982]; exact va_up_self _ _ _
          have hI_982 : SX cy (List.range (n + 2)) ad_978 en_982 := by rw [hen_982]; exact up_T hI_981 ⟨(cnt + 1), d, mm, rfl, (by omega), hd2, hd3, hmm⟩
          have hf_982 : ∀ c, (c < n ∧ c ≠ 1 ∧ c ≠ 2 ∧ (c < 4 ∨ 10 ≤ c)) → en_982 c = en c := fun c hc => Eq.trans (show en_982 c = en_981 c from by rw [hen_982, va_up_ne _ _ (by omega)]) (hf_981 c hc)
          refine lv_iload_n hx hb dX8_add_88 rfl (lv_at hl 2 rfl) ?_
          exact hv_iret hx hb hr (rfl) hlocks hh (⟨rfl, (fun i hi => by dsimp only; rw [hda_978 i (by omega), hda_975 i (by omega)]), hf_982, hI_982, cnt, d, 1, _, rfl, hc6, hd3, by rw [es972]; rfl, by rw [es972]; rfl, by dsimp only; rw [i2_982]; rfl, by dsimp only; rw [i2_982]; rfl, by dsimp only; rw [i2_982, es972]; rfl, fun t => by dsimp only; rw [i3_982, show rdR (en 2) = f_973 from by rw [es973]; rfl]; exact ad_ite _ _ _ _, eo_982, Or.inr (Or.inl rfl), i4_982, hkd9, hg_975, fun t ht9 hne9 => (show en_982 (4 + t) = en_976 (4 + t) from by rw [hen_982, va_up_ne _ _ (by omega), hen_981, va_up_ne _ _ (by omega), hue_978 (4 + t) (by omega)]).trans (i1_976 t ht9 hne9), fun x hx9 => by dsimp only; rw [(show en_982 (4 + cnt) = en_976 (4 + cnt) from by rw [hen_982, va_up_ne _ _ (by omega), hen_981, va_up_ne _ _ (by omega), hue_978 (4 + cnt) (by omega)]), show (rdI (en 1) 6).toNatClampNeg = mm from by rw [show rdI (en 1) 6 = nI mm from by rw [es972]; rfl]; exact nI_clamp (by omega)]; exact i0_976 x (by omega)⟩) dX8_add_89
        · refine hp_astqO hx hb hK hh (q := 2) (v := (n + 1)) rfl (List.mem_range.mpr (by omega)) rfl (List.mem_range.mpr (by omega)) i3_978 eo_978 rfl rfl hX.2.2.2.2.2.2.2.2.2.2.1 (vp_in_nI (n := cnt) (by omega) (by decide)) dX8_add_77 (fun H locs en_983 hen_983 hh => ?_)
          rw [nI_clamp (n := cnt) (by omega)] at hen_983
          have i2_983 : en_983 1 = .inr (7, [.ref (ad_978 2), .ref (ad_978 3), .ref (ad_978 10), .ref (ad_978 11), .int (nI cnt), .int (nI d), .int (nI mm)]) := by rw [hen_983, va_up_ne _ _ (by decide)]; exact i2_978
          have i4_983 : en_983 n = .inl (cy 0, (d * d), .inl g_975) := by rw [hen_983, va_up_ne _ _ (by omega)]; exact i4_978
          have eo_983 : en_983 (n + 1) = .inr (4, [.int (nI cnt), .int (nI d), .ref (ad_978 n)]) := by rw [hen_983, va_up_ne _ _ (by omega)]; exact eo_978
          have i3_983 : en_983 2 = .inl (cy 3, 6, .inr (.inr (.inr (.inr (va_up f_973 cnt (some (ad_978 (n + 1)))))))) := by rw [hen_983]; exact va_up_self _ _ _
          have hI_983 : SX cy (List.range (n + 2)) ad_978 en_983 := by rw [hen_983]; exact up_all hI_978 ⟨(va_up f_973 cnt (some (ad_978 (n + 1)))), rfl⟩
          have hf_983 : ∀ c, (c < n ∧ c ≠ 1 ∧ c ≠ 2 ∧ (c < 4 ∨ 10 ≤ c)) → en_983 c = en c := fun c hc => Eq.trans (show en_983 c = en_978 c from by rw [hen_983, va_up_ne _ _ (by omega)]) (hf_978 c hc)
          refine lv_aload_n hx hb dX8_add_78 rfl (lv_at hl 3 rfl) ?_
          refine lv_dup hx hb dX8_add_79 rfl ?_
          refine hp_get hx hb hts ix8 hown hK hh (q := 1) rfl (List.mem_range.mpr (by omega)) i2_983 rfl 4 (by decide) (hts _ tw_43) (fun _ h9 => h9) rfl dX8_add_80 ?_
          refine lv_iconst (v := 1) hx hb dX8_add_83 (by decide) ?_
          refine lv_iadd hx hb dX8_add_84 ?_
          rw [show (1 : Int32) = nI 1 from rfl, nI_add cnt 1]
          refine hp_put hx hb hts ix8 tyX8 tyX8_ok nmX8 hown hK hh (q := 1) rfl (List.mem_range.mpr (by omega)) i2_983 rfl 4 (by decide) (hts _ tw_43) (fun _ h9 => h9) rfl (ty := .int) (by decide +kernel) rfl rfl (Nat.le_of_ble_eq_true rfl) dX8_add_85 (fun H locs en_984 hen_984 hh => ?_)
          have i4_984 : en_984 n = .inl (cy 0, (d * d), .inl g_975) := by rw [hen_984, va_up_ne _ _ (by omega)]; exact i4_983
          have eo_984 : en_984 (n + 1) = .inr (4, [.int (nI cnt), .int (nI d), .ref (ad_978 n)]) := by rw [hen_984, va_up_ne _ _ (by omega)]; exact eo_983
          have i3_984 : en_984 2 = .inl (cy 3, 6, .inr (.inr (.inr (.inr (va_up f_973 cnt (some (ad_978 (n + 1)))))))) := by rw [hen_984, va_up_ne _ _ (by decide)]; exact i3_983
          have i2_984 : en_984 1 = .inr (7, [.ref (ad_978 2), .ref (ad_978 3), .ref (ad_978 10), .ref (ad_978 11), .int (nI (cnt + 1)), .int (nI d), .int (nI mm)]) := by rw [hen_984]; exact va_up_self _ _ _
          have hI_984 : SX cy (List.range (n + 2)) ad_978 en_984 := by rw [hen_984]; exact up_T hI_983 ⟨(cnt + 1), d, mm, rfl, (by omega), hd2, hd3, hmm⟩
          have hf_984 : ∀ c, (c < n ∧ c ≠ 1 ∧ c ≠ 2 ∧ (c < 4 ∨ 10 ≤ c)) → en_984 c = en c := fun c hc => Eq.trans (show en_984 c = en_983 c from by rw [hen_984, va_up_ne _ _ (by omega)]) (hf_983 c hc)
          refine lv_iload_n hx hb dX8_add_88 rfl (lv_at hl 2 rfl) ?_
          exact hv_iret hx hb hr (rfl) hlocks hh (⟨rfl, (fun i hi => by dsimp only; rw [hda_978 i (by omega), hda_975 i (by omega)]), hf_984, hI_984, cnt, d, 4, _, rfl, hc6, hd3, by rw [es972]; rfl, by rw [es972]; rfl, by dsimp only; rw [i2_984]; rfl, by dsimp only; rw [i2_984]; rfl, by dsimp only; rw [i2_984, es972]; rfl, fun t => by dsimp only; rw [i3_984, show rdR (en 2) = f_973 from by rw [es973]; rfl]; exact ad_ite _ _ _ _, eo_984, Or.inr (Or.inr rfl), i4_984, hkd9, hg_975, fun t ht9 hne9 => (show en_984 (4 + t) = en_976 (4 + t) from by rw [hen_984, va_up_ne _ _ (by omega), hen_983, va_up_ne _ _ (by omega), hue_978 (4 + t) (by omega)]).trans (i1_976 t ht9 hne9), fun x hx9 => by dsimp only; rw [(show en_984 (4 + cnt) = en_976 (4 + cnt) from by rw [hen_984, va_up_ne _ _ (by omega), hen_983, va_up_ne _ _ (by omega), hue_978 (4 + cnt) (by omega)]), show (rdI (en 1) 6).toNatClampNeg = mm from by rw [show rdI (en 1) 6 = nI mm from by rw [es972]; rfl]; exact nI_clamp (by omega)]; exact i0_976 x (by omega)⟩) dX8_add_89
      · have n_977 : j976 < (d * d) := n_nle (a := (d * d)) (b := j976) c_977 (by omega) (by omega)
        refine lv_aload_n hx hb dX8_add_40 rfl (lv_at hl 3 rfl) ?_
        refine hp_get hx hb hts ix8 hown hK hh (q := 1) rfl (List.mem_range.mpr (by omega)) i2_976 rfl 1 (by decide) (hts _ tw_40) (fun _ h9 => h9) rfl dX8_add_41 ?_
        refine lv_iload_n hx hb dX8_add_44 rfl (lv_at hl 2 rfl) ?_
        have es985 := get_rows hI_976
        unfold P_rows at es985
        refine hp_aald hx hb hK hh (q := 3) rfl (List.mem_range.mpr (by omega)) 8 es985 rfl rfl (vp_in_nI (n := cnt) (by omega) (by decide)) (v := .ref (ad_975 (4 + cnt))) (by rw [nI_clamp (n := cnt) (by omega)]; exact rfA_v (by omega)) dX8_add_45 ?_
        refine lv_iload hx hb dX8_add_46 (lv_at hl 0 rfl) ?_
        refine lv_aload_n hx hb dX8_add_48 rfl (lv_at hl 3 rfl) ?_
        refine lv_aload hx hb dX8_add_49 (lv_at hl 1 rfl) ?_
        refine lv_iload hx hb dX8_add_51 (lv_at hl 0 rfl) ?_
        refine hp_iald hx hb hK hh (q := n) rfl (List.mem_range.mpr (by omega)) i4_976 (vp_in_nI (n := j976) (by omega) (by omega)) dX8_add_53 ?_
        rw [nI_clamp (n := j976) (by omega)]
        refine lv_i2l hx hb dX8_add_54 rfl ?_
        refine hp_callRl (va_runV (As := [.long ((g_975 j976).toInt64)]) (rest := [.int (nI j976), .ref (ad_975 (4 + cnt))]) ⟨hx, hb, hml, hown, hts⟩ (c_X8_restOf l D cy _ (List.range (n + 1)) ad_975 en_976 (List.mem_range.mpr (by omega)) cnt d mm hcnt hd2 hd3 hmm ((g_975 j976).toInt64) i2_976) (kw_X8_restOf hts tw_348 ⟨by decide, by decide⟩) (preV_of hh hK (List.mem_range.mpr (by omega)) i2_976 rfl) rfl rfl hl.1 rfl (lv_room (Nat.le_of_ble_eq_true rfl)) dX8_add_55 ⟨Nat.le_of_ble_eq_true rfl, Nat.le_of_ble_eq_true rfl⟩) hh hA (fun r_986 H locs hw_986 hh => ?_)
        obtain rfl : r_986 = (restL mm ((g_975 j976).toInt64)) := hw_986
        obtain ⟨f_987, es987⟩ := get_row hI_976 (j := cnt) (by omega)
        refine hp_last hx hb hK hh (q := (4 + cnt)) rfl (List.mem_range.mpr (by omega)) es987 (vp_in_nI (n := j976) (by omega) (by decide)) dX8_add_58 (fun H locs en_988 hen_988 hh => ?_)
        rw [nI_clamp (n := j976) (by omega)] at hen_988
        have i2_988 : en_988 1 = .inr (7, [.ref (ad_975 2), .ref (ad_975 3), .ref (ad_975 10), .ref (ad_975 11), .int (nI cnt), .int (nI d), .int (nI mm)]) := by rw [hen_988, va_up_ne _ _ (by omega)]; exact i2_976
        have i3_988 : en_988 2 = .inl (cy 3, 6, .inr (.inr (.inr (.inr f_973)))) := by rw [hen_988, va_up_ne _ _ (by omega)]; exact i3_976
        have i4_988 : en_988 n = .inl (cy 0, (d * d), .inl g_975) := by rw [hen_988, va_up_ne _ _ (by omega)]; exact i4_976
        have es985_988 : en_988 3 = .inl (cy 8, 6, .inr (.inr (.inr (.inr (rfA ad_975 6 4))))) := by rw [hen_988, va_up_ne _ _ (by omega)]; exact es985
        have es987_988 : en_988 (4 + cnt) = .inl (cy 1, 9, .inr (.inl (vp_updL f_987 j976 (restL mm ((g_975 j976).toInt64))))) := by rw [hen_988]; exact va_up_self _ _ _
        have hI_988 : SX cy (List.range (n + 1)) ad_975 en_988 := by rw [hen_988]; exact up_row hI_976 (j := cnt) (by omega) ⟨(vp_updL f_987 j976 (restL mm ((g_975 j976).toInt64))), rfl⟩
        have hf_988 : ∀ c, (c < n ∧ c ≠ 1 ∧ c ≠ 2 ∧ (c < 4 ∨ 10 ≤ c)) → en_988 c = en c := fun c hc => Eq.trans (show en_988 c = en_976 c from by rw [hen_988, va_up_ne _ _ (by omega)]) (hf_976 c hc)
        refine lv_iinc (v := (nI (j976 + 1))) (lv' := [(5, .int (nI (j976 + 1))), (4, .ref (ad_975 n)), (3, .int (nI cnt)), (0, .ref (ad_975 1)), (1, .ref (ad_975 (108 + 2 * J))), (2, .int (nI I9))]) hx hb dX8_add_59 hl (k := 0) rfl (nI_1 _) (by decide) rfl (fun ls hl => ?_)
        refine lv_goto (tgt := 26) hx hb dX8_add_62 (by decide) ?_
        exact ih_976 ((j976 + 1))  en_988 ls H locs (by omega) (by omega) (by omega) hI_988 hf_988 (fun x hx9 => by rw [es987_988]; exact rw_upd (fun h9 => (show f_987 x = rdL (en_976 (4 + cnt)) x from by rw [es987]; rfl).trans (i0_976 x h9)) hx9 (fun e9 => by rw [e9])) (fun t ht9 hne9 => (show en_988 (4 + t) = en_976 (4 + t) from by rw [hen_988, va_up_ne _ _ (by omega)]).trans (i1_976 t ht9 hne9)) (i2_988) (i3_988) (i4_988) (lv_sub hl [0, 1, 2, 3, 4, 5] rfl) hh
  exact loop_976 ((d * d) + 1) 0  en_975 ls _ _ (Nat.le_refl _) (by omega) (by omega) hI_975 hf_975 (fun x h => absurd h (Nat.not_lt_zero x)) (fun t ht9 hne9 => hue_975 (4 + t) (by omega)) (es972_975) (es973_975) (eg_975) (lv_sub hl [0, 1, 2, 3, 4, 5] rfl) hh
theorem kw_X8_add {R : Room} {s : State} {args : Array Value} {own : String} {idx : Nat} (hts : ∀ w ∈ TB, w.before args s = true) (hl : Cond.methodLink own idx yX8_add ∈ TB) (hR : 5 + 1 ≤ R.frames ∧ 8 + (6 + 11) + 40 * 5 ≤ R.locals) : CallW R s args own RX8 idx yX8_add cX8_add 6 (some .int) (Cond.code yX8_add cX8_add 6 (some .int) :: TB) (rmC 5 2 12) 2 12 2 := cwV 2 hts (TB_V hl tw_323 tw_324 tw_2 tw_325) rfl rfl rfl (by decide +kernel) hR
set_option maxHeartbeats 8000000 in
set_option maxRecDepth 100000 in
/-- addTable -/
theorem c_X11_addTable (l : Launch) (D : va_G) (cy : Nat → ClassId) (sz : Nat) (ad : Nat → Nat) (en : Nat → va_E) (n : Nat) (hn : 115 ≤ n) (hI : SX cy (List.range n) ad en) (kz la iz : Int32) (z : Nat) (F : Nat → Nat → Int32) (hTX : TXF cy (List.range n) ad en F) (hC : CPz z cy (List.range n) ad en)  : Met l yX11_addTable (Cond.code yX11_addTable cX11_addTable 8 (some .int) :: TB) (rmC 6 2 12) (va_Pc [.ref (ad 0), .int kz, .int la, .int iz] (PreC D cy n ad en sz)) (va_Qi (S := Nat × (Nat → Nat) × (Nat → va_E)) (fun r u => n ≤ u.1 ∧ u.1 ≤ n + 2 ∧ (∀ i, i < n → u.2.1 i = ad i) ∧ (∀ c, (c < n ∧ (c = 0 ∨ c = 3 ∨ c = 10 ∨ c = 11 ∨ 71 ≤ c)) → u.2.2 c = en c) ∧ SX cy (List.range u.1) u.2.1 u.2.2 ∧ (∃ F1 : Nat → Nat → Int32, TXF cy (List.range u.1) u.2.1 u.2.2 F1 ∧ XTB F F1 kz la iz r en u.2.2 ∧ (RW F en → RW F1 u.2.2)) ∧ CPz z cy (List.range u.1) u.2.1 u.2.2) (PostV D (Af (List.range n) ad sz)) (Af (List.range n) ad sz)) 2 12 (Af (List.range n) ad sz) := by
  refine Met.ofW (cc := cX11_addTable) (maxL := 8) (ret := (some .int)) (by decide) rfl ?_
  intro p e s m args below meth c s₁ B hml hv
  obtain ⟨rfl, ⟨hsz, hP, hK, hD0⟩, hX⟩ := hv
  have hx := B.exec
  have hb := B.bytes
  have hr := B.returns
  have hts : ∀ w ∈ TB, w.before _ s = true := fun w h => atoms_spec (ws := _ :: TB) B.pre w (List.mem_cons_of_mem _ h)
  have hown : s.vm.findClass RX11 = some m.cls := findClass_of_methodNamed B.named
  have hlocks := B.notSynchronized
  have hh : Hp D (Af (List.range n) ad sz) (Af (List.range n) ad sz) s.heap s.heap [] (List.range n) ad en := ⟨hP, Af_self hD0, va_S.rf⟩
  have hA : ∀ q : Nat, s.heap.size ≤ q → (Af (List.range n) ad sz) q := fun q h => Or.inr (by rw [hsz] at h; exact h)
  generalize (Af (List.range n) ad sz) = A at hh hA ⊢
  have hl := lv_entry ([.ref (ad 0), .int kz, .int la, .int iz]) (n := 8) (Nat.le_of_ble_eq_true rfl)
  rw [lg_entry_eq]
  generalize (lg_sl ([.ref (ad 0), .int kz, .int la, .int iz]) ++ List.replicate (8 - (lg_sl ([.ref (ad 0), .int kz, .int la, .int iz])).length) Slot.unset).toArray = ls at hl ⊢
  have hl : lv_has ls 8 [(0, .ref (ad 0)), (1, .int kz), (2, .int la), (3, .int iz)] := hl
  have hf0 : ∀ c, (c < n ∧ (c = 0 ∨ c = 3 ∨ c = 10 ∨ c = 11 ∨ 71 ≤ c)) → en c = en c := fun _ _ => rfl
  obtain ⟨wc_989, lf_989, es989, p0_989⟩ := get_A hI
  obtain ⟨cnt, d, mm, es990, hcnt, hd2, hd3, hmm⟩ := get_T hI
  have hdd : d * d ≤ 9 := Nat.mul_le_mul hd3 hd3
  have hdd4 : 4 ≤ d * d := Nat.mul_le_mul hd2 hd2
  refine lv_aload_n hx hb dX11_addTable_0 rfl (lv_at hl 0 rfl) ?_
  refine hp_get hx hb hts ix11 hown hK hh (q := 0) rfl (List.mem_range.mpr (by omega)) es989 rfl 0 (by decide) (hts _ tw_245) (fun _ h9 => h9) rfl dX11_addTable_1 ?_
  refine hp_callRi (va_runV (As := []) (rest := []) ⟨hx, hb, hml, hown, hts⟩ (c_X8_cellCount l D cy _ (List.range n) ad en (List.mem_range.mpr (by omega)) cnt d mm hcnt hd2 hd3 hmm  es990) (kw_X8_cellCount hts tw_297 ⟨by decide, by decide⟩) (preV_of hh hK (List.mem_range.mpr (by omega)) es990 rfl) rfl rfl hl.1 rfl (lv_room (Nat.le_of_ble_eq_true rfl)) dX11_addTable_4 ⟨Nat.le_of_ble_eq_true rfl, Nat.le_of_ble_eq_true rfl⟩) hh hA (fun r_991 H locs hw_991 hh => ?_)
  obtain rfl : r_991 = nI (d * d) := hw_991
  refine lv_istore (lv' := [(4, .int (nI (d * d))), (0, .ref (ad 0)), (1, .int kz), (2, .int la), (3, .int iz)]) hx hb dX11_addTable_7 hl (by decide) rfl (fun ls hl => ?_)
  refine lv_aload_n hx hb dX11_addTable_9 rfl (lv_at hl 1 rfl) ?_
  refine lv_iload_n hx hb dX11_addTable_10 rfl (lv_at hl 2 rfl) ?_
  refine lv_iload_n hx hb dX11_addTable_11 rfl (lv_at hl 3 rfl) ?_
  refine lv_iload_n hx hb dX11_addTable_12 rfl (lv_at hl 4 rfl) ?_
  refine lv_iload hx hb dX11_addTable_13 (lv_at hl 0 rfl) ?_
  refine hp_callRi (va_runV (As := [.int kz, .int la, .int iz, .int (nI (d * d))]) (rest := []) ⟨hx, hb, hml, hown, hts⟩ (c_X11_lookAtCells l D cy _ (List.range n) ad en hI kz la iz (nI (d * d))) (kw_X11_lookAtCells hts tw_301 ⟨by decide, by decide⟩) (preV_of hh hK (List.mem_range.mpr (by omega)) es989 rfl) rfl rfl hl.1 rfl (lv_room (Nat.le_of_ble_eq_true rfl)) dX11_addTable_15 ⟨Nat.le_of_ble_eq_true rfl, Nat.le_of_ble_eq_true rfl⟩) hh hA (fun r_992 H locs hw_992 hh => ?_)
  refine lv_istore (lv' := [(5, .int r_992), (4, .int (nI (d * d))), (0, .ref (ad 0)), (1, .int kz), (2, .int la), (3, .int iz)]) hx hb dX11_addTable_18 hl (by decide) rfl (fun ls hl => ?_)
  refine lv_iload hx hb dX11_addTable_20 (lv_at hl 0 rfl) ?_
  refine lv_iconst (v := 1) hx hb dX11_addTable_22 (by decide) ?_
  refine lv_icmp_eq (tgt := 29) hx hb dX11_addTable_23 (by decide) (fun c_993 => ?_) (fun c_993 => ?_)
  · obtain ⟨hw1, -, -, -, hw5⟩ := lookF_1 (hw_992.symm.trans c_993)
    obtain ⟨K9, rfl, -, hK9⟩ := wi_natB hw1 0 3 (by decide) (by decide)
    obtain ⟨sc_994, sl_994, sr_994, es994, p0_994, p1_994⟩ := get_sh hI (j := K9) (by omega)
    obtain ⟨f_995, es995⟩ := get_shc hI (j := K9) (by omega)
    rw [nI_clamp (n := K9) (by omega), nI_clamp (n := d * d) (by omega), show rdI (en (107 + 2 * K9)) 1 = nI sc_994 from by rw [es994]; rfl] at hw5
    obtain ⟨I9, rfl, hI9⟩ := hcP_nat (by omega) hw5 (by omega)
    refine lv_aload_n hx hb dX11_addTable_29 rfl (lv_at hl 2 rfl) ?_
    refine hp_get hx hb hts ix11 hown hK hh (q := 0) rfl (List.mem_range.mpr (by omega)) es989 rfl 4 (by decide) (hts _ tw_249) (fun _ h9 => h9) rfl dX11_addTable_30 ?_
    refine lv_iload_n hx hb dX11_addTable_33 rfl (lv_at hl 3 rfl) ?_
    have es996 := get_shs hI
    unfold P_shs at es996
    refine hp_aald hx hb hK hh (q := 75) rfl (List.mem_range.mpr (by omega)) 6 es996 rfl rfl (vp_in_nI (n := K9) (by omega) (by decide)) (v := .ref (ad (107 + 2 * K9))) (by rw [nI_clamp (n := K9) (by omega)]; exact rfB_v (by omega)) dX11_addTable_34 ?_
    refine hp_get hx hb hts ix3 hown hK hh (q := (107 + 2 * K9)) rfl (List.mem_range.mpr (by omega)) es994 rfl 0 (by decide) (hts _ tw_230) (fun _ h9 => h9) rfl dX11_addTable_35 ?_
    refine lv_astore (lv' := [(6, .ref (ad (108 + 2 * K9))), (5, .int r_992), (4, .int (nI (d * d))), (0, .ref (ad 0)), (1, .int (nI K9)), (2, .int la), (3, .int (nI I9))]) hx hb dX11_addTable_38 hl (by decide) rfl (fun ls hl => ?_)
    refine lv_iconst (v := 0) hx hb dX11_addTable_40 (by decide) ?_
    refine lv_istore (lv' := [(7, .int 0), (6, .ref (ad (108 + 2 * K9))), (5, .int r_992), (4, .int (nI (d * d))), (0, .ref (ad 0)), (1, .int (nI K9)), (2, .int la), (3, .int (nI I9))]) hx hb dX11_addTable_41 hl (by decide) rfl (fun ls hl => ?_)
    have loop_997 : ∀ (fu j997 : Nat)   (ls : Array Slot) (H : Heap) (locs : List Loc), 0 ≤ j997 → j997 ≤ (d * d) → (d * d) < j997 + fu →  (∀ x, x < j997 → wi (f_995 (I9 + x)) (-9) 9) → lv_has ls 8 [(7, .int (nI j997)), (6, .ref (ad (108 + 2 * K9))), (5, .int r_992), (4, .int (nI (d * d))), (0, .ref (ad 0)), (1, .int (nI K9)), (2, .int la), (3, .int (nI I9))] → Hp D A A s.heap H locs (List.range n) ad en → W p l e (headSpec (Cond.code yX11_addTable cX11_addTable 8 (some .int) :: TB) (rmC 6 2 12)).room s m ([.ref (ad 0), .int (nI K9), .int la, .int (nI I9)] : List Value).toArray below meth c H locs 0 0 (MQ below (va_Qi (S := Nat × (Nat → Nat) × (Nat → va_E)) (fun r u => n ≤ u.1 ∧ u.1 ≤ n + 2 ∧ (∀ i, i < n → u.2.1 i = ad i) ∧ (∀ c, (c < n ∧ (c = 0 ∨ c = 3 ∨ c = 10 ∨ c = 11 ∨ 71 ≤ c)) → u.2.2 c = en c) ∧ SX cy (List.range u.1) u.2.1 u.2.2 ∧ (∃ F1 : Nat → Nat → Int32, TXF cy (List.range u.1) u.2.1 u.2.2 F1 ∧ XTB F F1 (nI K9) la (nI I9) r en u.2.2 ∧ (RW F en → RW F1 u.2.2)) ∧ CPz z cy (List.range u.1) u.2.1 u.2.2) (PostV D A) A) ([.ref (ad 0), .int (nI K9), .int la, .int (nI I9)] : List Value).toArray s 2 12 A) (F0 m 43 ls []) := by
      intro fu
      induction fu with
      | zero => intro j997  ls H locs h0 h1 h2; exact absurd h2 (by omega)
      | succ fu ih_997 =>
        intro j997  ls H locs hj0_997 hj_997 hfu_997 i0_997 hl hh
        refine lv_iload hx hb dX11_addTable_43 (lv_at hl 0 rfl) ?_
        refine lv_iload hx hb dX11_addTable_45 (lv_at hl 3 rfl) ?_
        refine lv_icmp_ge (tgt := 76) hx hb dX11_addTable_47 (by decide) (fun c_998 => ?_) (fun c_998 => ?_)
        · have n_998 : (d * d) ≤ j997 := n_le (a := (d * d)) (b := j997) c_998 (by omega) (by omega)
          have hok9 : okC en K9 I9 (d * d) := fun x hx => by rw [show rdF (en (108 + 2 * K9)) = f_995 from by rw [es995]; rfl]; exact i0_997 x (by omega)
          refine lv_aload_n hx hb dX11_addTable_76 rfl (lv_at hl 4 rfl) ?_
          refine hp_get hx hb hts ix11 hown hK hh (q := 0) rfl (List.mem_range.mpr (by omega)) es989 rfl 0 (by decide) (hts _ tw_245) (fun _ h9 => h9) rfl dX11_addTable_77 ?_
          refine hp_callRi (va_runV (As := []) (rest := []) ⟨hx, hb, hml, hown, hts⟩ (c_X8_count l D cy _ (List.range n) ad en (List.mem_range.mpr (by omega)) cnt d mm hcnt hd2 hd3 hmm  es990) (kw_X8_count hts tw_318 ⟨by decide, by decide⟩) (preV_of hh hK (List.mem_range.mpr (by omega)) es990 rfl) rfl rfl hl.1 rfl (lv_room (Nat.le_of_ble_eq_true rfl)) dX11_addTable_80 ⟨Nat.le_of_ble_eq_true rfl, Nat.le_of_ble_eq_true rfl⟩) hh hA (fun r_999 H locs hw_999 hh => ?_)
          obtain rfl : r_999 = (nI cnt) := hw_999
          refine lv_bipush (v := 6) hx hb dX11_addTable_83 (by decide) ?_
          refine lv_icmp_lt (tgt := 91) hx hb dX11_addTable_85 (by decide) (fun c_1000 => ?_) (fun c_1000 => ?_)
          · have n_1000 : cnt < 6 := n_lt (a := cnt) (b := 6) c_1000 (by omega) (by decide)
            refine lv_aload_n hx hb dX11_addTable_91 rfl (lv_at hl 4 rfl) ?_
            refine hp_get hx hb hts ix11 hown hK hh (q := 0) rfl (List.mem_range.mpr (by omega)) es989 rfl 1 (by decide) (hts _ tw_246) (fun _ h9 => h9) rfl dX11_addTable_92 ?_
            obtain ⟨hw_1001, es1001, p0_1001⟩ := get_L hI
            refine hp_callMv (va_runV (As := []) (rest := []) ⟨hx, hb, hml, hown, hts⟩ (c_X2_forget l D cy _ (List.range n) ad en hI  ) (kw_X2_forget hts tw_281 ⟨by decide, by decide⟩) (preV_of hh hK (List.mem_range.mpr (by omega)) es1001 rfl) rfl rfl hl.1 rfl (lv_room (Nat.le_of_ble_eq_true rfl)) dX11_addTable_95 ⟨Nat.le_of_ble_eq_true rfl, Nat.le_of_ble_eq_true rfl⟩) hh hA (fun H locs en_1002 hw_1002 hh => ?_)
            obtain ⟨hI_1002, hu_1002⟩ := hw_1002
            have es989_1002 : en_1002 0 = .inr (10, [.ref (ad 1), .ref (ad 12), .ref (ad 70), .ref (ad 74), .ref (ad 75), .ref (ad 76), .int (nI wc_989), .int lf_989]) := (hu_1002 0 (by omega)).trans es989
            have es990_1002 : en_1002 1 = .inr (7, [.ref (ad 2), .ref (ad 3), .ref (ad 10), .ref (ad 11), .int (nI cnt), .int (nI d), .int (nI mm)]) := (hu_1002 1 (by omega)).trans es990
            have es994_1002 : en_1002 (107 + 2 * K9) = .inr (3, [.ref (ad (108 + 2 * K9)), .int (nI sc_994), .int sl_994, .int (nI sr_994)]) := (hu_1002 (107 + 2 * K9) (by omega)).trans es994
            have es995_1002 : en_1002 (108 + 2 * K9) = .inl (cy 0, 40, .inl f_995) := (hu_1002 (108 + 2 * K9) (by omega)).trans es995
            have es996_1002 : en_1002 75 = .inl (cy 6, 4, .inr (.inr (.inr (.inr (rfB ad 4 107 2))))) := (hu_1002 75 (by omega)).trans es996
            have hf_1002 : ∀ c, (c < n ∧ (c = 0 ∨ c = 3 ∨ c = 10 ∨ c = 11 ∨ 71 ≤ c)) → en_1002 c = en c := fun c hc => (hu_1002 c (by omega)).trans (hf0 c hc)
            refine lv_aload_n hx hb dX11_addTable_98 rfl (lv_at hl 4 rfl) ?_
            refine hp_get hx hb hts ix11 hown hK hh (q := 0) rfl (List.mem_range.mpr (by omega)) es989_1002 rfl 2 (by decide) (hts _ tw_247) (fun _ h9 => h9) rfl dX11_addTable_99 ?_
            obtain ⟨ea_1003, eb_1003, ec_1003, st0_1003, cc0_1003, ct0_1003, un0_1003, ow0_1003, hn0_1003, es1003⟩ := get_C hI_1002
            refine hp_callMv (va_runV (As := []) (rest := []) ⟨hx, hb, hml, hown, hts⟩ (c_X0_forget l D cy _ (List.range n) ad en_1002 hI_1002) (kw_X0_forget hts tw_285 ⟨by decide, by decide⟩) (preV_of hh hK (List.mem_range.mpr (by omega)) es1003 rfl) rfl rfl hl.1 rfl (lv_room (Nat.le_of_ble_eq_true rfl)) dX11_addTable_102 ⟨Nat.le_of_ble_eq_true rfl, Nat.le_of_ble_eq_true rfl⟩) hh hA (fun H locs en_1004 hw_1004 hh => ?_)
            obtain ⟨hI_1004, hu_1004, hx_1004⟩ := hw_1004
            have es989_1004 : en_1004 0 = .inr (10, [.ref (ad 1), .ref (ad 12), .ref (ad 70), .ref (ad 74), .ref (ad 75), .ref (ad 76), .int (nI wc_989), .int lf_989]) := (hu_1004 0 (by omega)).trans es989_1002
            have es990_1004 : en_1004 1 = .inr (7, [.ref (ad 2), .ref (ad 3), .ref (ad 10), .ref (ad 11), .int (nI cnt), .int (nI d), .int (nI mm)]) := (hu_1004 1 (by omega)).trans es990_1002
            have es994_1004 : en_1004 (107 + 2 * K9) = .inr (3, [.ref (ad (108 + 2 * K9)), .int (nI sc_994), .int sl_994, .int (nI sr_994)]) := (hu_1004 (107 + 2 * K9) (by omega)).trans es994_1002
            have es995_1004 : en_1004 (108 + 2 * K9) = .inl (cy 0, 40, .inl f_995) := (hu_1004 (108 + 2 * K9) (by omega)).trans es995_1002
            have es996_1004 : en_1004 75 = .inl (cy 6, 4, .inr (.inr (.inr (.inr (rfB ad 4 107 2))))) := (hu_1004 75 (by omega)).trans es996_1002
            have hf_1004 : ∀ c, (c < n ∧ (c = 0 ∨ c = 3 ∨ c = 10 ∨ c = 11 ∨ 71 ≤ c)) → en_1004 c = en c := fun c hc => (hu_1004 c (by omega)).trans (hf_1002 c hc)
            refine lv_aload_n hx hb dX11_addTable_105 rfl (lv_at hl 4 rfl) ?_
            refine hp_get hx hb hts ix11 hown hK hh (q := 0) rfl (List.mem_range.mpr (by omega)) es989_1004 rfl 0 (by decide) (hts _ tw_245) (fun _ h9 => h9) rfl dX11_addTable_106 ?_
            refine lv_aload hx hb dX11_addTable_109 (lv_at hl 1 rfl) ?_
            refine lv_iload_n hx hb dX11_addTable_111 rfl (lv_at hl 7 rfl) ?_
            refine hv_calli (va_runV (As := [.ref (ad (108 + 2 * K9)), .int (nI I9)]) (rest := []) ⟨hx, hb, hml, hown, hts⟩ (c_X8_add l D cy _ ad en_1004 n (by omega) hI_1004 K9 I9 (by omega) (by rw [show rdI (en_1004 1) 4 = nI cnt from by rw [es990_1004]; rfl, nI_toInt (by omega)]; omega) (fun d9 h9 h8 => by have e9 : d9 = d := n_eq (h9.symm.trans (show rdI (en_1004 1) 5 = nI d from by rw [es990_1004]; rfl)) (by omega) (by omega); rw [e9]; omega)) (kw_X8_add hts tw_322 ⟨by decide, by decide⟩) (preVC_of hh hK hX (List.mem_range.mpr (by omega)) es990_1004 rfl) rfl rfl hl.1 rfl (lv_room (Nat.le_of_ble_eq_true rfl)) dX11_addTable_112 ⟨Nat.le_of_ble_eq_true rfl, Nat.le_of_ble_eq_true rfl⟩) hh hA (fun r_1005 H locs n_1005 ad_1005 en_1005 hw_1005 hh => ?_)
            obtain ⟨hn1_1005, hA_1005⟩ := hw_1005
            dsimp only at hn1_1005 hA_1005
            subst hn1_1005
            have hda_1005 := hA_1005.1
            have hua_1005 := hA_1005.2.1
            obtain ⟨F1, hTX_1005, cn9, dn9, hT3, hT4, hT5, hTr, hTc, hT4n, hT5n, hT6n, hFo, hFn, hRWa⟩ := TXF_add hn (TXF_keep hTX (fun c hc => (hu_1004 c (by omega)).trans (hu_1002 c (by omega)))) hA_1005 (fun d9 h9 h8 x hx => by have e9 : d9 = d := n_eq (h9.symm.trans (show rdI (en_1004 1) 5 = nI d from by rw [es990_1004]; rfl)) (by omega) (by omega); rw [e9] at hx; rw [hu_1004 _ (by omega), hu_1002 _ (by omega)]; exact hok9 x hx)
            have hcn : cnt = cn9 := n_eq ((show rdI (en_1004 1) 4 = nI cnt from by rw [es990_1004]; rfl).symm.trans hT4) (by omega) (by omega)
            have hdn : d = dn9 := n_eq ((show rdI (en_1004 1) 5 = nI d from by rw [es990_1004]; rfl).symm.trans hT5) (by omega) (by omega)
            subst hcn
            subst hdn
            rw [hu_1004 _ (by omega), hu_1002 _ (by omega)] at hT6n
            have hFn9 : ∀ x, x < d * d → F1 cnt x = rdF (en (108 + 2 * K9)) (I9 + x) := fun x hx => by rw [hFn x hx, hu_1004 _ (by omega), hu_1002 _ (by omega)]
            have hCP_1005 : CPz z cy (List.range (n + 2)) ad_1005 en_1005 := CPz_grow (by omega) hn (CPz_forget (CPz_keep hC (fun c hc => hu_1002 c (by omega))) (fun c hc => hu_1004 c (by omega)) (hx_1004)) hda_1005 (fun c hc => hua_1005 c (by omega))
            have hl : lv_has ls 8 [(7, .int (nI j997)), (6, .ref (ad_1005 (108 + 2 * K9))), (5, .int r_992), (4, .int (nI (d * d))), (0, .ref (ad_1005 0)), (1, .int (nI K9)), (2, .int la), (3, .int (nI I9))] := by rw [hda_1005 (108 + 2 * K9) (by omega), hda_1005 0 (by omega)]; exact hl
            have b0_1005 : en 0 = .inr (10, [.ref (ad_1005 1), .ref (ad_1005 12), .ref (ad_1005 70), .ref (ad_1005 74), .ref (ad_1005 75), .ref (ad_1005 76), .int (nI wc_989), .int lf_989]) := by rw [hda_1005 1 (by omega), hda_1005 12 (by omega), hda_1005 70 (by omega), hda_1005 74 (by omega), hda_1005 75 (by omega), hda_1005 76 (by omega)]; exact es989
            have b1_1005 : en 1 = .inr (7, [.ref (ad_1005 2), .ref (ad_1005 3), .ref (ad_1005 10), .ref (ad_1005 11), .int (nI cnt), .int (nI d), .int (nI mm)]) := by rw [hda_1005 2 (by omega), hda_1005 3 (by omega), hda_1005 10 (by omega), hda_1005 11 (by omega)]; exact es990
            have b1072K9_1005 : en (107 + 2 * K9) = .inr (3, [.ref (ad_1005 (108 + 2 * K9)), .int (nI sc_994), .int sl_994, .int (nI sr_994)]) := by rw [hda_1005 (108 + 2 * K9) (by omega)]; exact es994
            have b1082K9_1005 : en (108 + 2 * K9) = .inl (cy 0, 40, .inl f_995) := by exact es995
            have b12_1005 : en 12 = .inr (2, [.ref (ad_1005 1), .ref (ad_1005 13), .ref (ad_1005 14), .ref (ad_1005 24), .ref (ad_1005 33), .int (nI hw_1001)]) := by rw [hda_1005 1 (by omega), hda_1005 13 (by omega), hda_1005 14 (by omega), hda_1005 24 (by omega), hda_1005 33 (by omega)]; exact es1001
            have hf_1005 : ∀ c, (c < n ∧ (c = 0 ∨ c = 3 ∨ c = 10 ∨ c = 11 ∨ 71 ≤ c)) → en_1005 c = en c := fun c hc => (hua_1005 c (by omega)).trans (hf_1004 c hc)
            exact hv_iret hx hb hr (rfl) hlocks hh (⟨by show n ≤ n + 2; omega, Nat.le_refl _, (fun i hi => by dsimp only; rw [hda_1005 i (by omega)]), hf_1005, hA_1005.2.2.1, ⟨F1, hTX_1005, ⟨d, cnt, hd2, hd3, hcnt, (by rw [es990]; rfl), (by rw [es990]; rfl), hT5n, hT6n, Or.inr ⟨hw_992.symm.trans c_993, K9, I9, rfl, rfl, by omega, by omega, Or.inr (Or.inr ⟨hok9, hTc, hTr, hT4n, hFo, hFn9⟩)⟩⟩, fun q => hRWa (RW_keep q ((hu_1004 1 (by omega)).trans (hu_1002 1 (by omega))) (fun t ht9 => (hu_1004 _ (by omega)).trans (hu_1002 _ (by omega))))⟩, hCP_1005⟩) dX11_addTable_115
          · have n_1000 : 6 ≤ cnt := n_nlt (a := cnt) (b := 6) c_1000 (by omega) (by decide)
            refine lv_bipush (v := (-4)) hx hb dX11_addTable_88 (by decide) ?_
            refine W.widen (k := 2) (n := 12) (by decide) (by decide) ?_
            exact hv_iret hx hb hr (rfl) hlocks hh (⟨Nat.le_refl _, by show n ≤ n + 2; omega, fun i hi => rfl, hf0, hI, ⟨F, hTX, ⟨d, cnt, hd2, hd3, hcnt, (by rw [es990]; rfl), (by rw [es990]; rfl), (by dsimp only; rw [es990]; rfl), rfl, Or.inr ⟨hw_992.symm.trans c_993, K9, I9, rfl, rfl, by omega, by omega, Or.inr (Or.inl ⟨hok9, by omega, rfl, rfl, (by dsimp only; rw [es990]; rfl)⟩)⟩⟩, fun q => q⟩, hC⟩) dX11_addTable_90
        · have n_998 : j997 < (d * d) := n_nle (a := (d * d)) (b := j997) c_998 (by omega) (by omega)
          refine lv_aload hx hb dX11_addTable_50 (lv_at hl 1 rfl) ?_
          refine lv_iload_n hx hb dX11_addTable_52 rfl (lv_at hl 7 rfl) ?_
          refine lv_iload hx hb dX11_addTable_53 (lv_at hl 0 rfl) ?_
          refine lv_iadd hx hb dX11_addTable_55 ?_
          rw [nI_add I9 j997]
          refine hp_iald hx hb hK hh (q := (108 + 2 * K9)) rfl (List.mem_range.mpr (by omega)) es995 (vp_in_nI (n := (I9 + j997)) (by omega) (by decide)) dX11_addTable_56 ?_
          rw [nI_clamp (n := (I9 + j997)) (by omega)]
          refine lv_bipush (v := (-9)) hx hb dX11_addTable_57 (by decide) ?_
          refine lv_bipush (v := 9) hx hb dX11_addTable_59 (by decide) ?_
          refine hp_callRi (va_runS (As := [.int (f_995 (I9 + j997)), .int (-9), .int 9]) (rest := []) ⟨hx, hb, hml, hown, hts⟩ (c_X11_isWithin l D cy _ (List.range n) ad en (f_995 (I9 + j997)) (-9) 9) (kw_X11_isWithin hts tw_274 ⟨by decide, by decide⟩) (preS_of hh hK) rfl rfl hl.1 rfl (lv_room (Nat.le_of_ble_eq_true rfl)) dX11_addTable_61 ⟨Nat.le_of_ble_eq_true rfl, Nat.le_of_ble_eq_true rfl⟩) hh hA (fun r_1006 H locs hw_1006 hh => ?_)
          rcases Decidable.em (wi (f_995 (I9 + j997)) (-9) 9) with hp_1006 | hp_1006
          · obtain rfl : r_1006 = 1 := Eq.trans hw_1006 (if_pos hp_1006)
            refine lv_if_ne (tgt := 70) hx hb dX11_addTable_64 (by decide) (fun _ => ?_) (fun c_0 => absurd c_0 (by decide))
            refine lv_iinc (v := (nI (j997 + 1))) (lv' := [(7, .int (nI (j997 + 1))), (6, .ref (ad (108 + 2 * K9))), (5, .int r_992), (4, .int (nI (d * d))), (0, .ref (ad 0)), (1, .int (nI K9)), (2, .int la), (3, .int (nI I9))]) hx hb dX11_addTable_70 hl (k := 0) rfl (nI_1 _) (by decide) rfl (fun ls hl => ?_)
            refine lv_goto (tgt := 43) hx hb dX11_addTable_73 (by decide) ?_
            exact ih_997 ((j997 + 1))  ls H locs (by omega) (by omega) (by omega) (fun x hx => (Nat.lt_or_ge x j997).elim (fun h => i0_997 x h) (fun h => by have e : x = j997 := (by omega); rw [e]; exact hp_1006)) (lv_sub hl [0, 1, 2, 3, 4, 5, 6, 7] rfl) hh
          · obtain rfl : r_1006 = 0 := Eq.trans hw_1006 (if_neg hp_1006)
            refine lv_if_ne (tgt := 70) hx hb dX11_addTable_64 (by decide) (fun c_0 => absurd c_0 (by decide)) (fun _ => ?_)
            refine lv_bipush (v := (-2)) hx hb dX11_addTable_67 (by decide) ?_
            refine W.widen (k := 2) (n := 12) (by decide) (by decide) ?_
            exact hv_iret hx hb hr (rfl) hlocks hh (⟨Nat.le_refl _, by show n ≤ n + 2; omega, fun i hi => rfl, hf0, hI, ⟨F, hTX, ⟨d, cnt, hd2, hd3, hcnt, (by rw [es990]; rfl), (by rw [es990]; rfl), (by dsimp only; rw [es990]; rfl), rfl, Or.inr ⟨hw_992.symm.trans c_993, K9, I9, rfl, rfl, by omega, by omega, Or.inl ⟨fun q => hp_1006 (by have h9 := q j997 (by omega); rw [show rdF (en (108 + 2 * K9)) = f_995 from by rw [es995]; rfl] at h9; exact h9), rfl, rfl, (by dsimp only; rw [es990]; rfl)⟩⟩⟩, fun q => q⟩, hC⟩) dX11_addTable_69
    exact loop_997 ((d * d) + 1) 0  ls _ _ (Nat.le_refl _) (by omega) (by omega) (fun x h => absurd h (Nat.not_lt_zero x)) (lv_sub hl [0, 1, 2, 3, 4, 5, 6, 7] rfl) hh
  · refine lv_iload hx hb dX11_addTable_26 (lv_at hl 0 rfl) ?_
    refine W.widen (k := 2) (n := 12) (by decide) (by decide) ?_
    exact hv_iret hx hb hr (rfl) hlocks hh (⟨Nat.le_refl _, by show n ≤ n + 2; omega, fun i hi => rfl, hf0, hI, ⟨F, hTX, ⟨d, cnt, hd2, hd3, hcnt, (by rw [es990]; rfl), (by rw [es990]; rfl), (by dsimp only; rw [es990]; rfl), rfl, Or.inl ⟨fun q => c_993 (hw_992.trans q), hw_992, rfl, (by dsimp only; rw [es990]; rfl)⟩⟩, fun q => q⟩, hC⟩) dX11_addTable_28
theorem kw_X11_addTable {R : Room} {s : State} {args : Array Value} {own : String} {idx : Nat} (hts : ∀ w ∈ TB, w.before args s = true) (hl : Cond.methodLink own idx yX11_addTable ∈ TB) (hR : 6 + 1 ≤ R.frames ∧ 8 + (8 + 11) + 40 * 6 ≤ R.locals) : CallW R s args own RX11 idx yX11_addTable cX11_addTable 8 (some .int) (Cond.code yX11_addTable cX11_addTable 8 (some .int) :: TB) (rmC 6 2 12) 2 12 3 := cwV 3 hts (TB_V hl tw_295 ts_1 tw_1 tw_296) rfl rfl rfl (by decide +kernel) hR
set_option maxHeartbeats 8000000 in
set_option maxRecDepth 100000 in
/-- table -/
theorem c_X11_table (l : Launch) (D : va_G) (cy : Nat → ClassId) (sz : Nat) (ad : Nat → Nat) (en : Nat → va_E) (n : Nat) (hn : 115 ≤ n) (hI : SX cy (List.range n) ad en) (kz la iz : Int32) (z : Nat) (F : Nat → Nat → Int32) (hTX : TXF cy (List.range n) ad en F) (hC : CPz z cy (List.range n) ad en)  : Met l yX11_table (Cond.code yX11_table cX11_table 4 (some .int) :: TB) (rmC 7 2 12) (va_Pc [.ref (ad 0), .int kz, .int la, .int iz] (PreC D cy n ad en sz)) (va_Qi (S := Nat × (Nat → Nat) × (Nat → va_E)) (fun r u => n ≤ u.1 ∧ u.1 ≤ n + 2 ∧ (∀ i, i < n → u.2.1 i = ad i) ∧ (∀ c, (c < n ∧ (c = 3 ∨ c = 10 ∨ c = 11 ∨ 71 ≤ c)) → u.2.2 c = en c) ∧ SX cy (List.range u.1) u.2.1 u.2.2 ∧ (∃ F1 : Nat → Nat → Int32, TXF cy (List.range u.1) u.2.1 u.2.2 F1 ∧ XTB F F1 kz la iz r en u.2.2 ∧ (RW F en → RW F1 u.2.2)) ∧ CPz z cy (List.range u.1) u.2.1 u.2.2 ∧ rdI (u.2.2 0) 6 = rdI (en 0) 6) (PostV D (Af (List.range n) ad sz)) (Af (List.range n) ad sz)) 2 12 (Af (List.range n) ad sz) := by
  refine Met.ofW (cc := cX11_table) (maxL := 4) (ret := (some .int)) (by decide) rfl ?_
  intro p e s m args below meth c s₁ B hml hv
  obtain ⟨rfl, ⟨hsz, hP, hK, hD0⟩, hX⟩ := hv
  have hx := B.exec
  have hb := B.bytes
  have hr := B.returns
  have hts : ∀ w ∈ TB, w.before _ s = true := fun w h => atoms_spec (ws := _ :: TB) B.pre w (List.mem_cons_of_mem _ h)
  have hown : s.vm.findClass RX11 = some m.cls := findClass_of_methodNamed B.named
  have hlocks := B.notSynchronized
  have hh : Hp D (Af (List.range n) ad sz) (Af (List.range n) ad sz) s.heap s.heap [] (List.range n) ad en := ⟨hP, Af_self hD0, va_S.rf⟩
  have hA : ∀ q : Nat, s.heap.size ≤ q → (Af (List.range n) ad sz) q := fun q h => Or.inr (by rw [hsz] at h; exact h)
  generalize (Af (List.range n) ad sz) = A at hh hA ⊢
  have hl := lv_entry ([.ref (ad 0), .int kz, .int la, .int iz]) (n := 4) (Nat.le_of_ble_eq_true rfl)
  rw [lg_entry_eq]
  generalize (lg_sl ([.ref (ad 0), .int kz, .int la, .int iz]) ++ List.replicate (4 - (lg_sl ([.ref (ad 0), .int kz, .int la, .int iz])).length) Slot.unset).toArray = ls at hl ⊢
  have hl : lv_has ls 4 [(0, .ref (ad 0)), (1, .int kz), (2, .int la), (3, .int iz)] := hl
  have hf0 : ∀ c, (c < n ∧ (c = 3 ∨ c = 10 ∨ c = 11 ∨ 71 ≤ c)) → en c = en c := fun _ _ => rfl
  obtain ⟨wc_1007, lf_1007, es1007, p0_1007⟩ := get_A hI
  refine lv_aload_n hx hb dX11_table_0 rfl (lv_at hl 0 rfl) ?_
  refine lv_aload_n hx hb dX11_table_1 rfl (lv_at hl 0 rfl) ?_
  refine lv_iload_n hx hb dX11_table_2 rfl (lv_at hl 1 rfl) ?_
  refine lv_iload_n hx hb dX11_table_3 rfl (lv_at hl 2 rfl) ?_
  refine lv_iload_n hx hb dX11_table_4 rfl (lv_at hl 3 rfl) ?_
  refine hv_calli (va_runV (As := [.int kz, .int la, .int iz]) (rest := [.ref (ad 0)]) ⟨hx, hb, hml, hown, hts⟩ (c_X11_addTable l D cy _ ad en n (by omega) hI kz la iz z F hTX hC) (kw_X11_addTable hts tw_293 ⟨by decide, by decide⟩) (preVC_of hh hK hX (List.mem_range.mpr (by omega)) es1007 rfl) rfl rfl hl.1 rfl (lv_room (Nat.le_of_ble_eq_true rfl)) dX11_table_5 ⟨Nat.le_of_ble_eq_true rfl, Nat.le_of_ble_eq_true rfl⟩) hh hA (fun r_1008 H locs n_1008 ad_1008 en_1008 hw_1008 hh => ?_)
  obtain ⟨hnl_1008, hnh_1008, hda_1008, hue_1008, hI_1008, ⟨F1, hTX_1008, hXT_1008, hRW_1008⟩, hCP_1008⟩ := hw_1008
  dsimp only at hnl_1008 hnh_1008 hda_1008 hue_1008 hI_1008 hTX_1008 hXT_1008 hRW_1008 hCP_1008
  refine W.eq (g2 := F0 m 8 ls [.int r_1008, .ref (ad_1008 0)]) (by rw [hda_1008 0 (by omega)]) ?_
  have hl : lv_has ls 4 [(0, .ref (ad_1008 0)), (1, .int kz), (2, .int la), (3, .int iz)] := by rw [hda_1008 0 (by omega)]; exact hl
  have hf_1008 : ∀ c, (c < n ∧ (c = 3 ∨ c = 10 ∨ c = 11 ∨ 71 ≤ c)) → en_1008 c = en c := fun c hc => (hue_1008 c (by omega)).trans (hf0 c hc)
  obtain ⟨wc_1009, lf_1009, es1009, p0_1009⟩ := get_A hI_1008
  refine hp_callMi (va_runV (As := [.int r_1008]) (rest := []) ⟨hx, hb, hml, hown, hts⟩ (c_X11_settle l D cy _ (List.range n_1008) ad_1008 en_1008 hI_1008 r_1008) (kw_X11_settle hts tw_404 ⟨by decide, by decide⟩) (preV_of hh hK (List.mem_range.mpr (by omega)) es1009 rfl) rfl rfl hl.1 rfl (lv_room (Nat.le_of_ble_eq_true rfl)) dX11_table_8 ⟨Nat.le_of_ble_eq_true rfl, Nat.le_of_ble_eq_true rfl⟩) hh hA (fun r_1010 H locs en_1010 hw_1010 hh => ?_)
  obtain ⟨hI_1010, hu_1010, hr_1010, hwc_1010⟩ := hw_1010
  have hf_1010 : ∀ c, (c < n ∧ (c = 3 ∨ c = 10 ∨ c = 11 ∨ 71 ≤ c)) → en_1010 c = en c := fun c hc => (hu_1010 c (by omega)).trans (hf_1008 c hc)
  rw [hr_1010]
  exact hv_iret hx hb hr (rfl) hlocks hh (⟨hnl_1008, hnh_1008, (fun i hi => by dsimp only; rw [hda_1008 i (by omega)]), hf_1010, hI_1010, ⟨F1, TXF_keep hTX_1008 (fun c hc => hu_1010 c (by omega)), XTB_s hXT_1008 (hu_1010 1 (by omega)) rfl, fun q => RW_keep (hRW_1008 q) (hu_1010 1 (by omega)) (fun t ht9 => hu_1010 _ (by omega))⟩, CPz_keep hCP_1008 (fun c hc => hu_1010 c (by omega)), hwc_1010.trans (by rw [hue_1008 0 (by omega)])⟩) dX11_table_11
theorem kw_X11_table {R : Room} {s : State} {args : Array Value} {own : String} {idx : Nat} (hts : ∀ w ∈ TB, w.before args s = true) (hl : Cond.methodLink own idx yX11_table ∈ TB) (hR : 7 + 1 ≤ R.frames ∧ 8 + (4 + 11) + 40 * 7 ≤ R.locals) : CallW R s args own RX11 idx yX11_table cX11_table 4 (some .int) (Cond.code yX11_table cX11_table 4 (some .int) :: TB) (rmC 7 2 12) 2 12 3 := cwV 3 hts (TB_V hl tw_290 tw_291 tw_1 tw_292) rfl rfl rfl (by decide +kernel) hR
