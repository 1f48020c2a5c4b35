set_option maxHeartbeats 4000000 in
set_option maxRecDepth 100000 in
/-- checkLength -/
theorem c_J7_checkLength_df160 (l : Launch) (D : va_G) (cy : Nat → ClassId) (sz : Nat) (cs : List Nat) (ad : Nat → Nat) (en : Nat → va_E) (a b : Nat) (hab : a ≤ b) (hb31 : b < 2 ^ 31)   : Met l yJ7_checkLength_df160 (Cond.code yJ7_checkLength_df160 cJ7_checkLength_df160 2 none :: TB) (rmN 0) (va_Pc [.int (nI a), .int (nI b)] (Pre D cy cs ad en sz)) (va_Qv (S := Nat → va_E) (fun en1 => en1 = en) (PostM D cs ad) (Af cs ad sz)) 0 0 (Af cs ad sz) := by
  refine Met.ofW (cc := cJ7_checkLength_df160) (maxL := 2) (ret := none) (by decide) rfl ?_
  intro p e s m args below meth c s₁ B hml hv
  obtain ⟨rfl, hsz, hP, hK, hD0⟩ := hv
  have hx := B.exec
  have hb := B.bytes
  have hr := B.returns
  have hts : ∀ w ∈ TB, w.before _ s = true := fun w h => atoms_spec (ws := _ :: TB) B.pre w (List.mem_cons_of_mem _ h)
  have hown : s.vm.findClass RJ7 = some m.cls := findClass_of_methodNamed B.named
  have hlocks := B.notSynchronized
  have hh : Hp D (Af cs ad sz) (Af cs ad sz) s.heap s.heap [] cs ad en := ⟨hP, Af_self hD0, va_S.rf⟩
  have hA : ∀ q : Nat, s.heap.size ≤ q → Af cs ad sz q := fun q h => Or.inr (by rw [hsz] at h; exact h)
  have hl := lv_entry ([.int (nI a), .int (nI b)]) (n := 2) (Nat.le_of_ble_eq_true rfl)
  rw [lg_entry_eq]
  generalize (lg_sl ([.int (nI a), .int (nI b)]) ++ List.replicate (2 - (lg_sl ([.int (nI a), .int (nI b)])).length) Slot.unset).toArray = ls at hl ⊢
  have hl : lv_has ls 2 [(0, .int (nI a)), (1, .int (nI b))] := hl
  refine lv_iload_n hx hb dJ7_checkLength_df160_0 rfl (lv_at hl 1 rfl) ?_
  refine lv_iload_n hx hb dJ7_checkLength_df160_1 rfl (lv_at hl 0 rfl) ?_
  refine lv_icmp_ge (tgt := 37) hx hb dJ7_checkLength_df160_2 (by decide) (fun c_931 => ?_) (fun c_931 => ?_)
  · have n_931 : a ≤ b := n_le (a := a) (b := b) c_931 (by omega) (by omega)
    exact hp_vretM hx hb hr hlocks hh (rfl) dJ7_checkLength_df160_37
  · have n_931 : b < a := n_nle (a := a) (b := b) c_931 (by omega) (by omega)
    exact absurd n_931 (by omega)
theorem kw_J7_checkLength_df160 {R : Room} {s : State} {args : Array Value} {own : String} {idx : Nat} (hts : ∀ w ∈ TB, w.before args s = true) (hl : Cond.methodLink own idx yJ7_checkLength_df160 ∈ TB) (hR : 0 + 1 ≤ R.frames ∧ 8 + (2 + 11) + 40 * 0 ≤ R.locals) : CallB R s args own idx yJ7_checkLength_df160 cJ7_checkLength_df160 2 none (Cond.code yJ7_checkLength_df160 cJ7_checkLength_df160 2 none :: TB) (rmN 0) 0 0 2 ∧ (Cond.static yJ7_checkLength_df160).before args s = true := va_cwS 2 hts (TB_S2 hl tw_333 tw_10 tw_334) rfl rfl rfl (by decide +kernel) hR
set_option maxHeartbeats 8000000 in
set_option maxRecDepth 100000 in
/-- copyOfRangeInt -/
theorem c_J7_copyOfRangeInt_feecc (l : Launch) (D : va_G) (cy : Nat → ClassId) (sz : Nat) (ad : Nat → Nat) (en : Nat → va_E) (n : Nat) (hn : 115 ≤ n) (hI : SX cy (List.range n) ad en) (J I9 L9 : Nat) (hJ : J < 4) (hL1 : 1 ≤ L9) (hL9 : L9 ≤ 9) (hIL : I9 + L9 ≤ 40)  : Met l yJ7_copyOfRangeInt_feecc (Cond.code yJ7_copyOfRangeInt_feecc cJ7_copyOfRangeInt_feecc 5 (some (.array .int)) :: TB) (rmC 1 1 9) (va_Pc [.ref (ad (108 + 2 * J)), .int (nI I9), .int (nI (I9 + L9))] (PreC D cy n ad en sz)) (va_Qq (S := Nat × (Nat → Nat) × (Nat → va_E)) (fun r u => (∀ i, i < n → u.2.1 i = ad i) ∧ (∀ c, (c < n) → u.2.2 c = en c) ∧ u.1 = n + 1 ∧ r = some (u.2.1 n) ∧ SX cy (List.range (n + 1)) u.2.1 u.2.2 ∧ ∃ g : Nat → Int32, u.2.2 n = .inl (cy 0, L9, .inl g) ∧ ∀ i, i < L9 → g i = rdF (en (108 + 2 * J)) (I9 + i)) (PostV D (Af (List.range n) ad sz)) (Af (List.range n) ad sz)) 1 9 (Af (List.range n) ad sz) := by
  refine Met.ofW (cc := cJ7_copyOfRangeInt_feecc) (maxL := 5) (ret := (some (.array .int))) (by decide) rfl ?_
  intro p e s m args below meth c s₁ B hml hv
  obtain ⟨rfl, ⟨hsz, hP, hK, hD0⟩, hX⟩ := hv
  have hx := B.exec
  have hb := B.bytes
  have hr := B.returns
  have hts : ∀ w ∈ TB, w.before _ s = true := fun w h => atoms_spec (ws := _ :: TB) B.pre w (List.mem_cons_of_mem _ h)
  have hown : s.vm.findClass RJ7 = some m.cls := findClass_of_methodNamed B.named
  have hlocks := B.notSynchronized
  have hh : Hp D (Af (List.range n) ad sz) (Af (List.range n) ad sz) s.heap s.heap [] (List.range n) ad en := ⟨hP, Af_self hD0, va_S.rf⟩
  have hA : ∀ q : Nat, s.heap.size ≤ q → (Af (List.range n) ad sz) q := fun q h => Or.inr (by rw [hsz] at h; exact h)
  generalize (Af (List.range n) ad sz) = A at hh hA ⊢
  have hl := lv_entry ([.ref (ad (108 + 2 * J)), .int (nI I9), .int (nI (I9 + L9))]) (n := 5) (Nat.le_of_ble_eq_true rfl)
  rw [lg_entry_eq]
  generalize (lg_sl ([.ref (ad (108 + 2 * J)), .int (nI I9), .int (nI (I9 + L9))]) ++ List.replicate (5 - (lg_sl ([.ref (ad (108 + 2 * J)), .int (nI I9), .int (nI (I9 + L9))])).length) Slot.unset).toArray = ls at hl ⊢
  have hl : lv_has ls 5 [(0, .ref (ad (108 + 2 * J))), (1, .int (nI I9)), (2, .int (nI (I9 + L9)))] := hl
  have hf0 : ∀ c, (c < n) → en c = en c := fun _ _ => rfl
  obtain ⟨f_932, es932⟩ := get_shc hI (j := J) (by omega)
  refine lv_iload_n hx hb dJ7_copyOfRangeInt_feecc_0 rfl (lv_at hl 1 rfl) ?_
  refine lv_iload_n hx hb dJ7_copyOfRangeInt_feecc_1 rfl (lv_at hl 2 rfl) ?_
  refine hp_callMv (va_runS (As := [.int (nI I9), .int (nI (I9 + L9))]) (rest := []) ⟨hx, hb, hml, hown, hts⟩ (c_J7_checkLength_df160 l D cy _ (List.range n) ad en I9 (I9 + L9) (by omega) (by omega)) (kw_J7_checkLength_df160 hts tw_332 ⟨by decide, by decide⟩) (preS_of hh hK) rfl rfl hl.1 rfl (lv_room (Nat.le_of_ble_eq_true rfl)) dJ7_copyOfRangeInt_feecc_2 ⟨Nat.le_of_ble_eq_true rfl, Nat.le_of_ble_eq_true rfl⟩) hh hA (fun H locs en_933 hw_933 hh => ?_)
  rw [hw_933] at hh
  refine lv_iload_n hx hb dJ7_copyOfRangeInt_feecc_5 rfl (lv_at hl 2 rfl) ?_
  refine lv_iload_n hx hb dJ7_copyOfRangeInt_feecc_6 rfl (lv_at hl 1 rfl) ?_
  refine lv_isub hx hb dJ7_copyOfRangeInt_feecc_7 ?_
  rw [pk_sub (a := (I9 + L9)) (b := I9) (by omega), show I9 + L9 - I9 = L9 by omega]
  refine lv_istore_n (lv' := [(3, .int (nI L9)), (0, .ref (ad (108 + 2 * J))), (1, .int (nI I9)), (2, .int (nI (I9 + L9)))]) hx hb dJ7_copyOfRangeInt_feecc_8 rfl hl (by decide) rfl (fun ls hl => ?_)
  refine lv_iload_n hx hb dJ7_copyOfRangeInt_feecc_9 rfl (lv_at hl 0 rfl) ?_
  refine hq_newa (atype := .int) (ty := .int) hx hb (hts _ tw_121) rfl hK hh hA 0 rfl (N' := L9) (a0 := (L9, .inl (fun _ => 0))) (fun _ => rfl) (nI_pos (by omega)) (nI_clamp (by omega)) (by show L9 * 4 ≤ _; omega) (Nat.le_of_ble_eq_true rfl) (by show 0 + L9 ≤ 9; omega) dJ7_copyOfRangeInt_feecc_10 (fun q_934 H ad_934 en_934 had_934 hen_934 hh => ?_)
  have hda_934 : ∀ i, i < n → ad_934 i = ad i := fun i hi => by rw [had_934, va_up_ne _ _ (by omega)]
  have hue_934 : ∀ i, i < n → en_934 i = en i := fun i hi => by rw [hen_934, va_up_ne _ _ (by omega)]
  have hh : Hp D A A s.heap H _ (List.range (n + 1)) ad_934 en_934 := hh
  have hl : lv_has ls 5 [(3, .int (nI L9)), (0, .ref (ad_934 (108 + 2 * J))), (1, .int (nI I9)), (2, .int (nI (I9 + L9)))] := by rw [hda_934 (108 + 2 * J) (by omega)]; exact hl
  have es932_934 : en_934 (108 + 2 * J) = .inl (cy 0, 40, .inl f_932) := by rw [hue_934 (108 + 2 * J) (by omega)]; exact es932
  have b1082J_934 : en (108 + 2 * J) = .inl (cy 0, 40, .inl f_932) := by exact es932
  have hI_934 : SX cy (List.range (n + 1)) ad_934 en_934 := SX_grow hI (fun c h => List.mem_range.mpr (by omega)) (fun i h => hda_934 i (by omega)) (fun i h => hue_934 i (by omega))
  have hf_934 : ∀ c, (c < n) → en_934 c = en c := fun c hc => (hue_934 c (by omega)).trans (hf0 c hc)
  have en1_934 : en_934 n = .inl (cy 0, L9, .inl (fun _ => 0)) := by rw [hen_934]; exact va_up_self _ _ _
  refine W.eq (g2 := F0 m 12 ls [.ref (ad_934 n)]) (by rw [show ad_934 n = q_934 from by rw [had_934]; exact va_up_self _ _ _]) ?_
  refine W.widen (k := 1) (n := 9) (by omega) (by omega) ?_
  refine lv_astore (lv' := [(4, .ref (ad_934 n)), (3, .int (nI L9)), (0, .ref (ad_934 (108 + 2 * J))), (1, .int (nI I9)), (2, .int (nI (I9 + L9)))]) hx hb dJ7_copyOfRangeInt_feecc_12 hl (by decide) rfl (fun ls hl => ?_)
  refine lv_aload_n hx hb dJ7_copyOfRangeInt_feecc_14 rfl (lv_at hl 2 rfl) ?_
  refine lv_iload_n hx hb dJ7_copyOfRangeInt_feecc_15 rfl (lv_at hl 3 rfl) ?_
  refine lv_aload hx hb dJ7_copyOfRangeInt_feecc_16 (lv_at hl 0 rfl) ?_
  refine lv_iconst (v := 0) hx hb dJ7_copyOfRangeInt_feecc_18 (by decide) ?_
  refine lv_aload_n hx hb dJ7_copyOfRangeInt_feecc_19 rfl (lv_at hl 2 rfl) ?_
  refine hp_alen hx hb hK hh (q := (108 + 2 * J)) rfl (List.mem_range.mpr (by omega)) 0 es932_934 rfl (v := nI 40) (rfl) dJ7_copyOfRangeInt_feecc_20 ?_
  refine lv_iload_n hx hb dJ7_copyOfRangeInt_feecc_21 rfl (lv_at hl 3 rfl) ?_
  refine lv_isub hx hb dJ7_copyOfRangeInt_feecc_22 ?_
  rw [pk_sub (a := 40) (b := I9) (by omega)]
  refine lv_iload_n hx hb dJ7_copyOfRangeInt_feecc_23 rfl (lv_at hl 1 rfl) ?_
  refine va_mmin hx hb (hml.trans hl.1.symm) hown (hts _ tw_335) (hts _ tw_336) (hts _ tw_11) (hts _ tw_337) (Nat.le_of_ble_eq_true rfl) (Nat.le_of_ble_eq_true rfl) (Nat.le_of_ble_eq_true rfl) (by show 9 ≤ 9; omega) dJ7_copyOfRangeInt_feecc_24 ?_
  rw [min_nat (a := L9) (b := (40 - I9)) (by omega) (by omega)]
  refine W.eq (g2 := F0 m 27 ls [.int (nI L9), .int (nI 0), .ref (ad_934 n), .int (nI I9), .ref (ad_934 (108 + 2 * J))]) rfl ?_
  refine hp_copyi hx hb (hml.trans hl.1.symm) hown (hts _ tw_338) (hts _ tw_340) (hts _ tw_339) (hts _ tw_12) hK hh (List.mem_range.mpr (by omega)) (List.mem_range.mpr (by omega)) es932_934 en1_934 I9 0 L9 (by omega) (by decide) (by omega) (by omega) (by omega) (Nat.le_of_ble_eq_true rfl) (Nat.le_of_ble_eq_true rfl) dJ7_copyOfRangeInt_feecc_27 (fun H locs en_935 hen_935 hh => ?_)
  have es932_935 : en_935 (108 + 2 * J) = .inl (cy 0, 40, .inl f_932) := by rw [hen_935, va_up_ne _ _ (by omega)]; exact es932_934
  have en1_935 : en_935 n = .inl (cy 0, L9, .inl (va_cpy f_932 (fun _ => 0) I9 0 L9)) := by rw [hen_935]; exact va_up_self _ _ _
  have hI_935 : SX cy (List.range (n + 1)) ad_934 en_935 := SX_pt hI_934 (fun c => c = n) (fun c hc => by rw [hen_935, va_up_ne _ _ hc]) (fun c hc h9 => absurd h9 (by omega))
  have hf_935 : ∀ c, (c < n) → en_935 c = en c := fun c hc => Eq.trans (show en_935 c = en_934 c from by rw [hen_935, va_up_ne _ _ (by omega)]) (hf_934 c hc)
  refine lv_aload hx hb dJ7_copyOfRangeInt_feecc_30 (lv_at hl 0 rfl) ?_
  exact hv_aret (v := some (ad_934 n)) rfl hx hb hr (Or.inr ⟨_, rfl⟩) hlocks hh (⟨(fun i hi => by dsimp only; rw [hda_934 i (by omega)]), hf_935, rfl, rfl, hI_935, _, en1_935, fun i hi => by rw [pk_cpy_in (Nat.zero_le _) (by omega), show rdF (en (108 + 2 * J)) = f_932 from by rw [es932]; rfl]; rfl⟩) dJ7_copyOfRangeInt_feecc_32
theorem kw_J7_copyOfRangeInt_feecc {R : Room} {s : State} {args : Array Value} {own : String} {idx : Nat} (hts : ∀ w ∈ TB, w.before args s = true) (hl : Cond.methodLink own idx yJ7_copyOfRangeInt_feecc ∈ TB) (hR : 1 + 1 ≤ R.frames ∧ 8 + (5 + 11) + 40 * 1 ≤ R.locals) : CallB R s args own idx yJ7_copyOfRangeInt_feecc cJ7_copyOfRangeInt_feecc 5 (some (.array .int)) (Cond.code yJ7_copyOfRangeInt_feecc cJ7_copyOfRangeInt_feecc 5 (some (.array .int)) :: TB) (rmC 1 1 9) 1 9 3 ∧ (Cond.static yJ7_copyOfRangeInt_feecc).before args s = true := va_cwS 3 hts (TB_S2 hl tw_330 tw_10 tw_331) rfl rfl rfl (by decide +kernel) hR
set_option maxHeartbeats 8000000 in
set_option maxRecDepth 100000 in
/-- copyOfRange -/
theorem c_J7_copyOfRange_feecc (l : Launch) (D : va_G) (cy : Nat → ClassId) (sz : Nat) (ad : Nat → Nat) (en : Nat → va_E) (n : Nat) (hn : 115 ≤ n) (hI : SX cy (List.range n) ad en) (J I9 L9 : Nat) (hJ : J < 4) (hL1 : 1 ≤ L9) (hL9 : L9 ≤ 9) (hIL : I9 + L9 ≤ 40)  : Met l yJ7_copyOfRange_feecc (Cond.code yJ7_copyOfRange_feecc cJ7_copyOfRange_feecc 3 (some (.array .int)) :: TB) (rmC 2 1 9) (va_Pc [.ref (ad (108 + 2 * J)), .int (nI I9), .int (nI (I9 + L9))] (PreC D cy n ad en sz)) (va_Qq (S := Nat × (Nat → Nat) × (Nat → va_E)) (fun r u => (∀ i, i < n → u.2.1 i = ad i) ∧ (∀ c, (c < n) → u.2.2 c = en c) ∧ u.1 = n + 1 ∧ r = some (u.2.1 n) ∧ SX cy (List.range (n + 1)) u.2.1 u.2.2 ∧ ∃ g : Nat → Int32, u.2.2 n = .inl (cy 0, L9, .inl g) ∧ ∀ i, i < L9 → g i = rdF (en (108 + 2 * J)) (I9 + i)) (PostV D (Af (List.range n) ad sz)) (Af (List.range n) ad sz)) 1 9 (Af (List.range n) ad sz) := by
  refine Met.ofW (cc := cJ7_copyOfRange_feecc) (maxL := 3) (ret := (some (.array .int))) (by decide) rfl ?_
  intro p e s m args below meth c s₁ B hml hv
  obtain ⟨rfl, ⟨hsz, hP, hK, hD0⟩, hX⟩ := hv
  have hx := B.exec
  have hb := B.bytes
  have hr := B.returns
  have hts : ∀ w ∈ TB, w.before _ s = true := fun w h => atoms_spec (ws := _ :: TB) B.pre w (List.mem_cons_of_mem _ h)
  have hown : s.vm.findClass RJ7 = some m.cls := findClass_of_methodNamed B.named
  have hlocks := B.notSynchronized
  have hh : Hp D (Af (List.range n) ad sz) (Af (List.range n) ad sz) s.heap s.heap [] (List.range n) ad en := ⟨hP, Af_self hD0, va_S.rf⟩
  have hA : ∀ q : Nat, s.heap.size ≤ q → (Af (List.range n) ad sz) q := fun q h => Or.inr (by rw [hsz] at h; exact h)
  generalize (Af (List.range n) ad sz) = A at hh hA ⊢
  have hl := lv_entry ([.ref (ad (108 + 2 * J)), .int (nI I9), .int (nI (I9 + L9))]) (n := 3) (Nat.le_of_ble_eq_true rfl)
  rw [lg_entry_eq]
  generalize (lg_sl ([.ref (ad (108 + 2 * J)), .int (nI I9), .int (nI (I9 + L9))]) ++ List.replicate (3 - (lg_sl ([.ref (ad (108 + 2 * J)), .int (nI I9), .int (nI (I9 + L9))])).length) Slot.unset).toArray = ls at hl ⊢
  have hl : lv_has ls 3 [(0, .ref (ad (108 + 2 * J))), (1, .int (nI I9)), (2, .int (nI (I9 + L9)))] := hl
  have hf0 : ∀ c, (c < n) → en c = en c := fun _ _ => rfl
  refine lv_iload_n hx hb dJ7_copyOfRange_feecc_0 rfl (lv_at hl 1 rfl) ?_
  refine lv_if_ne (tgt := 10) hx hb dJ7_copyOfRange_feecc_1 (by decide) (fun c_936 => ?_) (fun c_936 => ?_)
  · have n_936 : I9 ≠ 0 := n_neq (a := I9) (b := 0) c_936 (by omega) (by decide)
    refine lv_aload_n hx hb dJ7_copyOfRange_feecc_10 rfl (lv_at hl 0 rfl) ?_
    refine lv_iload_n hx hb dJ7_copyOfRange_feecc_11 rfl (lv_at hl 1 rfl) ?_
    refine lv_iload_n hx hb dJ7_copyOfRange_feecc_12 rfl (lv_at hl 2 rfl) ?_
    obtain ⟨f_937, es937⟩ := get_shc hI (j := J) (by omega)
    refine hv_callq (va_runS (As := [.ref (ad (108 + 2 * J)), .int (nI I9), .int (nI (I9 + L9))]) (rest := []) ⟨hx, hb, hml, hown, hts⟩ (c_J7_copyOfRangeInt_feecc l D cy _ ad en n (by omega) hI J I9 L9 (by omega) (by omega) (by omega) (by omega)) (kw_J7_copyOfRangeInt_feecc hts tw_329 ⟨by decide, by decide⟩) (preC_of hh hK hX) rfl rfl hl.1 rfl (lv_room (Nat.le_of_ble_eq_true rfl)) dJ7_copyOfRange_feecc_13 ⟨Nat.le_of_ble_eq_true rfl, Nat.le_of_ble_eq_true rfl⟩) hh hA (fun r_938 H locs n_938 ad_938 en_938 hw_938 hh => ?_)
    obtain ⟨hda_938, hue_938, hn1_938, hr_938, hI_938, g_938, eg_938, hg_938⟩ := hw_938
    dsimp only at hda_938 hue_938 hn1_938 hr_938 hI_938 eg_938
    subst hn1_938
    rw [hr_938]
    have hl : lv_has ls 3 [(0, .ref (ad_938 (108 + 2 * J))), (1, .int (nI I9)), (2, .int (nI (I9 + L9)))] := by rw [hda_938 (108 + 2 * J) (by omega)]; exact hl
    have es937_938 : en_938 (108 + 2 * J) = .inl (cy 0, 40, .inl f_937) := by rw [hue_938 (108 + 2 * J) (by omega)]; exact es937
    have b1082J_938 : en (108 + 2 * J) = .inl (cy 0, 40, .inl f_937) := by exact es937
    refine W.eq (g2 := F0 m 16 ls [.ref (ad_938 n)]) rfl ?_
    have hf_938 : ∀ c, (c < n) → en_938 c = en c := fun c hc => (hue_938 c (by omega)).trans (hf0 c hc)
    exact hv_aret (v := some (ad_938 n)) rfl hx hb hr (Or.inr ⟨_, rfl⟩) hlocks hh (⟨(fun i hi => by dsimp only; rw [hda_938 i (by omega)]), hf_938, rfl, rfl, hI_938, _, eg_938, hg_938⟩) dJ7_copyOfRange_feecc_16
  · have n_936 : I9 = 0 := n_eq (a := I9) (b := 0) c_936 (by omega) (by decide)
    refine lv_iload_n hx hb dJ7_copyOfRange_feecc_4 rfl (lv_at hl 2 rfl) ?_
    refine lv_aload_n hx hb dJ7_copyOfRange_feecc_5 rfl (lv_at hl 0 rfl) ?_
    obtain ⟨f_939, es939⟩ := get_shc hI (j := J) (by omega)
    refine hp_alen hx hb hK hh (q := (108 + 2 * J)) rfl (List.mem_range.mpr (by omega)) 0 es939 rfl (v := nI 40) (rfl) dJ7_copyOfRange_feecc_6 ?_
    refine lv_icmp_eq (tgt := 17) hx hb dJ7_copyOfRange_feecc_7 (by decide) (fun c_940 => ?_) (fun c_940 => ?_)
    · have n_940 : (I9 + L9) = 40 := n_eq (a := (I9 + L9)) (b := 40) c_940 (by omega) (by decide)
      exact absurd n_940 (by omega)
    · have n_940 : (I9 + L9) ≠ 40 := n_neq (a := (I9 + L9)) (b := 40) c_940 (by omega) (by decide)
      refine lv_aload_n hx hb dJ7_copyOfRange_feecc_10 rfl (lv_at hl 0 rfl) ?_
      refine lv_iload_n hx hb dJ7_copyOfRange_feecc_11 rfl (lv_at hl 1 rfl) ?_
      refine lv_iload_n hx hb dJ7_copyOfRange_feecc_12 rfl (lv_at hl 2 rfl) ?_
      refine hv_callq (va_runS (As := [.ref (ad (108 + 2 * J)), .int (nI I9), .int (nI (I9 + L9))]) (rest := []) ⟨hx, hb, hml, hown, hts⟩ (c_J7_copyOfRangeInt_feecc l D cy _ ad en n (by omega) hI J I9 L9 (by omega) (by omega) (by omega) (by omega)) (kw_J7_copyOfRangeInt_feecc hts tw_329 ⟨by decide, by decide⟩) (preC_of hh hK hX) rfl rfl hl.1 rfl (lv_room (Nat.le_of_ble_eq_true rfl)) dJ7_copyOfRange_feecc_13 ⟨Nat.le_of_ble_eq_true rfl, Nat.le_of_ble_eq_true rfl⟩) hh hA (fun r_941 H locs n_941 ad_941 en_941 hw_941 hh => ?_)
      obtain ⟨hda_941, hue_941, hn1_941, hr_941, hI_941, g_941, eg_941, hg_941⟩ := hw_941
      dsimp only at hda_941 hue_941 hn1_941 hr_941 hI_941 eg_941
      subst hn1_941
      rw [hr_941]
      have hl : lv_has ls 3 [(0, .ref (ad_941 (108 + 2 * J))), (1, .int (nI I9)), (2, .int (nI (I9 + L9)))] := by rw [hda_941 (108 + 2 * J) (by omega)]; exact hl
      have es939_941 : en_941 (108 + 2 * J) = .inl (cy 0, 40, .inl f_939) := by rw [hue_941 (108 + 2 * J) (by omega)]; exact es939
      have b1082J_941 : en (108 + 2 * J) = .inl (cy 0, 40, .inl f_939) := by exact es939
      refine W.eq (g2 := F0 m 16 ls [.ref (ad_941 n)]) rfl ?_
      have hf_941 : ∀ c, (c < n) → en_941 c = en c := fun c hc => (hue_941 c (by omega)).trans (hf0 c hc)
      exact hv_aret (v := some (ad_941 n)) rfl hx hb hr (Or.inr ⟨_, rfl⟩) hlocks hh (⟨(fun i hi => by dsimp only; rw [hda_941 i (by omega)]), hf_941, rfl, rfl, hI_941, _, eg_941, hg_941⟩) dJ7_copyOfRange_feecc_16
theorem kw_J7_copyOfRange_feecc {R : Room} {s : State} {args : Array Value} {own : String} {idx : Nat} (hts : ∀ w ∈ TB, w.before args s = true) (hl : Cond.methodLink own idx yJ7_copyOfRange_feecc ∈ TB) (hR : 2 + 1 ≤ R.frames ∧ 8 + (3 + 11) + 40 * 2 ≤ R.locals) : CallB R s args own idx yJ7_copyOfRange_feecc cJ7_copyOfRange_feecc 3 (some (.array .int)) (Cond.code yJ7_copyOfRange_feecc cJ7_copyOfRange_feecc 3 (some (.array .int)) :: TB) (rmC 2 1 9) 1 9 3 ∧ (Cond.static yJ7_copyOfRange_feecc).before args s = true := va_cwS 3 hts (TB_S2 hl tw_327 tw_10 tw_328) rfl rfl rfl (by decide +kernel) hR
set_option maxHeartbeats 4000000 in
set_option maxRecDepth 100000 in
/-- X7_init -/
theorem c_X7_init_6 (l : Launch) (D : va_G) (cy : Nat → ClassId) (sz : Nat) (cs : List Nat) (ad : Nat → Nat) (en : Nat → va_E) (tb t d te : Nat) (htb : tb ∈ cs) (etb : en tb = .inr (6, [.int 0, .int 0, .null]))  : Met l yX7_init (Cond.code yX7_init cX7_init 4 none :: TB) (rmN 1) (va_Pc [.ref (ad tb), .int (nI t), .int (nI d), .ref (ad te)] (Pre D cy cs ad en sz)) (va_Qv (S := Nat → va_E) (fun en1 => en1 = va_up en tb (.inr (6, [.int (nI t), .int (nI d), .ref (ad te)]))) (PostM D cs ad) (Af cs ad sz)) 0 0 (Af cs ad sz) := by
  refine Met.ofW (cc := cX7_init) (maxL := 4) (ret := none) (by decide) rfl ?_
  intro p e s m args below meth c s₁ B hml hv
  obtain ⟨rfl, hsz, hP, hK, hD0⟩ := hv
  have hx := B.exec
  have hb := B.bytes
  have hr := B.returns
  have hts : ∀ w ∈ TB, w.before _ s = true := fun w h => atoms_spec (ws := _ :: TB) B.pre w (List.mem_cons_of_mem _ h)
  have hown : s.vm.findClass RX7 = some m.cls := findClass_of_methodNamed B.named
  have hlocks := B.notSynchronized
  have hh : Hp D (Af cs ad sz) (Af cs ad sz) s.heap s.heap [] cs ad en := ⟨hP, Af_self hD0, va_S.rf⟩
  have hA : ∀ q : Nat, s.heap.size ≤ q → Af cs ad sz q := fun q h => Or.inr (by rw [hsz] at h; exact h)
  have hl := lv_entry ([.ref (ad tb), .int (nI t), .int (nI d), .ref (ad te)]) (n := 4) (Nat.le_of_ble_eq_true rfl)
  rw [lg_entry_eq]
  generalize (lg_sl ([.ref (ad tb), .int (nI t), .int (nI d), .ref (ad te)]) ++ List.replicate (4 - (lg_sl ([.ref (ad tb), .int (nI t), .int (nI d), .ref (ad te)])).length) Slot.unset).toArray = ls at hl ⊢
  have hl : lv_has ls 4 [(0, .ref (ad tb)), (1, .int (nI t)), (2, .int (nI d)), (3, .ref (ad te))] := hl
  have hin : meth.name = "<init>" := (name_of_methodNamed B.named B.method).1
  refine lv_aload_n hx hb dX7_init_0 rfl (lv_at hl 0 rfl) ?_
  refine W.objInit hx hb hown (hts _ tw_375) (hts _ tw_23) (hts _ tw_24) rfl (by rw [hml]; exact hl.1) rfl dX7_init_1 (Nat.le_of_ble_eq_true rfl) (Nat.le_of_ble_eq_true rfl) ?_
  refine W.eq (g2 := F0 m 4 ls []) rfl ?_
  refine lv_aload_n hx hb dX7_init_4 rfl (lv_at hl 0 rfl) ?_
  refine lv_iload_n hx hb dX7_init_5 rfl (lv_at hl 1 rfl) ?_
  refine hp_putF hx hb hts ix7 tyX7 tyX7_ok nmX7 hown hK hh (q := tb) rfl htb etb rfl 0 (by decide) (hts _ tw_376) (fun _ h9 => h9) rfl hin rfl (ty := .int) (by decide +kernel) rfl rfl (Nat.le_of_ble_eq_true rfl) dX7_init_6 (fun H locs en_942 hen_942 hh => ?_)
  have etb_942 : en_942 tb = .inr (6, [.int (nI t), .int 0, .null]) := by rw [hen_942]; exact va_up_self _ _ _
  refine lv_aload_n hx hb dX7_init_9 rfl (lv_at hl 0 rfl) ?_
  refine lv_iload_n hx hb dX7_init_10 rfl (lv_at hl 2 rfl) ?_
  refine hp_putF hx hb hts ix7 tyX7 tyX7_ok nmX7 hown hK hh (q := tb) rfl htb etb_942 rfl 1 (by decide) (hts _ tw_377) (fun _ h9 => h9) rfl hin rfl (ty := .int) (by decide +kernel) rfl rfl (Nat.le_of_ble_eq_true rfl) dX7_init_11 (fun H locs en_943 hen_943 hh => ?_)
  have etb_943 : en_943 tb = .inr (6, [.int (nI t), .int (nI d), .null]) := by rw [hen_943]; exact va_up_self _ _ _
  refine lv_aload_n hx hb dX7_init_14 rfl (lv_at hl 0 rfl) ?_
  refine lv_aload_n hx hb dX7_init_15 rfl (lv_at hl 3 rfl) ?_
  refine hp_putF hx hb hts ix7 tyX7 tyX7_ok nmX7 hown hK hh (q := tb) rfl htb etb_943 rfl 2 (by decide) (hts _ tw_380) (fun _ h9 => h9) rfl hin rfl (ty := (.array .int)) (by decide +kernel) rfl rfl (Nat.le_of_ble_eq_true rfl) dX7_init_16 (fun H locs en_944 hen_944 hh => ?_)
  have etb_944 : en_944 tb = .inr (6, [.int (nI t), .int (nI d), .ref (ad te)]) := by rw [hen_944]; exact va_up_self _ _ _
  exact hp_vretM hx hb hr hlocks hh (by rw [hen_944, hen_943, hen_942, bx_uu, bx_uu]; try rfl) dX7_init_19
set_option maxHeartbeats 4000000 in
set_option maxRecDepth 100000 in
/-- X7_init -/
theorem c_X7_init_1 (l : Launch) (D : va_G) (cy : Nat → ClassId) (sz : Nat) (cs : List Nat) (ad : Nat → Nat) (en : Nat → va_E) (tb t d te : Nat) (htb : tb ∈ cs) (etb : en tb = .inr (1, [.int 0, .int 0, .null]))  : Met l yX7_init (Cond.code yX7_init cX7_init 4 none :: TB) (rmN 1) (va_Pc [.ref (ad tb), .int (nI t), .int (nI d), .ref (ad te)] (Pre D cy cs ad en sz)) (va_Qv (S := Nat → va_E) (fun en1 => en1 = va_up en tb (.inr (1, [.int (nI t), .int (nI d), .ref (ad te)]))) (PostM D cs ad) (Af cs ad sz)) 0 0 (Af cs ad sz) := by
  refine Met.ofW (cc := cX7_init) (maxL := 4) (ret := none) (by decide) rfl ?_
  intro p e s m args below meth c s₁ B hml hv
  obtain ⟨rfl, hsz, hP, hK, hD0⟩ := hv
  have hx := B.exec
  have hb := B.bytes
  have hr := B.returns
  have hts : ∀ w ∈ TB, w.before _ s = true := fun w h => atoms_spec (ws := _ :: TB) B.pre w (List.mem_cons_of_mem _ h)
  have hown : s.vm.findClass RX7 = some m.cls := findClass_of_methodNamed B.named
  have hlocks := B.notSynchronized
  have hh : Hp D (Af cs ad sz) (Af cs ad sz) s.heap s.heap [] cs ad en := ⟨hP, Af_self hD0, va_S.rf⟩
  have hA : ∀ q : Nat, s.heap.size ≤ q → Af cs ad sz q := fun q h => Or.inr (by rw [hsz] at h; exact h)
  have hl := lv_entry ([.ref (ad tb), .int (nI t), .int (nI d), .ref (ad te)]) (n := 4) (Nat.le_of_ble_eq_true rfl)
  rw [lg_entry_eq]
  generalize (lg_sl ([.ref (ad tb), .int (nI t), .int (nI d), .ref (ad te)]) ++ List.replicate (4 - (lg_sl ([.ref (ad tb), .int (nI t), .int (nI d), .ref (ad te)])).length) Slot.unset).toArray = ls at hl ⊢
  have hl : lv_has ls 4 [(0, .ref (ad tb)), (1, .int (nI t)), (2, .int (nI d)), (3, .ref (ad te))] := hl
  have hin : meth.name = "<init>" := (name_of_methodNamed B.named B.method).1
  refine lv_aload_n hx hb dX7_init_0 rfl (lv_at hl 0 rfl) ?_
  refine W.objInit hx hb hown (hts _ tw_375) (hts _ tw_23) (hts _ tw_24) rfl (by rw [hml]; exact hl.1) rfl dX7_init_1 (Nat.le_of_ble_eq_true rfl) (Nat.le_of_ble_eq_true rfl) ?_
  refine W.eq (g2 := F0 m 4 ls []) rfl ?_
  refine lv_aload_n hx hb dX7_init_4 rfl (lv_at hl 0 rfl) ?_
  refine lv_iload_n hx hb dX7_init_5 rfl (lv_at hl 1 rfl) ?_
  refine hp_putF hx hb hts ix1 tyX1 tyX1_ok nmX1 hown hK hh (q := tb) rfl htb etb rfl 0 (by decide) (hts _ tw_376) (fun _ h9 => h9) rfl hin rfl (ty := .int) (by decide +kernel) rfl rfl (Nat.le_of_ble_eq_true rfl) dX7_init_6 (fun H locs en_945 hen_945 hh => ?_)
  have etb_945 : en_945 tb = .inr (1, [.int (nI t), .int 0, .null]) := by rw [hen_945]; exact va_up_self _ _ _
  refine lv_aload_n hx hb dX7_init_9 rfl (lv_at hl 0 rfl) ?_
  refine lv_iload_n hx hb dX7_init_10 rfl (lv_at hl 2 rfl) ?_
  refine hp_putF hx hb hts ix1 tyX1 tyX1_ok nmX1 hown hK hh (q := tb) rfl htb etb_945 rfl 1 (by decide) (hts _ tw_377) (fun _ h9 => h9) rfl hin rfl (ty := .int) (by decide +kernel) rfl rfl (Nat.le_of_ble_eq_true rfl) dX7_init_11 (fun H locs en_946 hen_946 hh => ?_)
  have etb_946 : en_946 tb = .inr (1, [.int (nI t), .int (nI d), .null]) := by rw [hen_946]; exact va_up_self _ _ _
  refine lv_aload_n hx hb dX7_init_14 rfl (lv_at hl 0 rfl) ?_
  refine lv_aload_n hx hb dX7_init_15 rfl (lv_at hl 3 rfl) ?_
  refine hp_putF hx hb hts ix1 tyX1 tyX1_ok nmX1 hown hK hh (q := tb) rfl htb etb_946 rfl 2 (by decide) (hts _ tw_380) (fun _ h9 => h9) rfl hin rfl (ty := (.array .int)) (by decide +kernel) rfl rfl (Nat.le_of_ble_eq_true rfl) dX7_init_16 (fun H locs en_947 hen_947 hh => ?_)
  have etb_947 : en_947 tb = .inr (1, [.int (nI t), .int (nI d), .ref (ad te)]) := by rw [hen_947]; exact va_up_self _ _ _
  exact hp_vretM hx hb hr hlocks hh (by rw [hen_947, hen_946, hen_945, bx_uu, bx_uu]; try rfl) dX7_init_19
set_option maxHeartbeats 4000000 in
set_option maxRecDepth 100000 in
/-- X7_init -/
theorem c_X7_init_4 (l : Launch) (D : va_G) (cy : Nat → ClassId) (sz : Nat) (cs : List Nat) (ad : Nat → Nat) (en : Nat → va_E) (tb t d te : Nat) (htb : tb ∈ cs) (etb : en tb = .inr (4, [.int 0, .int 0, .null]))  : Met l yX7_init (Cond.code yX7_init cX7_init 4 none :: TB) (rmN 1) (va_Pc [.ref (ad tb), .int (nI t), .int (nI d), .ref (ad te)] (Pre D cy cs ad en sz)) (va_Qv (S := Nat → va_E) (fun en1 => en1 = va_up en tb (.inr (4, [.int (nI t), .int (nI d), .ref (ad te)]))) (PostM D cs ad) (Af cs ad sz)) 0 0 (Af cs ad sz) := by
  refine Met.ofW (cc := cX7_init) (maxL := 4) (ret := none) (by decide) rfl ?_
  intro p e s m args below meth c s₁ B hml hv
  obtain ⟨rfl, hsz, hP, hK, hD0⟩ := hv
  have hx := B.exec
  have hb := B.bytes
  have hr := B.returns
  have hts : ∀ w ∈ TB, w.before _ s = true := fun w h => atoms_spec (ws := _ :: TB) B.pre w (List.mem_cons_of_mem _ h)
  have hown : s.vm.findClass RX7 = some m.cls := findClass_of_methodNamed B.named
  have hlocks := B.notSynchronized
  have hh : Hp D (Af cs ad sz) (Af cs ad sz) s.heap s.heap [] cs ad en := ⟨hP, Af_self hD0, va_S.rf⟩
  have hA : ∀ q : Nat, s.heap.size ≤ q → Af cs ad sz q := fun q h => Or.inr (by rw [hsz] at h; exact h)
  have hl := lv_entry ([.ref (ad tb), .int (nI t), .int (nI d), .ref (ad te)]) (n := 4) (Nat.le_of_ble_eq_true rfl)
  rw [lg_entry_eq]
  generalize (lg_sl ([.ref (ad tb), .int (nI t), .int (nI d), .ref (ad te)]) ++ List.replicate (4 - (lg_sl ([.ref (ad tb), .int (nI t), .int (nI d), .ref (ad te)])).length) Slot.unset).toArray = ls at hl ⊢
  have hl : lv_has ls 4 [(0, .ref (ad tb)), (1, .int (nI t)), (2, .int (nI d)), (3, .ref (ad te))] := hl
  have hin : meth.name = "<init>" := (name_of_methodNamed B.named B.method).1
  refine lv_aload_n hx hb dX7_init_0 rfl (lv_at hl 0 rfl) ?_
  refine W.objInit hx hb hown (hts _ tw_375) (hts _ tw_23) (hts _ tw_24) rfl (by rw [hml]; exact hl.1) rfl dX7_init_1 (Nat.le_of_ble_eq_true rfl) (Nat.le_of_ble_eq_true rfl) ?_
  refine W.eq (g2 := F0 m 4 ls []) rfl ?_
  refine lv_aload_n hx hb dX7_init_4 rfl (lv_at hl 0 rfl) ?_
  refine lv_iload_n hx hb dX7_init_5 rfl (lv_at hl 1 rfl) ?_
  refine hp_putF hx hb hts ix4 tyX4 tyX4_ok nmX4 hown hK hh (q := tb) rfl htb etb rfl 0 (by decide) (hts _ tw_376) (fun _ h9 => h9) rfl hin rfl (ty := .int) (by decide +kernel) rfl rfl (Nat.le_of_ble_eq_true rfl) dX7_init_6 (fun H locs en_948 hen_948 hh => ?_)
  have etb_948 : en_948 tb = .inr (4, [.int (nI t), .int 0, .null]) := by rw [hen_948]; exact va_up_self _ _ _
  refine lv_aload_n hx hb dX7_init_9 rfl (lv_at hl 0 rfl) ?_
  refine lv_iload_n hx hb dX7_init_10 rfl (lv_at hl 2 rfl) ?_
  refine hp_putF hx hb hts ix4 tyX4 tyX4_ok nmX4 hown hK hh (q := tb) rfl htb etb_948 rfl 1 (by decide) (hts _ tw_377) (fun _ h9 => h9) rfl hin rfl (ty := .int) (by decide +kernel) rfl rfl (Nat.le_of_ble_eq_true rfl) dX7_init_11 (fun H locs en_949 hen_949 hh => ?_)
  have etb_949 : en_949 tb = .inr (4, [.int (nI t), .int (nI d), .null]) := by rw [hen_949]; exact va_up_self _ _ _
  refine lv_aload_n hx hb dX7_init_14 rfl (lv_at hl 0 rfl) ?_
  refine lv_aload_n hx hb dX7_init_15 rfl (lv_at hl 3 rfl) ?_
  refine hp_putF hx hb hts ix4 tyX4 tyX4_ok nmX4 hown hK hh (q := tb) rfl htb etb_949 rfl 2 (by decide) (hts _ tw_380) (fun _ h9 => h9) rfl hin rfl (ty := (.array .int)) (by decide +kernel) rfl rfl (Nat.le_of_ble_eq_true rfl) dX7_init_16 (fun H locs en_950 hen_950 hh => ?_)
  have etb_950 : en_950 tb = .inr (4, [.int (nI t), .int (nI d), .ref (ad te)]) := by rw [hen_950]; exact va_up_self _ _ _
  exact hp_vretM hx hb hr hlocks hh (by rw [hen_950, hen_949, hen_948, bx_uu, bx_uu]; try rfl) dX7_init_19
theorem kw_X7_init {R : Room} {s : State} {args : Array Value} {own : String} {idx : Nat} (hts : ∀ w ∈ TB, w.before args s = true) (hl : Cond.methodLink own idx yX7_init ∈ TB) (hR : 1 + 1 ≤ R.frames ∧ 8 + (4 + 11) + 40 * 1 ≤ R.locals) : CallB R s args own idx yX7_init cX7_init 4 none (Cond.code yX7_init cX7_init 4 none :: TB) (rmC 1 0 0) 0 0 3 ∧ yX7_init.name = "<init>" ∧ (Cond.instanceMethod yX7_init).before args s = true := cwI 3 hts (TB_W tw_374) rfl rfl rfl (hts _ tw_13) (hts _ hl) (hts _ tw_373) rfl (by decide +kernel) hR
set_option maxHeartbeats 4000000 in
set_option maxRecDepth 100000 in
/-- X1_init -/
theorem c_X1_init_1 (l : Launch) (D : va_G) (cy : Nat → ClassId) (sz : Nat) (cs : List Nat) (ad : Nat → Nat) (en : Nat → va_E) (tb t d te : Nat) (htb : tb ∈ cs) (etb : en tb = .inr (1, [.int 0, .int 0, .null]))  : Met l yX1_init (Cond.code yX1_init cX1_init 4 none :: TB) (rmN 2) (va_Pc [.ref (ad tb), .int (nI t), .int (nI d), .ref (ad te)] (Pre D cy cs ad en sz)) (va_Qv (S := Nat → va_E) (fun en1 => en1 = va_up en tb (.inr (1, [.int (nI t), .int (nI d), .ref (ad te)]))) (PostM D cs ad) (Af cs ad sz)) 0 0 (Af cs ad sz) := by
  refine Met.ofW (cc := cX1_init) (maxL := 4) (ret := none) (by decide) rfl ?_
  intro p e s m args below meth c s₁ B hml hv
  obtain ⟨rfl, hsz, hP, hK, hD0⟩ := hv
  have hx := B.exec
  have hb := B.bytes
  have hr := B.returns
  have hts : ∀ w ∈ TB, w.before _ s = true := fun w h => atoms_spec (ws := _ :: TB) B.pre w (List.mem_cons_of_mem _ h)
  have hown : s.vm.findClass RX1 = some m.cls := findClass_of_methodNamed B.named
  have hlocks := B.notSynchronized
  have hh : Hp D (Af cs ad sz) (Af cs ad sz) s.heap s.heap [] cs ad en := ⟨hP, Af_self hD0, va_S.rf⟩
  have hA : ∀ q : Nat, s.heap.size ≤ q → Af cs ad sz q := fun q h => Or.inr (by rw [hsz] at h; exact h)
  have hl := lv_entry ([.ref (ad tb), .int (nI t), .int (nI d), .ref (ad te)]) (n := 4) (Nat.le_of_ble_eq_true rfl)
  rw [lg_entry_eq]
  generalize (lg_sl ([.ref (ad tb), .int (nI t), .int (nI d), .ref (ad te)]) ++ List.replicate (4 - (lg_sl ([.ref (ad tb), .int (nI t), .int (nI d), .ref (ad te)])).length) Slot.unset).toArray = ls at hl ⊢
  have hl : lv_has ls 4 [(0, .ref (ad tb)), (1, .int (nI t)), (2, .int (nI d)), (3, .ref (ad te))] := hl
  have hin : meth.name = "<init>" := (name_of_methodNamed B.named B.method).1
  refine lv_aload_n hx hb dX1_init_0 rfl (lv_at hl 0 rfl) ?_
  refine lv_iload_n hx hb dX1_init_1 rfl (lv_at hl 1 rfl) ?_
  refine lv_iload_n hx hb dX1_init_2 rfl (lv_at hl 2 rfl) ?_
  refine lv_aload_n hx hb dX1_init_3 rfl (lv_at hl 3 rfl) ?_
  refine hp_callMv (va_runI (As := [.int (nI t), .int (nI d), .ref (ad te)]) (rest := []) ⟨hx, hb, hml, hown, hts⟩ (c_X7_init_1 l D cy _ cs ad en tb t d te htb etb) (kw_X7_init hts tw_372 ⟨by decide, by decide⟩) (preS_of hh hK) rfl rfl hl.1 rfl (lv_room (Nat.le_of_ble_eq_true rfl)) dX1_init_4 ⟨Nat.le_of_ble_eq_true rfl, Nat.le_of_ble_eq_true rfl⟩) hh hA (fun H locs en_951 hw_951 hh => ?_)
  have hen_951 := hw_951
  have etb_951 : en_951 tb = .inr (1, [.int (nI t), .int (nI d), .ref (ad te)]) := by rw [hen_951]; exact va_up_self _ _ _
  exact hp_vretM hx hb hr hlocks hh (by rw [hen_951]; try rfl) dX1_init_7
set_option maxHeartbeats 4000000 in
set_option maxRecDepth 100000 in
/-- X1_init -/
theorem c_X1_init_4 (l : Launch) (D : va_G) (cy : Nat → ClassId) (sz : Nat) (cs : List Nat) (ad : Nat → Nat) (en : Nat → va_E) (tb t d te : Nat) (htb : tb ∈ cs) (etb : en tb = .inr (4, [.int 0, .int 0, .null]))  : Met l yX1_init (Cond.code yX1_init cX1_init 4 none :: TB) (rmN 2) (va_Pc [.ref (ad tb), .int (nI t), .int (nI d), .ref (ad te)] (Pre D cy cs ad en sz)) (va_Qv (S := Nat → va_E) (fun en1 => en1 = va_up en tb (.inr (4, [.int (nI t), .int (nI d), .ref (ad te)]))) (PostM D cs ad) (Af cs ad sz)) 0 0 (Af cs ad sz) := by
  refine Met.ofW (cc := cX1_init) (maxL := 4) (ret := none) (by decide) rfl ?_
  intro p e s m args below meth c s₁ B hml hv
  obtain ⟨rfl, hsz, hP, hK, hD0⟩ := hv
  have hx := B.exec
  have hb := B.bytes
  have hr := B.returns
  have hts : ∀ w ∈ TB, w.before _ s = true := fun w h => atoms_spec (ws := _ :: TB) B.pre w (List.mem_cons_of_mem _ h)
  have hown : s.vm.findClass RX1 = some m.cls := findClass_of_methodNamed B.named
  have hlocks := B.notSynchronized
  have hh : Hp D (Af cs ad sz) (Af cs ad sz) s.heap s.heap [] cs ad en := ⟨hP, Af_self hD0, va_S.rf⟩
  have hA : ∀ q : Nat, s.heap.size ≤ q → Af cs ad sz q := fun q h => Or.inr (by rw [hsz] at h; exact h)
  have hl := lv_entry ([.ref (ad tb), .int (nI t), .int (nI d), .ref (ad te)]) (n := 4) (Nat.le_of_ble_eq_true rfl)
  rw [lg_entry_eq]
  generalize (lg_sl ([.ref (ad tb), .int (nI t), .int (nI d), .ref (ad te)]) ++ List.replicate (4 - (lg_sl ([.ref (ad tb), .int (nI t), .int (nI d), .ref (ad te)])).length) Slot.unset).toArray = ls at hl ⊢
  have hl : lv_has ls 4 [(0, .ref (ad tb)), (1, .int (nI t)), (2, .int (nI d)), (3, .ref (ad te))] := hl
  have hin : meth.name = "<init>" := (name_of_methodNamed B.named B.method).1
  refine lv_aload_n hx hb dX1_init_0 rfl (lv_at hl 0 rfl) ?_
  refine lv_iload_n hx hb dX1_init_1 rfl (lv_at hl 1 rfl) ?_
  refine lv_iload_n hx hb dX1_init_2 rfl (lv_at hl 2 rfl) ?_
  refine lv_aload_n hx hb dX1_init_3 rfl (lv_at hl 3 rfl) ?_
  refine hp_callMv (va_runI (As := [.int (nI t), .int (nI d), .ref (ad te)]) (rest := []) ⟨hx, hb, hml, hown, hts⟩ (c_X7_init_4 l D cy _ cs ad en tb t d te htb etb) (kw_X7_init hts tw_372 ⟨by decide, by decide⟩) (preS_of hh hK) rfl rfl hl.1 rfl (lv_room (Nat.le_of_ble_eq_true rfl)) dX1_init_4 ⟨Nat.le_of_ble_eq_true rfl, Nat.le_of_ble_eq_true rfl⟩) hh hA (fun H locs en_952 hw_952 hh => ?_)
  have hen_952 := hw_952
  have etb_952 : en_952 tb = .inr (4, [.int (nI t), .int (nI d), .ref (ad te)]) := by rw [hen_952]; exact va_up_self _ _ _
  exact hp_vretM hx hb hr hlocks hh (by rw [hen_952]; try rfl) dX1_init_7
theorem kw_X1_init {R : Room} {s : State} {args : Array Value} {own : String} {idx : Nat} (hts : ∀ w ∈ TB, w.before args s = true) (hl : Cond.methodLink own idx yX1_init ∈ TB) (hR : 2 + 1 ≤ R.frames ∧ 8 + (4 + 11) + 40 * 2 ≤ R.locals) : CallB R s args own idx yX1_init cX1_init 4 none (Cond.code yX1_init cX1_init 4 none :: TB) (rmC 2 0 0) 0 0 3 ∧ yX1_init.name = "<init>" ∧ (Cond.instanceMethod yX1_init).before args s = true := cwI 3 hts (TB_W tw_371) rfl rfl rfl (hts _ tw_14) (hts _ hl) (hts _ tw_370) rfl (by decide +kernel) hR
set_option maxHeartbeats 4000000 in
set_option maxRecDepth 100000 in
/-- X4_init -/
theorem c_X4_init_4 (l : Launch) (D : va_G) (cy : Nat → ClassId) (sz : Nat) (cs : List Nat) (ad : Nat → Nat) (en : Nat → va_E) (tb t d te : Nat) (htb : tb ∈ cs) (etb : en tb = .inr (4, [.int 0, .int 0, .null]))  : Met l yX4_init (Cond.code yX4_init cX4_init 4 none :: TB) (rmN 3) (va_Pc [.ref (ad tb), .int (nI t), .int (nI d), .ref (ad te)] (Pre D cy cs ad en sz)) (va_Qv (S := Nat → va_E) (fun en1 => en1 = va_up en tb (.inr (4, [.int (nI t), .int (nI d), .ref (ad te)]))) (PostM D cs ad) (Af cs ad sz)) 0 0 (Af cs ad sz) := by
  refine Met.ofW (cc := cX4_init) (maxL := 4) (ret := none) (by decide) rfl ?_
  intro p e s m args below meth c s₁ B hml hv
  obtain ⟨rfl, hsz, hP, hK, hD0⟩ := hv
  have hx := B.exec
  have hb := B.bytes
  have hr := B.returns
  have hts : ∀ w ∈ TB, w.before _ s = true := fun w h => atoms_spec (ws := _ :: TB) B.pre w (List.mem_cons_of_mem _ h)
  have hown : s.vm.findClass RX4 = some m.cls := findClass_of_methodNamed B.named
  have hlocks := B.notSynchronized
  have hh : Hp D (Af cs ad sz) (Af cs ad sz) s.heap s.heap [] cs ad en := ⟨hP, Af_self hD0, va_S.rf⟩
  have hA : ∀ q : Nat, s.heap.size ≤ q → Af cs ad sz q := fun q h => Or.inr (by rw [hsz] at h; exact h)
  have hl := lv_entry ([.ref (ad tb), .int (nI t), .int (nI d), .ref (ad te)]) (n := 4) (Nat.le_of_ble_eq_true rfl)
  rw [lg_entry_eq]
  generalize (lg_sl ([.ref (ad tb), .int (nI t), .int (nI d), .ref (ad te)]) ++ List.replicate (4 - (lg_sl ([.ref (ad tb), .int (nI t), .int (nI d), .ref (ad te)])).length) Slot.unset).toArray = ls at hl ⊢
  have hl : lv_has ls 4 [(0, .ref (ad tb)), (1, .int (nI t)), (2, .int (nI d)), (3, .ref (ad te))] := hl
  have hin : meth.name = "<init>" := (name_of_methodNamed B.named B.method).1
  refine lv_aload_n hx hb dX4_init_0 rfl (lv_at hl 0 rfl) ?_
  refine lv_iload_n hx hb dX4_init_1 rfl (lv_at hl 1 rfl) ?_
  refine lv_iload_n hx hb dX4_init_2 rfl (lv_at hl 2 rfl) ?_
  refine lv_aload_n hx hb dX4_init_3 rfl (lv_at hl 3 rfl) ?_
  refine hp_callMv (va_runI (As := [.int (nI t), .int (nI d), .ref (ad te)]) (rest := []) ⟨hx, hb, hml, hown, hts⟩ (c_X1_init_4 l D cy _ cs ad en tb t d te htb etb) (kw_X1_init hts tw_369 ⟨by decide, by decide⟩) (preS_of hh hK) rfl rfl hl.1 rfl (lv_room (Nat.le_of_ble_eq_true rfl)) dX4_init_4 ⟨Nat.le_of_ble_eq_true rfl, Nat.le_of_ble_eq_true rfl⟩) hh hA (fun H locs en_953 hw_953 hh => ?_)
  have hen_953 := hw_953
  have etb_953 : en_953 tb = .inr (4, [.int (nI t), .int (nI d), .ref (ad te)]) := by rw [hen_953]; exact va_up_self _ _ _
  exact hp_vretM hx hb hr hlocks hh (by rw [hen_953]; try rfl) dX4_init_7
theorem kw_X4_init {R : Room} {s : State} {args : Array Value} {own : String} {idx : Nat} (hts : ∀ w ∈ TB, w.before args s = true) (hl : Cond.methodLink own idx yX4_init ∈ TB) (hR : 3 + 1 ≤ R.frames ∧ 8 + (4 + 11) + 40 * 3 ≤ R.locals) : CallB R s args own idx yX4_init cX4_init 4 none (Cond.code yX4_init cX4_init 4 none :: TB) (rmC 3 0 0) 0 0 3 ∧ yX4_init.name = "<init>" ∧ (Cond.instanceMethod yX4_init).before args s = true := cwI 3 hts (TB_W tw_368) rfl rfl rfl (hts _ tw_15) (hts _ hl) (hts _ tw_367) rfl (by decide +kernel) hR
set_option maxHeartbeats 8000000 in
set_option maxRecDepth 100000 in
/-- makeTable -/
theorem c_X8_makeTable (l : Launch) (D : va_G) (cy : Nat → ClassId) (sz : Nat) (ad : Nat → Nat) (en : Nat → va_E) (n : Nat) (hn : 115 ≤ n) (hI : SX cy (List.range n) ad en) (t q : Nat) (hq115 : 115 ≤ q) (hqn : q < n) (f0 : Nat → Int32) (dq : Nat) (hdq : ∀ d, rdI (en 1) 5 = nI d → d ≤ 3 → dq = d * d) (eq : en q = .inl (cy 0, dq, .inl f0)) : Met l yX8_makeTable (Cond.code yX8_makeTable cX8_makeTable 3 (some (.object "AnyOrder$Table")) :: TB) (rmC 4 1 3) (va_Pc [.ref (ad 1), .int (nI t), .ref (ad q)] (PreC D cy n ad en sz)) (va_Qq (S := Nat × (Nat → Nat) × (Nat → va_E)) (fun r u => (∀ i, i < n → u.2.1 i = ad i) ∧ (∀ c, (c < n) → u.2.2 c = en c) ∧ u.1 = n + 1 ∧ r = some (u.2.1 n) ∧ SX cy (List.range (n + 1)) u.2.1 u.2.2 ∧ ∃ ci : Nat, (ci = 6 ∨ ci = 1 ∨ ci = 4) ∧ u.2.2 n = .inr (ci, [.int (nI t), .int (rdI (en 1) 5), .ref (u.2.1 q)]) ∧ kdP ci f0 (rdI (en 1) 5).toNatClampNeg) (PostV D (Af (List.range n) ad sz)) (Af (List.range n) ad sz)) 1 3 (Af (List.range n) ad sz) := by
  refine Met.ofW (cc := cX8_makeTable) (maxL := 3) (ret := (some (.object "AnyOrder$Table"))) (by decide) rfl ?_
  intro p e s m args below meth c s₁ B hml hv
  obtain ⟨rfl, ⟨hsz, hP, hK, hD0⟩, hX⟩ := hv
  have hx := B.exec
  have hb := B.bytes
  have hr := B.returns
  have hts : ∀ w ∈ TB, w.before _ s = true := fun w h => atoms_spec (ws := _ :: TB) B.pre w (List.mem_cons_of_mem _ h)
  have hown : s.vm.findClass RX8 = some m.cls := findClass_of_methodNamed B.named
  have hlocks := B.notSynchronized
  have hh : Hp D (Af (List.range n) ad sz) (Af (List.range n) ad sz) s.heap s.heap [] (List.range n) ad en := ⟨hP, Af_self hD0, va_S.rf⟩
  have hA : ∀ q : Nat, s.heap.size ≤ q → (Af (List.range n) ad sz) q := fun q h => Or.inr (by rw [hsz] at h; exact h)
  generalize (Af (List.range n) ad sz) = A at hh hA ⊢
  have hl := lv_entry ([.ref (ad 1), .int (nI t), .ref (ad q)]) (n := 3) (Nat.le_of_ble_eq_true rfl)
  rw [lg_entry_eq]
  generalize (lg_sl ([.ref (ad 1), .int (nI t), .ref (ad q)]) ++ List.replicate (3 - (lg_sl ([.ref (ad 1), .int (nI t), .ref (ad q)])).length) Slot.unset).toArray = ls at hl ⊢
  have hl : lv_has ls 3 [(0, .ref (ad 1)), (1, .int (nI t)), (2, .ref (ad q))] := hl
  have hf0 : ∀ c, (c < n) → en c = en c := fun _ _ => rfl
  obtain ⟨cnt, d, mm, es954, hcnt, hd2, hd3, hmm⟩ := get_T hI
  have hdd : d * d ≤ 9 := Nat.mul_le_mul hd3 hd3
  have hdq9 := hdq d (by rw [es954]; rfl) hd3
  rw [hdq9] at eq
  refine lv_aload_n hx hb dX8_makeTable_0 rfl (lv_at hl 0 rfl) ?_
  refine lv_aload_n hx hb dX8_makeTable_1 rfl (lv_at hl 2 rfl) ?_
  refine hp_callRi (va_runV (As := [.ref (ad q)]) (rest := []) ⟨hx, hb, hml, hown, hts⟩ (c_X8_isShuffle l D cy _ (List.range n) ad en (List.mem_range.mpr (by omega)) cnt d mm hcnt hd2 hd3 hmm hdd q (List.mem_range.mpr (by omega)) f0 es954 eq) (kw_X8_isShuffle hts tw_356 ⟨by decide, by decide⟩) (preV_of hh hK (List.mem_range.mpr (by omega)) es954 rfl) rfl rfl hl.1 rfl (lv_room (Nat.le_of_ble_eq_true rfl)) dX8_makeTable_2 ⟨Nat.le_of_ble_eq_true rfl, Nat.le_of_ble_eq_true rfl⟩) hh hA (fun r_955 H locs hw_955 hh => ?_)
  rcases hw_955 with ⟨hb_955, ht_955⟩ | ⟨hb_955, ht_955⟩
  · obtain rfl : r_955 = 1 := hb_955
    refine lv_if_eq (tgt := 22) hx hb dX8_makeTable_5 (by decide) (fun c_0 => absurd c_0 (by decide)) (fun _ => ?_)
    refine hq_new (ci := 4) (fs := [.int 0, .int 0, .null]) hx hb hts ix4 tyX4 tyX4_ok hown (hts _ tw_364) (hts _ tw_365) (hts _ tw_15) hK hh hA rfl (fun j hj => by rcases (show j = 0 ∨ j = 1 ∨ j = 2 by omega) with rfl | rfl | rfl <;> rfl) (Nat.le_of_ble_eq_true rfl) (Nat.le_of_ble_eq_true rfl) dX8_makeTable_8 (fun q_956 H ad_956 en_956 had_956 hen_956 hh => ?_)
    have hda_956 : ∀ i, i < n → ad_956 i = ad i := fun i hi => by rw [had_956, va_up_ne _ _ (by omega)]
    have hue_956 : ∀ i, i < n → en_956 i = en i := fun i hi => by rw [hen_956, va_up_ne _ _ (by omega)]
    have hh : Hp D A A s.heap H _ (List.range (n + 1)) ad_956 en_956 := hh
    have hl : lv_has ls 3 [(0, .ref (ad_956 1)), (1, .int (nI t)), (2, .ref (ad_956 q))] := by rw [hda_956 1 (by omega), hda_956 q (by omega)]; exact hl
    have eq_956 : en_956 q = .inl (cy 0, (d * d), .inl f0) := by rw [hue_956 q (by omega)]; exact eq
    have es954_956 : en_956 1 = .inr (7, [.ref (ad_956 2), .ref (ad_956 3), .ref (ad_956 10), .ref (ad_956 11), .int (nI cnt), .int (nI d), .int (nI mm)]) := by rw [hue_956 1 (by omega), hda_956 2 (by omega), hda_956 3 (by omega), hda_956 10 (by omega), hda_956 11 (by omega)]; exact es954
    have b1_956 : en 1 = .inr (7, [.ref (ad_956 2), .ref (ad_956 3), .ref (ad_956 10), .ref (ad_956 11), .int (nI cnt), .int (nI d), .int (nI mm)]) := by rw [hda_956 2 (by omega), hda_956 3 (by omega), hda_956 10 (by omega), hda_956 11 (by omega)]; exact es954
    have hI_956 : SX cy (List.range (n + 1)) ad_956 en_956 := SX_grow hI (fun c h => List.mem_range.mpr (by omega)) (fun i h => hda_956 i (by omega)) (fun i h => hue_956 i (by omega))
    have hf_956 : ∀ c, (c < n) → en_956 c = en c := fun c hc => (hue_956 c (by omega)).trans (hf0 c hc)
    have en1_956 : en_956 n = .inr (4, [.int 0, .int 0, .null]) := by rw [hen_956]; exact va_up_self _ _ _
    refine W.eq (g2 := F0 m 11 ls [.ref (ad_956 n)]) (by rw [show ad_956 n = q_956 from by rw [had_956]; exact va_up_self _ _ _]) ?_
    refine W.widen (k := 1) (n := 3) (by omega) (by omega) ?_
    refine lv_dup hx hb dX8_makeTable_11 rfl ?_
    refine lv_iload_n hx hb dX8_makeTable_12 rfl (lv_at hl 1 rfl) ?_
    refine lv_aload_n hx hb dX8_makeTable_13 rfl (lv_at hl 0 rfl) ?_
    refine hp_get hx hb hts ix8 hown hK hh (q := 1) rfl (List.mem_range.mpr (by omega)) es954_956 rfl 5 (by decide) (hts _ tw_44) (fun _ h9 => h9) rfl dX8_makeTable_14 ?_
    refine lv_aload_n hx hb dX8_makeTable_17 rfl (lv_at hl 2 rfl) ?_
    refine hp_callMv (va_runI (As := [.int (nI t), .int (nI d), .ref (ad_956 q)]) (rest := [.ref (ad_956 n)]) ⟨hx, hb, hml, hown, hts⟩ (c_X4_init_4 l D cy _ (List.range (n + 1)) ad_956 en_956 n t d q (List.mem_range.mpr (by omega)) en1_956) (kw_X4_init hts tw_366 ⟨by decide, by decide⟩) (preS_of hh hK) rfl rfl hl.1 rfl (lv_room (Nat.le_of_ble_eq_true rfl)) dX8_makeTable_18 ⟨Nat.le_of_ble_eq_true rfl, Nat.le_of_ble_eq_true rfl⟩) hh hA (fun H locs en_957 hw_957 hh => ?_)
    have hen_957 := hw_957
    have eq_957 : en_957 q = .inl (cy 0, (d * d), .inl f0) := by rw [hen_957, va_up_ne _ _ (by omega)]; exact eq_956
    have es954_957 : en_957 1 = .inr (7, [.ref (ad_956 2), .ref (ad_956 3), .ref (ad_956 10), .ref (ad_956 11), .int (nI cnt), .int (nI d), .int (nI mm)]) := by rw [hen_957, va_up_ne _ _ (by omega)]; exact es954_956
    have en1_957 : en_957 n = .inr (4, [.int (nI t), .int (nI d), .ref (ad_956 q)]) := by rw [hen_957]; exact va_up_self _ _ _
    have hI_957 : SX cy (List.range (n + 1)) ad_956 en_957 := SX_pt hI_956 (fun c => c = n) (fun c hc => by rw [hen_957, va_up_ne _ _ hc]) (fun c hc h9 => absurd h9 (by omega))
    have hf_957 : ∀ c, (c < n) → en_957 c = en c := fun c hc => Eq.trans (show en_957 c = en_956 c from by rw [hen_957, va_up_ne _ _ (by omega)]) (hf_956 c hc)
    exact hv_aret (v := some (ad_956 n)) rfl hx hb hr (Or.inl ⟨_, rfl⟩) hlocks hh (⟨(fun i hi => by dsimp only; rw [hda_956 i (by omega)]), hf_957, rfl, rfl, hI_957, 4, Or.inr (Or.inr rfl), by dsimp only; rw [show rdI (en 1) 5 = nI d from by rw [es954]; rfl]; exact en1_957, by rw [show rdI (en 1) 5 = nI d from by rw [es954]; rfl, nI_clamp (by omega)]; exact Or.inl ⟨rfl, ht_955⟩⟩) dX8_makeTable_21
  · obtain rfl : r_955 = 0 := hb_955
    refine lv_if_eq (tgt := 22) hx hb dX8_makeTable_5 (by decide) (fun _ => ?_) (fun c_0 => absurd c_0 (by decide))
    refine lv_aload_n hx hb dX8_makeTable_22 rfl (lv_at hl 0 rfl) ?_
    refine lv_aload_n hx hb dX8_makeTable_23 rfl (lv_at hl 2 rfl) ?_
    refine hp_callRi (va_runV (As := [.ref (ad q)]) (rest := []) ⟨hx, hb, hml, hown, hts⟩ (c_X8_isEven l D cy _ (List.range n) ad en (List.mem_range.mpr (by omega)) cnt d mm hcnt hd2 hd3 hmm hdd q (List.mem_range.mpr (by omega)) f0 es954 eq) (kw_X8_isEven hts tw_360 ⟨by decide, by decide⟩) (preV_of hh hK (List.mem_range.mpr (by omega)) es954 rfl) rfl rfl hl.1 rfl (lv_room (Nat.le_of_ble_eq_true rfl)) dX8_makeTable_24 ⟨Nat.le_of_ble_eq_true rfl, Nat.le_of_ble_eq_true rfl⟩) hh hA (fun r_958 H locs hw_958 hh => ?_)
    rcases hw_958 with ⟨hb_958, ht_958⟩ | ⟨hb_958, ht_958⟩
    · obtain rfl : r_958 = 1 := hb_958
      refine lv_if_eq (tgt := 46) hx hb dX8_makeTable_27 (by decide) (fun c_0 => absurd c_0 (by decide)) (fun _ => ?_)
      refine hq_new (ci := 1) (fs := [.int 0, .int 0, .null]) hx hb hts ix1 tyX1 tyX1_ok hown (hts _ tw_391) (hts _ tw_392) (hts _ tw_14) hK hh hA rfl (fun j hj => by rcases (show j = 0 ∨ j = 1 ∨ j = 2 by omega) with rfl | rfl | rfl <;> rfl) (Nat.le_of_ble_eq_true rfl) (Nat.le_of_ble_eq_true rfl) dX8_makeTable_30 (fun q_959 H ad_959 en_959 had_959 hen_959 hh => ?_)
      have hda_959 : ∀ i, i < n → ad_959 i = ad i := fun i hi => by rw [had_959, va_up_ne _ _ (by omega)]
      have hue_959 : ∀ i, i < n → en_959 i = en i := fun i hi => by rw [hen_959, va_up_ne _ _ (by omega)]
      have hh : Hp D A A s.heap H _ (List.range (n + 1)) ad_959 en_959 := hh
      have hl : lv_has ls 3 [(0, .ref (ad_959 1)), (1, .int (nI t)), (2, .ref (ad_959 q))] := by rw [hda_959 1 (by omega), hda_959 q (by omega)]; exact hl
      have eq_959 : en_959 q = .inl (cy 0, (d * d), .inl f0) := by rw [hue_959 q (by omega)]; exact eq
      have es954_959 : en_959 1 = .inr (7, [.ref (ad_959 2), .ref (ad_959 3), .ref (ad_959 10), .ref (ad_959 11), .int (nI cnt), .int (nI d), .int (nI mm)]) := by rw [hue_959 1 (by omega), hda_959 2 (by omega), hda_959 3 (by omega), hda_959 10 (by omega), hda_959 11 (by omega)]; exact es954
      have b1_959 : en 1 = .inr (7, [.ref (ad_959 2), .ref (ad_959 3), .ref (ad_959 10), .ref (ad_959 11), .int (nI cnt), .int (nI d), .int (nI mm)]) := by rw [hda_959 2 (by omega), hda_959 3 (by omega), hda_959 10 (by omega), hda_959 11 (by omega)]; exact es954
      have hI_959 : SX cy (List.range (n + 1)) ad_959 en_959 := SX_grow hI (fun c h => List.mem_range.mpr (by omega)) (fun i h => hda_959 i (by omega)) (fun i h => hue_959 i (by omega))
      have hf_959 : ∀ c, (c < n) → en_959 c = en c := fun c hc => (hue_959 c (by omega)).trans (hf0 c hc)
      have en1_959 : en_959 n = .inr (1, [.int 0, .int 0, .null]) := by rw [hen_959]; exact va_up_self _ _ _
      refine W.eq (g2 := F0 m 33 ls [.ref (ad_959 n)]) (by rw [show ad_959 n = q_959 from by rw [had_959]; exact va_up_self _ _ _]) ?_
      refine W.widen (k := 1) (n := 3) (by omega) (by omega) ?_
      refine lv_dup hx hb dX8_makeTable_33 rfl ?_
      refine lv_iload_n hx hb dX8_makeTable_34 rfl (lv_at hl 1 rfl) ?_
      refine lv_aload_n hx hb dX8_makeTable_35 rfl (lv_at hl 0 rfl) ?_
      refine hp_get hx hb hts ix8 hown hK hh (q := 1) rfl (List.mem_range.mpr (by omega)) es954_959 rfl 5 (by decide) (hts _ tw_44) (fun _ h9 => h9) rfl dX8_makeTable_36 ?_
      refine lv_aload_n hx hb dX8_makeTable_39 rfl (lv_at hl 2 rfl) ?_
      refine hp_callMv (va_runI (As := [.int (nI t), .int (nI d), .ref (ad_959 q)]) (rest := [.ref (ad_959 n)]) ⟨hx, hb, hml, hown, hts⟩ (c_X1_init_1 l D cy _ (List.range (n + 1)) ad_959 en_959 n t d q (List.mem_range.mpr (by omega)) en1_959) (kw_X1_init hts tw_393 ⟨by decide, by decide⟩) (preS_of hh hK) rfl rfl hl.1 rfl (lv_room (Nat.le_of_ble_eq_true rfl)) dX8_makeTable_40 ⟨Nat.le_of_ble_eq_true rfl, Nat.le_of_ble_eq_true rfl⟩) hh hA (fun H locs en_960 hw_960 hh => ?_)
      have hen_960 := hw_960
      have eq_960 : en_960 q = .inl (cy 0, (d * d), .inl f0) := by rw [hen_960, va_up_ne _ _ (by omega)]; exact eq_959
      have es954_960 : en_960 1 = .inr (7, [.ref (ad_959 2), .ref (ad_959 3), .ref (ad_959 10), .ref (ad_959 11), .int (nI cnt), .int (nI d), .int (nI mm)]) := by rw [hen_960, va_up_ne _ _ (by omega)]; exact es954_959
      have en1_960 : en_960 n = .inr (1, [.int (nI t), .int (nI d), .ref (ad_959 q)]) := by rw [hen_960]; exact va_up_self _ _ _
      have hI_960 : SX cy (List.range (n + 1)) ad_959 en_960 := SX_pt hI_959 (fun c => c = n) (fun c hc => by rw [hen_960, va_up_ne _ _ hc]) (fun c hc h9 => absurd h9 (by omega))
      have hf_960 : ∀ c, (c < n) → en_960 c = en c := fun c hc => Eq.trans (show en_960 c = en_959 c from by rw [hen_960, va_up_ne _ _ (by omega)]) (hf_959 c hc)
      refine lv_goto (tgt := 59) hx hb dX8_makeTable_43 (by decide) ?_
      exact hv_aret (v := some (ad_959 n)) rfl hx hb hr (Or.inl ⟨_, rfl⟩) hlocks hh (⟨(fun i hi => by dsimp only; rw [hda_959 i (by omega)]), hf_960, rfl, rfl, hI_960, 1, Or.inr (Or.inl rfl), by dsimp only; rw [show rdI (en 1) 5 = nI d from by rw [es954]; rfl]; exact en1_960, by rw [show rdI (en 1) 5 = nI d from by rw [es954]; rfl, nI_clamp (by omega)]; exact Or.inr (Or.inl ⟨rfl, ht_955, ht_958⟩)⟩) dX8_makeTable_59
    · obtain rfl : r_958 = 0 := hb_958
      refine lv_if_eq (tgt := 46) hx hb dX8_makeTable_27 (by decide) (fun _ => ?_) (fun c_0 => absurd c_0 (by decide))
      refine hq_new (ci := 6) (fs := [.int 0, .int 0, .null]) hx hb hts ix7 tyX7 tyX7_ok hown (hts _ tw_31) (hts _ tw_398) (hts _ tw_13) hK hh hA rfl (fun j hj => by rcases (show j = 0 ∨ j = 1 ∨ j = 2 by omega) with rfl | rfl | rfl <;> rfl) (Nat.le_of_ble_eq_true rfl) (Nat.le_of_ble_eq_true rfl) dX8_makeTable_46 (fun q_961 H ad_961 en_961 had_961 hen_961 hh => ?_)
      have hda_961 : ∀ i, i < n → ad_961 i = ad i := fun i hi => by rw [had_961, va_up_ne _ _ (by omega)]
      have hue_961 : ∀ i, i < n → en_961 i = en i := fun i hi => by rw [hen_961, va_up_ne _ _ (by omega)]
      have hh : Hp D A A s.heap H _ (List.range (n + 1)) ad_961 en_961 := hh
      have hl : lv_has ls 3 [(0, .ref (ad_961 1)), (1, .int (nI t)), (2, .ref (ad_961 q))] := by rw [hda_961 1 (by omega), hda_961 q (by omega)]; exact hl
      have eq_961 : en_961 q = .inl (cy 0, (d * d), .inl f0) := by rw [hue_961 q (by omega)]; exact eq
      have es954_961 : en_961 1 = .inr (7, [.ref (ad_961 2), .ref (ad_961 3), .ref (ad_961 10), .ref (ad_961 11), .int (nI cnt), .int (nI d), .int (nI mm)]) := by rw [hue_961 1 (by omega), hda_961 2 (by omega), hda_961 3 (by omega), hda_961 10 (by omega), hda_961 11 (by omega)]; exact es954
      have b1_961 : en 1 = .inr (7, [.ref (ad_961 2), .ref (ad_961 3), .ref (ad_961 10), .ref (ad_961 11), .int (nI cnt), .int (nI d), .int (nI mm)]) := by rw [hda_961 2 (by omega), hda_961 3 (by omega), hda_961 10 (by omega), hda_961 11 (by omega)]; exact es954
      have hI_961 : SX cy (List.range (n + 1)) ad_961 en_961 := SX_grow hI (fun c h => List.mem_range.mpr (by omega)) (fun i h => hda_961 i (by omega)) (fun i h => hue_961 i (by omega))
      have hf_961 : ∀ c, (c < n) → en_961 c = en c := fun c hc => (hue_961 c (by omega)).trans (hf0 c hc)
      have en1_961 : en_961 n = .inr (6, [.int 0, .int 0, .null]) := by rw [hen_961]; exact va_up_self _ _ _
      refine W.eq (g2 := F0 m 49 ls [.ref (ad_961 n)]) (by rw [show ad_961 n = q_961 from by rw [had_961]; exact va_up_self _ _ _]) ?_
      refine W.widen (k := 1) (n := 3) (by omega) (by omega) ?_
      refine lv_dup hx hb dX8_makeTable_49 rfl ?_
      refine lv_iload_n hx hb dX8_makeTable_50 rfl (lv_at hl 1 rfl) ?_
      refine lv_aload_n hx hb dX8_makeTable_51 rfl (lv_at hl 0 rfl) ?_
      refine hp_get hx hb hts ix8 hown hK hh (q := 1) rfl (List.mem_range.mpr (by omega)) es954_961 rfl 5 (by decide) (hts _ tw_44) (fun _ h9 => h9) rfl dX8_makeTable_52 ?_
      refine lv_aload_n hx hb dX8_makeTable_55 rfl (lv_at hl 2 rfl) ?_
      refine hp_callMv (va_runI (As := [.int (nI t), .int (nI d), .ref (ad_961 q)]) (rest := [.ref (ad_961 n)]) ⟨hx, hb, hml, hown, hts⟩ (c_X7_init_6 l D cy _ (List.range (n + 1)) ad_961 en_961 n t d q (List.mem_range.mpr (by omega)) en1_961) (kw_X7_init hts tw_399 ⟨by decide, by decide⟩) (preS_of hh hK) rfl rfl hl.1 rfl (lv_room (Nat.le_of_ble_eq_true rfl)) dX8_makeTable_56 ⟨Nat.le_of_ble_eq_true rfl, Nat.le_of_ble_eq_true rfl⟩) hh hA (fun H locs en_962 hw_962 hh => ?_)
      have hen_962 := hw_962
      have eq_962 : en_962 q = .inl (cy 0, (d * d), .inl f0) := by rw [hen_962, va_up_ne _ _ (by omega)]; exact eq_961
      have es954_962 : en_962 1 = .inr (7, [.ref (ad_961 2), .ref (ad_961 3), .ref (ad_961 10), .ref (ad_961 11), .int (nI cnt), .int (nI d), .int (nI mm)]) := by rw [hen_962, va_up_ne _ _ (by omega)]; exact es954_961
      have en1_962 : en_962 n = .inr (6, [.int (nI t), .int (nI d), .ref (ad_961 q)]) := by rw [hen_962]; exact va_up_self _ _ _
      have hI_962 : SX cy (List.range (n + 1)) ad_961 en_962 := SX_pt hI_961 (fun c => c = n) (fun c hc => by rw [hen_962, va_up_ne _ _ hc]) (fun c hc h9 => absurd h9 (by omega))
      have hf_962 : ∀ c, (c < n) → en_962 c = en c := fun c hc => Eq.trans (show en_962 c = en_961 c from by rw [hen_962, va_up_ne _ _ (by omega)]) (hf_961 c hc)
      exact hv_aret (v := some (ad_961 n)) rfl hx hb hr (Or.inl ⟨_, rfl⟩) hlocks hh (⟨(fun i hi => by dsimp only; rw [hda_961 i (by omega)]), hf_962, rfl, rfl, hI_962, 6, Or.inl rfl, by dsimp only; rw [show rdI (en 1) 5 = nI d from by rw [es954]; rfl]; exact en1_962, by rw [show rdI (en 1) 5 = nI d from by rw [es954]; rfl, nI_clamp (by omega)]; exact Or.inr (Or.inr ⟨rfl, ht_958⟩)⟩) dX8_makeTable_59
theorem kw_X8_makeTable {R : Room} {s : State} {args : Array Value} {own : String} {idx : Nat} (hts : ∀ w ∈ TB, w.before args s = true) (hl : Cond.methodLink own idx yX8_makeTable ∈ TB) (hR : 4 + 1 ≤ R.frames ∧ 8 + (3 + 11) + 40 * 4 ≤ R.locals) : CallW R s args own RX8 idx yX8_makeTable cX8_makeTable 3 (some (.object "AnyOrder$Table")) (Cond.code yX8_makeTable cX8_makeTable 3 (some (.object "AnyOrder$Table")) :: TB) (rmC 4 1 3) 1 3 2 := cwV 2 hts (TB_V hl tw_354 ts_4 tw_2 tw_355) rfl rfl rfl (by decide +kernel) hR
set_option maxHeartbeats 8000000 in
set_option maxRecDepth 100000 in
/-- add -/
theorem c_X8_add (l : Launch) (D : va_G) (cy : Nat → ClassId) (sz : Nat) (ad : Nat → Nat) (en : Nat → va_E) (n : Nat) (hn : 115 ≤ n) (hI : SX cy (List.range n) ad en) (J I9 : Nat) (hJ : J < 4) (hcnt6 : (rdI (en 1) 4).toInt < 6) (hIL : ∀ d, rdI (en 1) 5 = nI d → d ≤ 3 → I9 + d * d ≤ 40)  : Met l yX8_add (Cond.code yX8_add cX8_add 6 (some .int) :: TB) (rmC 5 2 12) (va_Pc [.ref (ad 1), .ref (ad (108 + 2 * J)), .int (nI I9)] (PreC D cy n ad en sz)) (va_Qi (S := Nat × (Nat → Nat) × (Nat → va_E)) (fun r u => u.1 = n + 2 ∧ ADP cy J I9 n ad en r u.2.1 u.2.2) (PostV D (Af (List.range n) ad sz)) (Af (List.range n) ad sz)) 2 12 (Af (List.range n) ad sz) := by
  refine Met.ofW (cc := cX8_add) (maxL := 6) (ret := (some .int)) (by decide) rfl ?_
  intro p e s m args below meth c s₁ B hml hv
  obtain ⟨rfl, ⟨hsz, hP, hK, hD0⟩, hX⟩ := hv
  have hx := B.exec
  have hb := B.bytes
  have hr := B.returns
  have hts : ∀ w ∈ TB, w.before _ s = true := fun w h => atoms_spec (ws := _ :: TB) B.pre w (List.mem_cons_of_mem _ h)
  have hown : s.vm.findClass RX8 = some m.cls := findClass_of_methodNamed B.named
  have hlocks := B.notSynchronized
  have hh : Hp D (Af (List.range n) ad sz) (Af (List.range n) ad sz) s.heap s.heap [] (List.range n) ad en := ⟨hP, Af_self hD0, va_S.rf⟩
  have hA : ∀ q : Nat, s.heap.size ≤ q → (Af (List.range n) ad sz) q := fun q h => Or.inr (by rw [hsz] at h; exact h)
  generalize (Af (List.range n) ad sz) = A at hh hA ⊢
  have hl := lv_entry ([.ref (ad 1), .ref (ad (108 + 2 * J)), .int (nI I9)]) (n := 6) (Nat.le_of_ble_eq_true rfl)
  rw [lg_entry_eq]
  generalize (lg_sl ([.ref (ad 1), .ref (ad (108 + 2 * J)), .int (nI I9)]) ++ List.replicate (6 - (lg_sl ([.ref (ad 1), .ref (ad (108 + 2 * J)), .int (nI I9)])).length) Slot.unset).toArray = ls at hl ⊢
  have hl : lv_has ls 6 [(0, .ref (ad 1)), (1, .ref (ad (108 + 2 * J))), (2, .int (nI I9))] := hl
  have hf0 : ∀ c, (c < n ∧ c ≠ 1 ∧ c ≠ 2 ∧ (c < 4 ∨ 10 ≤ c)) → en c = en c := fun _ _ => rfl
  obtain ⟨cnt, d, mm, es963, hcnt, hd2, hd3, hmm⟩ := get_T hI
  have hdd : d * d ≤ 9 := Nat.mul_le_mul hd3 hd3
  have hdd4 : 4 ≤ d * d := Nat.mul_le_mul hd2 hd2
  have hc6 : cnt < 6 := by rw [show rdI (en 1) 4 = nI cnt from by rw [es963]; rfl, nI_toInt (by omega)] at hcnt6; omega
  have hIL9 : I9 + d * d ≤ 40 := hIL d (by rw [es963]; rfl) hd3
  obtain ⟨f_964, es964⟩ := get_all hI
  refine lv_aload_n hx hb dX8_add_0 rfl (lv_at hl 0 rfl) ?_
  refine hp_get hx hb hts ix8 hown hK hh (q := 1) rfl (List.mem_range.mpr (by omega)) es963 rfl 4 (by decide) (hts _ tw_43) (fun _ h9 => h9) rfl dX8_add_1 ?_
  refine lv_istore_n (lv' := [(3, .int (nI cnt)), (0, .ref (ad 1)), (1, .ref (ad (108 + 2 * J))), (2, .int (nI I9))]) hx hb dX8_add_4 rfl hl (by decide) rfl (fun ls hl => ?_)
  refine lv_aload_n hx hb dX8_add_5 rfl (lv_at hl 2 rfl) ?_
  refine lv_iload_n hx hb dX8_add_6 rfl (lv_at hl 3 rfl) ?_
  refine lv_iload_n hx hb dX8_add_7 rfl (lv_at hl 3 rfl) ?_
  refine lv_aload_n hx hb dX8_add_8 rfl (lv_at hl 1 rfl) ?_
  refine hp_get hx hb hts ix8 hown hK hh (q := 1) rfl (List.mem_range.mpr (by omega)) es963 rfl 5 (by decide) (hts _ tw_44) (fun _ h9 => h9) rfl dX8_add_9 ?_
  refine lv_aload_n hx hb dX8_add_12 rfl (lv_at hl 1 rfl) ?_
  refine hp_get hx hb hts ix8 hown hK hh (q := 1) rfl (List.mem_range.mpr (by omega)) es963 rfl 5 (by decide) (hts _ tw_44) (fun _ h9 => h9) rfl dX8_add_13 ?_
  refine lv_imul hx hb dX8_add_16 ?_
  rw [pk_mul d d]
  refine lv_iadd hx hb dX8_add_17 ?_
  rw [nI_add I9 (d * d)]
  obtain ⟨f_965, es965⟩ := get_shc hI (j := J) (by omega)
  refine hv_callq (va_runS (As := [.ref (ad (108 + 2 * J)), .int (nI I9), .int (nI (I9 + (d * d)))]) (rest := []) ⟨hx, hb, hml, hown, hts⟩ (c_J7_copyOfRange_feecc l D cy _ ad en n (by omega) hI J I9 (d * d) (by omega) (by omega) (by omega) (by omega)) (kw_J7_copyOfRange_feecc hts tw_326 ⟨by decide, by decide⟩) (preC_of hh hK hX) rfl rfl hl.1 rfl (lv_room (Nat.le_of_ble_eq_true rfl)) dX8_add_18 ⟨Nat.le_of_ble_eq_true rfl, Nat.le_of_ble_eq_true rfl⟩) hh hA (fun r_966 H locs n_966 ad_966 en_966 hw_966 hh => ?_)
  obtain ⟨hda_966, hue_966, hn1_966, hr_966, hI_966, g_966, eg_966, hg_966⟩ := hw_966
  dsimp only at hda_966 hue_966 hn1_966 hr_966 hI_966 eg_966
  subst hn1_966
  rw [hr_966]
  have hl : lv_has ls 6 [(3, .int (nI cnt)), (0, .ref (ad_966 1)), (1, .ref (ad_966 (108 + 2 * J))), (2, .int (nI I9))] := by rw [hda_966 1 (by omega), hda_966 (108 + 2 * J) (by omega)]; exact hl
  have es963_966 : en_966 1 = .inr (7, [.ref (ad_966 2), .ref (ad_966 3), .ref (ad_966 10), .ref (ad_966 11), .int (nI cnt), .int (nI d), .int (nI mm)]) := by rw [hue_966 1 (by omega), hda_966 2 (by omega), hda_966 3 (by omega), hda_966 10 (by omega), hda_966 11 (by omega)]; exact es963
  have es964_966 : en_966 2 = .inl (cy 3, 6, .inr (.inr (.inr (.inr f_964)))) := by rw [hue_966 2 (by omega)]; exact es964
  have es965_966 : en_966 (108 + 2 * J) = .inl (cy 0, 40, .inl f_965) := by rw [hue_966 (108 + 2 * J) (by omega)]; exact es965
  have b1_966 : en 1 = .inr (7, [.ref (ad_966 2), .ref (ad_966 3), .ref (ad_966 10), .ref (ad_966 11), .int (nI cnt), .int (nI d), .int (nI mm)]) := by rw [hda_966 2 (by omega), hda_966 3 (by omega), hda_966 10 (by omega), hda_966 11 (by omega)]; exact es963
  have b2_966 : en 2 = .inl (cy 3, 6, .inr (.inr (.inr (.inr f_964)))) := by exact es964
  have b1082J_966 : en (108 + 2 * J) = .inl (cy 0, 40, .inl f_965) := by exact es965
  refine W.eq (g2 := F0 m 21 ls [.ref (ad_966 n)]) rfl ?_
  have hf_966 : ∀ c, (c < n ∧ c ≠ 1 ∧ c ≠ 2 ∧ (c < 4 ∨ 10 ≤ c)) → en_966 c = en c := fun c hc => (hue_966 c (by omega)).trans (hf0 c hc)
  refine lv_astore (lv' := [(4, .ref (ad_966 n)), (3, .int (nI cnt)), (0, .ref (ad_966 1)), (1, .ref (ad_966 (108 + 2 * J))), (2, .int (nI I9))]) hx hb dX8_add_21 hl (by decide) rfl (fun ls hl => ?_)
  refine lv_iconst (v := 0) hx hb dX8_add_23 (by decide) ?_
  refine lv_istore (lv' := [(5, .int 0), (4, .ref (ad_966 n)), (3, .int (nI cnt)), (0, .ref (ad_966 1)), (1, .ref (ad_966 (108 + 2 * J))), (2, .int (nI I9))]) hx hb dX8_add_24 hl (by decide) rfl (fun ls hl => ?_)
  have loop_967 : ∀ (fu j967 : Nat)  (en_967 : Nat → va_E) (ls : Array Slot) (H : Heap) (locs : List Loc), 0 ≤ j967 → j967 ≤ (d * d) → (d * d) < j967 + fu → SX cy (List.range (n + 1)) ad_966 en_967 → (∀ c, (c < n ∧ c ≠ 1 ∧ c ≠ 2 ∧ (c < 4 ∨ 10 ≤ c)) → en_967 c = en c) → (∀ x, x < j967 → rdL (en_967 (4 + cnt)) x = restL mm (g_966 x).toInt64) → (∀ t, t < 6 → t ≠ cnt → en_967 (4 + t) = en (4 + t)) → (en_967 1 = .inr (7, [.ref (ad_966 2), .ref (ad_966 3), .ref (ad_966 10), .ref (ad_966 11), .int (nI cnt), .int (nI d), .int (nI mm)])) → (en_967 2 = .inl (cy 3, 6, .inr (.inr (.inr (.inr f_964))))) → (en_967 n = .inl (cy 0, (d * d), .inl g_966)) → lv_has ls 6 [(5, .int (nI j967)), (4, .ref (ad_966 n)), (3, .int (nI cnt)), (0, .ref (ad_966 1)), (1, .ref (ad_966 (108 + 2 * J))), (2, .int (nI I9))] → Hp D A A s.heap H locs (List.range (n + 1)) ad_966 en_967 → W p l e (headSpec (Cond.code yX8_add cX8_add 6 (some .int) :: TB) (rmC 5 2 12)).room s m ([.ref (ad 1), .ref (ad (108 + 2 * J)), .int (nI I9)] : List Value).toArray below meth c H locs 1 9 (MQ below (va_Qi (S := Nat × (Nat → Nat) × (Nat → va_E)) (fun r u => u.1 = n + 2 ∧ ADP cy J I9 n ad en r u.2.1 u.2.2) (PostV D A) A) ([.ref (ad 1), .ref (ad (108 + 2 * J)), .int (nI I9)] : List Value).toArray s 2 12 A) (F0 m 26 ls []) := by
    intro fu
    induction fu with
    | zero => intro j967  en_967 ls H locs h0 h1 h2; exact absurd h2 (by omega)
    | succ fu ih_967 =>
      intro j967  en_967 ls H locs hj0_967 hj_967 hfu_967 hI_967 hf_967 i0_967 i1_967 i2_967 i3_967 i4_967 hl hh
      refine lv_iload hx hb dX8_add_26 (lv_at hl 0 rfl) ?_
      refine lv_aload_n hx hb dX8_add_28 rfl (lv_at hl 3 rfl) ?_
      refine hp_get hx hb hts ix8 hown hK hh (q := 1) rfl (List.mem_range.mpr (by omega)) i2_967 rfl 5 (by decide) (hts _ tw_44) (fun _ h9 => h9) rfl dX8_add_29 ?_
      refine lv_aload_n hx hb dX8_add_32 rfl (lv_at hl 3 rfl) ?_
      refine hp_get hx hb hts ix8 hown hK hh (q := 1) rfl (List.mem_range.mpr (by omega)) i2_967 rfl 5 (by decide) (hts _ tw_44) (fun _ h9 => h9) rfl dX8_add_33 ?_
      refine lv_imul hx hb dX8_add_36 ?_
      rw [pk_mul d d]
      refine lv_icmp_ge (tgt := 65) hx hb dX8_add_37 (by decide) (fun c_968 => ?_) (fun c_968 => ?_)
      · have n_968 : (d * d) ≤ j967 := n_le (a := (d * d)) (b := j967) c_968 (by omega) (by omega)
        refine lv_aload_n hx hb dX8_add_65 rfl (lv_at hl 3 rfl) ?_
        refine hp_get hx hb hts ix8 hown hK hh (q := 1) rfl (List.mem_range.mpr (by omega)) i2_967 rfl 0 (by decide) (hts _ tw_39) (fun _ h9 => h9) rfl dX8_add_66 ?_
        refine lv_iload_n hx hb dX8_add_69 rfl (lv_at hl 2 rfl) ?_
        refine lv_aload_n hx hb dX8_add_70 rfl (lv_at hl 3 rfl) ?_
        refine lv_iload_n hx hb dX8_add_71 rfl (lv_at hl 2 rfl) ?_
        refine lv_aload hx hb dX8_add_72 (lv_at hl 1 rfl) ?_
        refine hv_callq (va_runV (As := [.int (nI cnt), .ref (ad_966 n)]) (rest := [.int (nI cnt), .ref (ad_966 2)]) ⟨hx, hb, hml, hown, hts⟩ (c_X8_makeTable l D cy _ ad_966 en_967 (n + 1) (by omega) hI_967 cnt n (by omega) (by omega) g_966 (d * d) (fun d9 h9 h8 => by have e9 : d9 = d := n_eq (h9.symm.trans (show rdI (en_967 1) 5 = nI d from by rw [i2_967]; rfl)) (by omega) (by omega); rw [e9]) i4_967) (kw_X8_makeTable hts tw_352 ⟨by decide, by decide⟩) (preVC_of hh hK hX (List.mem_range.mpr (by omega)) i2_967 rfl) rfl rfl hl.1 rfl (lv_room (Nat.le_of_ble_eq_true rfl)) dX8_add_74 ⟨Nat.le_of_ble_eq_true rfl, Nat.le_of_ble_eq_true rfl⟩) hh hA (fun r_969 H locs n_969 ad_969 en_969 hw_969 hh => ?_)
        obtain ⟨hda_969, hue_969, hn1_969, hr_969, hI_969, ci9, hci9, eo_969, hkd9⟩ := hw_969
        rw [show rdI (en_967 1) 5 = nI d from by rw [i2_967]; rfl, nI_clamp (by omega)] at hkd9
        dsimp only at hda_969 hue_969 hn1_969 hr_969 hI_969 eo_969
        subst hn1_969
        rw [hr_969]
        rw [show rdI (en_967 1) 5 = nI d from by rw [i2_967]; rfl] at eo_969
        refine W.eq (g2 := F0 m 77 ls [va_rf (some (ad_969 (n + 1))), .int (nI cnt), .ref (ad_969 2)]) (by rw [hda_969 2 (by omega)]) ?_
        have hl : lv_has ls 6 [(5, .int (nI j967)), (4, .ref (ad_969 n)), (3, .int (nI cnt)), (0, .ref (ad_969 1)), (1, .ref (ad_969 (108 + 2 * J))), (2, .int (nI I9))] := by rw [hda_969 n (by omega), hda_969 1 (by omega), hda_969 (108 + 2 * J) (by omega)]; exact hl
        have i2_969 : en_969 1 = .inr (7, [.ref (ad_969 2), .ref (ad_969 3), .ref (ad_969 10), .ref (ad_969 11), .int (nI cnt), .int (nI d), .int (nI mm)]) := by rw [hue_969 1 (by omega), hda_969 2 (by omega), hda_969 3 (by omega), hda_969 10 (by omega), hda_969 11 (by omega)]; exact i2_967
        have i3_969 : en_969 2 = .inl (cy 3, 6, .inr (.inr (.inr (.inr f_964)))) := by rw [hue_969 2 (by omega)]; exact i3_967
        have i4_969 : en_969 n = .inl (cy 0, (d * d), .inl g_966) := by rw [hue_969 n (by omega)]; exact i4_967
        have b1_969 : en 1 = .inr (7, [.ref (ad_969 2), .ref (ad_969 3), .ref (ad_969 10), .ref (ad_969 11), .int (nI cnt), .int (nI d), .int (nI mm)]) := by rw [hda_969 2 (by omega), hda_969 3 (by omega), hda_969 10 (by omega), hda_969 11 (by omega)]; exact b1_966
        have b2_969 : en 2 = .inl (cy 3, 6, .inr (.inr (.inr (.inr f_964)))) := by exact b2_966
        have b1082J_969 : en (108 + 2 * J) = .inl (cy 0, 40, .inl f_965) := by exact b1082J_966
        refine W.eq (g2 := F0 m 77 ls [.ref (ad_969 (n + 1)), .int (nI cnt), .ref (ad_969 2)]) rfl ?_
        have hf_969 : ∀ c, (c < n ∧ c ≠ 1 ∧ c ≠ 2 ∧ (c < 4 ∨ 10 ≤ c)) → en_969 c = en c := fun c hc => (hue_969 c (by omega)).trans (hf_967 c hc)
        rcases hci9 with rfl | rfl | rfl
        · refine hp_astq hx hb hK hh (q := 2) (v := (n + 1)) rfl (List.mem_range.mpr (by omega)) rfl (List.mem_range.mpr (by omega)) i3_969 eo_969 rfl rfl (vp_in_nI (n := cnt) (by omega) (by decide)) dX8_add_77 (fun H locs en_970 hen_970 hh => ?_)
          rw [nI_clamp (n := cnt) (by omega)] at hen_970
          have i2_970 : en_970 1 = .inr (7, [.ref (ad_969 2), .ref (ad_969 3), .ref (ad_969 10), .ref (ad_969 11), .int (nI cnt), .int (nI d), .int (nI mm)]) := by rw [hen_970, va_up_ne _ _ (by decide)]; exact i2_969
          have i4_970 : en_970 n = .inl (cy 0, (d * d), .inl g_966) := by rw [hen_970, va_up_ne _ _ (by omega)]; exact i4_969
          have eo_970 : en_970 (n + 1) = .inr (6, [.int (nI cnt), .int (nI d), .ref (ad_969 n)]) := by rw [hen_970, va_up_ne _ _ (by omega)]; exact eo_969
          have i3_970 : en_970 2 = .inl (cy 3, 6, .inr (.inr (.inr (.inr (va_up f_964 cnt (some (ad_969 (n + 1)))))))) := by rw [hen_970]; exact va_up_self _ _ _
          have hI_970 : SX cy (List.range (n + 2)) ad_969 en_970 := by rw [hen_970]; exact up_all hI_969 ⟨(va_up f_964 cnt (some (ad_969 (n + 1)))), rfl⟩
          have hf_970 : ∀ c, (c < n ∧ c ≠ 1 ∧ c ≠ 2 ∧ (c < 4 ∨ 10 ≤ c)) → en_970 c = en c := fun c hc => Eq.trans (show en_970 c = en_969 c from by rw [hen_970, va_up_ne _ _ (by omega)]) (hf_969 c hc)
          refine lv_aload_n hx hb dX8_add_78 rfl (lv_at hl 3 rfl) ?_
          refine lv_dup hx hb dX8_add_79 rfl ?_
          refine hp_get hx hb hts ix8 hown hK hh (q := 1) rfl (List.mem_range.mpr (by omega)) i2_970 rfl 4 (by decide) (hts _ tw_43) (fun _ h9 => h9) rfl dX8_add_80 ?_
          refine lv_iconst (v := 1) hx hb dX8_add_83 (by decide) ?_
          refine lv_iadd hx hb dX8_add_84 ?_
          rw [show (1 : Int32) = nI 1 from rfl, nI_add cnt 1]
          refine hp_put hx hb hts ix8 tyX8 tyX8_ok nmX8 hown hK hh (q := 1) rfl (List.mem_range.mpr (by omega)) i2_970 rfl 4 (by decide) (hts _ tw_43) (fun _ h9 => h9) rfl (ty := .int) (by decide +kernel) rfl rfl (Nat.le_of_ble_eq_true rfl) dX8_add_85 (fun H locs en_971 hen_971 hh => ?_)
          have i4_971 : en_971 n = .inl (cy 0, (d * d), .inl g_966) := by rw [hen_971, va_up_ne _ _ (by omega)]; exact i4_970
          have eo_971 : en_971 (n + 1) = .inr (6, [.int (nI cnt), .int (nI d), .ref (ad_969 n)]) := by rw [hen_971, va_up_ne _ _ (by omega)]; exact eo_970
          have i3_971 : en_971 2 = .inl (cy 3, 6, .inr (.inr (.inr (.inr (va_up f_964 cnt (some (ad_969 (n + 1)))))))) := by rw [hen_971, va_up_ne _ _ (by decide)]; exact i3_970
          have i2_971 : en_971 1 = .inr (7, [.ref (ad_969 2), .ref (ad_969 3), .ref (ad_969 10), .ref (ad_969 11), .int (nI (cnt + 1)), .int (nI d), .int (nI mm)]) := by rw [hen_971]; exact va_up_self _ _ _
          have hI_971 : SX cy (List.range (n + 2)) ad_969 en_971 := by rw [hen_971]; exact up_T hI_970 ⟨(cnt + 1), d, mm, rfl, (by omega), hd2, hd3, hmm⟩
          have hf_971 : ∀ c, (c < n ∧ c ≠ 1 ∧ c ≠ 2 ∧ (c < 4 ∨ 10 ≤ c)) → en_971 c = en c := fun c hc => Eq.trans (show en_971 c = en_970 c from by rw [hen_971, va_up_ne _ _ (by omega)]) (hf_970 c hc)
          refine lv_iload_n hx hb dX8_add_88 rfl (lv_at hl 2 rfl) ?_
          exact hv_iret hx hb hr (rfl) hlocks hh (⟨rfl, (fun i hi => by dsimp only; rw [hda_969 i (by omega), hda_966 i (by omega)]), hf_971, hI_971, cnt, d, 6, _, rfl, hc6, hd3, by rw [es963]; rfl, by rw [es963]; rfl, by dsimp only; rw [i2_971]; rfl, by dsimp only; rw [i2_971]; rfl, by dsimp only; rw [i2_971, es963]; rfl, fun t => by dsimp only; rw [i3_971, show rdR (en 2) = f_964 from by rw [es964]; rfl]; exact ad_ite _ _ _ _, eo_971, Or.inl rfl, i4_971, hkd9, hg_966, fun t ht9 hne9 => (show en_971 (4 + t) = en_967 (4 + t) from by rw [hen_971, va_up_ne _ _ (by omega), hen_970, va_up_ne _ _ (by omega), hue_969 (4 + t) (by omega)]).trans (i1_967 t ht9 hne9), fun x hx9 => by dsimp only; rw [(show en_971 (4 + cnt) = en_967 (4 + cnt) from by rw [hen_971, va_up_ne _ _ (by omega), hen_970, va_up_ne _ _ (by omega), hue_969 (4 + cnt) (by omega)]), show (rdI (en 1) 6).toNatClampNeg = mm from by rw [show rdI (en 1) 6 = nI mm from by rw [es963]; rfl]; exact nI_clamp (by omega)]; exact i0_967 x (by omega)⟩) dX8_add_89
        · refine hp_astqO hx hb hK hh (q := 2) (v := (n + 1)) rfl (List.mem_range.mpr (by omega)) rfl (List.mem_range.mpr (by omega)) i3_969 eo_969 rfl rfl hX.2.2.2.2.2.2.2.2.2.2.2 (vp_in_nI (n := cnt) (by omega) (by decide)) dX8_add_77 (fun H locs en_972 hen_972 hh => ?_)
          rw [nI_clamp (n := cnt) (by omega)] at hen_972
          have i2_972 : en_972 1 = .inr (7, [.ref (ad_969 2), .ref (ad_969 3), .ref (ad_969 10), .ref (ad_969 11), .int (nI cnt), .int (nI d), .int (nI mm)]) := by rw [hen_972, va_up_ne _ _ (by decide)]; exact i2_969
          have i4_972 : en_972 n = .inl (cy 0, (d * d), .inl g_966) := by rw [hen_972, va_up_ne _ _ (by omega)]; exact i4_969
          have eo_972 : en_972 (n + 1) = .inr (1, [.int (nI cnt), .int (nI d), .ref (ad_969 n)]) := by rw [hen_972, va_up_ne _ _ (by omega)]; exact eo_969
          have i3_972 : en_972 2 = .inl (cy 3, 6, .inr (.inr (.inr (.inr (va_up f_964 cnt (some (ad_969 (n + 1)))))))) := by rw [hen_972]; exact va_up_self _ _ _
          have hI_972 : SX cy (List.range (n + 2)) ad_969 en_972 := by rw [hen_972]; exact up_all hI_969 ⟨(va_up f_964 cnt (some (ad_969 (n + 1)))), rfl⟩
          have hf_972 : ∀ c, (c < n ∧ c ≠ 1 ∧ c ≠ 2 ∧ (c < 4 ∨ 10 ≤ c)) → en_972 c = en c := fun c hc => Eq.trans (show en_972 c = en_969 c from by rw [hen_972, va_up_ne _ _ (by omega)]) (hf_969 c hc)
          refine lv_aload_n hx hb dX8_add_78 rfl (lv_at hl 3 rfl) ?_
          refine lv_dup hx hb dX8_add_79 rfl ?_
          refine hp_get hx hb hts ix8 hown hK hh (q := 1) rfl (List.mem_range.mpr (by omega)) i2_972 rfl 4 (by decide) (hts _ tw_43) (fun _ h9 => h9) rfl dX8_add_80 ?_
          refine lv_iconst (v := 1) hx hb dX8_add_83 (by decide) ?_
          refine lv_iadd hx hb dX8_add_84 ?_
          rw [show (1 : Int32) = nI 1 from rfl, nI_add cnt 1]
          refine hp_put hx hb hts ix8 tyX8 tyX8_ok nmX8 hown hK hh (q := 1) rfl (List.mem_range.mpr (by omega)) i2_972 rfl 4 (by decide) (hts _ tw_43) (fun _ h9 => h9) rfl (ty := .int) (by decide +kernel) rfl rfl (Nat.le_of_ble_eq_true rfl) dX8_add_85 (fun H locs en_973 hen_973 hh => ?_)
          have i4_973 : en_973 n = .inl (cy 0, (d * d), .inl g_966) := by rw [hen_973, va_up_ne _ _ (by omega)]; exact i4_972
          have eo_973 : en_973 (n + 1) = .inr (1, [.int (nI cnt), .int (nI d), .ref (ad_969 n)]) := by rw [hen_973, va_up_ne _ _ (by omega)]; exact eo_972
          have i3_973 : en_973 2 = .inl (cy 3, 6, .inr (.inr (.inr (.inr (va_up f_964 cnt (some (ad_969 (n + 1)))))))) := by rw [hen_973, va_up_ne _ _ (by decide)]; exact i3_972
          have i2_973 : en_973 1 = .inr (7, [.ref (ad_969 2), .ref (ad_969 3), .ref (ad_969 10), .ref (ad_969 11), .int (nI (cnt + 1)), .int (nI d), .int (nI mm)]) := by rw [hen_973]; exact va_up_self _ _ _
          have hI_973 : SX cy (List.range (n + 2)) ad_969 en_973 := by rw [hen_973]; exact up_T hI_972 ⟨(cnt + 1), d, mm, rfl, (by omega), hd2, hd3, hmm⟩
          have hf_973 : ∀ c, (c < n ∧ c ≠ 1 ∧ c ≠ 2 ∧ (c < 4 ∨ 10 ≤ c)) → en_973 c = en c := fun c hc => Eq.trans (show en_973 c = en_972 c from by rw [hen_973, va_up_ne _ _ (by omega)]) (hf_972 c hc)
          refine lv_iload_n hx hb dX8_add_88 rfl (lv_at hl 2 rfl) ?_
          exact hv_iret hx hb hr (rfl) hlocks hh (⟨rfl, (fun i hi => by dsimp only; rw [hda_969 i (by omega), hda_966 i (by omega)]), hf_973, hI_973, cnt, d, 1, _, rfl, hc6, hd3, by rw [es963]; rfl, by rw [es963]; rfl, by dsimp only; rw [i2_973]; rfl, by dsimp only; rw [i2_973]; rfl, by dsimp only; rw [i2_973, es963]; rfl, fun t => by dsimp only; rw [i3_973, show rdR (en 2) = f_964 from by rw [es964]; rfl]; exact ad_ite _ _ _ _, eo_973, Or.inr (Or.inl rfl), i4_973, hkd9, hg_966, fun t ht9 hne9 => (show en_973 (4 + t) = en_967 (4 + t) from by rw [hen_973, va_up_ne _ _ (by omega), hen_972, va_up_ne _ _ (by omega), hue_969 (4 + t) (by omega)]).trans (i1_967 t ht9 hne9), fun x hx9 => by dsimp only; rw [(show en_973 (4 + cnt) = en_967 (4 + cnt) from by rw [hen_973, va_up_ne _ _ (by omega), hen_972, va_up_ne _ _ (by omega), hue_969 (4 + cnt) (by omega)]), show (rdI (en 1) 6).toNatClampNeg = mm from by rw [show rdI (en 1) 6 = nI mm from by rw [es963]; rfl]; exact nI_clamp (by omega)]; exact i0_967 x (by omega)⟩) dX8_add_89
        · refine hp_astqO hx hb hK hh (q := 2) (v := (n + 1)) rfl (List.mem_range.mpr (by omega)) rfl (List.mem_range.mpr (by omega)) i3_969 eo_969 rfl rfl hX.2.2.2.2.2.2.2.2.2.2.1 (vp_in_nI (n := cnt) (by omega) (by decide)) dX8_add_77 (fun H locs en_974 hen_974 hh => ?_)
          rw [nI_clamp (n := cnt) (by omega)] at hen_974
          have i2_974 : en_974 1 = .inr (7, [.ref (ad_969 2), .ref (ad_969 3), .ref (ad_969 10), .ref (ad_969 11), .int (nI cnt), .int (nI d), .int (nI mm)]) := by rw [hen_974, va_up_ne _ _ (by decide)]; exact i2_969
          have i4_974 : en_974 n = .inl (cy 0, (d * d), .inl g_966) := by rw [hen_974, va_up_ne _ _ (by omega)]; exact i4_969
          have eo_974 : en_974 (n + 1) = .inr (4, [.int (nI cnt), .int (nI d), .ref (ad_969 n)]) := by rw [hen_974, va_up_ne _ _ (by omega)]; exact eo_969
          have i3_974 : en_974 2 = .inl (cy 3, 6, .inr (.inr (.inr (.inr (va_up f_964 cnt (some (ad_969 (n + 1)))))))) := by rw [hen_974]; exact va_up_self _ _ _
          have hI_974 : SX cy (List.range (n + 2)) ad_969 en_974 := by rw [hen_974]; exact up_all hI_969 ⟨(va_up f_964 cnt (some (ad_969 (n + 1)))), rfl⟩
          have hf_974 : ∀ c, (c < n ∧ c ≠ 1 ∧ c ≠ 2 ∧ (c < 4 ∨ 10 ≤ c)) → en_974 c = en c := fun c hc => Eq.trans (show en_974 c = en_969 c from by rw [hen_974, va_up_ne _ _ (by omega)]) (hf_969 c hc)
          refine lv_aload_n hx hb dX8_add_78 rfl (lv_at hl 3 rfl) ?_
          refine lv_dup hx hb dX8_add_79 rfl ?_
          refine hp_get hx hb hts ix8 hown hK hh (q := 1) rfl (List.mem_range.mpr (by omega)) i2_974 rfl 4 (by decide) (hts _ tw_43) (fun _ h9 => h9) rfl dX8_add_80 ?_
          refine lv_iconst (v := 1) hx hb dX8_add_83 (by decide) ?_
          refine lv_iadd hx hb dX8_add_84 ?_
          rw [show (1 : Int32) = nI 1 from rfl, nI_add cnt 1]
          refine hp_put hx hb hts ix8 tyX8 tyX8_ok nmX8 hown hK hh (q := 1) rfl (List.mem_range.mpr (by omega)) i2_974 rfl 4 (by decide) (hts _ tw_43) (fun _ h9 => h9) rfl (ty := .int) (by decide +kernel) rfl rfl (Nat.le_of_ble_eq_true rfl) dX8_add_85 (fun H locs en_975 hen_975 hh => ?_)
          have i4_975 : en_975 n = .inl (cy 0, (d * d), .inl g_966) := by rw [hen_975, va_up_ne _ _ (by omega)]; exact i4_974
          have eo_975 : en_975 (n + 1) = .inr (4, [.int (nI cnt), .int (nI d), .ref (ad_969 n)]) := by rw [hen_975, va_up_ne _ _ (by omega)]; exact eo_974
          have i3_975 : en_975 2 = .inl (cy 3, 6, .inr (.inr (.inr (.inr (va_up f_964 cnt (some (ad_969 (n + 1)))))))) := by rw [hen_975, va_up_ne _ _ (by decide)]; exact i3_974
          have i2_975 : en_975 1 = .inr (7, [.ref (ad_969 2), .ref (ad_969 3), .ref (ad_969 10), .ref (ad_969 11), .int (nI (cnt + 1)), .int (nI d), .int (nI mm)]) := by rw [hen_975]; exact va_up_self _ _ _
          have hI_975 : SX cy (List.range (n + 2)) ad_969 en_975 := by rw [hen_975]; exact up_T hI_974 ⟨(cnt + 1), d, mm, rfl, (by omega), hd2, hd3, hmm⟩
          have hf_975 : ∀ c, (c < n ∧ c ≠ 1 ∧ c ≠ 2 ∧ (c < 4 ∨ 10 ≤ c)) → en_975 c = en c := fun c hc => Eq.trans (show en_975 c = en_974 c from by rw [hen_975, va_up_ne _ _ (by omega)]) (hf_974 c hc)
          refine lv_iload_n hx hb dX8_add_88 rfl (lv_at hl 2 rfl) ?_
          exact hv_iret hx hb hr (rfl) hlocks hh (⟨rfl, (fun i hi => by dsimp only; rw [hda_969 i (by omega), hda_966 i (by omega)]), hf_975, hI_975, cnt, d, 4, _, rfl, hc6, hd3, by rw [es963]; rfl, by rw [es963]; rfl, by dsimp only; rw [i2_975]; rfl, by dsimp only; rw [i2_975]; rfl, by dsimp only; rw [i2_975, es963]; rfl, fun t => by dsimp only; rw [i3_975, show rdR (en 2) = f_964 from by rw [es964]; rfl]; exact ad_ite _ _ _ _, eo_975, Or.inr (Or.inr rfl), i4_975, hkd9, hg_966, fun t ht9 hne9 => (show en_975 (4 + t) = en_967 (4 + t) from by rw [hen_975, va_up_ne _ _ (by omega), hen_974, va_up_ne _ _ (by omega), hue_969 (4 + t) (by omega)]).trans (i1_967 t ht9 hne9), fun x hx9 => by dsimp only; rw [(show en_975 (4 + cnt) = en_967 (4 + cnt) from by rw [hen_975, va_up_ne _ _ (by omega), hen_974, va_up_ne _ _ (by omega), hue_969 (4 + cnt) (by omega)]), show (rdI (en 1) 6).toNatClampNeg = mm from by rw [show rdI (en 1) 6 = nI mm from by rw [es963]; rfl]; exact nI_clamp (by omega)]; exact i0_967 x (by omega)⟩) dX8_add_89
      · have n_968 : j967 < (d * d) := n_nle (a := (d * d)) (b := j967) c_968 (by omega) (by omega)
        refine lv_aload_n hx hb dX8_add_40 rfl (lv_at hl 3 rfl) ?_
        refine hp_get hx hb hts ix8 hown hK hh (q := 1) rfl (List.mem_range.mpr (by omega)) i2_967 rfl 1 (by decide) (hts _ tw_40) (fun _ h9 => h9) rfl dX8_add_41 ?_
        refine lv_iload_n hx hb dX8_add_44 rfl (lv_at hl 2 rfl) ?_
        have es976 := get_rows hI_967
        unfold P_rows at es976
        refine hp_aald hx hb hK hh (q := 3) rfl (List.mem_range.mpr (by omega)) 8 es976 rfl rfl (vp_in_nI (n := cnt) (by omega) (by decide)) (v := .ref (ad_966 (4 + cnt))) (by rw [nI_clamp (n := cnt) (by omega)]; exact rfA_v (by omega)) dX8_add_45 ?_
        refine lv_iload hx hb dX8_add_46 (lv_at hl 0 rfl) ?_
        refine lv_aload_n hx hb dX8_add_48 rfl (lv_at hl 3 rfl) ?_
        refine lv_aload hx hb dX8_add_49 (lv_at hl 1 rfl) ?_
        refine lv_iload hx hb dX8_add_51 (lv_at hl 0 rfl) ?_
        refine hp_iald hx hb hK hh (q := n) rfl (List.mem_range.mpr (by omega)) i4_967 (vp_in_nI (n := j967) (by omega) (by omega)) dX8_add_53 ?_
        rw [nI_clamp (n := j967) (by omega)]
        refine lv_i2l hx hb dX8_add_54 rfl ?_
        refine hp_callRl (va_runV (As := [.long ((g_966 j967).toInt64)]) (rest := [.int (nI j967), .ref (ad_966 (4 + cnt))]) ⟨hx, hb, hml, hown, hts⟩ (c_X8_restOf l D cy _ (List.range (n + 1)) ad_966 en_967 (List.mem_range.mpr (by omega)) cnt d mm hcnt hd2 hd3 hmm ((g_966 j967).toInt64) i2_967) (kw_X8_restOf hts tw_348 ⟨by decide, by decide⟩) (preV_of hh hK (List.mem_range.mpr (by omega)) i2_967 rfl) rfl rfl hl.1 rfl (lv_room (Nat.le_of_ble_eq_true rfl)) dX8_add_55 ⟨Nat.le_of_ble_eq_true rfl, Nat.le_of_ble_eq_true rfl⟩) hh hA (fun r_977 H locs hw_977 hh => ?_)
        obtain rfl : r_977 = (restL mm ((g_966 j967).toInt64)) := hw_977
        obtain ⟨f_978, es978⟩ := get_row hI_967 (j := cnt) (by omega)
        refine hp_last hx hb hK hh (q := (4 + cnt)) rfl (List.mem_range.mpr (by omega)) es978 (vp_in_nI (n := j967) (by omega) (by decide)) dX8_add_58 (fun H locs en_979 hen_979 hh => ?_)
        rw [nI_clamp (n := j967) (by omega)] at hen_979
        have i2_979 : en_979 1 = .inr (7, [.ref (ad_966 2), .ref (ad_966 3), .ref (ad_966 10), .ref (ad_966 11), .int (nI cnt), .int (nI d), .int (nI mm)]) := by rw [hen_979, va_up_ne _ _ (by omega)]; exact i2_967
        have i3_979 : en_979 2 = .inl (cy 3, 6, .inr (.inr (.inr (.inr f_964)))) := by rw [hen_979, va_up_ne _ _ (by omega)]; exact i3_967
        have i4_979 : en_979 n = .inl (cy 0, (d * d), .inl g_966) := by rw [hen_979, va_up_ne _ _ (by omega)]; exact i4_967
        have es976_979 : en_979 3 = .inl (cy 8, 6, .inr (.inr (.inr (.inr (rfA ad_966 6 4))))) := by rw [hen_979, va_up_ne _ _ (by omega)]; exact es976
        have es978_979 : en_979 (4 + cnt) = .inl (cy 1, 9, .inr (.inl (vp_updL f_978 j967 (restL mm ((g_966 j967).toInt64))))) := by rw [hen_979]; exact va_up_self _ _ _
        have hI_979 : SX cy (List.range (n + 1)) ad_966 en_979 := by rw [hen_979]; exact up_row hI_967 (j := cnt) (by omega) ⟨(vp_updL f_978 j967 (restL mm ((g_966 j967).toInt64))), rfl⟩
        have hf_979 : ∀ c, (c < n ∧ c ≠ 1 ∧ c ≠ 2 ∧ (c < 4 ∨ 10 ≤ c)) → en_979 c = en c := fun c hc => Eq.trans (show en_979 c = en_967 c from by rw [hen_979, va_up_ne _ _ (by omega)]) (hf_967 c hc)
        refine lv_iinc (v := (nI (j967 + 1))) (lv' := [(5, .int (nI (j967 + 1))), (4, .ref (ad_966 n)), (3, .int (nI cnt)), (0, .ref (ad_966 1)), (1, .ref (ad_966 (108 + 2 * J))), (2, .int (nI I9))]) hx hb dX8_add_59 hl (k := 0) rfl (nI_1 _) (by decide) rfl (fun ls hl => ?_)
        refine lv_goto (tgt := 26) hx hb dX8_add_62 (by decide) ?_
        exact ih_967 ((j967 + 1))  en_979 ls H locs (by omega) (by omega) (by omega) hI_979 hf_979 (fun x hx9 => by rw [es978_979]; exact rw_upd (fun h9 => (show f_978 x = rdL (en_967 (4 + cnt)) x from by rw [es978]; rfl).trans (i0_967 x h9)) hx9 (fun e9 => by rw [e9])) (fun t ht9 hne9 => (show en_979 (4 + t) = en_967 (4 + t) from by rw [hen_979, va_up_ne _ _ (by omega)]).trans (i1_967 t ht9 hne9)) (i2_979) (i3_979) (i4_979) (lv_sub hl [0, 1, 2, 3, 4, 5] rfl) hh
  exact loop_967 ((d * d) + 1) 0  en_966 ls _ _ (Nat.le_refl _) (by omega) (by omega) hI_966 hf_966 (fun x h => absurd h (Nat.not_lt_zero x)) (fun t ht9 hne9 => hue_966 (4 + t) (by omega)) (es963_966) (es964_966) (eg_966) (lv_sub hl [0, 1, 2, 3, 4, 5] rfl) hh
theorem kw_X8_add {R : Room} {s : State} {args : Array Value} {own : String} {idx : Nat} (hts : ∀ w ∈ TB, w.before args s = true) (hl : Cond.methodLink own idx yX8_add ∈ TB) (hR : 5 + 1 ≤ R.frames ∧ 8 + (6 + 11) + 40 * 5 ≤ R.locals) : CallW R s args own RX8 idx yX8_add cX8_add 6 (some .int) (Cond.code yX8_add cX8_add 6 (some .int) :: TB) (rmC 5 2 12) 2 12 2 := cwV 2 hts (TB_V hl tw_323 tw_324 tw_2 tw_325) rfl rfl rfl (by decide +kernel) hR
set_option maxHeartbeats 8000000 in
set_option maxRecDepth 100000 in
/-- addTable -/
theorem c_X11_addTable (l : Launch) (D : va_G) (cy : Nat → ClassId) (sz : Nat) (ad : Nat → Nat) (en : Nat → va_E) (n : Nat) (hn : 115 ≤ n) (hI : SX cy (List.range n) ad en) (kz la iz : Int32) (z : Nat) (F : Nat → Nat → Int32) (hTX : TXF cy (List.range n) ad en F) (hC : CPz z cy (List.range n) ad en)  : Met l yX11_addTable (Cond.code yX11_addTable cX11_addTable 8 (some .int) :: TB) (rmC 6 2 12) (va_Pc [.ref (ad 0), .int kz, .int la, .int iz] (PreC D cy n ad en sz)) (va_Qi (S := Nat × (Nat → Nat) × (Nat → va_E)) (fun r u => n ≤ u.1 ∧ u.1 ≤ n + 2 ∧ (∀ i, i < n → u.2.1 i = ad i) ∧ (∀ c, (c < n ∧ (c = 0 ∨ c = 3 ∨ c = 10 ∨ c = 11 ∨ 71 ≤ c)) → u.2.2 c = en c) ∧ SX cy (List.range u.1) u.2.1 u.2.2 ∧ (∃ F1 : Nat → Nat → Int32, TXF cy (List.range u.1) u.2.1 u.2.2 F1 ∧ XTB F F1 kz la iz r en u.2.2 ∧ (RW F en → RW F1 u.2.2) ∧ (LNX en → LNX u.2.2)) ∧ CPz z cy (List.range u.1) u.2.1 u.2.2) (PostV D (Af (List.range n) ad sz)) (Af (List.range n) ad sz)) 2 12 (Af (List.range n) ad sz) := by
  refine Met.ofW (cc := cX11_addTable) (maxL := 8) (ret := (some .int)) (by decide) rfl ?_
  intro p e s m args below meth c s₁ B hml hv
  obtain ⟨rfl, ⟨hsz, hP, hK, hD0⟩, hX⟩ := hv
  have hx := B.exec
  have hb := B.bytes
  have hr := B.returns
  have hts : ∀ w ∈ TB, w.before _ s = true := fun w h => atoms_spec (ws := _ :: TB) B.pre w (List.mem_cons_of_mem _ h)
  have hown : s.vm.findClass RX11 = some m.cls := findClass_of_methodNamed B.named
  have hlocks := B.notSynchronized
  have hh : Hp D (Af (List.range n) ad sz) (Af (List.range n) ad sz) s.heap s.heap [] (List.range n) ad en := ⟨hP, Af_self hD0, va_S.rf⟩
  have hA : ∀ q : Nat, s.heap.size ≤ q → (Af (List.range n) ad sz) q := fun q h => Or.inr (by rw [hsz] at h; exact h)
  generalize (Af (List.range n) ad sz) = A at hh hA ⊢
  have hl := lv_entry ([.ref (ad 0), .int kz, .int la, .int iz]) (n := 8) (Nat.le_of_ble_eq_true rfl)
  rw [lg_entry_eq]
  generalize (lg_sl ([.ref (ad 0), .int kz, .int la, .int iz]) ++ List.replicate (8 - (lg_sl ([.ref (ad 0), .int kz, .int la, .int iz])).length) Slot.unset).toArray = ls at hl ⊢
  have hl : lv_has ls 8 [(0, .ref (ad 0)), (1, .int kz), (2, .int la), (3, .int iz)] := hl
  have hf0 : ∀ c, (c < n ∧ (c = 0 ∨ c = 3 ∨ c = 10 ∨ c = 11 ∨ 71 ≤ c)) → en c = en c := fun _ _ => rfl
  obtain ⟨wc_980, lf_980, es980, p0_980⟩ := get_A hI
  obtain ⟨cnt, d, mm, es981, hcnt, hd2, hd3, hmm⟩ := get_T hI
  have hdd : d * d ≤ 9 := Nat.mul_le_mul hd3 hd3
  have hdd4 : 4 ≤ d * d := Nat.mul_le_mul hd2 hd2
  refine lv_aload_n hx hb dX11_addTable_0 rfl (lv_at hl 0 rfl) ?_
  refine hp_get hx hb hts ix11 hown hK hh (q := 0) rfl (List.mem_range.mpr (by omega)) es980 rfl 0 (by decide) (hts _ tw_245) (fun _ h9 => h9) rfl dX11_addTable_1 ?_
  refine hp_callRi (va_runV (As := []) (rest := []) ⟨hx, hb, hml, hown, hts⟩ (c_X8_cellCount l D cy _ (List.range n) ad en (List.mem_range.mpr (by omega)) cnt d mm hcnt hd2 hd3 hmm  es981) (kw_X8_cellCount hts tw_297 ⟨by decide, by decide⟩) (preV_of hh hK (List.mem_range.mpr (by omega)) es981 rfl) rfl rfl hl.1 rfl (lv_room (Nat.le_of_ble_eq_true rfl)) dX11_addTable_4 ⟨Nat.le_of_ble_eq_true rfl, Nat.le_of_ble_eq_true rfl⟩) hh hA (fun r_982 H locs hw_982 hh => ?_)
  obtain rfl : r_982 = nI (d * d) := hw_982
  refine lv_istore (lv' := [(4, .int (nI (d * d))), (0, .ref (ad 0)), (1, .int kz), (2, .int la), (3, .int iz)]) hx hb dX11_addTable_7 hl (by decide) rfl (fun ls hl => ?_)
  refine lv_aload_n hx hb dX11_addTable_9 rfl (lv_at hl 1 rfl) ?_
  refine lv_iload_n hx hb dX11_addTable_10 rfl (lv_at hl 2 rfl) ?_
  refine lv_iload_n hx hb dX11_addTable_11 rfl (lv_at hl 3 rfl) ?_
  refine lv_iload_n hx hb dX11_addTable_12 rfl (lv_at hl 4 rfl) ?_
  refine lv_iload hx hb dX11_addTable_13 (lv_at hl 0 rfl) ?_
  refine hp_callRi (va_runV (As := [.int kz, .int la, .int iz, .int (nI (d * d))]) (rest := []) ⟨hx, hb, hml, hown, hts⟩ (c_X11_lookAtCells l D cy _ (List.range n) ad en hI kz la iz (nI (d * d))) (kw_X11_lookAtCells hts tw_301 ⟨by decide, by decide⟩) (preV_of hh hK (List.mem_range.mpr (by omega)) es980 rfl) rfl rfl hl.1 rfl (lv_room (Nat.le_of_ble_eq_true rfl)) dX11_addTable_15 ⟨Nat.le_of_ble_eq_true rfl, Nat.le_of_ble_eq_true rfl⟩) hh hA (fun r_983 H locs hw_983 hh => ?_)
  refine lv_istore (lv' := [(5, .int r_983), (4, .int (nI (d * d))), (0, .ref (ad 0)), (1, .int kz), (2, .int la), (3, .int iz)]) hx hb dX11_addTable_18 hl (by decide) rfl (fun ls hl => ?_)
  refine lv_iload hx hb dX11_addTable_20 (lv_at hl 0 rfl) ?_
  refine lv_iconst (v := 1) hx hb dX11_addTable_22 (by decide) ?_
  refine lv_icmp_eq (tgt := 29) hx hb dX11_addTable_23 (by decide) (fun c_984 => ?_) (fun c_984 => ?_)
  · obtain ⟨hw1, -, -, -, hw5⟩ := lookF_1 (hw_983.symm.trans c_984)
    obtain ⟨K9, rfl, -, hK9⟩ := wi_natB hw1 0 3 (by decide) (by decide)
    obtain ⟨sc_985, sl_985, sr_985, es985, p0_985, p1_985⟩ := get_sh hI (j := K9) (by omega)
    obtain ⟨f_986, es986⟩ := get_shc hI (j := K9) (by omega)
    rw [nI_clamp (n := K9) (by omega), nI_clamp (n := d * d) (by omega), show rdI (en (107 + 2 * K9)) 1 = nI sc_985 from by rw [es985]; rfl] at hw5
    obtain ⟨I9, rfl, hI9⟩ := hcP_nat (by omega) hw5 (by omega)
    refine lv_aload_n hx hb dX11_addTable_29 rfl (lv_at hl 2 rfl) ?_
    refine hp_get hx hb hts ix11 hown hK hh (q := 0) rfl (List.mem_range.mpr (by omega)) es980 rfl 4 (by decide) (hts _ tw_249) (fun _ h9 => h9) rfl dX11_addTable_30 ?_
    refine lv_iload_n hx hb dX11_addTable_33 rfl (lv_at hl 3 rfl) ?_
    have es987 := get_shs hI
    unfold P_shs at es987
    refine hp_aald hx hb hK hh (q := 75) rfl (List.mem_range.mpr (by omega)) 6 es987 rfl rfl (vp_in_nI (n := K9) (by omega) (by decide)) (v := .ref (ad (107 + 2 * K9))) (by rw [nI_clamp (n := K9) (by omega)]; exact rfB_v (by omega)) dX11_addTable_34 ?_
    refine hp_get hx hb hts ix3 hown hK hh (q := (107 + 2 * K9)) rfl (List.mem_range.mpr (by omega)) es985 rfl 0 (by decide) (hts _ tw_230) (fun _ h9 => h9) rfl dX11_addTable_35 ?_
    refine lv_astore (lv' := [(6, .ref (ad (108 + 2 * K9))), (5, .int r_983), (4, .int (nI (d * d))), (0, .ref (ad 0)), (1, .int (nI K9)), (2, .int la), (3, .int (nI I9))]) hx hb dX11_addTable_38 hl (by decide) rfl (fun ls hl => ?_)
    refine lv_iconst (v := 0) hx hb dX11_addTable_40 (by decide) ?_
    refine lv_istore (lv' := [(7, .int 0), (6, .ref (ad (108 + 2 * K9))), (5, .int r_983), (4, .int (nI (d * d))), (0, .ref (ad 0)), (1, .int (nI K9)), (2, .int la), (3, .int (nI I9))]) hx hb dX11_addTable_41 hl (by decide) rfl (fun ls hl => ?_)
    have loop_988 : ∀ (fu j988 : Nat)   (ls : Array Slot) (H : Heap) (locs : List Loc), 0 ≤ j988 → j988 ≤ (d * d) → (d * d) < j988 + fu →  (∀ x, x < j988 → wi (f_986 (I9 + x)) (-9) 9) → lv_has ls 8 [(7, .int (nI j988)), (6, .ref (ad (108 + 2 * K9))), (5, .int r_983), (4, .int (nI (d * d))), (0, .ref (ad 0)), (1, .int (nI K9)), (2, .int la), (3, .int (nI I9))] → Hp D A A s.heap H locs (List.range n) ad en → W p l e (headSpec (Cond.code yX11_addTable cX11_addTable 8 (some .int) :: TB) (rmC 6 2 12)).room s m ([.ref (ad 0), .int (nI K9), .int la, .int (nI I9)] : List Value).toArray below meth c H locs 0 0 (MQ below (va_Qi (S := Nat × (Nat → Nat) × (Nat → va_E)) (fun r u => n ≤ u.1 ∧ u.1 ≤ n + 2 ∧ (∀ i, i < n → u.2.1 i = ad i) ∧ (∀ c, (c < n ∧ (c = 0 ∨ c = 3 ∨ c = 10 ∨ c = 11 ∨ 71 ≤ c)) → u.2.2 c = en c) ∧ SX cy (List.range u.1) u.2.1 u.2.2 ∧ (∃ F1 : Nat → Nat → Int32, TXF cy (List.range u.1) u.2.1 u.2.2 F1 ∧ XTB F F1 (nI K9) la (nI I9) r en u.2.2 ∧ (RW F en → RW F1 u.2.2) ∧ (LNX en → LNX u.2.2)) ∧ CPz z cy (List.range u.1) u.2.1 u.2.2) (PostV D A) A) ([.ref (ad 0), .int (nI K9), .int la, .int (nI I9)] : List Value).toArray s 2 12 A) (F0 m 43 ls []) := by
      intro fu
      induction fu with
      | zero => intro j988  ls H locs h0 h1 h2; exact absurd h2 (by omega)
      | succ fu ih_988 =>
        intro j988  ls H locs hj0_988 hj_988 hfu_988 i0_988 hl hh
        refine lv_iload hx hb dX11_addTable_43 (lv_at hl 0 rfl) ?_
        refine lv_iload hx hb dX11_addTable_45 (lv_at hl 3 rfl) ?_
        refine lv_icmp_ge (tgt := 76) hx hb dX11_addTable_47 (by decide) (fun c_989 => ?_) (fun c_989 => ?_)
        · have n_989 : (d * d) ≤ j988 := n_le (a := (d * d)) (b := j988) c_989 (by omega) (by omega)
          have hok9 : okC en K9 I9 (d * d) := fun x hx => by rw [show rdF (en (108 + 2 * K9)) = f_986 from by rw [es986]; rfl]; exact i0_988 x (by omega)
          refine lv_aload_n hx hb dX11_addTable_76 rfl (lv_at hl 4 rfl) ?_
          refine hp_get hx hb hts ix11 hown hK hh (q := 0) rfl (List.mem_range.mpr (by omega)) es980 rfl 0 (by decide) (hts _ tw_245) (fun _ h9 => h9) rfl dX11_addTable_77 ?_
          refine hp_callRi (va_runV (As := []) (rest := []) ⟨hx, hb, hml, hown, hts⟩ (c_X8_count l D cy _ (List.range n) ad en (List.mem_range.mpr (by omega)) cnt d mm hcnt hd2 hd3 hmm  es981) (kw_X8_count hts tw_318 ⟨by decide, by decide⟩) (preV_of hh hK (List.mem_range.mpr (by omega)) es981 rfl) rfl rfl hl.1 rfl (lv_room (Nat.le_of_ble_eq_true rfl)) dX11_addTable_80 ⟨Nat.le_of_ble_eq_true rfl, Nat.le_of_ble_eq_true rfl⟩) hh hA (fun r_990 H locs hw_990 hh => ?_)
          obtain rfl : r_990 = (nI cnt) := hw_990
          refine lv_bipush (v := 6) hx hb dX11_addTable_83 (by decide) ?_
          refine lv_icmp_lt (tgt := 91) hx hb dX11_addTable_85 (by decide) (fun c_991 => ?_) (fun c_991 => ?_)
          · have n_991 : cnt < 6 := n_lt (a := cnt) (b := 6) c_991 (by omega) (by decide)
            refine lv_aload_n hx hb dX11_addTable_91 rfl (lv_at hl 4 rfl) ?_
            refine hp_get hx hb hts ix11 hown hK hh (q := 0) rfl (List.mem_range.mpr (by omega)) es980 rfl 1 (by decide) (hts _ tw_246) (fun _ h9 => h9) rfl dX11_addTable_92 ?_
            obtain ⟨hw_992, es992, p0_992⟩ := get_L hI
            refine hp_callMv (va_runV (As := []) (rest := []) ⟨hx, hb, hml, hown, hts⟩ (c_X2_forget l D cy _ (List.range n) ad en hI  ) (kw_X2_forget hts tw_281 ⟨by decide, by decide⟩) (preV_of hh hK (List.mem_range.mpr (by omega)) es992 rfl) rfl rfl hl.1 rfl (lv_room (Nat.le_of_ble_eq_true rfl)) dX11_addTable_95 ⟨Nat.le_of_ble_eq_true rfl, Nat.le_of_ble_eq_true rfl⟩) hh hA (fun H locs en_993 hw_993 hh => ?_)
            obtain ⟨hI_993, hu_993, hx_993⟩ := hw_993
            have es980_993 : en_993 0 = .inr (10, [.ref (ad 1), .ref (ad 12), .ref (ad 70), .ref (ad 74), .ref (ad 75), .ref (ad 76), .int (nI wc_980), .int lf_980]) := (hu_993 0 (by omega)).trans es980
            have es981_993 : en_993 1 = .inr (7, [.ref (ad 2), .ref (ad 3), .ref (ad 10), .ref (ad 11), .int (nI cnt), .int (nI d), .int (nI mm)]) := (hu_993 1 (by omega)).trans es981
            have es985_993 : en_993 (107 + 2 * K9) = .inr (3, [.ref (ad (108 + 2 * K9)), .int (nI sc_985), .int sl_985, .int (nI sr_985)]) := (hu_993 (107 + 2 * K9) (by omega)).trans es985
            have es986_993 : en_993 (108 + 2 * K9) = .inl (cy 0, 40, .inl f_986) := (hu_993 (108 + 2 * K9) (by omega)).trans es986
            have es987_993 : en_993 75 = .inl (cy 6, 4, .inr (.inr (.inr (.inr (rfB ad 4 107 2))))) := (hu_993 75 (by omega)).trans es987
            have hf_993 : ∀ c, (c < n ∧ (c = 0 ∨ c = 3 ∨ c = 10 ∨ c = 11 ∨ 71 ≤ c)) → en_993 c = en c := fun c hc => (hu_993 c (by omega)).trans (hf0 c hc)
            refine lv_aload_n hx hb dX11_addTable_98 rfl (lv_at hl 4 rfl) ?_
            refine hp_get hx hb hts ix11 hown hK hh (q := 0) rfl (List.mem_range.mpr (by omega)) es980_993 rfl 2 (by decide) (hts _ tw_247) (fun _ h9 => h9) rfl dX11_addTable_99 ?_
            obtain ⟨ea_994, eb_994, ec_994, st0_994, cc0_994, ct0_994, un0_994, ow0_994, hn0_994, es994⟩ := get_C hI_993
            refine hp_callMv (va_runV (As := []) (rest := []) ⟨hx, hb, hml, hown, hts⟩ (c_X0_forget l D cy _ (List.range n) ad en_993 hI_993) (kw_X0_forget hts tw_285 ⟨by decide, by decide⟩) (preV_of hh hK (List.mem_range.mpr (by omega)) es994 rfl) rfl rfl hl.1 rfl (lv_room (Nat.le_of_ble_eq_true rfl)) dX11_addTable_102 ⟨Nat.le_of_ble_eq_true rfl, Nat.le_of_ble_eq_true rfl⟩) hh hA (fun H locs en_995 hw_995 hh => ?_)
            obtain ⟨hI_995, hu_995, hx_995⟩ := hw_995
            have es980_995 : en_995 0 = .inr (10, [.ref (ad 1), .ref (ad 12), .ref (ad 70), .ref (ad 74), .ref (ad 75), .ref (ad 76), .int (nI wc_980), .int lf_980]) := (hu_995 0 (by omega)).trans es980_993
            have es981_995 : en_995 1 = .inr (7, [.ref (ad 2), .ref (ad 3), .ref (ad 10), .ref (ad 11), .int (nI cnt), .int (nI d), .int (nI mm)]) := (hu_995 1 (by omega)).trans es981_993
            have es985_995 : en_995 (107 + 2 * K9) = .inr (3, [.ref (ad (108 + 2 * K9)), .int (nI sc_985), .int sl_985, .int (nI sr_985)]) := (hu_995 (107 + 2 * K9) (by omega)).trans es985_993
            have es986_995 : en_995 (108 + 2 * K9) = .inl (cy 0, 40, .inl f_986) := (hu_995 (108 + 2 * K9) (by omega)).trans es986_993
            have es987_995 : en_995 75 = .inl (cy 6, 4, .inr (.inr (.inr (.inr (rfB ad 4 107 2))))) := (hu_995 75 (by omega)).trans es987_993
            have hf_995 : ∀ c, (c < n ∧ (c = 0 ∨ c = 3 ∨ c = 10 ∨ c = 11 ∨ 71 ≤ c)) → en_995 c = en c := fun c hc => (hu_995 c (by omega)).trans (hf_993 c hc)
            refine lv_aload_n hx hb dX11_addTable_105 rfl (lv_at hl 4 rfl) ?_
            refine hp_get hx hb hts ix11 hown hK hh (q := 0) rfl (List.mem_range.mpr (by omega)) es980_995 rfl 0 (by decide) (hts _ tw_245) (fun _ h9 => h9) rfl dX11_addTable_106 ?_
            refine lv_aload hx hb dX11_addTable_109 (lv_at hl 1 rfl) ?_
            refine lv_iload_n hx hb dX11_addTable_111 rfl (lv_at hl 7 rfl) ?_
            refine hv_calli (va_runV (As := [.ref (ad (108 + 2 * K9)), .int (nI I9)]) (rest := []) ⟨hx, hb, hml, hown, hts⟩ (c_X8_add l D cy _ ad en_995 n (by omega) hI_995 K9 I9 (by omega) (by rw [show rdI (en_995 1) 4 = nI cnt from by rw [es981_995]; rfl, nI_toInt (by omega)]; omega) (fun d9 h9 h8 => by have e9 : d9 = d := n_eq (h9.symm.trans (show rdI (en_995 1) 5 = nI d from by rw [es981_995]; rfl)) (by omega) (by omega); rw [e9]; omega)) (kw_X8_add hts tw_322 ⟨by decide, by decide⟩) (preVC_of hh hK hX (List.mem_range.mpr (by omega)) es981_995 rfl) rfl rfl hl.1 rfl (lv_room (Nat.le_of_ble_eq_true rfl)) dX11_addTable_112 ⟨Nat.le_of_ble_eq_true rfl, Nat.le_of_ble_eq_true rfl⟩) hh hA (fun r_996 H locs n_996 ad_996 en_996 hw_996 hh => ?_)
            obtain ⟨hn1_996, hA_996⟩ := hw_996
            dsimp only at hn1_996 hA_996
            subst hn1_996
            have hda_996 := hA_996.1
            have hua_996 := hA_996.2.1
            obtain ⟨F1, hTX_996, cn9, dn9, hT3, hT4, hT5, hTr, hTc, hT4n, hT5n, hT6n, hFo, hFn, hRWa⟩ := TXF_add hn (TXF_keep hTX (fun c hc => (hu_995 c (by omega)).trans (hu_993 c (by omega)))) hA_996 (fun d9 h9 h8 x hx => by have e9 : d9 = d := n_eq (h9.symm.trans (show rdI (en_995 1) 5 = nI d from by rw [es981_995]; rfl)) (by omega) (by omega); rw [e9] at hx; rw [hu_995 _ (by omega), hu_993 _ (by omega)]; exact hok9 x hx)
            have hcn : cnt = cn9 := n_eq ((show rdI (en_995 1) 4 = nI cnt from by rw [es981_995]; rfl).symm.trans hT4) (by omega) (by omega)
            have hdn : d = dn9 := n_eq ((show rdI (en_995 1) 5 = nI d from by rw [es981_995]; rfl).symm.trans hT5) (by omega) (by omega)
            subst hcn
            subst hdn
            rw [hu_995 _ (by omega), hu_993 _ (by omega)] at hT6n
            have hFn9 : ∀ x, x < d * d → F1 cnt x = rdF (en (108 + 2 * K9)) (I9 + x) := fun x hx => by rw [hFn x hx, hu_995 _ (by omega), hu_993 _ (by omega)]
            have hCP_996 : CPz z cy (List.range (n + 2)) ad_996 en_996 := CPz_grow (by omega) hn (CPz_forget (CPz_keep hC (fun c hc => hu_993 c (by omega))) (fun c hc => hu_995 c (by omega)) (hx_995)) hda_996 (fun c hc => hua_996 c (by omega))
            have hl : lv_has ls 8 [(7, .int (nI j988)), (6, .ref (ad_996 (108 + 2 * K9))), (5, .int r_983), (4, .int (nI (d * d))), (0, .ref (ad_996 0)), (1, .int (nI K9)), (2, .int la), (3, .int (nI I9))] := by rw [hda_996 (108 + 2 * K9) (by omega), hda_996 0 (by omega)]; exact hl
            have b0_996 : en 0 = .inr (10, [.ref (ad_996 1), .ref (ad_996 12), .ref (ad_996 70), .ref (ad_996 74), .ref (ad_996 75), .ref (ad_996 76), .int (nI wc_980), .int lf_980]) := by rw [hda_996 1 (by omega), hda_996 12 (by omega), hda_996 70 (by omega), hda_996 74 (by omega), hda_996 75 (by omega), hda_996 76 (by omega)]; exact es980
            have b1_996 : en 1 = .inr (7, [.ref (ad_996 2), .ref (ad_996 3), .ref (ad_996 10), .ref (ad_996 11), .int (nI cnt), .int (nI d), .int (nI mm)]) := by rw [hda_996 2 (by omega), hda_996 3 (by omega), hda_996 10 (by omega), hda_996 11 (by omega)]; exact es981
            have b1072K9_996 : en (107 + 2 * K9) = .inr (3, [.ref (ad_996 (108 + 2 * K9)), .int (nI sc_985), .int sl_985, .int (nI sr_985)]) := by rw [hda_996 (108 + 2 * K9) (by omega)]; exact es985
            have b1082K9_996 : en (108 + 2 * K9) = .inl (cy 0, 40, .inl f_986) := by exact es986
            have b12_996 : en 12 = .inr (2, [.ref (ad_996 1), .ref (ad_996 13), .ref (ad_996 14), .ref (ad_996 24), .ref (ad_996 33), .int (nI hw_992)]) := by rw [hda_996 1 (by omega), hda_996 13 (by omega), hda_996 14 (by omega), hda_996 24 (by omega), hda_996 33 (by omega)]; exact es992
            have hf_996 : ∀ c, (c < n ∧ (c = 0 ∨ c = 3 ∨ c = 10 ∨ c = 11 ∨ 71 ≤ c)) → en_996 c = en c := fun c hc => (hua_996 c (by omega)).trans (hf_995 c hc)
            exact hv_iret hx hb hr (rfl) hlocks hh (⟨by show n ≤ n + 2; omega, Nat.le_refl _, (fun i hi => by dsimp only; rw [hda_996 i (by omega)]), hf_996, hA_996.2.2.1, ⟨F1, hTX_996, ⟨d, cnt, hd2, hd3, hcnt, (by rw [es981]; rfl), (by rw [es981]; rfl), hT5n, hT6n, Or.inr ⟨hw_983.symm.trans c_984, K9, I9, rfl, rfl, by omega, by omega, Or.inr (Or.inr ⟨hok9, hTc, hTr, hT4n, hFo, hFn9⟩)⟩⟩, fun q => hRWa (RW_keep q ((hu_995 1 (by omega)).trans (hu_993 1 (by omega))) (fun t ht9 => (hu_995 _ (by omega)).trans (hu_993 _ (by omega)))), fun _ => LNX_0 (by dsimp only; rw [hua_996 12 (by omega), hu_995 12 (by omega)]; exact hx_993.1) (fun m hm => by dsimp only; rw [hua_996 (34 + 4 * m) (by omega), hu_995 (34 + 4 * m) (by omega)]; exact hx_993.2 m hm)⟩, hCP_996⟩) dX11_addTable_115
          · have n_991 : 6 ≤ cnt := n_nlt (a := cnt) (b := 6) c_991 (by omega) (by decide)
            refine lv_bipush (v := (-4)) hx hb dX11_addTable_88 (by decide) ?_
            refine W.widen (k := 2) (n := 12) (by decide) (by decide) ?_
            exact hv_iret hx hb hr (rfl) hlocks hh (⟨Nat.le_refl _, by show n ≤ n + 2; omega, fun i hi => rfl, hf0, hI, ⟨F, hTX, ⟨d, cnt, hd2, hd3, hcnt, (by rw [es981]; rfl), (by rw [es981]; rfl), (by dsimp only; rw [es981]; rfl), rfl, Or.inr ⟨hw_983.symm.trans c_984, K9, I9, rfl, rfl, by omega, by omega, Or.inr (Or.inl ⟨hok9, by omega, rfl, rfl, (by dsimp only; rw [es981]; rfl)⟩)⟩⟩, fun q => q, fun q => q⟩, hC⟩) dX11_addTable_90
        · have n_989 : j988 < (d * d) := n_nle (a := (d * d)) (b := j988) c_989 (by omega) (by omega)
          refine lv_aload hx hb dX11_addTable_50 (lv_at hl 1 rfl) ?_
          refine lv_iload_n hx hb dX11_addTable_52 rfl (lv_at hl 7 rfl) ?_
          refine lv_iload hx hb dX11_addTable_53 (lv_at hl 0 rfl) ?_
          refine lv_iadd hx hb dX11_addTable_55 ?_
          rw [nI_add I9 j988]
          refine hp_iald hx hb hK hh (q := (108 + 2 * K9)) rfl (List.mem_range.mpr (by omega)) es986 (vp_in_nI (n := (I9 + j988)) (by omega) (by decide)) dX11_addTable_56 ?_
          rw [nI_clamp (n := (I9 + j988)) (by omega)]
          refine lv_bipush (v := (-9)) hx hb dX11_addTable_57 (by decide) ?_
          refine lv_bipush (v := 9) hx hb dX11_addTable_59 (by decide) ?_
          refine hp_callRi (va_runS (As := [.int (f_986 (I9 + j988)), .int (-9), .int 9]) (rest := []) ⟨hx, hb, hml, hown, hts⟩ (c_X11_isWithin l D cy _ (List.range n) ad en (f_986 (I9 + j988)) (-9) 9) (kw_X11_isWithin hts tw_274 ⟨by decide, by decide⟩) (preS_of hh hK) rfl rfl hl.1 rfl (lv_room (Nat.le_of_ble_eq_true rfl)) dX11_addTable_61 ⟨Nat.le_of_ble_eq_true rfl, Nat.le_of_ble_eq_true rfl⟩) hh hA (fun r_997 H locs hw_997 hh => ?_)
          rcases Decidable.em (wi (f_986 (I9 + j988)) (-9) 9) with hp_997 | hp_997
          · obtain rfl : r_997 = 1 := Eq.trans hw_997 (if_pos hp_997)
            refine lv_if_ne (tgt := 70) hx hb dX11_addTable_64 (by decide) (fun _ => ?_) (fun c_0 => absurd c_0 (by decide))
            refine lv_iinc (v := (nI (j988 + 1))) (lv' := [(7, .int (nI (j988 + 1))), (6, .ref (ad (108 + 2 * K9))), (5, .int r_983), (4, .int (nI (d * d))), (0, .ref (ad 0)), (1, .int (nI K9)), (2, .int la), (3, .int (nI I9))]) hx hb dX11_addTable_70 hl (k := 0) rfl (nI_1 _) (by decide) rfl (fun ls hl => ?_)
            refine lv_goto (tgt := 43) hx hb dX11_addTable_73 (by decide) ?_
            exact ih_988 ((j988 + 1))  ls H locs (by omega) (by omega) (by omega) (fun x hx => (Nat.lt_or_ge x j988).elim (fun h => i0_988 x h) (fun h => by have e : x = j988 := (by omega); rw [e]; exact hp_997)) (lv_sub hl [0, 1, 2, 3, 4, 5, 6, 7] rfl) hh
          · obtain rfl : r_997 = 0 := Eq.trans hw_997 (if_neg hp_997)
            refine lv_if_ne (tgt := 70) hx hb dX11_addTable_64 (by decide) (fun c_0 => absurd c_0 (by decide)) (fun _ => ?_)
            refine lv_bipush (v := (-2)) hx hb dX11_addTable_67 (by decide) ?_
            refine W.widen (k := 2) (n := 12) (by decide) (by decide) ?_
            exact hv_iret hx hb hr (rfl) hlocks hh (⟨Nat.le_refl _, by show n ≤ n + 2; omega, fun i hi => rfl, hf0, hI, ⟨F, hTX, ⟨d, cnt, hd2, hd3, hcnt, (by rw [es981]; rfl), (by rw [es981]; rfl), (by dsimp only; rw [es981]; rfl), rfl, Or.inr ⟨hw_983.symm.trans c_984, K9, I9, rfl, rfl, by omega, by omega, Or.inl ⟨fun q => hp_997 (by have h9 := q j988 (by omega); rw [show rdF (en (108 + 2 * K9)) = f_986 from by rw [es986]; rfl] at h9; exact h9), rfl, rfl, (by dsimp only; rw [es981]; rfl)⟩⟩⟩, fun q => q, fun q => q⟩, hC⟩) dX11_addTable_69
    exact loop_988 ((d * d) + 1) 0  ls _ _ (Nat.le_refl _) (by omega) (by omega) (fun x h => absurd h (Nat.not_lt_zero x)) (lv_sub hl [0, 1, 2, 3, 4, 5, 6, 7] rfl) hh
  · refine lv_iload hx hb dX11_addTable_26 (lv_at hl 0 rfl) ?_
    refine W.widen (k := 2) (n := 12) (by decide) (by decide) ?_
    exact hv_iret hx hb hr (rfl) hlocks hh (⟨Nat.le_refl _, by show n ≤ n + 2; omega, fun i hi => rfl, hf0, hI, ⟨F, hTX, ⟨d, cnt, hd2, hd3, hcnt, (by rw [es981]; rfl), (by rw [es981]; rfl), (by dsimp only; rw [es981]; rfl), rfl, Or.inl ⟨fun q => c_984 (hw_983.trans q), hw_983, rfl, (by dsimp only; rw [es981]; rfl)⟩⟩, fun q => q, fun q => q⟩, hC⟩) dX11_addTable_28
theorem kw_X11_addTable {R : Room} {s : State} {args : Array Value} {own : String} {idx : Nat} (hts : ∀ w ∈ TB, w.before args s = true) (hl : Cond.methodLink own idx yX11_addTable ∈ TB) (hR : 6 + 1 ≤ R.frames ∧ 8 + (8 + 11) + 40 * 6 ≤ R.locals) : CallW R s args own RX11 idx yX11_addTable cX11_addTable 8 (some .int) (Cond.code yX11_addTable cX11_addTable 8 (some .int) :: TB) (rmC 6 2 12) 2 12 3 := cwV 3 hts (TB_V hl tw_295 ts_1 tw_1 tw_296) rfl rfl rfl (by decide +kernel) hR
set_option maxHeartbeats 8000000 in
set_option maxRecDepth 100000 in
/-- table -/
theorem c_X11_table (l : Launch) (D : va_G) (cy : Nat → ClassId) (sz : Nat) (ad : Nat → Nat) (en : Nat → va_E) (n : Nat) (hn : 115 ≤ n) (hI : SX cy (List.range n) ad en) (kz la iz : Int32) (z : Nat) (F : Nat → Nat → Int32) (hTX : TXF cy (List.range n) ad en F) (hC : CPz z cy (List.range n) ad en)  : Met l yX11_table (Cond.code yX11_table cX11_table 4 (some .int) :: TB) (rmC 7 2 12) (va_Pc [.ref (ad 0), .int kz, .int la, .int iz] (PreC D cy n ad en sz)) (va_Qi (S := Nat × (Nat → Nat) × (Nat → va_E)) (fun r u => n ≤ u.1 ∧ u.1 ≤ n + 2 ∧ (∀ i, i < n → u.2.1 i = ad i) ∧ (∀ c, (c < n ∧ (c = 3 ∨ c = 10 ∨ c = 11 ∨ 71 ≤ c)) → u.2.2 c = en c) ∧ SX cy (List.range u.1) u.2.1 u.2.2 ∧ (∃ F1 : Nat → Nat → Int32, TXF cy (List.range u.1) u.2.1 u.2.2 F1 ∧ XTB F F1 kz la iz r en u.2.2 ∧ (RW F en → RW F1 u.2.2) ∧ (LNX en → LNX u.2.2)) ∧ CPz z cy (List.range u.1) u.2.1 u.2.2 ∧ rdI (u.2.2 0) 6 = rdI (en 0) 6) (PostV D (Af (List.range n) ad sz)) (Af (List.range n) ad sz)) 2 12 (Af (List.range n) ad sz) := by
  refine Met.ofW (cc := cX11_table) (maxL := 4) (ret := (some .int)) (by decide) rfl ?_
  intro p e s m args below meth c s₁ B hml hv
  obtain ⟨rfl, ⟨hsz, hP, hK, hD0⟩, hX⟩ := hv
  have hx := B.exec
  have hb := B.bytes
  have hr := B.returns
  have hts : ∀ w ∈ TB, w.before _ s = true := fun w h => atoms_spec (ws := _ :: TB) B.pre w (List.mem_cons_of_mem _ h)
  have hown : s.vm.findClass RX11 = some m.cls := findClass_of_methodNamed B.named
  have hlocks := B.notSynchronized
  have hh : Hp D (Af (List.range n) ad sz) (Af (List.range n) ad sz) s.heap s.heap [] (List.range n) ad en := ⟨hP, Af_self hD0, va_S.rf⟩
  have hA : ∀ q : Nat, s.heap.size ≤ q → (Af (List.range n) ad sz) q := fun q h => Or.inr (by rw [hsz] at h; exact h)
  generalize (Af (List.range n) ad sz) = A at hh hA ⊢
  have hl := lv_entry ([.ref (ad 0), .int kz, .int la, .int iz]) (n := 4) (Nat.le_of_ble_eq_true rfl)
  rw [lg_entry_eq]
  generalize (lg_sl ([.ref (ad 0), .int kz, .int la, .int iz]) ++ List.replicate (4 - (lg_sl ([.ref (ad 0), .int kz, .int la, .int iz])).length) Slot.unset).toArray = ls at hl ⊢
  have hl : lv_has ls 4 [(0, .ref (ad 0)), (1, .int kz), (2, .int la), (3, .int iz)] := hl
  have hf0 : ∀ c, (c < n ∧ (c = 3 ∨ c = 10 ∨ c = 11 ∨ 71 ≤ c)) → en c = en c := fun _ _ => rfl
  obtain ⟨wc_998, lf_998, es998, p0_998⟩ := get_A hI
  refine lv_aload_n hx hb dX11_table_0 rfl (lv_at hl 0 rfl) ?_
  refine lv_aload_n hx hb dX11_table_1 rfl (lv_at hl 0 rfl) ?_
  refine lv_iload_n hx hb dX11_table_2 rfl (lv_at hl 1 rfl) ?_
  refine lv_iload_n hx hb dX11_table_3 rfl (lv_at hl 2 rfl) ?_
  refine lv_iload_n hx hb dX11_table_4 rfl (lv_at hl 3 rfl) ?_
  refine hv_calli (va_runV (As := [.int kz, .int la, .int iz]) (rest := [.ref (ad 0)]) ⟨hx, hb, hml, hown, hts⟩ (c_X11_addTable l D cy _ ad en n (by omega) hI kz la iz z F hTX hC) (kw_X11_addTable hts tw_293 ⟨by decide, by decide⟩) (preVC_of hh hK hX (List.mem_range.mpr (by omega)) es998 rfl) rfl rfl hl.1 rfl (lv_room (Nat.le_of_ble_eq_true rfl)) dX11_table_5 ⟨Nat.le_of_ble_eq_true rfl, Nat.le_of_ble_eq_true rfl⟩) hh hA (fun r_999 H locs n_999 ad_999 en_999 hw_999 hh => ?_)
  obtain ⟨hnl_999, hnh_999, hda_999, hue_999, hI_999, ⟨F1, hTX_999, hXT_999, hRW_999, hLA_999⟩, hCP_999⟩ := hw_999
  dsimp only at hnl_999 hnh_999 hda_999 hue_999 hI_999 hTX_999 hXT_999 hRW_999 hLA_999 hCP_999
  refine W.eq (g2 := F0 m 8 ls [.int r_999, .ref (ad_999 0)]) (by rw [hda_999 0 (by omega)]) ?_
  have hl : lv_has ls 4 [(0, .ref (ad_999 0)), (1, .int kz), (2, .int la), (3, .int iz)] := by rw [hda_999 0 (by omega)]; exact hl
  have hf_999 : ∀ c, (c < n ∧ (c = 3 ∨ c = 10 ∨ c = 11 ∨ 71 ≤ c)) → en_999 c = en c := fun c hc => (hue_999 c (by omega)).trans (hf0 c hc)
  obtain ⟨wc_1000, lf_1000, es1000, p0_1000⟩ := get_A hI_999
  refine hp_callMi (va_runV (As := [.int r_999]) (rest := []) ⟨hx, hb, hml, hown, hts⟩ (c_X11_settle l D cy _ (List.range n_999) ad_999 en_999 hI_999 r_999) (kw_X11_settle hts tw_404 ⟨by decide, by decide⟩) (preV_of hh hK (List.mem_range.mpr (by omega)) es1000 rfl) rfl rfl hl.1 rfl (lv_room (Nat.le_of_ble_eq_true rfl)) dX11_table_8 ⟨Nat.le_of_ble_eq_true rfl, Nat.le_of_ble_eq_true rfl⟩) hh hA (fun r_1001 H locs en_1001 hw_1001 hh => ?_)
  obtain ⟨hI_1001, hu_1001, hr_1001, hwc_1001⟩ := hw_1001
  have hf_1001 : ∀ c, (c < n ∧ (c = 3 ∨ c = 10 ∨ c = 11 ∨ 71 ≤ c)) → en_1001 c = en c := fun c hc => (hu_1001 c (by omega)).trans (hf_999 c hc)
  rw [hr_1001]
  exact hv_iret hx hb hr (rfl) hlocks hh (⟨hnl_999, hnh_999, (fun i hi => by dsimp only; rw [hda_999 i (by omega)]), hf_1001, hI_1001, ⟨F1, TXF_keep hTX_999 (fun c hc => hu_1001 c (by omega)), XTB_s hXT_999 (hu_1001 1 (by omega)) rfl, fun q => RW_keep (hRW_999 q) (hu_1001 1 (by omega)) (fun t ht9 => hu_1001 _ (by omega)), fun q => LNX_f (hLA_999 q) (fun c h1 h2 h3 => hu_1001 c (by omega))⟩, CPz_keep hCP_999 (fun c hc => hu_1001 c (by omega)), hwc_1001.trans (by rw [hue_999 0 (by omega)])⟩) dX11_table_11
theorem kw_X11_table {R : Room} {s : State} {args : Array Value} {own : String} {idx : Nat} (hts : ∀ w ∈ TB, w.before args s = true) (hl : Cond.methodLink own idx yX11_table ∈ TB) (hR : 7 + 1 ≤ R.frames ∧ 8 + (4 + 11) + 40 * 7 ≤ R.locals) : CallW R s args own RX11 idx yX11_table cX11_table 4 (some .int) (Cond.code yX11_table cX11_table 4 (some .int) :: TB) (rmC 7 2 12) 2 12 3 := cwV 3 hts (TB_V hl tw_290 tw_291 tw_1 tw_292) rfl rfl rfl (by decide +kernel) hR
