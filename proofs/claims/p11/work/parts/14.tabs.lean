set_option maxHeartbeats 4000000 in
set_option maxRecDepth 100000 in
/-- count -/
theorem c_X8_count (l : Launch) (D : va_G) (cy : Nat → ClassId) (sz : Nat) (cs : List Nat) (ad : Nat → Nat) (en : Nat → va_E) (hm1 : 1 ∈ cs) (cnt d mm : Nat) (hcnt : cnt ≤ 6) (hd2 : 2 ≤ d) (hd3 : d ≤ 3) (hmm : mm ≤ 97) (e1 : en 1 = .inr (7, [.ref (ad 2), .ref (ad 3), .ref (ad 10), .ref (ad 11), .int (nI cnt), .int (nI d), .int (nI mm)]))  : Met l yX8_count (Cond.code yX8_count cX8_count 1 (some .int) :: TB) (rmN 0) (va_Pc [.ref (ad 1)] (Pre D cy cs ad en sz)) (va_Qi (S := Unit) (fun r _ => r = nI cnt) (fun _ _ => True) (Nf sz)) 0 0 (Nf sz) := by
  refine Met.ofW (cc := cX8_count) (maxL := 1) (ret := (some .int)) (by decide) rfl ?_
  intro p e s m args below meth c s₁ B hml hv
  obtain ⟨rfl, hsz, hP, hK, hD0⟩ := hv
  have hx := B.exec
  have hb := B.bytes
  have hr := B.returns
  have hts : ∀ w ∈ TB, w.before _ s = true := fun w h => atoms_spec (ws := _ :: TB) B.pre w (List.mem_cons_of_mem _ h)
  have hown : s.vm.findClass RX8 = some m.cls := findClass_of_methodNamed B.named
  have hlocks := B.notSynchronized
  have hh : Hp D (Nf sz) (fun _ => True) s.heap s.heap [] cs ad en := ⟨hP, hD0, va_S.rf⟩
  have hA : ∀ q : Nat, s.heap.size ≤ q → Nf sz q := fun q h => by rw [hsz] at h; exact h
  have hl := lv_entry ([.ref (ad 1)]) (n := 1) (Nat.le_of_ble_eq_true rfl)
  rw [lg_entry_eq]
  generalize (lg_sl ([.ref (ad 1)]) ++ List.replicate (1 - (lg_sl ([.ref (ad 1)])).length) Slot.unset).toArray = ls at hl ⊢
  have hl : lv_has ls 1 [(0, .ref (ad 1))] := hl
  refine lv_aload_n hx hb dX8_count_0 rfl (lv_at hl 0 rfl) ?_
  refine hp_get hx hb hts ix8 hown hK hh (q := 1) rfl hm1 e1 rfl 4 (by decide) (hts _ tw_43) (fun _ h9 => h9) rfl dX8_count_1 ?_
  exact hp_iretR hx hb hr rfl hlocks hsz hh (rfl) dX8_count_4
theorem kw_X8_count {R : Room} {s : State} {args : Array Value} {own : String} {idx : Nat} (hts : ∀ w ∈ TB, w.before args s = true) (hl : Cond.methodLink own idx yX8_count ∈ TB) (hR : 0 + 1 ≤ R.frames ∧ 8 + (1 + 11) + 40 * 0 ≤ R.locals) : CallW R s args own RX8 idx yX8_count cX8_count 1 (some .int) (Cond.code yX8_count cX8_count 1 (some .int) :: TB) (rmN 0) 0 0 0 := cwV 0 hts (TB_V hl tw_319 tw_320 tw_2 tw_321) rfl rfl rfl (by decide +kernel) hR
set_option maxHeartbeats 4000000 in
set_option maxRecDepth 100000 in
/-- dimension -/
theorem c_X8_dimension (l : Launch) (D : va_G) (cy : Nat → ClassId) (sz : Nat) (cs : List Nat) (ad : Nat → Nat) (en : Nat → va_E) (hm1 : 1 ∈ cs) (cnt d mm : Nat) (hcnt : cnt ≤ 6) (hd2 : 2 ≤ d) (hd3 : d ≤ 3) (hmm : mm ≤ 97) (e1 : en 1 = .inr (7, [.ref (ad 2), .ref (ad 3), .ref (ad 10), .ref (ad 11), .int (nI cnt), .int (nI d), .int (nI mm)]))  : Met l yX8_dimension (Cond.code yX8_dimension cX8_dimension 1 (some .int) :: TB) (rmN 0) (va_Pc [.ref (ad 1)] (Pre D cy cs ad en sz)) (va_Qi (S := Unit) (fun r _ => r = nI d) (fun _ _ => True) (Nf sz)) 0 0 (Nf sz) := by
  refine Met.ofW (cc := cX8_dimension) (maxL := 1) (ret := (some .int)) (by decide) rfl ?_
  intro p e s m args below meth c s₁ B hml hv
  obtain ⟨rfl, hsz, hP, hK, hD0⟩ := hv
  have hx := B.exec
  have hb := B.bytes
  have hr := B.returns
  have hts : ∀ w ∈ TB, w.before _ s = true := fun w h => atoms_spec (ws := _ :: TB) B.pre w (List.mem_cons_of_mem _ h)
  have hown : s.vm.findClass RX8 = some m.cls := findClass_of_methodNamed B.named
  have hlocks := B.notSynchronized
  have hh : Hp D (Nf sz) (fun _ => True) s.heap s.heap [] cs ad en := ⟨hP, hD0, va_S.rf⟩
  have hA : ∀ q : Nat, s.heap.size ≤ q → Nf sz q := fun q h => by rw [hsz] at h; exact h
  have hl := lv_entry ([.ref (ad 1)]) (n := 1) (Nat.le_of_ble_eq_true rfl)
  rw [lg_entry_eq]
  generalize (lg_sl ([.ref (ad 1)]) ++ List.replicate (1 - (lg_sl ([.ref (ad 1)])).length) Slot.unset).toArray = ls at hl ⊢
  have hl : lv_has ls 1 [(0, .ref (ad 1))] := hl
  refine lv_aload_n hx hb dX8_dimension_0 rfl (lv_at hl 0 rfl) ?_
  refine hp_get hx hb hts ix8 hown hK hh (q := 1) rfl hm1 e1 rfl 5 (by decide) (hts _ tw_44) (fun _ h9 => h9) rfl dX8_dimension_1 ?_
  exact hp_iretR hx hb hr rfl hlocks hsz hh (rfl) dX8_dimension_4
theorem kw_X8_dimension {R : Room} {s : State} {args : Array Value} {own : String} {idx : Nat} (hts : ∀ w ∈ TB, w.before args s = true) (hl : Cond.methodLink own idx yX8_dimension ∈ TB) (hR : 0 + 1 ≤ R.frames ∧ 8 + (1 + 11) + 40 * 0 ≤ R.locals) : CallW R s args own RX8 idx yX8_dimension cX8_dimension 1 (some .int) (Cond.code yX8_dimension cX8_dimension 1 (some .int) :: TB) (rmN 0) 0 0 0 := cwV 0 hts (TB_V hl tw_571 tw_572 tw_2 tw_573) rfl rfl rfl (by decide +kernel) hR
set_option maxHeartbeats 4000000 in
set_option maxRecDepth 100000 in
/-- modulus -/
theorem c_X8_modulus (l : Launch) (D : va_G) (cy : Nat → ClassId) (sz : Nat) (cs : List Nat) (ad : Nat → Nat) (en : Nat → va_E) (hm1 : 1 ∈ cs) (cnt d mm : Nat) (hcnt : cnt ≤ 6) (hd2 : 2 ≤ d) (hd3 : d ≤ 3) (hmm : mm ≤ 97) (e1 : en 1 = .inr (7, [.ref (ad 2), .ref (ad 3), .ref (ad 10), .ref (ad 11), .int (nI cnt), .int (nI d), .int (nI mm)]))  : Met l yX8_modulus (Cond.code yX8_modulus cX8_modulus 1 (some .int) :: TB) (rmN 0) (va_Pc [.ref (ad 1)] (Pre D cy cs ad en sz)) (va_Qi (S := Unit) (fun r _ => r = nI mm) (fun _ _ => True) (Nf sz)) 0 0 (Nf sz) := by
  refine Met.ofW (cc := cX8_modulus) (maxL := 1) (ret := (some .int)) (by decide) rfl ?_
  intro p e s m args below meth c s₁ B hml hv
  obtain ⟨rfl, hsz, hP, hK, hD0⟩ := hv
  have hx := B.exec
  have hb := B.bytes
  have hr := B.returns
  have hts : ∀ w ∈ TB, w.before _ s = true := fun w h => atoms_spec (ws := _ :: TB) B.pre w (List.mem_cons_of_mem _ h)
  have hown : s.vm.findClass RX8 = some m.cls := findClass_of_methodNamed B.named
  have hlocks := B.notSynchronized
  have hh : Hp D (Nf sz) (fun _ => True) s.heap s.heap [] cs ad en := ⟨hP, hD0, va_S.rf⟩
  have hA : ∀ q : Nat, s.heap.size ≤ q → Nf sz q := fun q h => by rw [hsz] at h; exact h
  have hl := lv_entry ([.ref (ad 1)]) (n := 1) (Nat.le_of_ble_eq_true rfl)
  rw [lg_entry_eq]
  generalize (lg_sl ([.ref (ad 1)]) ++ List.replicate (1 - (lg_sl ([.ref (ad 1)])).length) Slot.unset).toArray = ls at hl ⊢
  have hl : lv_has ls 1 [(0, .ref (ad 1))] := hl
  refine lv_aload_n hx hb dX8_modulus_0 rfl (lv_at hl 0 rfl) ?_
  refine hp_get hx hb hts ix8 hown hK hh (q := 1) rfl hm1 e1 rfl 6 (by decide) (hts _ tw_45) (fun _ h9 => h9) rfl dX8_modulus_1 ?_
  exact hp_iretR hx hb hr rfl hlocks hsz hh (rfl) dX8_modulus_4
theorem kw_X8_modulus {R : Room} {s : State} {args : Array Value} {own : String} {idx : Nat} (hts : ∀ w ∈ TB, w.before args s = true) (hl : Cond.methodLink own idx yX8_modulus ∈ TB) (hR : 0 + 1 ≤ R.frames ∧ 8 + (1 + 11) + 40 * 0 ≤ R.locals) : CallW R s args own RX8 idx yX8_modulus cX8_modulus 1 (some .int) (Cond.code yX8_modulus cX8_modulus 1 (some .int) :: TB) (rmN 0) 0 0 0 := cwV 0 hts (TB_V hl tw_562 tw_563 tw_2 tw_564) rfl rfl rfl (by decide +kernel) hR
set_option maxHeartbeats 4000000 in
set_option maxRecDepth 100000 in
/-- cellCount -/
theorem c_X8_cellCount (l : Launch) (D : va_G) (cy : Nat → ClassId) (sz : Nat) (cs : List Nat) (ad : Nat → Nat) (en : Nat → va_E) (hm1 : 1 ∈ cs) (cnt d mm : Nat) (hcnt : cnt ≤ 6) (hd2 : 2 ≤ d) (hd3 : d ≤ 3) (hmm : mm ≤ 97) (e1 : en 1 = .inr (7, [.ref (ad 2), .ref (ad 3), .ref (ad 10), .ref (ad 11), .int (nI cnt), .int (nI d), .int (nI mm)]))  : Met l yX8_cellCount (Cond.code yX8_cellCount cX8_cellCount 1 (some .int) :: TB) (rmN 0) (va_Pc [.ref (ad 1)] (Pre D cy cs ad en sz)) (va_Qi (S := Unit) (fun r _ => r = nI (d * d)) (fun _ _ => True) (Nf sz)) 0 0 (Nf sz) := by
  refine Met.ofW (cc := cX8_cellCount) (maxL := 1) (ret := (some .int)) (by decide) rfl ?_
  intro p e s m args below meth c s₁ B hml hv
  obtain ⟨rfl, hsz, hP, hK, hD0⟩ := hv
  have hx := B.exec
  have hb := B.bytes
  have hr := B.returns
  have hts : ∀ w ∈ TB, w.before _ s = true := fun w h => atoms_spec (ws := _ :: TB) B.pre w (List.mem_cons_of_mem _ h)
  have hown : s.vm.findClass RX8 = some m.cls := findClass_of_methodNamed B.named
  have hlocks := B.notSynchronized
  have hh : Hp D (Nf sz) (fun _ => True) s.heap s.heap [] cs ad en := ⟨hP, hD0, va_S.rf⟩
  have hA : ∀ q : Nat, s.heap.size ≤ q → Nf sz q := fun q h => by rw [hsz] at h; exact h
  have hl := lv_entry ([.ref (ad 1)]) (n := 1) (Nat.le_of_ble_eq_true rfl)
  rw [lg_entry_eq]
  generalize (lg_sl ([.ref (ad 1)]) ++ List.replicate (1 - (lg_sl ([.ref (ad 1)])).length) Slot.unset).toArray = ls at hl ⊢
  have hl : lv_has ls 1 [(0, .ref (ad 1))] := hl
  refine lv_aload_n hx hb dX8_cellCount_0 rfl (lv_at hl 0 rfl) ?_
  refine hp_get hx hb hts ix8 hown hK hh (q := 1) rfl hm1 e1 rfl 5 (by decide) (hts _ tw_44) (fun _ h9 => h9) rfl dX8_cellCount_1 ?_
  refine lv_aload_n hx hb dX8_cellCount_4 rfl (lv_at hl 0 rfl) ?_
  refine hp_get hx hb hts ix8 hown hK hh (q := 1) rfl hm1 e1 rfl 5 (by decide) (hts _ tw_44) (fun _ h9 => h9) rfl dX8_cellCount_5 ?_
  refine lv_imul hx hb dX8_cellCount_8 ?_
  rw [pk_mul d d]
  exact hp_iretR hx hb hr rfl hlocks hsz hh (rfl) dX8_cellCount_9
theorem kw_X8_cellCount {R : Room} {s : State} {args : Array Value} {own : String} {idx : Nat} (hts : ∀ w ∈ TB, w.before args s = true) (hl : Cond.methodLink own idx yX8_cellCount ∈ TB) (hR : 0 + 1 ≤ R.frames ∧ 8 + (1 + 11) + 40 * 0 ≤ R.locals) : CallW R s args own RX8 idx yX8_cellCount cX8_cellCount 1 (some .int) (Cond.code yX8_cellCount cX8_cellCount 1 (some .int) :: TB) (rmN 0) 0 0 0 := cwV 0 hts (TB_V hl tw_298 tw_299 tw_2 tw_300) rfl rfl rfl (by decide +kernel) hR
set_option maxHeartbeats 4000000 in
set_option maxRecDepth 100000 in
/-- mayFollow -/
theorem c_X8_mayFollow (l : Launch) (D : va_G) (cy : Nat → ClassId) (sz : Nat) (cs : List Nat) (ad : Nat → Nat) (en : Nat → va_E) (hm1 : 1 ∈ cs) (cnt d mm : Nat) (hcnt : cnt ≤ 6) (hd2 : 2 ≤ d) (hd3 : d ≤ 3) (hmm : mm ≤ 97) (hm10 : 10 ∈ cs) (f10 : Nat → Int32) (hb10 : ∀ i, i < 36 → (f10 i = 0 ∨ f10 i = 1)) (a b : Nat) (ha : a < 6) (hb6 : b < 6) (e1 : en 1 = .inr (7, [.ref (ad 2), .ref (ad 3), .ref (ad 10), .ref (ad 11), .int (nI cnt), .int (nI d), .int (nI mm)])) (e10 : en 10 = .inl (cy 2, 36, .inl f10))  : Met l yX8_mayFollow (Cond.code yX8_mayFollow cX8_mayFollow 3 (some .boolean) :: TB) (rmN 0) (va_Pc [.ref (ad 1), .int (nI a), .int (nI b)] (Pre D cy cs ad en sz)) (va_Qi (S := Unit) (fun r _ => r = f10 (a * 6 + b)) (fun _ _ => True) (Nf sz)) 0 0 (Nf sz) := by
  refine Met.ofW (cc := cX8_mayFollow) (maxL := 3) (ret := (some .boolean)) (by decide) rfl ?_
  intro p e s m args below meth c s₁ B hml hv
  obtain ⟨rfl, hsz, hP, hK, hD0⟩ := hv
  have hx := B.exec
  have hb := B.bytes
  have hr := B.returns
  have hts : ∀ w ∈ TB, w.before _ s = true := fun w h => atoms_spec (ws := _ :: TB) B.pre w (List.mem_cons_of_mem _ h)
  have hown : s.vm.findClass RX8 = some m.cls := findClass_of_methodNamed B.named
  have hlocks := B.notSynchronized
  have hh : Hp D (Nf sz) (fun _ => True) s.heap s.heap [] cs ad en := ⟨hP, hD0, va_S.rf⟩
  have hA : ∀ q : Nat, s.heap.size ≤ q → Nf sz q := fun q h => by rw [hsz] at h; exact h
  have hl := lv_entry ([.ref (ad 1), .int (nI a), .int (nI b)]) (n := 3) (Nat.le_of_ble_eq_true rfl)
  rw [lg_entry_eq]
  generalize (lg_sl ([.ref (ad 1), .int (nI a), .int (nI b)]) ++ List.replicate (3 - (lg_sl ([.ref (ad 1), .int (nI a), .int (nI b)])).length) Slot.unset).toArray = ls at hl ⊢
  have hl : lv_has ls 3 [(0, .ref (ad 1)), (1, .int (nI a)), (2, .int (nI b))] := hl
  refine lv_aload_n hx hb dX8_mayFollow_0 rfl (lv_at hl 0 rfl) ?_
  refine hp_get hx hb hts ix8 hown hK hh (q := 1) rfl hm1 e1 rfl 2 (by decide) (hts _ tw_41) (fun _ h9 => h9) rfl dX8_mayFollow_1 ?_
  refine lv_iload_n hx hb dX8_mayFollow_4 rfl (lv_at hl 1 rfl) ?_
  refine lv_bipush (v := 6) hx hb dX8_mayFollow_5 (by decide) ?_
  refine lv_imul hx hb dX8_mayFollow_7 ?_
  rw [show (6 : Int32) = nI 6 from rfl, pk_mul a 6]
  refine lv_iload_n hx hb dX8_mayFollow_8 rfl (lv_at hl 2 rfl) ?_
  refine lv_iadd hx hb dX8_mayFollow_9 ?_
  rw [nI_add (a * 6) b]
  refine hp_zald hx hb hK hh (q := 10) rfl hm10 e10 (vp_in_nI (n := ((a * 6) + b)) (by omega) (by decide)) dX8_mayFollow_10 ?_
  rw [nI_clamp (n := ((a * 6) + b)) (by omega)]
  exact hp_iretR hx hb hr (nar_bit (hb10 _ (a6 ha hb6))) hlocks hsz hh (rfl) dX8_mayFollow_11
theorem kw_X8_mayFollow {R : Room} {s : State} {args : Array Value} {own : String} {idx : Nat} (hts : ∀ w ∈ TB, w.before args s = true) (hl : Cond.methodLink own idx yX8_mayFollow ∈ TB) (hR : 0 + 1 ≤ R.frames ∧ 8 + (3 + 11) + 40 * 0 ≤ R.locals) : CallW R s args own RX8 idx yX8_mayFollow cX8_mayFollow 3 (some .boolean) (Cond.code yX8_mayFollow cX8_mayFollow 3 (some .boolean) :: TB) (rmN 0) 0 0 2 := cwV 2 hts (TB_V hl tw_434 tw_435 tw_2 tw_436) rfl rfl rfl (by decide +kernel) hR
set_option maxHeartbeats 4000000 in
set_option maxRecDepth 100000 in
/-- cellOf -/
theorem c_X8_cellOf (l : Launch) (D : va_G) (cy : Nat → ClassId) (sz : Nat) (cs : List Nat) (ad : Nat → Nat) (en : Nat → va_E) (hm1 : 1 ∈ cs) (cnt d mm : Nat) (hcnt : cnt ≤ 6) (hd2 : 2 ≤ d) (hd3 : d ≤ 3) (hmm : mm ≤ 97) (a b : Nat) (e1 : en 1 = .inr (7, [.ref (ad 2), .ref (ad 3), .ref (ad 10), .ref (ad 11), .int (nI cnt), .int (nI d), .int (nI mm)]))  : Met l yX8_cellOf (Cond.code yX8_cellOf cX8_cellOf 3 (some .int) :: TB) (rmN 0) (va_Pc [.ref (ad 1), .int (nI a), .int (nI b)] (Pre D cy cs ad en sz)) (va_Qi (S := Unit) (fun r _ => r = nI (a * d + b)) (fun _ _ => True) (Nf sz)) 0 0 (Nf sz) := by
  refine Met.ofW (cc := cX8_cellOf) (maxL := 3) (ret := (some .int)) (by decide) rfl ?_
  intro p e s m args below meth c s₁ B hml hv
  obtain ⟨rfl, hsz, hP, hK, hD0⟩ := hv
  have hx := B.exec
  have hb := B.bytes
  have hr := B.returns
  have hts : ∀ w ∈ TB, w.before _ s = true := fun w h => atoms_spec (ws := _ :: TB) B.pre w (List.mem_cons_of_mem _ h)
  have hown : s.vm.findClass RX8 = some m.cls := findClass_of_methodNamed B.named
  have hlocks := B.notSynchronized
  have hh : Hp D (Nf sz) (fun _ => True) s.heap s.heap [] cs ad en := ⟨hP, hD0, va_S.rf⟩
  have hA : ∀ q : Nat, s.heap.size ≤ q → Nf sz q := fun q h => by rw [hsz] at h; exact h
  have hl := lv_entry ([.ref (ad 1), .int (nI a), .int (nI b)]) (n := 3) (Nat.le_of_ble_eq_true rfl)
  rw [lg_entry_eq]
  generalize (lg_sl ([.ref (ad 1), .int (nI a), .int (nI b)]) ++ List.replicate (3 - (lg_sl ([.ref (ad 1), .int (nI a), .int (nI b)])).length) Slot.unset).toArray = ls at hl ⊢
  have hl : lv_has ls 3 [(0, .ref (ad 1)), (1, .int (nI a)), (2, .int (nI b))] := hl
  refine lv_iload_n hx hb dX8_cellOf_0 rfl (lv_at hl 1 rfl) ?_
  refine lv_aload_n hx hb dX8_cellOf_1 rfl (lv_at hl 0 rfl) ?_
  refine hp_get hx hb hts ix8 hown hK hh (q := 1) rfl hm1 e1 rfl 5 (by decide) (hts _ tw_44) (fun _ h9 => h9) rfl dX8_cellOf_2 ?_
  refine lv_imul hx hb dX8_cellOf_5 ?_
  rw [pk_mul a d]
  refine lv_iload_n hx hb dX8_cellOf_6 rfl (lv_at hl 2 rfl) ?_
  refine lv_iadd hx hb dX8_cellOf_7 ?_
  rw [nI_add (a * d) b]
  exact hp_iretR hx hb hr rfl hlocks hsz hh (rfl) dX8_cellOf_8
theorem kw_X8_cellOf {R : Room} {s : State} {args : Array Value} {own : String} {idx : Nat} (hts : ∀ w ∈ TB, w.before args s = true) (hl : Cond.methodLink own idx yX8_cellOf ∈ TB) (hR : 0 + 1 ≤ R.frames ∧ 8 + (3 + 11) + 40 * 0 ≤ R.locals) : CallW R s args own RX8 idx yX8_cellOf cX8_cellOf 3 (some .int) (Cond.code yX8_cellOf cX8_cellOf 3 (some .int) :: TB) (rmN 0) 0 0 2 := cwV 2 hts (TB_V hl tw_426 tw_427 tw_2 tw_428) rfl rfl rfl (by decide +kernel) hR
set_option maxHeartbeats 4000000 in
set_option maxRecDepth 100000 in
/-- rowOf -/
theorem c_X8_rowOf (l : Launch) (D : va_G) (cy : Nat → ClassId) (sz : Nat) (cs : List Nat) (ad : Nat → Nat) (en : Nat → va_E) (hm1 : 1 ∈ cs) (hm3 : 3 ∈ cs) (cnt d mm : Nat) (hcnt : cnt ≤ 6) (hd2 : 2 ≤ d) (hd3 : d ≤ 3) (hmm : mm ≤ 97) (a : Nat) (ha : a < 6) (e1 : en 1 = .inr (7, [.ref (ad 2), .ref (ad 3), .ref (ad 10), .ref (ad 11), .int (nI cnt), .int (nI d), .int (nI mm)])) (e3 : en 3 = .inl (cy 8, 6, .inr (.inr (.inr (.inr (rfA ad 6 4))))))  : Met l yX8_rowOf (Cond.code yX8_rowOf cX8_rowOf 2 (some (.array .long)) :: TB) (rmN 0) (va_Pc [.ref (ad 1), .int (nI a)] (Pre D cy cs ad en sz)) (va_Qq (S := Unit) (fun r _ => r = some (ad (4 + a))) (fun _ _ => True) (Nf sz)) 0 0 (Nf sz) := by
  refine Met.ofW (cc := cX8_rowOf) (maxL := 2) (ret := (some (.array .long))) (by decide) rfl ?_
  intro p e s m args below meth c s₁ B hml hv
  obtain ⟨rfl, hsz, hP, hK, hD0⟩ := hv
  have hx := B.exec
  have hb := B.bytes
  have hr := B.returns
  have hts : ∀ w ∈ TB, w.before _ s = true := fun w h => atoms_spec (ws := _ :: TB) B.pre w (List.mem_cons_of_mem _ h)
  have hown : s.vm.findClass RX8 = some m.cls := findClass_of_methodNamed B.named
  have hlocks := B.notSynchronized
  have hh : Hp D (Nf sz) (fun _ => True) s.heap s.heap [] cs ad en := ⟨hP, hD0, va_S.rf⟩
  have hA : ∀ q : Nat, s.heap.size ≤ q → Nf sz q := fun q h => by rw [hsz] at h; exact h
  have hl := lv_entry ([.ref (ad 1), .int (nI a)]) (n := 2) (Nat.le_of_ble_eq_true rfl)
  rw [lg_entry_eq]
  generalize (lg_sl ([.ref (ad 1), .int (nI a)]) ++ List.replicate (2 - (lg_sl ([.ref (ad 1), .int (nI a)])).length) Slot.unset).toArray = ls at hl ⊢
  have hl : lv_has ls 2 [(0, .ref (ad 1)), (1, .int (nI a))] := hl
  refine lv_aload_n hx hb dX8_rowOf_0 rfl (lv_at hl 0 rfl) ?_
  refine hp_get hx hb hts ix8 hown hK hh (q := 1) rfl hm1 e1 rfl 1 (by decide) (hts _ tw_40) (fun _ h9 => h9) rfl dX8_rowOf_1 ?_
  refine lv_iload_n hx hb dX8_rowOf_4 rfl (lv_at hl 1 rfl) ?_
  refine hp_aald hx hb hK hh (q := 3) rfl hm3 8 e3 rfl rfl (vp_in_nI (n := a) (by omega) (by decide)) (v := .ref (ad (4 + a))) (by rw [nI_clamp (n := a) (by omega)]; exact rfA_v (by omega)) dX8_rowOf_5 ?_
  exact hp_aretR (v := some (ad (4 + a))) rfl hx hb hr (Or.inr ⟨_, rfl⟩) hlocks hsz hh (rfl) dX8_rowOf_6
theorem kw_X8_rowOf {R : Room} {s : State} {args : Array Value} {own : String} {idx : Nat} (hts : ∀ w ∈ TB, w.before args s = true) (hl : Cond.methodLink own idx yX8_rowOf ∈ TB) (hR : 0 + 1 ≤ R.frames ∧ 8 + (2 + 11) + 40 * 0 ≤ R.locals) : CallW R s args own RX8 idx yX8_rowOf cX8_rowOf 2 (some (.array .long)) (Cond.code yX8_rowOf cX8_rowOf 2 (some (.array .long)) :: TB) (rmN 0) 0 0 1 := cwV 1 hts (TB_V hl tw_533 tw_534 tw_2 tw_535) rfl rfl rfl (by decide +kernel) hR
set_option maxHeartbeats 4000000 in
set_option maxRecDepth 100000 in
/-- restOf -/
theorem c_X8_restOf (l : Launch) (D : va_G) (cy : Nat → ClassId) (sz : Nat) (cs : List Nat) (ad : Nat → Nat) (en : Nat → va_E) (hm1 : 1 ∈ cs) (cnt d mm : Nat) (hcnt : cnt ≤ 6) (hd2 : 2 ≤ d) (hd3 : d ≤ 3) (hmm : mm ≤ 97) (v : Int64) (e1 : en 1 = .inr (7, [.ref (ad 2), .ref (ad 3), .ref (ad 10), .ref (ad 11), .int (nI cnt), .int (nI d), .int (nI mm)]))  : Met l yX8_restOf (Cond.code yX8_restOf cX8_restOf 5 (some .long) :: TB) (rmN 0) (va_Pc [.ref (ad 1), .long v] (Pre D cy cs ad en sz)) (va_Ql (S := Unit) (fun r _ => r = restL mm v) (fun _ _ => True) (Nf sz)) 0 0 (Nf sz) := by
  refine Met.ofW (cc := cX8_restOf) (maxL := 5) (ret := (some .long)) (by decide) rfl ?_
  intro p e s m args below meth c s₁ B hml hv
  obtain ⟨rfl, hsz, hP, hK, hD0⟩ := hv
  have hx := B.exec
  have hb := B.bytes
  have hr := B.returns
  have hts : ∀ w ∈ TB, w.before _ s = true := fun w h => atoms_spec (ws := _ :: TB) B.pre w (List.mem_cons_of_mem _ h)
  have hown : s.vm.findClass RX8 = some m.cls := findClass_of_methodNamed B.named
  have hlocks := B.notSynchronized
  have hh : Hp D (Nf sz) (fun _ => True) s.heap s.heap [] cs ad en := ⟨hP, hD0, va_S.rf⟩
  have hA : ∀ q : Nat, s.heap.size ≤ q → Nf sz q := fun q h => by rw [hsz] at h; exact h
  have hl := lv_entry ([.ref (ad 1), .long v]) (n := 5) (Nat.le_of_ble_eq_true rfl)
  rw [lg_entry_eq]
  generalize (lg_sl ([.ref (ad 1), .long v]) ++ List.replicate (5 - (lg_sl ([.ref (ad 1), .long v])).length) Slot.unset).toArray = ls at hl ⊢
  have hl : lv_has ls 5 [(0, .ref (ad 1)), (1, .long v)] := hl
  refine lv_aload_n hx hb dX8_restOf_0 rfl (lv_at hl 0 rfl) ?_
  refine hp_get hx hb hts ix8 hown hK hh (q := 1) rfl hm1 e1 rfl 6 (by decide) (hts _ tw_45) (fun _ h9 => h9) rfl dX8_restOf_1 ?_
  refine lv_if_gt (tgt := 9) hx hb dX8_restOf_4 (by decide) (fun c_19 => ?_) (fun c_19 => ?_)
  · have n_19 : 0 < mm := n_lt (a := 0) (b := mm) c_19 (by decide) (by omega)
    refine lv_lload_n hx hb dX8_restOf_9 rfl (lv_at hl 1 rfl) ?_
    refine lv_aload_n hx hb dX8_restOf_10 rfl (lv_at hl 0 rfl) ?_
    refine hp_get hx hb hts ix8 hown hK hh (q := 1) rfl hm1 e1 rfl 6 (by decide) (hts _ tw_45) (fun _ h9 => h9) rfl dX8_restOf_11 ?_
    refine lv_i2l hx hb dX8_restOf_14 rfl ?_
    refine lv_lrem hx hb dX8_restOf_15 (l_ne0 (by omega) (by omega)) ?_
    refine lv_lstore_n (lv' := [(3, .long (v - v / (nI mm).toInt64 * (nI mm).toInt64)), (0, .ref (ad 1)), (1, .long v)]) hx hb dX8_restOf_16 rfl hl (by decide) rfl (fun ls hl => ?_)
    refine lv_lload_n hx hb dX8_restOf_17 rfl (lv_at hl 0 rfl) ?_
    refine lv_lconst (v := 0) hx hb dX8_restOf_18 (by decide) ?_
    refine W.lcmp hx hb dX8_restOf_19 ?_
    refine lv_if_ge (tgt := 33) hx hb dX8_restOf_20 (by decide) (fun c_20 => ?_) (fun c_20 => ?_)
    · refine lv_lload_n hx hb dX8_restOf_33 rfl (lv_at hl 0 rfl) ?_
      exact hp_lretR hx hb hr hlocks hsz hh (by unfold restL; rw [if_neg (by omega), if_neg (fun q => absurd (Int64.lt_iff_toInt_lt.mp q) (Int.not_lt.mpr (g_ge c_20)))]) dX8_restOf_34
    · refine lv_lload_n hx hb dX8_restOf_23 rfl (lv_at hl 0 rfl) ?_
      refine lv_aload_n hx hb dX8_restOf_24 rfl (lv_at hl 1 rfl) ?_
      refine hp_get hx hb hts ix8 hown hK hh (q := 1) rfl hm1 e1 rfl 6 (by decide) (hts _ tw_45) (fun _ h9 => h9) rfl dX8_restOf_25 ?_
      refine lv_i2l hx hb dX8_restOf_28 rfl ?_
      refine lv_ladd hx hb dX8_restOf_29 ?_
      refine lv_goto (tgt := 34) hx hb dX8_restOf_30 (by decide) ?_
      exact hp_lretR hx hb hr hlocks hsz hh (by unfold restL; rw [if_neg (by omega), if_pos (Int64.lt_iff_toInt_lt.mpr (g_nge c_20))]) dX8_restOf_34
  · have n_19 : mm ≤ 0 := n_nlt (a := 0) (b := mm) c_19 (by decide) (by omega)
    refine lv_lload_n hx hb dX8_restOf_7 rfl (lv_at hl 1 rfl) ?_
    exact hp_lretR hx hb hr hlocks hsz hh (by unfold restL; rw [if_pos (by omega)]) dX8_restOf_8
theorem kw_X8_restOf {R : Room} {s : State} {args : Array Value} {own : String} {idx : Nat} (hts : ∀ w ∈ TB, w.before args s = true) (hl : Cond.methodLink own idx yX8_restOf ∈ TB) (hR : 0 + 1 ≤ R.frames ∧ 8 + (5 + 11) + 40 * 0 ≤ R.locals) : CallW R s args own RX8 idx yX8_restOf cX8_restOf 5 (some .long) (Cond.code yX8_restOf cX8_restOf 5 (some .long) :: TB) (rmN 0) 0 0 1 := cwV 1 hts (TB_V hl tw_350 ts_3 tw_2 tw_351) rfl rfl rfl (by decide +kernel) hR
set_option maxHeartbeats 4000000 in
set_option maxRecDepth 100000 in
/-- track -/
theorem c_X8_track (l : Launch) (D : va_G) (cy : Nat → ClassId) (sz : Nat) (cs : List Nat) (ad : Nat → Nat) (en : Nat → va_E) (hm1 : 1 ∈ cs) (cnt d mm : Nat) (hcnt : cnt ≤ 6) (hd2 : 2 ≤ d) (hd3 : d ≤ 3) (hmm : mm ≤ 97) (q : Nat) (hq : q ∈ cs) (fa : Nat → Int64) (e1 : en 1 = .inr (7, [.ref (ad 2), .ref (ad 3), .ref (ad 10), .ref (ad 11), .int (nI cnt), .int (nI d), .int (nI mm)])) (eq : en q = .inl (cy 1, 9, .inr (.inl fa)))  : Met l yX8_track (Cond.code yX8_track cX8_track 5 (some .long) :: TB) (rmN 0) (va_Pc [.ref (ad 1), .ref (ad q)] (Pre D cy cs ad en sz)) (va_Ql (S := Unit) (fun r _ => r = sumTo (fun i => fa (i * d + i)) d) (fun _ _ => True) (Nf sz)) 0 0 (Nf sz) := by
  refine Met.ofW (cc := cX8_track) (maxL := 5) (ret := (some .long)) (by decide) rfl ?_
  intro p e s m args below meth c s₁ B hml hv
  obtain ⟨rfl, hsz, hP, hK, hD0⟩ := hv
  have hx := B.exec
  have hb := B.bytes
  have hr := B.returns
  have hts : ∀ w ∈ TB, w.before _ s = true := fun w h => atoms_spec (ws := _ :: TB) B.pre w (List.mem_cons_of_mem _ h)
  have hown : s.vm.findClass RX8 = some m.cls := findClass_of_methodNamed B.named
  have hlocks := B.notSynchronized
  have hh : Hp D (Nf sz) (fun _ => True) s.heap s.heap [] cs ad en := ⟨hP, hD0, va_S.rf⟩
  have hA : ∀ q : Nat, s.heap.size ≤ q → Nf sz q := fun q h => by rw [hsz] at h; exact h
  have hl := lv_entry ([.ref (ad 1), .ref (ad q)]) (n := 5) (Nat.le_of_ble_eq_true rfl)
  rw [lg_entry_eq]
  generalize (lg_sl ([.ref (ad 1), .ref (ad q)]) ++ List.replicate (5 - (lg_sl ([.ref (ad 1), .ref (ad q)])).length) Slot.unset).toArray = ls at hl ⊢
  have hl : lv_has ls 5 [(0, .ref (ad 1)), (1, .ref (ad q))] := hl
  refine lv_lconst (v := 0) hx hb dX8_track_0 (by decide) ?_
  refine lv_lstore_n (lv' := [(2, .long 0), (0, .ref (ad 1)), (1, .ref (ad q))]) hx hb dX8_track_1 rfl hl (by decide) rfl (fun ls hl => ?_)
  refine lv_iconst (v := 0) hx hb dX8_track_2 (by decide) ?_
  refine lv_istore (lv' := [(4, .int 0), (2, .long 0), (0, .ref (ad 1)), (1, .ref (ad q))]) hx hb dX8_track_3 hl (by decide) rfl (fun ls hl => ?_)
  have loop_21 : ∀ (fu j21 : Nat) (ac21 : Int64)  (ls : Array Slot) (H : Heap) (locs : List Loc), 0 ≤ j21 → j21 ≤ d → d < j21 + fu → (ac21 = sumTo (fun i => fa (i * d + i)) j21) → lv_has ls 5 [(4, .int (nI j21)), (2, .long ac21), (0, .ref (ad 1)), (1, .ref (ad q))] → Hp D (Nf sz) (fun _ => True) s.heap H locs cs ad en → W p l e (headSpec (Cond.code yX8_track cX8_track 5 (some .long) :: TB) (rmN 0)).room s m ([.ref (ad 1), .ref (ad q)] : List Value).toArray below meth c H locs 0 0 (MQ below (va_Ql (S := Unit) (fun r _ => r = sumTo (fun i => fa (i * d + i)) d) (fun _ _ => True) (Nf sz)) ([.ref (ad 1), .ref (ad q)] : List Value).toArray s 0 0 (Nf sz)) (F0 m 5 ls []) := by
    intro fu
    induction fu with
    | zero => intro j21 ac21 ls H locs h0 h1 h2; exact absurd h2 (by omega)
    | succ fu ih_21 =>
      intro j21 ac21 ls H locs hj0_21 hj_21 hfu_21 i0_21 hl hh
      refine lv_iload hx hb dX8_track_5 (lv_at hl 0 rfl) ?_
      refine lv_aload_n hx hb dX8_track_7 rfl (lv_at hl 2 rfl) ?_
      refine hp_get hx hb hts ix8 hown hK hh (q := 1) rfl hm1 e1 rfl 5 (by decide) (hts _ tw_44) (fun _ h9 => h9) rfl dX8_track_8 ?_
      refine lv_icmp_ge (tgt := 35) hx hb dX8_track_11 (by decide) (fun c_22 => ?_) (fun c_22 => ?_)
      · have n_22 : d ≤ j21 := n_le (a := d) (b := j21) c_22 (by omega) (by omega)
        refine lv_lload_n hx hb dX8_track_35 rfl (lv_at hl 1 rfl) ?_
        exact hp_lretR hx hb hr hlocks hsz hh (by have e : j21 = d := (by omega); rw [e] at i0_21; exact i0_21) dX8_track_36
      · have n_22 : j21 < d := n_nle (a := d) (b := j21) c_22 (by omega) (by omega)
        refine lv_lload_n hx hb dX8_track_14 rfl (lv_at hl 1 rfl) ?_
        refine lv_aload_n hx hb dX8_track_15 rfl (lv_at hl 3 rfl) ?_
        refine lv_iload hx hb dX8_track_16 (lv_at hl 0 rfl) ?_
        refine lv_aload_n hx hb dX8_track_18 rfl (lv_at hl 2 rfl) ?_
        refine hp_get hx hb hts ix8 hown hK hh (q := 1) rfl hm1 e1 rfl 5 (by decide) (hts _ tw_44) (fun _ h9 => h9) rfl dX8_track_19 ?_
        refine lv_imul hx hb dX8_track_22 ?_
        rw [pk_mul j21 d]
        refine lv_iload hx hb dX8_track_23 (lv_at hl 0 rfl) ?_
        refine lv_iadd hx hb dX8_track_25 ?_
        rw [nI_add (j21 * d) j21]
        have hi_23 : ((j21 * d) + j21) < 9 := md3 (by omega) (by omega) hd3
        refine hp_lald hx hb hK hh (q := q) rfl hq eq (vp_in_nI (n := ((j21 * d) + j21)) (by omega) (by decide)) dX8_track_26 ?_
        rw [nI_clamp (n := ((j21 * d) + j21)) (by omega)]
        refine lv_ladd hx hb dX8_track_27 ?_
        refine lv_lstore_n (lv' := [(2, .long (ac21 + (fa ((j21 * d) + j21)))), (4, .int (nI j21)), (0, .ref (ad 1)), (1, .ref (ad q))]) hx hb dX8_track_28 rfl hl (by decide) rfl (fun ls hl => ?_)
        refine lv_iinc (v := (nI (j21 + 1))) (lv' := [(4, .int (nI (j21 + 1))), (2, .long (ac21 + (fa ((j21 * d) + j21)))), (0, .ref (ad 1)), (1, .ref (ad q))]) hx hb dX8_track_29 hl (k := 1) rfl (nI_1 _) (by decide) rfl (fun ls hl => ?_)
        refine lv_goto (tgt := 5) hx hb dX8_track_32 (by decide) ?_
        exact ih_21 ((j21 + 1)) (ac21 + (fa ((j21 * d) + j21))) ls H locs (by omega) (by omega) (by omega) (by rw [i0_21]; rfl) (lv_sub hl [0, 1, 2, 3] rfl) hh
  exact loop_21 (d + 1) 0 0 ls _ _ (Nat.le_refl _) (by omega) (by omega) (rfl) (lv_sub hl [0, 1, 2, 3] rfl) hh
theorem kw_X8_track {R : Room} {s : State} {args : Array Value} {own : String} {idx : Nat} (hts : ∀ w ∈ TB, w.before args s = true) (hl : Cond.methodLink own idx yX8_track ∈ TB) (hR : 0 + 1 ≤ R.frames ∧ 8 + (5 + 11) + 40 * 0 ≤ R.locals) : CallW R s args own RX8 idx yX8_track cX8_track 5 (some .long) (Cond.code yX8_track cX8_track 5 (some .long) :: TB) (rmN 0) 0 0 1 := cwV 1 hts (TB_V hl tw_505 tw_506 tw_2 tw_507) rfl rfl rfl (by decide +kernel) hR
