set_option maxHeartbeats 4000000 in
set_option maxRecDepth 100000 in
/-- isWithin -/
theorem c_X11_isWithin (l : Launch) (D : va_G) (cy : Nat → ClassId) (sz : Nat) (cs : List Nat) (ad : Nat → Nat) (en : Nat → va_E) (v a b : Int32)   : Met l yX11_isWithin (Cond.code yX11_isWithin cX11_isWithin 3 (some .boolean) :: TB) (rmN 0) (va_Pc [.int v, .int a, .int b] (Pre D cy cs ad en sz)) (va_Qi (S := Unit) (fun r _ => r = if wi v a b then 1 else 0) (fun _ _ => True) (Nf sz)) 0 0 (Nf sz) := by
  refine Met.ofW (cc := cX11_isWithin) (maxL := 3) (ret := (some .boolean)) (by decide) rfl ?_
  intro p e s m args below meth c s₁ B hml hv
  obtain ⟨rfl, hsz, hP, hK, hD0⟩ := hv
  have hx := B.exec
  have hb := B.bytes
  have hr := B.returns
  have hts : ∀ w ∈ TB, w.before _ s = true := fun w h => atoms_spec (ws := _ :: TB) B.pre w (List.mem_cons_of_mem _ h)
  have hown : s.vm.findClass RX11 = some m.cls := findClass_of_methodNamed B.named
  have hlocks := B.notSynchronized
  have hh : Hp D (Nf sz) (fun _ => True) s.heap s.heap [] cs ad en := ⟨hP, hD0, va_S.rf⟩
  have hA : ∀ q : Nat, s.heap.size ≤ q → Nf sz q := fun q h => by rw [hsz] at h; exact h
  have hl := lv_entry ([.int v, .int a, .int b]) (n := 3) (Nat.le_of_ble_eq_true rfl)
  rw [lg_entry_eq]
  generalize (lg_sl ([.int v, .int a, .int b]) ++ List.replicate (3 - (lg_sl ([.int v, .int a, .int b])).length) Slot.unset).toArray = ls at hl ⊢
  have hl : lv_has ls 3 [(0, .int v), (1, .int a), (2, .int b)] := hl
  refine lv_iload_n hx hb dX11_isWithin_0 rfl (lv_at hl 0 rfl) ?_
  refine lv_iload_n hx hb dX11_isWithin_1 rfl (lv_at hl 1 rfl) ?_
  refine lv_icmp_lt (tgt := 14) hx hb dX11_isWithin_2 (by decide) (fun c_1 => ?_) (fun c_1 => ?_)
  · refine lv_iconst (v := 0) hx hb dX11_isWithin_14 (by decide) ?_
    have := i_lt c_1
    exact hp_iretR hx hb hr rfl hlocks hsz hh ((if_neg (by omega)).symm) dX11_isWithin_15
  · refine lv_iload_n hx hb dX11_isWithin_5 rfl (lv_at hl 0 rfl) ?_
    refine lv_iload_n hx hb dX11_isWithin_6 rfl (lv_at hl 2 rfl) ?_
    refine lv_icmp_gt (tgt := 14) hx hb dX11_isWithin_7 (by decide) (fun c_2 => ?_) (fun c_2 => ?_)
    · refine lv_iconst (v := 0) hx hb dX11_isWithin_14 (by decide) ?_
      have := i_nlt c_1
      have := i_lt c_2
      exact hp_iretR hx hb hr rfl hlocks hsz hh ((if_neg (by omega)).symm) dX11_isWithin_15
    · refine lv_iconst (v := 1) hx hb dX11_isWithin_10 (by decide) ?_
      refine lv_goto (tgt := 15) hx hb dX11_isWithin_11 (by decide) ?_
      have := i_nlt c_1
      have := i_nlt c_2
      exact hp_iretR hx hb hr rfl hlocks hsz hh ((if_pos (by omega)).symm) dX11_isWithin_15
theorem kw_X11_isWithin {R : Room} {s : State} {args : Array Value} {idx : Nat} (hts : ∀ w ∈ TB, w.before args s = true) (hl : Cond.methodLink RX11 idx yX11_isWithin ∈ TB) (hR : 0 + 1 ≤ R.frames ∧ 8 + (3 + 11) + 40 * 0 ≤ R.locals) : CallB R s args RX11 idx yX11_isWithin cX11_isWithin 3 (some .boolean) (Cond.code yX11_isWithin cX11_isWithin 3 (some .boolean) :: TB) (rmN 0) 0 0 3 ∧ (Cond.static yX11_isWithin).before args s = true := cwS 3 hts (TB_S hl tw_275 tw_1 tw_276) rfl rfl rfl (by decide +kernel) hR
set_option maxHeartbeats 4000000 in
set_option maxRecDepth 100000 in
/-- isSheet -/
theorem c_X11_isSheet (l : Launch) (D : va_G) (cy : Nat → ClassId) (sz : Nat) (cs : List Nat) (ad : Nat → Nat) (en : Nat → va_E) (k : Int32)   : Met l yX11_isSheet (Cond.code yX11_isSheet cX11_isSheet 1 (some .boolean) :: TB) (rmN 1) (va_Pc [.int k] (Pre D cy cs ad en sz)) (va_Qi (S := Unit) (fun r _ => r = if wi k 0 3 then 1 else 0) (fun _ _ => True) (Nf sz)) 0 0 (Nf sz) := by
  refine Met.ofW (cc := cX11_isSheet) (maxL := 1) (ret := (some .boolean)) (by decide) rfl ?_
  intro p e s m args below meth c s₁ B hml hv
  obtain ⟨rfl, hsz, hP, hK, hD0⟩ := hv
  have hx := B.exec
  have hb := B.bytes
  have hr := B.returns
  have hts : ∀ w ∈ TB, w.before _ s = true := fun w h => atoms_spec (ws := _ :: TB) B.pre w (List.mem_cons_of_mem _ h)
  have hown : s.vm.findClass RX11 = some m.cls := findClass_of_methodNamed B.named
  have hlocks := B.notSynchronized
  have hh : Hp D (Nf sz) (fun _ => True) s.heap s.heap [] cs ad en := ⟨hP, hD0, va_S.rf⟩
  have hA : ∀ q : Nat, s.heap.size ≤ q → Nf sz q := fun q h => by rw [hsz] at h; exact h
  have hl := lv_entry ([.int k]) (n := 1) (Nat.le_of_ble_eq_true rfl)
  rw [lg_entry_eq]
  generalize (lg_sl ([.int k]) ++ List.replicate (1 - (lg_sl ([.int k])).length) Slot.unset).toArray = ls at hl ⊢
  have hl : lv_has ls 1 [(0, .int k)] := hl
  refine lv_iload_n hx hb dX11_isSheet_0 rfl (lv_at hl 0 rfl) ?_
  refine lv_iconst (v := 0) hx hb dX11_isSheet_1 (by decide) ?_
  refine lv_iconst (v := 3) hx hb dX11_isSheet_2 (by decide) ?_
  refine hp_callRi (va_runS (As := [.int k, .int 0, .int 3]) (rest := []) ⟨hx, hb, hml, hown, hts⟩ (c_X11_isWithin l D cy _ cs ad en k 0 3 ) (kw_X11_isWithin hts tw_274 ⟨by decide, by decide⟩) (preS_of hh hK) rfl rfl hl.1 rfl (lv_room (Nat.le_of_ble_eq_true rfl)) dX11_isSheet_3 ⟨Nat.le_of_ble_eq_true rfl, Nat.le_of_ble_eq_true rfl⟩) hh hA (fun r_3 H locs hw_3 hh => ?_)
  rcases Decidable.em (wi k 0 3) with hp_3 | hp_3
  · obtain rfl : r_3 = 1 := Eq.trans hw_3 (if_pos hp_3)
    exact hp_iretR hx hb hr rfl hlocks hsz hh ((if_pos hp_3).symm) dX11_isSheet_6
  · obtain rfl : r_3 = 0 := Eq.trans hw_3 (if_neg hp_3)
    exact hp_iretR hx hb hr rfl hlocks hsz hh ((if_neg hp_3).symm) dX11_isSheet_6
theorem kw_X11_isSheet {R : Room} {s : State} {args : Array Value} {idx : Nat} (hts : ∀ w ∈ TB, w.before args s = true) (hl : Cond.methodLink RX11 idx yX11_isSheet ∈ TB) (hR : 1 + 1 ≤ R.frames ∧ 8 + (1 + 11) + 40 * 1 ≤ R.locals) : CallB R s args RX11 idx yX11_isSheet cX11_isSheet 1 (some .boolean) (Cond.code yX11_isSheet cX11_isSheet 1 (some .boolean) :: TB) (rmN 1) 0 0 1 ∧ (Cond.static yX11_isSheet).before args s = true := cwS 1 hts (TB_S hl tw_306 tw_1 tw_307) rfl rfl rfl (by decide +kernel) hR
set_option maxHeartbeats 4000000 in
set_option maxRecDepth 100000 in
/-- isLane -/
theorem c_X11_isLane (l : Launch) (D : va_G) (cy : Nat → ClassId) (sz : Nat) (cs : List Nat) (ad : Nat → Nat) (en : Nat → va_E) (k : Int32)   : Met l yX11_isLane (Cond.code yX11_isLane cX11_isLane 1 (some .boolean) :: TB) (rmN 1) (va_Pc [.int k] (Pre D cy cs ad en sz)) (va_Qi (S := Unit) (fun r _ => r = if wi k 0 2 then 1 else 0) (fun _ _ => True) (Nf sz)) 0 0 (Nf sz) := by
  refine Met.ofW (cc := cX11_isLane) (maxL := 1) (ret := (some .boolean)) (by decide) rfl ?_
  intro p e s m args below meth c s₁ B hml hv
  obtain ⟨rfl, hsz, hP, hK, hD0⟩ := hv
  have hx := B.exec
  have hb := B.bytes
  have hr := B.returns
  have hts : ∀ w ∈ TB, w.before _ s = true := fun w h => atoms_spec (ws := _ :: TB) B.pre w (List.mem_cons_of_mem _ h)
  have hown : s.vm.findClass RX11 = some m.cls := findClass_of_methodNamed B.named
  have hlocks := B.notSynchronized
  have hh : Hp D (Nf sz) (fun _ => True) s.heap s.heap [] cs ad en := ⟨hP, hD0, va_S.rf⟩
  have hA : ∀ q : Nat, s.heap.size ≤ q → Nf sz q := fun q h => by rw [hsz] at h; exact h
  have hl := lv_entry ([.int k]) (n := 1) (Nat.le_of_ble_eq_true rfl)
  rw [lg_entry_eq]
  generalize (lg_sl ([.int k]) ++ List.replicate (1 - (lg_sl ([.int k])).length) Slot.unset).toArray = ls at hl ⊢
  have hl : lv_has ls 1 [(0, .int k)] := hl
  refine lv_iload_n hx hb dX11_isLane_0 rfl (lv_at hl 0 rfl) ?_
  refine lv_iconst (v := 0) hx hb dX11_isLane_1 (by decide) ?_
  refine lv_iconst (v := 2) hx hb dX11_isLane_2 (by decide) ?_
  refine hp_callRi (va_runS (As := [.int k, .int 0, .int 2]) (rest := []) ⟨hx, hb, hml, hown, hts⟩ (c_X11_isWithin l D cy _ cs ad en k 0 2 ) (kw_X11_isWithin hts tw_274 ⟨by decide, by decide⟩) (preS_of hh hK) rfl rfl hl.1 rfl (lv_room (Nat.le_of_ble_eq_true rfl)) dX11_isLane_3 ⟨Nat.le_of_ble_eq_true rfl, Nat.le_of_ble_eq_true rfl⟩) hh hA (fun r_4 H locs hw_4 hh => ?_)
  rcases Decidable.em (wi k 0 2) with hp_4 | hp_4
  · obtain rfl : r_4 = 1 := Eq.trans hw_4 (if_pos hp_4)
    exact hp_iretR hx hb hr rfl hlocks hsz hh ((if_pos hp_4).symm) dX11_isLane_6
  · obtain rfl : r_4 = 0 := Eq.trans hw_4 (if_neg hp_4)
    exact hp_iretR hx hb hr rfl hlocks hsz hh ((if_neg hp_4).symm) dX11_isLane_6
theorem kw_X11_isLane {R : Room} {s : State} {args : Array Value} {idx : Nat} (hts : ∀ w ∈ TB, w.before args s = true) (hl : Cond.methodLink RX11 idx yX11_isLane ∈ TB) (hR : 1 + 1 ≤ R.frames ∧ 8 + (1 + 11) + 40 * 1 ≤ R.locals) : CallB R s args RX11 idx yX11_isLane cX11_isLane 1 (some .boolean) (Cond.code yX11_isLane cX11_isLane 1 (some .boolean) :: TB) (rmN 1) 0 0 1 ∧ (Cond.static yX11_isLane).before args s = true := cwS 1 hts (TB_S hl tw_309 tw_1 tw_310) rfl rfl rfl (by decide +kernel) hR
set_option maxHeartbeats 4000000 in
set_option maxRecDepth 100000 in
/-- faultAnswer -/
theorem c_X11_faultAnswer (l : Launch) (D : va_G) (cy : Nat → ClassId) (sz : Nat) (cs : List Nat) (ad : Nat → Nat) (en : Nat → va_E) (k : Int32)   : Met l yX11_faultAnswer (Cond.code yX11_faultAnswer cX11_faultAnswer 1 (some .int) :: TB) (rmN 0) (va_Pc [.int k] (Pre D cy cs ad en sz)) (va_Qi (S := Unit) (fun r _ => r = (-10) - k) (fun _ _ => True) (Nf sz)) 0 0 (Nf sz) := by
  refine Met.ofW (cc := cX11_faultAnswer) (maxL := 1) (ret := (some .int)) (by decide) rfl ?_
  intro p e s m args below meth c s₁ B hml hv
  obtain ⟨rfl, hsz, hP, hK, hD0⟩ := hv
  have hx := B.exec
  have hb := B.bytes
  have hr := B.returns
  have hts : ∀ w ∈ TB, w.before _ s = true := fun w h => atoms_spec (ws := _ :: TB) B.pre w (List.mem_cons_of_mem _ h)
  have hown : s.vm.findClass RX11 = some m.cls := findClass_of_methodNamed B.named
  have hlocks := B.notSynchronized
  have hh : Hp D (Nf sz) (fun _ => True) s.heap s.heap [] cs ad en := ⟨hP, hD0, va_S.rf⟩
  have hA : ∀ q : Nat, s.heap.size ≤ q → Nf sz q := fun q h => by rw [hsz] at h; exact h
  have hl := lv_entry ([.int k]) (n := 1) (Nat.le_of_ble_eq_true rfl)
  rw [lg_entry_eq]
  generalize (lg_sl ([.int k]) ++ List.replicate (1 - (lg_sl ([.int k])).length) Slot.unset).toArray = ls at hl ⊢
  have hl : lv_has ls 1 [(0, .int k)] := hl
  refine lv_bipush (v := (-10)) hx hb dX11_faultAnswer_0 (by decide) ?_
  refine lv_iload_n hx hb dX11_faultAnswer_2 rfl (lv_at hl 0 rfl) ?_
  refine lv_isub hx hb dX11_faultAnswer_3 ?_
  exact hp_iretR hx hb hr rfl hlocks hsz hh (rfl) dX11_faultAnswer_4
theorem kw_X11_faultAnswer {R : Room} {s : State} {args : Array Value} {idx : Nat} (hts : ∀ w ∈ TB, w.before args s = true) (hl : Cond.methodLink RX11 idx yX11_faultAnswer ∈ TB) (hR : 0 + 1 ≤ R.frames ∧ 8 + (1 + 11) + 40 * 0 ≤ R.locals) : CallB R s args RX11 idx yX11_faultAnswer cX11_faultAnswer 1 (some .int) (Cond.code yX11_faultAnswer cX11_faultAnswer 1 (some .int) :: TB) (rmN 0) 0 0 1 ∧ (Cond.static yX11_faultAnswer).before args s = true := cwS 1 hts (TB_S hl tw_312 tw_1 tw_313) rfl rfl rfl (by decide +kernel) hR
set_option maxHeartbeats 4000000 in
set_option maxRecDepth 100000 in
/-- count -/
theorem c_X8_count (l : Launch) (D : va_G) (cy : Nat → ClassId) (sz : Nat) (cs : List Nat) (ad : Nat → Nat) (en : Nat → va_E) (hcs : ∀ c, c < 115 → c ∈ cs) (cnt dd mm : Int32) (e1 : en 1 = .inr (7, [.ref (ad 2), .ref (ad 3), .ref (ad 10), .ref (ad 11), .int cnt, .int dd, .int mm]))  : Met l yX8_count (Cond.code yX8_count cX8_count 1 (some .int) :: TB) (rmN 0) (va_Pc [.ref (ad 1)] (Pre D cy cs ad en sz)) (va_Qi (S := Unit) (fun r _ => r = cnt) (fun _ _ => True) (Nf sz)) 0 0 (Nf sz) := by
  refine Met.ofW (cc := cX8_count) (maxL := 1) (ret := (some .int)) (by decide) rfl ?_
  intro p e s m args below meth c s₁ B hml hv
  obtain ⟨rfl, hsz, hP, hK, hD0⟩ := hv
  have hx := B.exec
  have hb := B.bytes
  have hr := B.returns
  have hts : ∀ w ∈ TB, w.before _ s = true := fun w h => atoms_spec (ws := _ :: TB) B.pre w (List.mem_cons_of_mem _ h)
  have hown : s.vm.findClass RX8 = some m.cls := findClass_of_methodNamed B.named
  have hlocks := B.notSynchronized
  have hh : Hp D (Nf sz) (fun _ => True) s.heap s.heap [] cs ad en := ⟨hP, hD0, va_S.rf⟩
  have hA : ∀ q : Nat, s.heap.size ≤ q → Nf sz q := fun q h => by rw [hsz] at h; exact h
  have hl := lv_entry ([.ref (ad 1)]) (n := 1) (Nat.le_of_ble_eq_true rfl)
  rw [lg_entry_eq]
  generalize (lg_sl ([.ref (ad 1)]) ++ List.replicate (1 - (lg_sl ([.ref (ad 1)])).length) Slot.unset).toArray = ls at hl ⊢
  have hl : lv_has ls 1 [(0, .ref (ad 1))] := hl
  refine lv_aload_n hx hb dX8_count_0 rfl (lv_at hl 0 rfl) ?_
  refine hp_get hx hb hts ix8 hown hK hh (q := 1) rfl (hcs _ (by decide)) e1 rfl 4 (by decide) (hts _ tw_43) (fun _ h9 => h9) rfl dX8_count_1 ?_
  exact hp_iretR hx hb hr rfl hlocks hsz hh (rfl) dX8_count_4
theorem kw_X8_count {R : Room} {s : State} {args : Array Value} {own : String} {idx : Nat} (hts : ∀ w ∈ TB, w.before args s = true) (hl : Cond.methodLink own idx yX8_count ∈ TB) (hR : 0 + 1 ≤ R.frames ∧ 8 + (1 + 11) + 40 * 0 ≤ R.locals) : CallW R s args own RX8 idx yX8_count cX8_count 1 (some .int) (Cond.code yX8_count cX8_count 1 (some .int) :: TB) (rmN 0) 0 0 0 := cwV 0 hts (TB_V hl tw_319 tw_320 tw_2 tw_321) rfl rfl rfl (by decide +kernel) hR
set_option maxHeartbeats 4000000 in
set_option maxRecDepth 100000 in
/-- dimension -/
theorem c_X8_dimension (l : Launch) (D : va_G) (cy : Nat → ClassId) (sz : Nat) (cs : List Nat) (ad : Nat → Nat) (en : Nat → va_E) (hcs : ∀ c, c < 115 → c ∈ cs) (cnt dd mm : Int32) (e1 : en 1 = .inr (7, [.ref (ad 2), .ref (ad 3), .ref (ad 10), .ref (ad 11), .int cnt, .int dd, .int mm]))  : Met l yX8_dimension (Cond.code yX8_dimension cX8_dimension 1 (some .int) :: TB) (rmN 0) (va_Pc [.ref (ad 1)] (Pre D cy cs ad en sz)) (va_Qi (S := Unit) (fun r _ => r = dd) (fun _ _ => True) (Nf sz)) 0 0 (Nf sz) := by
  refine Met.ofW (cc := cX8_dimension) (maxL := 1) (ret := (some .int)) (by decide) rfl ?_
  intro p e s m args below meth c s₁ B hml hv
  obtain ⟨rfl, hsz, hP, hK, hD0⟩ := hv
  have hx := B.exec
  have hb := B.bytes
  have hr := B.returns
  have hts : ∀ w ∈ TB, w.before _ s = true := fun w h => atoms_spec (ws := _ :: TB) B.pre w (List.mem_cons_of_mem _ h)
  have hown : s.vm.findClass RX8 = some m.cls := findClass_of_methodNamed B.named
  have hlocks := B.notSynchronized
  have hh : Hp D (Nf sz) (fun _ => True) s.heap s.heap [] cs ad en := ⟨hP, hD0, va_S.rf⟩
  have hA : ∀ q : Nat, s.heap.size ≤ q → Nf sz q := fun q h => by rw [hsz] at h; exact h
  have hl := lv_entry ([.ref (ad 1)]) (n := 1) (Nat.le_of_ble_eq_true rfl)
  rw [lg_entry_eq]
  generalize (lg_sl ([.ref (ad 1)]) ++ List.replicate (1 - (lg_sl ([.ref (ad 1)])).length) Slot.unset).toArray = ls at hl ⊢
  have hl : lv_has ls 1 [(0, .ref (ad 1))] := hl
  refine lv_aload_n hx hb dX8_dimension_0 rfl (lv_at hl 0 rfl) ?_
  refine hp_get hx hb hts ix8 hown hK hh (q := 1) rfl (hcs _ (by decide)) e1 rfl 5 (by decide) (hts _ tw_44) (fun _ h9 => h9) rfl dX8_dimension_1 ?_
  exact hp_iretR hx hb hr rfl hlocks hsz hh (rfl) dX8_dimension_4
theorem kw_X8_dimension {R : Room} {s : State} {args : Array Value} {own : String} {idx : Nat} (hts : ∀ w ∈ TB, w.before args s = true) (hl : Cond.methodLink own idx yX8_dimension ∈ TB) (hR : 0 + 1 ≤ R.frames ∧ 8 + (1 + 11) + 40 * 0 ≤ R.locals) : CallW R s args own RX8 idx yX8_dimension cX8_dimension 1 (some .int) (Cond.code yX8_dimension cX8_dimension 1 (some .int) :: TB) (rmN 0) 0 0 0 := cwV 0 hts (TB_V hl tw_571 tw_572 tw_2 tw_573) rfl rfl rfl (by decide +kernel) hR
set_option maxHeartbeats 4000000 in
set_option maxRecDepth 100000 in
/-- modulus -/
theorem c_X8_modulus (l : Launch) (D : va_G) (cy : Nat → ClassId) (sz : Nat) (cs : List Nat) (ad : Nat → Nat) (en : Nat → va_E) (hcs : ∀ c, c < 115 → c ∈ cs) (cnt dd mm : Int32) (e1 : en 1 = .inr (7, [.ref (ad 2), .ref (ad 3), .ref (ad 10), .ref (ad 11), .int cnt, .int dd, .int mm]))  : Met l yX8_modulus (Cond.code yX8_modulus cX8_modulus 1 (some .int) :: TB) (rmN 0) (va_Pc [.ref (ad 1)] (Pre D cy cs ad en sz)) (va_Qi (S := Unit) (fun r _ => r = mm) (fun _ _ => True) (Nf sz)) 0 0 (Nf sz) := by
  refine Met.ofW (cc := cX8_modulus) (maxL := 1) (ret := (some .int)) (by decide) rfl ?_
  intro p e s m args below meth c s₁ B hml hv
  obtain ⟨rfl, hsz, hP, hK, hD0⟩ := hv
  have hx := B.exec
  have hb := B.bytes
  have hr := B.returns
  have hts : ∀ w ∈ TB, w.before _ s = true := fun w h => atoms_spec (ws := _ :: TB) B.pre w (List.mem_cons_of_mem _ h)
  have hown : s.vm.findClass RX8 = some m.cls := findClass_of_methodNamed B.named
  have hlocks := B.notSynchronized
  have hh : Hp D (Nf sz) (fun _ => True) s.heap s.heap [] cs ad en := ⟨hP, hD0, va_S.rf⟩
  have hA : ∀ q : Nat, s.heap.size ≤ q → Nf sz q := fun q h => by rw [hsz] at h; exact h
  have hl := lv_entry ([.ref (ad 1)]) (n := 1) (Nat.le_of_ble_eq_true rfl)
  rw [lg_entry_eq]
  generalize (lg_sl ([.ref (ad 1)]) ++ List.replicate (1 - (lg_sl ([.ref (ad 1)])).length) Slot.unset).toArray = ls at hl ⊢
  have hl : lv_has ls 1 [(0, .ref (ad 1))] := hl
  refine lv_aload_n hx hb dX8_modulus_0 rfl (lv_at hl 0 rfl) ?_
  refine hp_get hx hb hts ix8 hown hK hh (q := 1) rfl (hcs _ (by decide)) e1 rfl 6 (by decide) (hts _ tw_45) (fun _ h9 => h9) rfl dX8_modulus_1 ?_
  exact hp_iretR hx hb hr rfl hlocks hsz hh (rfl) dX8_modulus_4
theorem kw_X8_modulus {R : Room} {s : State} {args : Array Value} {own : String} {idx : Nat} (hts : ∀ w ∈ TB, w.before args s = true) (hl : Cond.methodLink own idx yX8_modulus ∈ TB) (hR : 0 + 1 ≤ R.frames ∧ 8 + (1 + 11) + 40 * 0 ≤ R.locals) : CallW R s args own RX8 idx yX8_modulus cX8_modulus 1 (some .int) (Cond.code yX8_modulus cX8_modulus 1 (some .int) :: TB) (rmN 0) 0 0 0 := cwV 0 hts (TB_V hl tw_562 tw_563 tw_2 tw_564) rfl rfl rfl (by decide +kernel) hR
set_option maxHeartbeats 4000000 in
set_option maxRecDepth 100000 in
/-- has -/
theorem c_X8_has (l : Launch) (D : va_G) (cy : Nat → ClassId) (sz : Nat) (cs : List Nat) (ad : Nat → Nat) (en : Nat → va_E) (hcs : ∀ c, c < 115 → c ∈ cs) (cnt dd mm : Int32) (t : Int32) (e1 : en 1 = .inr (7, [.ref (ad 2), .ref (ad 3), .ref (ad 10), .ref (ad 11), .int cnt, .int dd, .int mm]))  : Met l yX8_has (Cond.code yX8_has cX8_has 2 (some .boolean) :: TB) (rmN 0) (va_Pc [.ref (ad 1), .int t] (Pre D cy cs ad en sz)) (va_Qi (S := Unit) (fun r _ => r = if (0 ≤ t.toInt ∧ t.toInt < cnt.toInt) then 1 else 0) (fun _ _ => True) (Nf sz)) 0 0 (Nf sz) := by
  refine Met.ofW (cc := cX8_has) (maxL := 2) (ret := (some .boolean)) (by decide) rfl ?_
  intro p e s m args below meth c s₁ B hml hv
  obtain ⟨rfl, hsz, hP, hK, hD0⟩ := hv
  have hx := B.exec
  have hb := B.bytes
  have hr := B.returns
  have hts : ∀ w ∈ TB, w.before _ s = true := fun w h => atoms_spec (ws := _ :: TB) B.pre w (List.mem_cons_of_mem _ h)
  have hown : s.vm.findClass RX8 = some m.cls := findClass_of_methodNamed B.named
  have hlocks := B.notSynchronized
  have hh : Hp D (Nf sz) (fun _ => True) s.heap s.heap [] cs ad en := ⟨hP, hD0, va_S.rf⟩
  have hA : ∀ q : Nat, s.heap.size ≤ q → Nf sz q := fun q h => by rw [hsz] at h; exact h
  have hl := lv_entry ([.ref (ad 1), .int t]) (n := 2) (Nat.le_of_ble_eq_true rfl)
  rw [lg_entry_eq]
  generalize (lg_sl ([.ref (ad 1), .int t]) ++ List.replicate (2 - (lg_sl ([.ref (ad 1), .int t])).length) Slot.unset).toArray = ls at hl ⊢
  have hl : lv_has ls 2 [(0, .ref (ad 1)), (1, .int t)] := hl
  refine lv_iload_n hx hb dX8_has_0 rfl (lv_at hl 1 rfl) ?_
  refine lv_if_lt (tgt := 16) hx hb dX8_has_1 (by decide) (fun c_5 => ?_) (fun c_5 => ?_)
  · refine lv_iconst (v := 0) hx hb dX8_has_16 (by decide) ?_
    have : (0 : Int32).toInt = 0 := by decide
    have := i_lt c_5
    exact hp_iretR hx hb hr rfl hlocks hsz hh ((if_neg (by omega)).symm) dX8_has_17
  · refine lv_iload_n hx hb dX8_has_4 rfl (lv_at hl 1 rfl) ?_
    refine lv_aload_n hx hb dX8_has_5 rfl (lv_at hl 0 rfl) ?_
    refine hp_get hx hb hts ix8 hown hK hh (q := 1) rfl (hcs _ (by decide)) e1 rfl 4 (by decide) (hts _ tw_43) (fun _ h9 => h9) rfl dX8_has_6 ?_
    refine lv_icmp_ge (tgt := 16) hx hb dX8_has_9 (by decide) (fun c_6 => ?_) (fun c_6 => ?_)
    · refine lv_iconst (v := 0) hx hb dX8_has_16 (by decide) ?_
      have : (0 : Int32).toInt = 0 := by decide
      have := i_nlt c_5
      have := i_le c_6
      exact hp_iretR hx hb hr rfl hlocks hsz hh ((if_neg (by omega)).symm) dX8_has_17
    · refine lv_iconst (v := 1) hx hb dX8_has_12 (by decide) ?_
      refine lv_goto (tgt := 17) hx hb dX8_has_13 (by decide) ?_
      have : (0 : Int32).toInt = 0 := by decide
      have := i_nlt c_5
      have := i_nle c_6
      exact hp_iretR hx hb hr rfl hlocks hsz hh ((if_pos (by omega)).symm) dX8_has_17
theorem kw_X8_has {R : Room} {s : State} {args : Array Value} {own : String} {idx : Nat} (hts : ∀ w ∈ TB, w.before args s = true) (hl : Cond.methodLink own idx yX8_has ∈ TB) (hR : 0 + 1 ≤ R.frames ∧ 8 + (2 + 11) + 40 * 0 ≤ R.locals) : CallW R s args own RX8 idx yX8_has cX8_has 2 (some .boolean) (Cond.code yX8_has cX8_has 2 (some .boolean) :: TB) (rmN 0) 0 0 1 := cwV 1 hts (TB_V hl tw_413 tw_414 tw_2 tw_415) rfl rfl rfl (by decide +kernel) hR
set_option maxHeartbeats 4000000 in
set_option maxRecDepth 100000 in
/-- cellCount -/
theorem c_X8_cellCount (l : Launch) (D : va_G) (cy : Nat → ClassId) (sz : Nat) (cs : List Nat) (ad : Nat → Nat) (en : Nat → va_E) (hcs : ∀ c, c < 115 → c ∈ cs) (cnt dd mm : Int32) (e1 : en 1 = .inr (7, [.ref (ad 2), .ref (ad 3), .ref (ad 10), .ref (ad 11), .int cnt, .int dd, .int mm]))  : Met l yX8_cellCount (Cond.code yX8_cellCount cX8_cellCount 1 (some .int) :: TB) (rmN 0) (va_Pc [.ref (ad 1)] (Pre D cy cs ad en sz)) (va_Qi (S := Unit) (fun r _ => r = dd * dd) (fun _ _ => True) (Nf sz)) 0 0 (Nf sz) := by
  refine Met.ofW (cc := cX8_cellCount) (maxL := 1) (ret := (some .int)) (by decide) rfl ?_
  intro p e s m args below meth c s₁ B hml hv
  obtain ⟨rfl, hsz, hP, hK, hD0⟩ := hv
  have hx := B.exec
  have hb := B.bytes
  have hr := B.returns
  have hts : ∀ w ∈ TB, w.before _ s = true := fun w h => atoms_spec (ws := _ :: TB) B.pre w (List.mem_cons_of_mem _ h)
  have hown : s.vm.findClass RX8 = some m.cls := findClass_of_methodNamed B.named
  have hlocks := B.notSynchronized
  have hh : Hp D (Nf sz) (fun _ => True) s.heap s.heap [] cs ad en := ⟨hP, hD0, va_S.rf⟩
  have hA : ∀ q : Nat, s.heap.size ≤ q → Nf sz q := fun q h => by rw [hsz] at h; exact h
  have hl := lv_entry ([.ref (ad 1)]) (n := 1) (Nat.le_of_ble_eq_true rfl)
  rw [lg_entry_eq]
  generalize (lg_sl ([.ref (ad 1)]) ++ List.replicate (1 - (lg_sl ([.ref (ad 1)])).length) Slot.unset).toArray = ls at hl ⊢
  have hl : lv_has ls 1 [(0, .ref (ad 1))] := hl
  refine lv_aload_n hx hb dX8_cellCount_0 rfl (lv_at hl 0 rfl) ?_
  refine hp_get hx hb hts ix8 hown hK hh (q := 1) rfl (hcs _ (by decide)) e1 rfl 5 (by decide) (hts _ tw_44) (fun _ h9 => h9) rfl dX8_cellCount_1 ?_
  refine lv_aload_n hx hb dX8_cellCount_4 rfl (lv_at hl 0 rfl) ?_
  refine hp_get hx hb hts ix8 hown hK hh (q := 1) rfl (hcs _ (by decide)) e1 rfl 5 (by decide) (hts _ tw_44) (fun _ h9 => h9) rfl dX8_cellCount_5 ?_
  refine lv_imul hx hb dX8_cellCount_8 ?_
  exact hp_iretR hx hb hr rfl hlocks hsz hh (rfl) dX8_cellCount_9
theorem kw_X8_cellCount {R : Room} {s : State} {args : Array Value} {own : String} {idx : Nat} (hts : ∀ w ∈ TB, w.before args s = true) (hl : Cond.methodLink own idx yX8_cellCount ∈ TB) (hR : 0 + 1 ≤ R.frames ∧ 8 + (1 + 11) + 40 * 0 ≤ R.locals) : CallW R s args own RX8 idx yX8_cellCount cX8_cellCount 1 (some .int) (Cond.code yX8_cellCount cX8_cellCount 1 (some .int) :: TB) (rmN 0) 0 0 0 := cwV 0 hts (TB_V hl tw_298 tw_299 tw_2 tw_300) rfl rfl rfl (by decide +kernel) hR
set_option maxHeartbeats 4000000 in
set_option maxRecDepth 100000 in
/-- within -/
theorem c_X12_within (l : Launch) (D : va_G) (cy : Nat → ClassId) (sz : Nat) (cs : List Nat) (ad : Nat → Nat) (en : Nat → va_E) (v a b : Int64)   : Met l yX12_within (Cond.code yX12_within cX12_within 6 (some .boolean) :: TB) (rmN 0) (va_Pc [.long v, .long a, .long b] (Pre D cy cs ad en sz)) (va_Qi (S := Unit) (fun r _ => r = if wj v a b then 1 else 0) (fun _ _ => True) (Nf sz)) 0 0 (Nf sz) := by
  refine Met.ofW (cc := cX12_within) (maxL := 6) (ret := (some .boolean)) (by decide) rfl ?_
  intro p e s m args below meth c s₁ B hml hv
  obtain ⟨rfl, hsz, hP, hK, hD0⟩ := hv
  have hx := B.exec
  have hb := B.bytes
  have hr := B.returns
  have hts : ∀ w ∈ TB, w.before _ s = true := fun w h => atoms_spec (ws := _ :: TB) B.pre w (List.mem_cons_of_mem _ h)
  have hown : s.vm.findClass RX12 = some m.cls := findClass_of_methodNamed B.named
  have hlocks := B.notSynchronized
  have hh : Hp D (Nf sz) (fun _ => True) s.heap s.heap [] cs ad en := ⟨hP, hD0, va_S.rf⟩
  have hA : ∀ q : Nat, s.heap.size ≤ q → Nf sz q := fun q h => by rw [hsz] at h; exact h
  have hl := lv_entry ([.long v, .long a, .long b]) (n := 6) (Nat.le_of_ble_eq_true rfl)
  rw [lg_entry_eq]
  generalize (lg_sl ([.long v, .long a, .long b]) ++ List.replicate (6 - (lg_sl ([.long v, .long a, .long b])).length) Slot.unset).toArray = ls at hl ⊢
  have hl : lv_has ls 6 [(0, .long v), (2, .long a), (4, .long b)] := hl
  refine lv_lload_n hx hb dX12_within_0 rfl (lv_at hl 0 rfl) ?_
  refine lv_lload_n hx hb dX12_within_1 rfl (lv_at hl 1 rfl) ?_
  refine W.lcmp hx hb dX12_within_2 ?_
  refine lv_if_lt (tgt := 17) hx hb dX12_within_3 (by decide) (fun c_7 => ?_) (fun c_7 => ?_)
  · refine lv_iconst (v := 0) hx hb dX12_within_17 (by decide) ?_
    have : (0 : Int32).toInt = 0 := by decide
    have := g_lt c_7
    exact hp_iretR hx hb hr rfl hlocks hsz hh ((if_neg (by omega)).symm) dX12_within_18
  · refine lv_lload_n hx hb dX12_within_6 rfl (lv_at hl 0 rfl) ?_
    refine lv_lload hx hb dX12_within_7 (lv_at hl 2 rfl) ?_
    refine W.lcmp hx hb dX12_within_9 ?_
    refine lv_if_gt (tgt := 17) hx hb dX12_within_10 (by decide) (fun c_8 => ?_) (fun c_8 => ?_)
    · refine lv_iconst (v := 0) hx hb dX12_within_17 (by decide) ?_
      have : (0 : Int32).toInt = 0 := by decide
      have := g_nlt c_7
      have := g_gt c_8
      exact hp_iretR hx hb hr rfl hlocks hsz hh ((if_neg (by omega)).symm) dX12_within_18
    · refine lv_iconst (v := 1) hx hb dX12_within_13 (by decide) ?_
      refine lv_goto (tgt := 18) hx hb dX12_within_14 (by decide) ?_
      have : (0 : Int32).toInt = 0 := by decide
      have := g_nlt c_7
      have := g_ngt c_8
      exact hp_iretR hx hb hr rfl hlocks hsz hh ((if_pos (by omega)).symm) dX12_within_18
theorem kw_X12_within {R : Room} {s : State} {args : Array Value} {idx : Nat} (hts : ∀ w ∈ TB, w.before args s = true) (hl : Cond.methodLink RX12 idx yX12_within ∈ TB) (hR : 0 + 1 ≤ R.frames ∧ 8 + (6 + 11) + 40 * 0 ≤ R.locals) : CallB R s args RX12 idx yX12_within cX12_within 6 (some .boolean) (Cond.code yX12_within cX12_within 6 (some .boolean) :: TB) (rmN 0) 0 0 3 ∧ (Cond.static yX12_within).before args s = true := cwS 3 hts (TB_S hl tw_986 tw_9 tw_987) rfl rfl rfl (by decide +kernel) hR
set_option maxHeartbeats 4000000 in
set_option maxRecDepth 100000 in
/-- isTable -/
theorem c_X12_isTable (l : Launch) (D : va_G) (cy : Nat → ClassId) (sz : Nat) (cs : List Nat) (ad : Nat → Nat) (en : Nat → va_E) (hcs : ∀ c, c < 20 → c ∈ cs) (m_fault : Int32) (m_history : Int32) (m_wide : Int32) (m_modulus : Int32) (m_tables : Int32) (m_depth : Int32) (m_many : Int64) (m_greatest : Int64) (m_least : Int64) (m_noughts : Int64) (m_ringMany : Int32) (m_ringBest : Int64) (m_products : Int32) (m_words : Int32) (t : Int32) (mz : en 0 = .inr (11, [.int m_fault, .int m_history, .int m_wide, .int m_modulus, .int m_tables, .ref (ad 1), .ref (ad 2), .ref (ad 3), .ref (ad 4), .ref (ad 5), .ref (ad 6), .ref (ad 7), .ref (ad 8), .ref (ad 9), .int m_depth, .long m_many, .long m_greatest, .long m_least, .long m_noughts, .ref (ad 10), .ref (ad 11), .ref (ad 12), .int m_ringMany, .long m_ringBest, .ref (ad 13), .int m_products, .ref (ad 14), .ref (ad 15), .ref (ad 16), .ref (ad 17), .int m_words, .ref (ad 18), .ref (ad 19)]))  : Met l yX12_isTable (Cond.code yX12_isTable cX12_isTable 2 (some .boolean) :: TB) (rmN 0) (va_Pc [.ref (ad 0), .int t] (Pre D cy cs ad en sz)) (va_Qi (S := Unit) (fun r _ => r = if (0 ≤ t.toInt ∧ t.toInt < m_tables.toInt) then 1 else 0) (fun _ _ => True) (Nf sz)) 0 0 (Nf sz) := by
  refine Met.ofW (cc := cX12_isTable) (maxL := 2) (ret := (some .boolean)) (by decide) rfl ?_
  intro p e s m args below meth c s₁ B hml hv
  obtain ⟨rfl, hsz, hP, hK, hD0⟩ := hv
  have hx := B.exec
  have hb := B.bytes
  have hr := B.returns
  have hts : ∀ w ∈ TB, w.before _ s = true := fun w h => atoms_spec (ws := _ :: TB) B.pre w (List.mem_cons_of_mem _ h)
  have hown : s.vm.findClass RX12 = some m.cls := findClass_of_methodNamed B.named
  have hlocks := B.notSynchronized
  have hh : Hp D (Nf sz) (fun _ => True) s.heap s.heap [] cs ad en := ⟨hP, hD0, va_S.rf⟩
  have hA : ∀ q : Nat, s.heap.size ≤ q → Nf sz q := fun q h => by rw [hsz] at h; exact h
  have hl := lv_entry ([.ref (ad 0), .int t]) (n := 2) (Nat.le_of_ble_eq_true rfl)
  rw [lg_entry_eq]
  generalize (lg_sl ([.ref (ad 0), .int t]) ++ List.replicate (2 - (lg_sl ([.ref (ad 0), .int t])).length) Slot.unset).toArray = ls at hl ⊢
  have hl : lv_has ls 2 [(0, .ref (ad 0)), (1, .int t)] := hl
  refine lv_iload_n hx hb dX12_isTable_0 rfl (lv_at hl 1 rfl) ?_
  refine lv_if_lt (tgt := 16) hx hb dX12_isTable_1 (by decide) (fun c_9 => ?_) (fun c_9 => ?_)
  · refine lv_iconst (v := 0) hx hb dX12_isTable_16 (by decide) ?_
    have : (0 : Int32).toInt = 0 := by decide
    have := i_lt c_9
    exact hp_iretR hx hb hr rfl hlocks hsz hh ((if_neg (by omega)).symm) dX12_isTable_17
  · refine lv_iload_n hx hb dX12_isTable_4 rfl (lv_at hl 1 rfl) ?_
    refine lv_aload_n hx hb dX12_isTable_5 rfl (lv_at hl 0 rfl) ?_
    refine hp_get hx hb hts ix12 hown hK hh (q := 0) rfl (hcs _ (by decide)) mz rfl 4 (by decide) (hts _ tw_883) (fun _ h9 => h9) rfl dX12_isTable_6 ?_
    refine lv_icmp_ge (tgt := 16) hx hb dX12_isTable_9 (by decide) (fun c_10 => ?_) (fun c_10 => ?_)
    · refine lv_iconst (v := 0) hx hb dX12_isTable_16 (by decide) ?_
      have : (0 : Int32).toInt = 0 := by decide
      have := i_nlt c_9
      have := i_le c_10
      exact hp_iretR hx hb hr rfl hlocks hsz hh ((if_neg (by omega)).symm) dX12_isTable_17
    · refine lv_iconst (v := 1) hx hb dX12_isTable_12 (by decide) ?_
      refine lv_goto (tgt := 17) hx hb dX12_isTable_13 (by decide) ?_
      have : (0 : Int32).toInt = 0 := by decide
      have := i_nlt c_9
      have := i_nle c_10
      exact hp_iretR hx hb hr rfl hlocks hsz hh ((if_pos (by omega)).symm) dX12_isTable_17
theorem kw_X12_isTable {R : Room} {s : State} {args : Array Value} {own : String} {idx : Nat} (hts : ∀ w ∈ TB, w.before args s = true) (hl : Cond.methodLink own idx yX12_isTable ∈ TB) (hR : 0 + 1 ≤ R.frames ∧ 8 + (2 + 11) + 40 * 0 ≤ R.locals) : CallW R s args own RX12 idx yX12_isTable cX12_isTable 2 (some .boolean) (Cond.code yX12_isTable cX12_isTable 2 (some .boolean) :: TB) (rmN 0) 0 0 1 := cwV 1 hts (TB_V hl tw_1009 ts_33 tw_9 tw_1010) rfl rfl rfl (by decide +kernel) hR
set_option maxHeartbeats 4000000 in
set_option maxRecDepth 100000 in
/-- isProduct -/
theorem c_X12_isProduct (l : Launch) (D : va_G) (cy : Nat → ClassId) (sz : Nat) (cs : List Nat) (ad : Nat → Nat) (en : Nat → va_E) (hcs : ∀ c, c < 20 → c ∈ cs) (m_fault : Int32) (m_history : Int32) (m_wide : Int32) (m_modulus : Int32) (m_tables : Int32) (m_depth : Int32) (m_many : Int64) (m_greatest : Int64) (m_least : Int64) (m_noughts : Int64) (m_ringMany : Int32) (m_ringBest : Int64) (m_products : Int32) (m_words : Int32) (t : Int32) (mz : en 0 = .inr (11, [.int m_fault, .int m_history, .int m_wide, .int m_modulus, .int m_tables, .ref (ad 1), .ref (ad 2), .ref (ad 3), .ref (ad 4), .ref (ad 5), .ref (ad 6), .ref (ad 7), .ref (ad 8), .ref (ad 9), .int m_depth, .long m_many, .long m_greatest, .long m_least, .long m_noughts, .ref (ad 10), .ref (ad 11), .ref (ad 12), .int m_ringMany, .long m_ringBest, .ref (ad 13), .int m_products, .ref (ad 14), .ref (ad 15), .ref (ad 16), .ref (ad 17), .int m_words, .ref (ad 18), .ref (ad 19)]))  : Met l yX12_isProduct (Cond.code yX12_isProduct cX12_isProduct 2 (some .boolean) :: TB) (rmN 0) (va_Pc [.ref (ad 0), .int t] (Pre D cy cs ad en sz)) (va_Qi (S := Unit) (fun r _ => r = if (0 ≤ t.toInt ∧ t.toInt < m_products.toInt) then 1 else 0) (fun _ _ => True) (Nf sz)) 0 0 (Nf sz) := by
  refine Met.ofW (cc := cX12_isProduct) (maxL := 2) (ret := (some .boolean)) (by decide) rfl ?_
  intro p e s m args below meth c s₁ B hml hv
  obtain ⟨rfl, hsz, hP, hK, hD0⟩ := hv
  have hx := B.exec
  have hb := B.bytes
  have hr := B.returns
  have hts : ∀ w ∈ TB, w.before _ s = true := fun w h => atoms_spec (ws := _ :: TB) B.pre w (List.mem_cons_of_mem _ h)
  have hown : s.vm.findClass RX12 = some m.cls := findClass_of_methodNamed B.named
  have hlocks := B.notSynchronized
  have hh : Hp D (Nf sz) (fun _ => True) s.heap s.heap [] cs ad en := ⟨hP, hD0, va_S.rf⟩
  have hA : ∀ q : Nat, s.heap.size ≤ q → Nf sz q := fun q h => by rw [hsz] at h; exact h
  have hl := lv_entry ([.ref (ad 0), .int t]) (n := 2) (Nat.le_of_ble_eq_true rfl)
  rw [lg_entry_eq]
  generalize (lg_sl ([.ref (ad 0), .int t]) ++ List.replicate (2 - (lg_sl ([.ref (ad 0), .int t])).length) Slot.unset).toArray = ls at hl ⊢
  have hl : lv_has ls 2 [(0, .ref (ad 0)), (1, .int t)] := hl
  refine lv_iload_n hx hb dX12_isProduct_0 rfl (lv_at hl 1 rfl) ?_
  refine lv_if_lt (tgt := 16) hx hb dX12_isProduct_1 (by decide) (fun c_11 => ?_) (fun c_11 => ?_)
  · refine lv_iconst (v := 0) hx hb dX12_isProduct_16 (by decide) ?_
    have : (0 : Int32).toInt = 0 := by decide
    have := i_lt c_11
    exact hp_iretR hx hb hr rfl hlocks hsz hh ((if_neg (by omega)).symm) dX12_isProduct_17
  · refine lv_iload_n hx hb dX12_isProduct_4 rfl (lv_at hl 1 rfl) ?_
    refine lv_aload_n hx hb dX12_isProduct_5 rfl (lv_at hl 0 rfl) ?_
    refine hp_get hx hb hts ix12 hown hK hh (q := 0) rfl (hcs _ (by decide)) mz rfl 25 (by decide) (hts _ tw_904) (fun _ h9 => h9) rfl dX12_isProduct_6 ?_
    refine lv_icmp_ge (tgt := 16) hx hb dX12_isProduct_9 (by decide) (fun c_12 => ?_) (fun c_12 => ?_)
    · refine lv_iconst (v := 0) hx hb dX12_isProduct_16 (by decide) ?_
      have : (0 : Int32).toInt = 0 := by decide
      have := i_nlt c_11
      have := i_le c_12
      exact hp_iretR hx hb hr rfl hlocks hsz hh ((if_neg (by omega)).symm) dX12_isProduct_17
    · refine lv_iconst (v := 1) hx hb dX12_isProduct_12 (by decide) ?_
      refine lv_goto (tgt := 17) hx hb dX12_isProduct_13 (by decide) ?_
      have : (0 : Int32).toInt = 0 := by decide
      have := i_nlt c_11
      have := i_nle c_12
      exact hp_iretR hx hb hr rfl hlocks hsz hh ((if_pos (by omega)).symm) dX12_isProduct_17
theorem kw_X12_isProduct {R : Room} {s : State} {args : Array Value} {own : String} {idx : Nat} (hts : ∀ w ∈ TB, w.before args s = true) (hl : Cond.methodLink own idx yX12_isProduct ∈ TB) (hR : 0 + 1 ≤ R.frames ∧ 8 + (2 + 11) + 40 * 0 ≤ R.locals) : CallW R s args own RX12 idx yX12_isProduct cX12_isProduct 2 (some .boolean) (Cond.code yX12_isProduct cX12_isProduct 2 (some .boolean) :: TB) (rmN 0) 0 0 1 := cwV 1 hts (TB_V hl tw_1160 ts_57 tw_9 tw_1161) rfl rfl rfl (by decide +kernel) hR
set_option maxHeartbeats 4000000 in
set_option maxRecDepth 100000 in
/-- isWord -/
theorem c_X12_isWord (l : Launch) (D : va_G) (cy : Nat → ClassId) (sz : Nat) (cs : List Nat) (ad : Nat → Nat) (en : Nat → va_E) (hcs : ∀ c, c < 20 → c ∈ cs) (m_fault : Int32) (m_history : Int32) (m_wide : Int32) (m_modulus : Int32) (m_tables : Int32) (m_depth : Int32) (m_many : Int64) (m_greatest : Int64) (m_least : Int64) (m_noughts : Int64) (m_ringMany : Int32) (m_ringBest : Int64) (m_products : Int32) (m_words : Int32) (t : Int32) (mz : en 0 = .inr (11, [.int m_fault, .int m_history, .int m_wide, .int m_modulus, .int m_tables, .ref (ad 1), .ref (ad 2), .ref (ad 3), .ref (ad 4), .ref (ad 5), .ref (ad 6), .ref (ad 7), .ref (ad 8), .ref (ad 9), .int m_depth, .long m_many, .long m_greatest, .long m_least, .long m_noughts, .ref (ad 10), .ref (ad 11), .ref (ad 12), .int m_ringMany, .long m_ringBest, .ref (ad 13), .int m_products, .ref (ad 14), .ref (ad 15), .ref (ad 16), .ref (ad 17), .int m_words, .ref (ad 18), .ref (ad 19)]))  : Met l yX12_isWord (Cond.code yX12_isWord cX12_isWord 2 (some .boolean) :: TB) (rmN 0) (va_Pc [.ref (ad 0), .int t] (Pre D cy cs ad en sz)) (va_Qi (S := Unit) (fun r _ => r = if (0 ≤ t.toInt ∧ t.toInt < m_words.toInt) then 1 else 0) (fun _ _ => True) (Nf sz)) 0 0 (Nf sz) := by
  refine Met.ofW (cc := cX12_isWord) (maxL := 2) (ret := (some .boolean)) (by decide) rfl ?_
  intro p e s m args below meth c s₁ B hml hv
  obtain ⟨rfl, hsz, hP, hK, hD0⟩ := hv
  have hx := B.exec
  have hb := B.bytes
  have hr := B.returns
  have hts : ∀ w ∈ TB, w.before _ s = true := fun w h => atoms_spec (ws := _ :: TB) B.pre w (List.mem_cons_of_mem _ h)
  have hown : s.vm.findClass RX12 = some m.cls := findClass_of_methodNamed B.named
  have hlocks := B.notSynchronized
  have hh : Hp D (Nf sz) (fun _ => True) s.heap s.heap [] cs ad en := ⟨hP, hD0, va_S.rf⟩
  have hA : ∀ q : Nat, s.heap.size ≤ q → Nf sz q := fun q h => by rw [hsz] at h; exact h
  have hl := lv_entry ([.ref (ad 0), .int t]) (n := 2) (Nat.le_of_ble_eq_true rfl)
  rw [lg_entry_eq]
  generalize (lg_sl ([.ref (ad 0), .int t]) ++ List.replicate (2 - (lg_sl ([.ref (ad 0), .int t])).length) Slot.unset).toArray = ls at hl ⊢
  have hl : lv_has ls 2 [(0, .ref (ad 0)), (1, .int t)] := hl
  refine lv_iload_n hx hb dX12_isWord_0 rfl (lv_at hl 1 rfl) ?_
  refine lv_if_lt (tgt := 16) hx hb dX12_isWord_1 (by decide) (fun c_13 => ?_) (fun c_13 => ?_)
  · refine lv_iconst (v := 0) hx hb dX12_isWord_16 (by decide) ?_
    have : (0 : Int32).toInt = 0 := by decide
    have := i_lt c_13
    exact hp_iretR hx hb hr rfl hlocks hsz hh ((if_neg (by omega)).symm) dX12_isWord_17
  · refine lv_iload_n hx hb dX12_isWord_4 rfl (lv_at hl 1 rfl) ?_
    refine lv_aload_n hx hb dX12_isWord_5 rfl (lv_at hl 0 rfl) ?_
    refine hp_get hx hb hts ix12 hown hK hh (q := 0) rfl (hcs _ (by decide)) mz rfl 30 (by decide) (hts _ tw_909) (fun _ h9 => h9) rfl dX12_isWord_6 ?_
    refine lv_icmp_ge (tgt := 16) hx hb dX12_isWord_9 (by decide) (fun c_14 => ?_) (fun c_14 => ?_)
    · refine lv_iconst (v := 0) hx hb dX12_isWord_16 (by decide) ?_
      have : (0 : Int32).toInt = 0 := by decide
      have := i_nlt c_13
      have := i_le c_14
      exact hp_iretR hx hb hr rfl hlocks hsz hh ((if_neg (by omega)).symm) dX12_isWord_17
    · refine lv_iconst (v := 1) hx hb dX12_isWord_12 (by decide) ?_
      refine lv_goto (tgt := 17) hx hb dX12_isWord_13 (by decide) ?_
      have : (0 : Int32).toInt = 0 := by decide
      have := i_nlt c_13
      have := i_nle c_14
      exact hp_iretR hx hb hr rfl hlocks hsz hh ((if_pos (by omega)).symm) dX12_isWord_17
theorem kw_X12_isWord {R : Room} {s : State} {args : Array Value} {own : String} {idx : Nat} (hts : ∀ w ∈ TB, w.before args s = true) (hl : Cond.methodLink own idx yX12_isWord ∈ TB) (hR : 0 + 1 ≤ R.frames ∧ 8 + (2 + 11) + 40 * 0 ≤ R.locals) : CallW R s args own RX12 idx yX12_isWord cX12_isWord 2 (some .boolean) (Cond.code yX12_isWord cX12_isWord 2 (some .boolean) :: TB) (rmN 0) 0 0 1 := cwV 1 hts (TB_V hl tw_1177 ts_58 tw_9 tw_1178) rfl rfl rfl (by decide +kernel) hR
