set_option maxHeartbeats 4000000 in
set_option maxRecDepth 100000 in
/-- isWithin -/
theorem c_X11_isWithin (l : Launch) (D : va_G) (cy : Nat → ClassId) (sz : Nat) (cs : List Nat) (ad : Nat → Nat) (en : Nat → va_E) (v a b : Int32)   : Met l yX11_isWithin (Cond.code yX11_isWithin cX11_isWithin 3 (some .boolean) :: TB) (rmN 0) (va_Pc [.int v, .int a, .int b] (Pre D cy cs ad en sz)) (va_Qi (S := Unit) (fun r _ => r = if wi v a b then 1 else 0) (fun _ _ => True) (Nf sz)) 0 0 (Nf sz) := by
  refine Met.ofW (cc := cX11_isWithin) (maxL := 3) (ret := (some .boolean)) (by decide) rfl ?_
  intro p e s m args below meth c s₁ B hml hv
  obtain ⟨rfl, hsz, hP, hK, hD0⟩ := hv
  have hx := B.exec
  have hb := B.bytes
  have hr := B.returns
  have hts : ∀ w ∈ TB, w.before _ s = true := fun w h => atoms_spec (ws := _ :: TB) B.pre w (List.mem_cons_of_mem _ h)
  have hown : s.vm.findClass RX11 = some m.cls := findClass_of_methodNamed B.named
  have hlocks := B.notSynchronized
  have hh : Hp D (Nf sz) (fun _ => True) s.heap s.heap [] cs ad en := ⟨hP, hD0, va_S.rf⟩
  have hA : ∀ q : Nat, s.heap.size ≤ q → Nf sz q := fun q h => by rw [hsz] at h; exact h
  have hl := lv_entry ([.int v, .int a, .int b]) (n := 3) (Nat.le_of_ble_eq_true rfl)
  rw [lg_entry_eq]
  generalize (lg_sl ([.int v, .int a, .int b]) ++ List.replicate (3 - (lg_sl ([.int v, .int a, .int b])).length) Slot.unset).toArray = ls at hl ⊢
  have hl : lv_has ls 3 [(0, .int v), (1, .int a), (2, .int b)] := hl
  refine lv_iload_n hx hb dX11_isWithin_0 rfl (lv_at hl 0 rfl) ?_
  refine lv_iload_n hx hb dX11_isWithin_1 rfl (lv_at hl 1 rfl) ?_
  refine lv_icmp_lt (tgt := 14) hx hb dX11_isWithin_2 (by decide) (fun c_1 => ?_) (fun c_1 => ?_)
  · refine lv_iconst (v := 0) hx hb dX11_isWithin_14 (by decide) ?_
    have := i_lt c_1
    exact hp_iretR hx hb hr rfl hlocks hsz hh ((if_neg (by omega)).symm) dX11_isWithin_15
  · refine lv_iload_n hx hb dX11_isWithin_5 rfl (lv_at hl 0 rfl) ?_
    refine lv_iload_n hx hb dX11_isWithin_6 rfl (lv_at hl 2 rfl) ?_
    refine lv_icmp_gt (tgt := 14) hx hb dX11_isWithin_7 (by decide) (fun c_2 => ?_) (fun c_2 => ?_)
    · refine lv_iconst (v := 0) hx hb dX11_isWithin_14 (by decide) ?_
      have := i_nlt c_1
      have := i_lt c_2
      exact hp_iretR hx hb hr rfl hlocks hsz hh ((if_neg (by omega)).symm) dX11_isWithin_15
    · refine lv_iconst (v := 1) hx hb dX11_isWithin_10 (by decide) ?_
      refine lv_goto (tgt := 15) hx hb dX11_isWithin_11 (by decide) ?_
      have := i_nlt c_1
      have := i_nlt c_2
      exact hp_iretR hx hb hr rfl hlocks hsz hh ((if_pos (by omega)).symm) dX11_isWithin_15
theorem kw_X11_isWithin {R : Room} {s : State} {args : Array Value} {idx : Nat} (hts : ∀ w ∈ TB, w.before args s = true) (hl : Cond.methodLink RX11 idx yX11_isWithin ∈ TB) (hR : 0 + 1 ≤ R.frames ∧ 8 + (3 + 11) + 40 * 0 ≤ R.locals) : CallB R s args RX11 idx yX11_isWithin cX11_isWithin 3 (some .boolean) (Cond.code yX11_isWithin cX11_isWithin 3 (some .boolean) :: TB) (rmN 0) 0 0 3 ∧ (Cond.static yX11_isWithin).before args s = true := cwS 3 hts (TB_S hl tw_275 tw_1 tw_276) rfl rfl rfl (by decide +kernel) hR
set_option maxHeartbeats 4000000 in
set_option maxRecDepth 100000 in
/-- isSheet -/
theorem c_X11_isSheet (l : Launch) (D : va_G) (cy : Nat → ClassId) (sz : Nat) (cs : List Nat) (ad : Nat → Nat) (en : Nat → va_E) (k : Int32)   : Met l yX11_isSheet (Cond.code yX11_isSheet cX11_isSheet 1 (some .boolean) :: TB) (rmN 1) (va_Pc [.int k] (Pre D cy cs ad en sz)) (va_Qi (S := Unit) (fun r _ => r = if wi k 0 3 then 1 else 0) (fun _ _ => True) (Nf sz)) 0 0 (Nf sz) := by
  refine Met.ofW (cc := cX11_isSheet) (maxL := 1) (ret := (some .boolean)) (by decide) rfl ?_
  intro p e s m args below meth c s₁ B hml hv
  obtain ⟨rfl, hsz, hP, hK, hD0⟩ := hv
  have hx := B.exec
  have hb := B.bytes
  have hr := B.returns
  have hts : ∀ w ∈ TB, w.before _ s = true := fun w h => atoms_spec (ws := _ :: TB) B.pre w (List.mem_cons_of_mem _ h)
  have hown : s.vm.findClass RX11 = some m.cls := findClass_of_methodNamed B.named
  have hlocks := B.notSynchronized
  have hh : Hp D (Nf sz) (fun _ => True) s.heap s.heap [] cs ad en := ⟨hP, hD0, va_S.rf⟩
  have hA : ∀ q : Nat, s.heap.size ≤ q → Nf sz q := fun q h => by rw [hsz] at h; exact h
  have hl := lv_entry ([.int k]) (n := 1) (Nat.le_of_ble_eq_true rfl)
  rw [lg_entry_eq]
  generalize (lg_sl ([.int k]) ++ List.replicate (1 - (lg_sl ([.int k])).length) Slot.unset).toArray = ls at hl ⊢
  have hl : lv_has ls 1 [(0, .int k)] := hl
  refine lv_iload_n hx hb dX11_isSheet_0 rfl (lv_at hl 0 rfl) ?_
  refine lv_iconst (v := 0) hx hb dX11_isSheet_1 (by decide) ?_
  refine lv_iconst (v := 3) hx hb dX11_isSheet_2 (by decide) ?_
  refine hp_callRi (va_runS (As := [.int k, .int 0, .int 3]) (rest := []) ⟨hx, hb, hml, hown, hts⟩ (c_X11_isWithin l D cy _ cs ad en k 0 3 ) (kw_X11_isWithin hts tw_274 ⟨by decide, by decide⟩) (preS_of hh hK) rfl rfl hl.1 rfl (lv_room (Nat.le_of_ble_eq_true rfl)) dX11_isSheet_3 ⟨Nat.le_of_ble_eq_true rfl, Nat.le_of_ble_eq_true rfl⟩) hh hA (fun r_3 H locs hw_3 hh => ?_)
  rcases Decidable.em (wi k 0 3) with hp_3 | hp_3
  · obtain rfl : r_3 = 1 := Eq.trans hw_3 (if_pos hp_3)
    exact hp_iretR hx hb hr rfl hlocks hsz hh ((if_pos hp_3).symm) dX11_isSheet_6
  · obtain rfl : r_3 = 0 := Eq.trans hw_3 (if_neg hp_3)
    exact hp_iretR hx hb hr rfl hlocks hsz hh ((if_neg hp_3).symm) dX11_isSheet_6
theorem kw_X11_isSheet {R : Room} {s : State} {args : Array Value} {idx : Nat} (hts : ∀ w ∈ TB, w.before args s = true) (hl : Cond.methodLink RX11 idx yX11_isSheet ∈ TB) (hR : 1 + 1 ≤ R.frames ∧ 8 + (1 + 11) + 40 * 1 ≤ R.locals) : CallB R s args RX11 idx yX11_isSheet cX11_isSheet 1 (some .boolean) (Cond.code yX11_isSheet cX11_isSheet 1 (some .boolean) :: TB) (rmN 1) 0 0 1 ∧ (Cond.static yX11_isSheet).before args s = true := cwS 1 hts (TB_S hl tw_306 tw_1 tw_307) rfl rfl rfl (by decide +kernel) hR
set_option maxHeartbeats 4000000 in
set_option maxRecDepth 100000 in
/-- isLane -/
theorem c_X11_isLane (l : Launch) (D : va_G) (cy : Nat → ClassId) (sz : Nat) (cs : List Nat) (ad : Nat → Nat) (en : Nat → va_E) (k : Int32)   : Met l yX11_isLane (Cond.code yX11_isLane cX11_isLane 1 (some .boolean) :: TB) (rmN 1) (va_Pc [.int k] (Pre D cy cs ad en sz)) (va_Qi (S := Unit) (fun r _ => r = if wi k 0 2 then 1 else 0) (fun _ _ => True) (Nf sz)) 0 0 (Nf sz) := by
  refine Met.ofW (cc := cX11_isLane) (maxL := 1) (ret := (some .boolean)) (by decide) rfl ?_
  intro p e s m args below meth c s₁ B hml hv
  obtain ⟨rfl, hsz, hP, hK, hD0⟩ := hv
  have hx := B.exec
  have hb := B.bytes
  have hr := B.returns
  have hts : ∀ w ∈ TB, w.before _ s = true := fun w h => atoms_spec (ws := _ :: TB) B.pre w (List.mem_cons_of_mem _ h)
  have hown : s.vm.findClass RX11 = some m.cls := findClass_of_methodNamed B.named
  have hlocks := B.notSynchronized
  have hh : Hp D (Nf sz) (fun _ => True) s.heap s.heap [] cs ad en := ⟨hP, hD0, va_S.rf⟩
  have hA : ∀ q : Nat, s.heap.size ≤ q → Nf sz q := fun q h => by rw [hsz] at h; exact h
  have hl := lv_entry ([.int k]) (n := 1) (Nat.le_of_ble_eq_true rfl)
  rw [lg_entry_eq]
  generalize (lg_sl ([.int k]) ++ List.replicate (1 - (lg_sl ([.int k])).length) Slot.unset).toArray = ls at hl ⊢
  have hl : lv_has ls 1 [(0, .int k)] := hl
  refine lv_iload_n hx hb dX11_isLane_0 rfl (lv_at hl 0 rfl) ?_
  refine lv_iconst (v := 0) hx hb dX11_isLane_1 (by decide) ?_
  refine lv_iconst (v := 2) hx hb dX11_isLane_2 (by decide) ?_
  refine hp_callRi (va_runS (As := [.int k, .int 0, .int 2]) (rest := []) ⟨hx, hb, hml, hown, hts⟩ (c_X11_isWithin l D cy _ cs ad en k 0 2 ) (kw_X11_isWithin hts tw_274 ⟨by decide, by decide⟩) (preS_of hh hK) rfl rfl hl.1 rfl (lv_room (Nat.le_of_ble_eq_true rfl)) dX11_isLane_3 ⟨Nat.le_of_ble_eq_true rfl, Nat.le_of_ble_eq_true rfl⟩) hh hA (fun r_4 H locs hw_4 hh => ?_)
  rcases Decidable.em (wi k 0 2) with hp_4 | hp_4
  · obtain rfl : r_4 = 1 := Eq.trans hw_4 (if_pos hp_4)
    exact hp_iretR hx hb hr rfl hlocks hsz hh ((if_pos hp_4).symm) dX11_isLane_6
  · obtain rfl : r_4 = 0 := Eq.trans hw_4 (if_neg hp_4)
    exact hp_iretR hx hb hr rfl hlocks hsz hh ((if_neg hp_4).symm) dX11_isLane_6
theorem kw_X11_isLane {R : Room} {s : State} {args : Array Value} {idx : Nat} (hts : ∀ w ∈ TB, w.before args s = true) (hl : Cond.methodLink RX11 idx yX11_isLane ∈ TB) (hR : 1 + 1 ≤ R.frames ∧ 8 + (1 + 11) + 40 * 1 ≤ R.locals) : CallB R s args RX11 idx yX11_isLane cX11_isLane 1 (some .boolean) (Cond.code yX11_isLane cX11_isLane 1 (some .boolean) :: TB) (rmN 1) 0 0 1 ∧ (Cond.static yX11_isLane).before args s = true := cwS 1 hts (TB_S hl tw_309 tw_1 tw_310) rfl rfl rfl (by decide +kernel) hR
set_option maxHeartbeats 4000000 in
set_option maxRecDepth 100000 in
/-- faultAnswer -/
theorem c_X11_faultAnswer (l : Launch) (D : va_G) (cy : Nat → ClassId) (sz : Nat) (cs : List Nat) (ad : Nat → Nat) (en : Nat → va_E) (k : Int32)   : Met l yX11_faultAnswer (Cond.code yX11_faultAnswer cX11_faultAnswer 1 (some .int) :: TB) (rmN 0) (va_Pc [.int k] (Pre D cy cs ad en sz)) (va_Qi (S := Unit) (fun r _ => r = (-10) - k) (fun _ _ => True) (Nf sz)) 0 0 (Nf sz) := by
  refine Met.ofW (cc := cX11_faultAnswer) (maxL := 1) (ret := (some .int)) (by decide) rfl ?_
  intro p e s m args below meth c s₁ B hml hv
  obtain ⟨rfl, hsz, hP, hK, hD0⟩ := hv
  have hx := B.exec
  have hb := B.bytes
  have hr := B.returns
  have hts : ∀ w ∈ TB, w.before _ s = true := fun w h => atoms_spec (ws := _ :: TB) B.pre w (List.mem_cons_of_mem _ h)
  have hown : s.vm.findClass RX11 = some m.cls := findClass_of_methodNamed B.named
  have hlocks := B.notSynchronized
  have hh : Hp D (Nf sz) (fun _ => True) s.heap s.heap [] cs ad en := ⟨hP, hD0, va_S.rf⟩
  have hA : ∀ q : Nat, s.heap.size ≤ q → Nf sz q := fun q h => by rw [hsz] at h; exact h
  have hl := lv_entry ([.int k]) (n := 1) (Nat.le_of_ble_eq_true rfl)
  rw [lg_entry_eq]
  generalize (lg_sl ([.int k]) ++ List.replicate (1 - (lg_sl ([.int k])).length) Slot.unset).toArray = ls at hl ⊢
  have hl : lv_has ls 1 [(0, .int k)] := hl
  refine lv_bipush (v := (-10)) hx hb dX11_faultAnswer_0 (by decide) ?_
  refine lv_iload_n hx hb dX11_faultAnswer_2 rfl (lv_at hl 0 rfl) ?_
  refine lv_isub hx hb dX11_faultAnswer_3 ?_
  exact hp_iretR hx hb hr rfl hlocks hsz hh (rfl) dX11_faultAnswer_4
theorem kw_X11_faultAnswer {R : Room} {s : State} {args : Array Value} {idx : Nat} (hts : ∀ w ∈ TB, w.before args s = true) (hl : Cond.methodLink RX11 idx yX11_faultAnswer ∈ TB) (hR : 0 + 1 ≤ R.frames ∧ 8 + (1 + 11) + 40 * 0 ≤ R.locals) : CallB R s args RX11 idx yX11_faultAnswer cX11_faultAnswer 1 (some .int) (Cond.code yX11_faultAnswer cX11_faultAnswer 1 (some .int) :: TB) (rmN 0) 0 0 1 ∧ (Cond.static yX11_faultAnswer).before args s = true := cwS 1 hts (TB_S hl tw_312 tw_1 tw_313) rfl rfl rfl (by decide +kernel) hR
set_option maxHeartbeats 4000000 in
set_option maxRecDepth 100000 in
/-- within -/
theorem c_X12_within (l : Launch) (D : va_G) (cy : Nat → ClassId) (sz : Nat) (cs : List Nat) (ad : Nat → Nat) (en : Nat → va_E) (v a b : Int64)   : Met l yX12_within (Cond.code yX12_within cX12_within 6 (some .boolean) :: TB) (rmN 0) (va_Pc [.long v, .long a, .long b] (Pre D cy cs ad en sz)) (va_Qi (S := Unit) (fun r _ => r = if wj v a b then 1 else 0) (fun _ _ => True) (Nf sz)) 0 0 (Nf sz) := by
  refine Met.ofW (cc := cX12_within) (maxL := 6) (ret := (some .boolean)) (by decide) rfl ?_
  intro p e s m args below meth c s₁ B hml hv
  obtain ⟨rfl, hsz, hP, hK, hD0⟩ := hv
  have hx := B.exec
  have hb := B.bytes
  have hr := B.returns
  have hts : ∀ w ∈ TB, w.before _ s = true := fun w h => atoms_spec (ws := _ :: TB) B.pre w (List.mem_cons_of_mem _ h)
  have hown : s.vm.findClass RX12 = some m.cls := findClass_of_methodNamed B.named
  have hlocks := B.notSynchronized
  have hh : Hp D (Nf sz) (fun _ => True) s.heap s.heap [] cs ad en := ⟨hP, hD0, va_S.rf⟩
  have hA : ∀ q : Nat, s.heap.size ≤ q → Nf sz q := fun q h => by rw [hsz] at h; exact h
  have hl := lv_entry ([.long v, .long a, .long b]) (n := 6) (Nat.le_of_ble_eq_true rfl)
  rw [lg_entry_eq]
  generalize (lg_sl ([.long v, .long a, .long b]) ++ List.replicate (6 - (lg_sl ([.long v, .long a, .long b])).length) Slot.unset).toArray = ls at hl ⊢
  have hl : lv_has ls 6 [(0, .long v), (2, .long a), (4, .long b)] := hl
  refine lv_lload_n hx hb dX12_within_0 rfl (lv_at hl 0 rfl) ?_
  refine lv_lload_n hx hb dX12_within_1 rfl (lv_at hl 1 rfl) ?_
  refine W.lcmp hx hb dX12_within_2 ?_
  refine lv_if_lt (tgt := 17) hx hb dX12_within_3 (by decide) (fun c_7 => ?_) (fun c_7 => ?_)
  · refine lv_iconst (v := 0) hx hb dX12_within_17 (by decide) ?_
    have : (0 : Int32).toInt = 0 := by decide
    have := g_lt c_7
    exact hp_iretR hx hb hr rfl hlocks hsz hh ((if_neg (by omega)).symm) dX12_within_18
  · refine lv_lload_n hx hb dX12_within_6 rfl (lv_at hl 0 rfl) ?_
    refine lv_lload hx hb dX12_within_7 (lv_at hl 2 rfl) ?_
    refine W.lcmp hx hb dX12_within_9 ?_
    refine lv_if_gt (tgt := 17) hx hb dX12_within_10 (by decide) (fun c_8 => ?_) (fun c_8 => ?_)
    · refine lv_iconst (v := 0) hx hb dX12_within_17 (by decide) ?_
      have : (0 : Int32).toInt = 0 := by decide
      have := g_nlt c_7
      have := g_gt c_8
      exact hp_iretR hx hb hr rfl hlocks hsz hh ((if_neg (by omega)).symm) dX12_within_18
    · refine lv_iconst (v := 1) hx hb dX12_within_13 (by decide) ?_
      refine lv_goto (tgt := 18) hx hb dX12_within_14 (by decide) ?_
      have : (0 : Int32).toInt = 0 := by decide
      have := g_nlt c_7
      have := g_ngt c_8
      exact hp_iretR hx hb hr rfl hlocks hsz hh ((if_pos (by omega)).symm) dX12_within_18
theorem kw_X12_within {R : Room} {s : State} {args : Array Value} {idx : Nat} (hts : ∀ w ∈ TB, w.before args s = true) (hl : Cond.methodLink RX12 idx yX12_within ∈ TB) (hR : 0 + 1 ≤ R.frames ∧ 8 + (6 + 11) + 40 * 0 ≤ R.locals) : CallB R s args RX12 idx yX12_within cX12_within 6 (some .boolean) (Cond.code yX12_within cX12_within 6 (some .boolean) :: TB) (rmN 0) 0 0 3 ∧ (Cond.static yX12_within).before args s = true := cwS 3 hts (TB_S hl tw_986 tw_9 tw_987) rfl rfl rfl (by decide +kernel) hR
