set_option maxHeartbeats 4000000 in
set_option maxRecDepth 100000 in
/-- sizeOf -/
theorem c_X12_sizeOf (l : Launch) (D : va_G) (cy : Nat → ClassId) (sz : Nat) (cs : List Nat) (ad : Nat → Nat) (en : Nat → va_E) (hI : RX cy cs ad en) (v : Int64)   : Met l yX12_sizeOf (Cond.code yX12_sizeOf cX12_sizeOf 2 (some .long) :: TB) (rmN 0) (va_Pc [.long v] (Pre D cy cs ad en sz)) (va_Ql (S := Unit) (fun r _ => r = absR v) (fun _ _ => True) (Nf sz)) 0 0 (Nf sz) := by
  refine Met.ofW (cc := cX12_sizeOf) (maxL := 2) (ret := (some .long)) (by decide) rfl ?_
  intro p e s m args below meth c s₁ B hml hv
  obtain ⟨rfl, hsz, hP, hK, hD0⟩ := hv
  have hx := B.exec
  have hb := B.bytes
  have hr := B.returns
  have hts : ∀ w ∈ TB, w.before _ s = true := fun w h => atoms_spec (ws := _ :: TB) B.pre w (List.mem_cons_of_mem _ h)
  have hown : s.vm.findClass RX12 = some m.cls := findClass_of_methodNamed B.named
  have hlocks := B.notSynchronized
  have hh : Hp D (Nf sz) (fun _ => True) s.heap s.heap [] cs ad en := ⟨hP, hD0, va_S.rf⟩
  have hA : ∀ q : Nat, s.heap.size ≤ q → Nf sz q := fun q h => by rw [hsz] at h; exact h
  have hl := lv_entry ([.long v]) (n := 2) (Nat.le_of_ble_eq_true rfl)
  rw [lg_entry_eq]
  generalize (lg_sl ([.long v]) ++ List.replicate (2 - (lg_sl ([.long v])).length) Slot.unset).toArray = ls at hl ⊢
  have hl : lv_has ls 2 [(0, .long v)] := hl
  refine lv_lload_n hx hb dX12_sizeOf_0 rfl (lv_at hl 0 rfl) ?_
  refine lv_lconst (v := 0) hx hb dX12_sizeOf_1 (by decide) ?_
  refine W.lcmp hx hb dX12_sizeOf_2 ?_
  refine lv_if_ge (tgt := 11) hx hb dX12_sizeOf_3 (by decide) (fun c_931 => ?_) (fun c_931 => ?_)
  · refine lv_lload_n hx hb dX12_sizeOf_11 rfl (lv_at hl 0 rfl) ?_
    exact hp_lretR hx hb hr hlocks hsz hh (by unfold absR; rw [if_neg (fun q => absurd (Int64.lt_iff_toInt_lt.mp q) (Int.not_lt.mpr (g_ge c_931)))]) dX12_sizeOf_12
  · refine lv_lload_n hx hb dX12_sizeOf_6 rfl (lv_at hl 0 rfl) ?_
    refine lv_lneg hx hb dX12_sizeOf_7 ?_
    refine lv_goto (tgt := 12) hx hb dX12_sizeOf_8 (by decide) ?_
    exact hp_lretR hx hb hr hlocks hsz hh (by unfold absR; rw [if_pos (Int64.lt_iff_toInt_lt.mpr (g_nge c_931))]) dX12_sizeOf_12
theorem kw_X12_sizeOf {R : Room} {s : State} {args : Array Value} {idx : Nat} (hts : ∀ w ∈ TB, w.before args s = true) (hl : Cond.methodLink RX12 idx yX12_sizeOf ∈ TB) (hR : 0 + 1 ≤ R.frames ∧ 8 + (2 + 11) + 40 * 0 ≤ R.locals) : CallB R s args RX12 idx yX12_sizeOf cX12_sizeOf 2 (some .long) (Cond.code yX12_sizeOf cX12_sizeOf 2 (some .long) :: TB) (rmN 0) 0 0 1 ∧ (Cond.static yX12_sizeOf).before args s = true := cwS 1 hts (TB_S hl tw_1063 tw_9 tw_1064) rfl rfl rfl (by decide +kernel) hR
set_option maxHeartbeats 4000000 in
set_option maxRecDepth 100000 in
/-- X12_fails -/
theorem c_X12_fails (l : Launch) (D : va_G) (cy : Nat → ClassId) (sz : Nat) (cs : List Nat) (ad : Nat → Nat) (en : Nat → va_E) (hm0 : 0 ∈ cs) (fa : Int32) (hi : Int32) (wd : Nat) (mo : Nat) (tb : Nat) (dp : Int32) (many : Int64) (grt : Int64) (lst : Int64) (nou : Int64) (rm : Int32) (rb : Int64) (pr : Int32) (wo : Nat) (k9 : Int32) (e0 : en 0 = .inr (11, [.int fa, .int hi, .int (nI wd), .int (nI mo), .int (nI tb), .ref (ad 1), .ref (ad 2), .ref (ad 3), .ref (ad 4), .ref (ad 5), .ref (ad 6), .ref (ad 7), .ref (ad 8), .ref (ad 9), .int dp, .long many, .long grt, .long lst, .long nou, .ref (ad 10), .ref (ad 11), .ref (ad 12), .int rm, .long rb, .ref (ad 13), .int pr, .ref (ad 14), .ref (ad 15), .ref (ad 16), .ref (ad 17), .int (nI wo), .ref (ad 18), .ref (ad 19)]))  : Met l yX12_fails (Cond.code yX12_fails cX12_fails 2 (some .int) :: TB) (rmN 0) (va_Pc [.ref (ad 0), .int k9] (Pre D cy cs ad en sz)) (va_Qi (S := Nat → va_E) (fun r en1 => r = (-10) - k9 ∧ en1 = va_up en 0 (.inr (11, [.int k9, .int hi, .int (nI wd), .int (nI mo), .int (nI tb), .ref (ad 1), .ref (ad 2), .ref (ad 3), .ref (ad 4), .ref (ad 5), .ref (ad 6), .ref (ad 7), .ref (ad 8), .ref (ad 9), .int dp, .long many, .long grt, .long lst, .long nou, .ref (ad 10), .ref (ad 11), .ref (ad 12), .int rm, .long rb, .ref (ad 13), .int pr, .ref (ad 14), .ref (ad 15), .ref (ad 16), .ref (ad 17), .int (nI wo), .ref (ad 18), .ref (ad 19)]))) (PostM D cs ad) (Af cs ad sz)) 0 0 (Af cs ad sz) := by
  refine Met.ofW (cc := cX12_fails) (maxL := 2) (ret := (some .int)) (by decide) rfl ?_
  intro p e s m args below meth c s₁ B hml hv
  obtain ⟨rfl, hsz, hP, hK, hD0⟩ := hv
  have hx := B.exec
  have hb := B.bytes
  have hr := B.returns
  have hts : ∀ w ∈ TB, w.before _ s = true := fun w h => atoms_spec (ws := _ :: TB) B.pre w (List.mem_cons_of_mem _ h)
  have hown : s.vm.findClass RX12 = some m.cls := findClass_of_methodNamed B.named
  have hlocks := B.notSynchronized
  have hh : Hp D (Af cs ad sz) (Af cs ad sz) s.heap s.heap [] cs ad en := ⟨hP, Af_self hD0, va_S.rf⟩
  have hA : ∀ q : Nat, s.heap.size ≤ q → Af cs ad sz q := fun q h => Or.inr (by rw [hsz] at h; exact h)
  have hl := lv_entry ([.ref (ad 0), .int k9]) (n := 2) (Nat.le_of_ble_eq_true rfl)
  rw [lg_entry_eq]
  generalize (lg_sl ([.ref (ad 0), .int k9]) ++ List.replicate (2 - (lg_sl ([.ref (ad 0), .int k9])).length) Slot.unset).toArray = ls at hl ⊢
  have hl : lv_has ls 2 [(0, .ref (ad 0)), (1, .int k9)] := hl
  refine lv_aload_n hx hb dX12_fails_0 rfl (lv_at hl 0 rfl) ?_
  refine lv_iload_n hx hb dX12_fails_1 rfl (lv_at hl 1 rfl) ?_
  refine hp_put hx hb hts ix12 tyX12 tyX12_ok nmX12 hown hK hh (q := 0) rfl hm0 e0 rfl 0 (by decide) (hts _ tw_879) (fun _ h9 => h9) rfl (ty := .int) (by decide +kernel) rfl rfl (Nat.le_of_ble_eq_true rfl) dX12_fails_2 (fun H locs en_932 hen_932 hh => ?_)
  have e0_932 : en_932 0 = .inr (11, [.int k9, .int hi, .int (nI wd), .int (nI mo), .int (nI tb), .ref (ad 1), .ref (ad 2), .ref (ad 3), .ref (ad 4), .ref (ad 5), .ref (ad 6), .ref (ad 7), .ref (ad 8), .ref (ad 9), .int dp, .long many, .long grt, .long lst, .long nou, .ref (ad 10), .ref (ad 11), .ref (ad 12), .int rm, .long rb, .ref (ad 13), .int pr, .ref (ad 14), .ref (ad 15), .ref (ad 16), .ref (ad 17), .int (nI wo), .ref (ad 18), .ref (ad 19)]) := by rw [hen_932]; exact va_up_self _ _ _
  refine lv_bipush (v := (-10)) hx hb dX12_fails_5 (by decide) ?_
  refine lv_iload_n hx hb dX12_fails_7 rfl (lv_at hl 1 rfl) ?_
  refine lv_isub hx hb dX12_fails_8 ?_
  exact hp_iretM hx hb hr rfl hlocks hh (⟨rfl, hen_932⟩) dX12_fails_9
theorem kw_X12_fails {R : Room} {s : State} {args : Array Value} {own : String} {idx : Nat} (hts : ∀ w ∈ TB, w.before args s = true) (hl : Cond.methodLink own idx yX12_fails ∈ TB) (hR : 0 + 1 ≤ R.frames ∧ 8 + (2 + 11) + 40 * 0 ≤ R.locals) : CallW R s args own RX12 idx yX12_fails cX12_fails 2 (some .int) (Cond.code yX12_fails cX12_fails 2 (some .int) :: TB) (rmN 0) 0 0 1 := cwV 1 hts (TB_V hl tw_999 ts_32 tw_9 tw_1000) rfl rfl rfl (by decide +kernel) hR
set_option maxHeartbeats 4000000 in
set_option maxRecDepth 100000 in
/-- X12_lost -/
theorem c_X12_lost (l : Launch) (D : va_G) (cy : Nat → ClassId) (sz : Nat) (cs : List Nat) (ad : Nat → Nat) (en : Nat → va_E) (hm0 : 0 ∈ cs) (fa : Int32) (hi : Int32) (wd : Nat) (mo : Nat) (tb : Nat) (dp : Int32) (many : Int64) (grt : Int64) (lst : Int64) (nou : Int64) (rm : Int32) (rb : Int64) (pr : Int32) (wo : Nat) (k9 : Int32) (e0 : en 0 = .inr (11, [.int fa, .int hi, .int (nI wd), .int (nI mo), .int (nI tb), .ref (ad 1), .ref (ad 2), .ref (ad 3), .ref (ad 4), .ref (ad 5), .ref (ad 6), .ref (ad 7), .ref (ad 8), .ref (ad 9), .int dp, .long many, .long grt, .long lst, .long nou, .ref (ad 10), .ref (ad 11), .ref (ad 12), .int rm, .long rb, .ref (ad 13), .int pr, .ref (ad 14), .ref (ad 15), .ref (ad 16), .ref (ad 17), .int (nI wo), .ref (ad 18), .ref (ad 19)]))  : Met l yX12_lost (Cond.code yX12_lost cX12_lost 2 (some .long) :: TB) (rmN 0) (va_Pc [.ref (ad 0), .int k9] (Pre D cy cs ad en sz)) (va_Ql (S := Nat → va_E) (fun r en1 => r = (-9223372036854775808) ∧ en1 = va_up en 0 (.inr (11, [.int k9, .int hi, .int (nI wd), .int (nI mo), .int (nI tb), .ref (ad 1), .ref (ad 2), .ref (ad 3), .ref (ad 4), .ref (ad 5), .ref (ad 6), .ref (ad 7), .ref (ad 8), .ref (ad 9), .int dp, .long many, .long grt, .long lst, .long nou, .ref (ad 10), .ref (ad 11), .ref (ad 12), .int rm, .long rb, .ref (ad 13), .int pr, .ref (ad 14), .ref (ad 15), .ref (ad 16), .ref (ad 17), .int (nI wo), .ref (ad 18), .ref (ad 19)]))) (PostM D cs ad) (Af cs ad sz)) 0 0 (Af cs ad sz) := by
  refine Met.ofW (cc := cX12_lost) (maxL := 2) (ret := (some .long)) (by decide) rfl ?_
  intro p e s m args below meth c s₁ B hml hv
  obtain ⟨rfl, hsz, hP, hK, hD0⟩ := hv
  have hx := B.exec
  have hb := B.bytes
  have hr := B.returns
  have hts : ∀ w ∈ TB, w.before _ s = true := fun w h => atoms_spec (ws := _ :: TB) B.pre w (List.mem_cons_of_mem _ h)
  have hown : s.vm.findClass RX12 = some m.cls := findClass_of_methodNamed B.named
  have hlocks := B.notSynchronized
  have hh : Hp D (Af cs ad sz) (Af cs ad sz) s.heap s.heap [] cs ad en := ⟨hP, Af_self hD0, va_S.rf⟩
  have hA : ∀ q : Nat, s.heap.size ≤ q → Af cs ad sz q := fun q h => Or.inr (by rw [hsz] at h; exact h)
  have hl := lv_entry ([.ref (ad 0), .int k9]) (n := 2) (Nat.le_of_ble_eq_true rfl)
  rw [lg_entry_eq]
  generalize (lg_sl ([.ref (ad 0), .int k9]) ++ List.replicate (2 - (lg_sl ([.ref (ad 0), .int k9])).length) Slot.unset).toArray = ls at hl ⊢
  have hl : lv_has ls 2 [(0, .ref (ad 0)), (1, .int k9)] := hl
  refine lv_aload_n hx hb dX12_lost_0 rfl (lv_at hl 0 rfl) ?_
  refine lv_iload_n hx hb dX12_lost_1 rfl (lv_at hl 1 rfl) ?_
  refine hp_put hx hb hts ix12 tyX12 tyX12_ok nmX12 hown hK hh (q := 0) rfl hm0 e0 rfl 0 (by decide) (hts _ tw_879) (fun _ h9 => h9) rfl (ty := .int) (by decide +kernel) rfl rfl (Nat.le_of_ble_eq_true rfl) dX12_lost_2 (fun H locs en_933 hen_933 hh => ?_)
  have e0_933 : en_933 0 = .inr (11, [.int k9, .int hi, .int (nI wd), .int (nI mo), .int (nI tb), .ref (ad 1), .ref (ad 2), .ref (ad 3), .ref (ad 4), .ref (ad 5), .ref (ad 6), .ref (ad 7), .ref (ad 8), .ref (ad 9), .int dp, .long many, .long grt, .long lst, .long nou, .ref (ad 10), .ref (ad 11), .ref (ad 12), .int rm, .long rb, .ref (ad 13), .int pr, .ref (ad 14), .ref (ad 15), .ref (ad 16), .ref (ad 17), .int (nI wo), .ref (ad 18), .ref (ad 19)]) := by rw [hen_933]; exact va_up_self _ _ _
  refine lv_ldc2 hx hb hown (hts _ tw_1015) dX12_lost_5 ?_
  exact hp_lretM hx hb hr hlocks hh (⟨rfl, hen_933⟩) dX12_lost_8
theorem kw_X12_lost {R : Room} {s : State} {args : Array Value} {own : String} {idx : Nat} (hts : ∀ w ∈ TB, w.before args s = true) (hl : Cond.methodLink own idx yX12_lost ∈ TB) (hR : 0 + 1 ≤ R.frames ∧ 8 + (2 + 11) + 40 * 0 ≤ R.locals) : CallW R s args own RX12 idx yX12_lost cX12_lost 2 (some .long) (Cond.code yX12_lost cX12_lost 2 (some .long) :: TB) (rmN 0) 0 0 1 := cwV 1 hts (TB_V hl tw_1217 ts_60 tw_9 tw_1218) rfl rfl rfl (by decide +kernel) hR
set_option maxHeartbeats 4000000 in
set_option maxRecDepth 100000 in
/-- X12_begins -/
theorem c_X12_begins (l : Launch) (D : va_G) (cy : Nat → ClassId) (sz : Nat) (cs : List Nat) (ad : Nat → Nat) (en : Nat → va_E) (hm0 : 0 ∈ cs) (fa : Int32) (hi : Int32) (wd : Nat) (mo : Nat) (tb : Nat) (dp : Int32) (many : Int64) (grt : Int64) (lst : Int64) (nou : Int64) (rm : Int32) (rb : Int64) (pr : Int32) (wo : Nat) (k9 : Int32) (e0 : en 0 = .inr (11, [.int fa, .int hi, .int (nI wd), .int (nI mo), .int (nI tb), .ref (ad 1), .ref (ad 2), .ref (ad 3), .ref (ad 4), .ref (ad 5), .ref (ad 6), .ref (ad 7), .ref (ad 8), .ref (ad 9), .int dp, .long many, .long grt, .long lst, .long nou, .ref (ad 10), .ref (ad 11), .ref (ad 12), .int rm, .long rb, .ref (ad 13), .int pr, .ref (ad 14), .ref (ad 15), .ref (ad 16), .ref (ad 17), .int (nI wo), .ref (ad 18), .ref (ad 19)]))  : Met l yX12_begins (Cond.code yX12_begins cX12_begins 2 none :: TB) (rmN 0) (va_Pc [.ref (ad 0), .int k9] (Pre D cy cs ad en sz)) (va_Qv (S := Nat → va_E) (fun en1 => en1 = va_up en 0 (.inr (11, [.int fa, .int (31 * hi + k9), .int (nI wd), .int (nI mo), .int (nI tb), .ref (ad 1), .ref (ad 2), .ref (ad 3), .ref (ad 4), .ref (ad 5), .ref (ad 6), .ref (ad 7), .ref (ad 8), .ref (ad 9), .int dp, .long many, .long grt, .long lst, .long nou, .ref (ad 10), .ref (ad 11), .ref (ad 12), .int rm, .long rb, .ref (ad 13), .int pr, .ref (ad 14), .ref (ad 15), .ref (ad 16), .ref (ad 17), .int (nI wo), .ref (ad 18), .ref (ad 19)]))) (PostM D cs ad) (Af cs ad sz)) 0 0 (Af cs ad sz) := by
  refine Met.ofW (cc := cX12_begins) (maxL := 2) (ret := none) (by decide) rfl ?_
  intro p e s m args below meth c s₁ B hml hv
  obtain ⟨rfl, hsz, hP, hK, hD0⟩ := hv
  have hx := B.exec
  have hb := B.bytes
  have hr := B.returns
  have hts : ∀ w ∈ TB, w.before _ s = true := fun w h => atoms_spec (ws := _ :: TB) B.pre w (List.mem_cons_of_mem _ h)
  have hown : s.vm.findClass RX12 = some m.cls := findClass_of_methodNamed B.named
  have hlocks := B.notSynchronized
  have hh : Hp D (Af cs ad sz) (Af cs ad sz) s.heap s.heap [] cs ad en := ⟨hP, Af_self hD0, va_S.rf⟩
  have hA : ∀ q : Nat, s.heap.size ≤ q → Af cs ad sz q := fun q h => Or.inr (by rw [hsz] at h; exact h)
  have hl := lv_entry ([.ref (ad 0), .int k9]) (n := 2) (Nat.le_of_ble_eq_true rfl)
  rw [lg_entry_eq]
  generalize (lg_sl ([.ref (ad 0), .int k9]) ++ List.replicate (2 - (lg_sl ([.ref (ad 0), .int k9])).length) Slot.unset).toArray = ls at hl ⊢
  have hl : lv_has ls 2 [(0, .ref (ad 0)), (1, .int k9)] := hl
  refine lv_aload_n hx hb dX12_begins_0 rfl (lv_at hl 0 rfl) ?_
  refine lv_bipush (v := 31) hx hb dX12_begins_1 (by decide) ?_
  refine lv_aload_n hx hb dX12_begins_3 rfl (lv_at hl 0 rfl) ?_
  refine hp_get hx hb hts ix12 hown hK hh (q := 0) rfl hm0 e0 rfl 1 (by decide) (hts _ tw_880) (fun _ h9 => h9) rfl dX12_begins_4 ?_
  refine lv_imul hx hb dX12_begins_7 ?_
  refine lv_iload_n hx hb dX12_begins_8 rfl (lv_at hl 1 rfl) ?_
  refine lv_iadd hx hb dX12_begins_9 ?_
  refine hp_put hx hb hts ix12 tyX12 tyX12_ok nmX12 hown hK hh (q := 0) rfl hm0 e0 rfl 1 (by decide) (hts _ tw_880) (fun _ h9 => h9) rfl (ty := .int) (by decide +kernel) rfl rfl (Nat.le_of_ble_eq_true rfl) dX12_begins_10 (fun H locs en_934 hen_934 hh => ?_)
  have e0_934 : en_934 0 = .inr (11, [.int fa, .int ((31 * hi) + k9), .int (nI wd), .int (nI mo), .int (nI tb), .ref (ad 1), .ref (ad 2), .ref (ad 3), .ref (ad 4), .ref (ad 5), .ref (ad 6), .ref (ad 7), .ref (ad 8), .ref (ad 9), .int dp, .long many, .long grt, .long lst, .long nou, .ref (ad 10), .ref (ad 11), .ref (ad 12), .int rm, .long rb, .ref (ad 13), .int pr, .ref (ad 14), .ref (ad 15), .ref (ad 16), .ref (ad 17), .int (nI wo), .ref (ad 18), .ref (ad 19)]) := by rw [hen_934]; exact va_up_self _ _ _
  exact hp_vretM hx hb hr hlocks hh (hen_934) dX12_begins_13
theorem kw_X12_begins {R : Room} {s : State} {args : Array Value} {own : String} {idx : Nat} (hts : ∀ w ∈ TB, w.before args s = true) (hl : Cond.methodLink own idx yX12_begins ∈ TB) (hR : 0 + 1 ≤ R.frames ∧ 8 + (2 + 11) + 40 * 0 ≤ R.locals) : CallW R s args own RX12 idx yX12_begins cX12_begins 2 none (Cond.code yX12_begins cX12_begins 2 none :: TB) (rmN 0) 0 0 1 := cwV 1 hts (TB_V hl tw_1229 ts_62 tw_9 tw_1230) rfl rfl rfl (by decide +kernel) hR
set_option maxHeartbeats 4000000 in
set_option maxRecDepth 100000 in
/-- isTable -/
theorem c_X12_isTable (l : Launch) (D : va_G) (cy : Nat → ClassId) (sz : Nat) (cs : List Nat) (ad : Nat → Nat) (en : Nat → va_E) (hI : RX cy cs ad en) (t : Int32)   : Met l yX12_isTable (Cond.code yX12_isTable cX12_isTable 2 (some .boolean) :: TB) (rmN 0) (va_Pc [.ref (ad 0), .int t] (Pre D cy cs ad en sz)) (va_Qi (S := Unit) (fun r _ => r = if (0 ≤ t.toInt ∧ t.toInt < (rdI (en 0) 4).toInt) then 1 else 0) (fun _ _ => True) (Nf sz)) 0 0 (Nf sz) := by
  refine Met.ofW (cc := cX12_isTable) (maxL := 2) (ret := (some .boolean)) (by decide) rfl ?_
  intro p e s m args below meth c s₁ B hml hv
  obtain ⟨rfl, hsz, hP, hK, hD0⟩ := hv
  have hx := B.exec
  have hb := B.bytes
  have hr := B.returns
  have hts : ∀ w ∈ TB, w.before _ s = true := fun w h => atoms_spec (ws := _ :: TB) B.pre w (List.mem_cons_of_mem _ h)
  have hown : s.vm.findClass RX12 = some m.cls := findClass_of_methodNamed B.named
  have hlocks := B.notSynchronized
  have hh : Hp D (Nf sz) (fun _ => True) s.heap s.heap [] cs ad en := ⟨hP, hD0, va_S.rf⟩
  have hA : ∀ q : Nat, s.heap.size ≤ q → Nf sz q := fun q h => by rw [hsz] at h; exact h
  have hl := lv_entry ([.ref (ad 0), .int t]) (n := 2) (Nat.le_of_ble_eq_true rfl)
  rw [lg_entry_eq]
  generalize (lg_sl ([.ref (ad 0), .int t]) ++ List.replicate (2 - (lg_sl ([.ref (ad 0), .int t])).length) Slot.unset).toArray = ls at hl ⊢
  have hl : lv_has ls 2 [(0, .ref (ad 0)), (1, .int t)] := hl
  obtain ⟨fa, hi, wd, mo, tb, dp, many, grt, lst, nou, rm, rb, pr, wo, es935, hwd2, hwd3, hmo, htb, hwo⟩ := getr_M hI
  refine lv_iload_n hx hb dX12_isTable_0 rfl (lv_at hl 1 rfl) ?_
  refine lv_if_lt (tgt := 16) hx hb dX12_isTable_1 (by decide) (fun c_936 => ?_) (fun c_936 => ?_)
  · refine lv_iconst (v := 0) hx hb dX12_isTable_16 (by decide) ?_
    have : (0 : Int32).toInt = 0 := by decide
    have := i_lt c_936
    have hrd9 : rdI (en 0) 4 = (nI tb) := by rw [es935]; rfl
    have hnT : (nI tb).toInt = (tb : Int) := nI_toInt (by omega)
    exact hp_iretR hx hb hr rfl hlocks hsz hh ((by rw [hrd9]; exact (if_neg (by omega)).symm)) dX12_isTable_17
  · refine lv_iload_n hx hb dX12_isTable_4 rfl (lv_at hl 1 rfl) ?_
    refine lv_aload_n hx hb dX12_isTable_5 rfl (lv_at hl 0 rfl) ?_
    refine hp_get hx hb hts ix12 hown hK hh (q := 0) rfl (hI.1 _ (by decide)) es935 rfl 4 (by decide) (hts _ tw_883) (fun _ h9 => h9) rfl dX12_isTable_6 ?_
    refine lv_icmp_ge (tgt := 16) hx hb dX12_isTable_9 (by decide) (fun c_937 => ?_) (fun c_937 => ?_)
    · refine lv_iconst (v := 0) hx hb dX12_isTable_16 (by decide) ?_
      have : (0 : Int32).toInt = 0 := by decide
      have := i_nlt c_936
      have := i_le c_937
      have hrd9 : rdI (en 0) 4 = (nI tb) := by rw [es935]; rfl
      have hnT : (nI tb).toInt = (tb : Int) := nI_toInt (by omega)
      exact hp_iretR hx hb hr rfl hlocks hsz hh ((by rw [hrd9]; exact (if_neg (by omega)).symm)) dX12_isTable_17
    · refine lv_iconst (v := 1) hx hb dX12_isTable_12 (by decide) ?_
      refine lv_goto (tgt := 17) hx hb dX12_isTable_13 (by decide) ?_
      have : (0 : Int32).toInt = 0 := by decide
      have := i_nlt c_936
      have := i_nle c_937
      have hrd9 : rdI (en 0) 4 = (nI tb) := by rw [es935]; rfl
      have hnT : (nI tb).toInt = (tb : Int) := nI_toInt (by omega)
      exact hp_iretR hx hb hr rfl hlocks hsz hh ((by rw [hrd9]; exact (if_pos (by omega)).symm)) dX12_isTable_17
theorem kw_X12_isTable {R : Room} {s : State} {args : Array Value} {own : String} {idx : Nat} (hts : ∀ w ∈ TB, w.before args s = true) (hl : Cond.methodLink own idx yX12_isTable ∈ TB) (hR : 0 + 1 ≤ R.frames ∧ 8 + (2 + 11) + 40 * 0 ≤ R.locals) : CallW R s args own RX12 idx yX12_isTable cX12_isTable 2 (some .boolean) (Cond.code yX12_isTable cX12_isTable 2 (some .boolean) :: TB) (rmN 0) 0 0 1 := cwV 1 hts (TB_V hl tw_1009 ts_33 tw_9 tw_1010) rfl rfl rfl (by decide +kernel) hR
set_option maxHeartbeats 4000000 in
set_option maxRecDepth 100000 in
/-- isProduct -/
theorem c_X12_isProduct (l : Launch) (D : va_G) (cy : Nat → ClassId) (sz : Nat) (cs : List Nat) (ad : Nat → Nat) (en : Nat → va_E) (hI : RX cy cs ad en) (t : Int32)   : Met l yX12_isProduct (Cond.code yX12_isProduct cX12_isProduct 2 (some .boolean) :: TB) (rmN 0) (va_Pc [.ref (ad 0), .int t] (Pre D cy cs ad en sz)) (va_Qi (S := Unit) (fun r _ => r = if (0 ≤ t.toInt ∧ t.toInt < (rdI (en 0) 25).toInt) then 1 else 0) (fun _ _ => True) (Nf sz)) 0 0 (Nf sz) := by
  refine Met.ofW (cc := cX12_isProduct) (maxL := 2) (ret := (some .boolean)) (by decide) rfl ?_
  intro p e s m args below meth c s₁ B hml hv
  obtain ⟨rfl, hsz, hP, hK, hD0⟩ := hv
  have hx := B.exec
  have hb := B.bytes
  have hr := B.returns
  have hts : ∀ w ∈ TB, w.before _ s = true := fun w h => atoms_spec (ws := _ :: TB) B.pre w (List.mem_cons_of_mem _ h)
  have hown : s.vm.findClass RX12 = some m.cls := findClass_of_methodNamed B.named
  have hlocks := B.notSynchronized
  have hh : Hp D (Nf sz) (fun _ => True) s.heap s.heap [] cs ad en := ⟨hP, hD0, va_S.rf⟩
  have hA : ∀ q : Nat, s.heap.size ≤ q → Nf sz q := fun q h => by rw [hsz] at h; exact h
  have hl := lv_entry ([.ref (ad 0), .int t]) (n := 2) (Nat.le_of_ble_eq_true rfl)
  rw [lg_entry_eq]
  generalize (lg_sl ([.ref (ad 0), .int t]) ++ List.replicate (2 - (lg_sl ([.ref (ad 0), .int t])).length) Slot.unset).toArray = ls at hl ⊢
  have hl : lv_has ls 2 [(0, .ref (ad 0)), (1, .int t)] := hl
  obtain ⟨fa, hi, wd, mo, tb, dp, many, grt, lst, nou, rm, rb, pr, wo, es938, hwd2, hwd3, hmo, htb, hwo⟩ := getr_M hI
  refine lv_iload_n hx hb dX12_isProduct_0 rfl (lv_at hl 1 rfl) ?_
  refine lv_if_lt (tgt := 16) hx hb dX12_isProduct_1 (by decide) (fun c_939 => ?_) (fun c_939 => ?_)
  · refine lv_iconst (v := 0) hx hb dX12_isProduct_16 (by decide) ?_
    have : (0 : Int32).toInt = 0 := by decide
    have := i_lt c_939
    have hrd9 : rdI (en 0) 25 = pr := by rw [es938]; rfl
    exact hp_iretR hx hb hr rfl hlocks hsz hh ((by rw [hrd9]; exact (if_neg (by omega)).symm)) dX12_isProduct_17
  · refine lv_iload_n hx hb dX12_isProduct_4 rfl (lv_at hl 1 rfl) ?_
    refine lv_aload_n hx hb dX12_isProduct_5 rfl (lv_at hl 0 rfl) ?_
    refine hp_get hx hb hts ix12 hown hK hh (q := 0) rfl (hI.1 _ (by decide)) es938 rfl 25 (by decide) (hts _ tw_904) (fun _ h9 => h9) rfl dX12_isProduct_6 ?_
    refine lv_icmp_ge (tgt := 16) hx hb dX12_isProduct_9 (by decide) (fun c_940 => ?_) (fun c_940 => ?_)
    · refine lv_iconst (v := 0) hx hb dX12_isProduct_16 (by decide) ?_
      have : (0 : Int32).toInt = 0 := by decide
      have := i_nlt c_939
      have := i_le c_940
      have hrd9 : rdI (en 0) 25 = pr := by rw [es938]; rfl
      exact hp_iretR hx hb hr rfl hlocks hsz hh ((by rw [hrd9]; exact (if_neg (by omega)).symm)) dX12_isProduct_17
    · refine lv_iconst (v := 1) hx hb dX12_isProduct_12 (by decide) ?_
      refine lv_goto (tgt := 17) hx hb dX12_isProduct_13 (by decide) ?_
      have : (0 : Int32).toInt = 0 := by decide
      have := i_nlt c_939
      have := i_nle c_940
      have hrd9 : rdI (en 0) 25 = pr := by rw [es938]; rfl
      exact hp_iretR hx hb hr rfl hlocks hsz hh ((by rw [hrd9]; exact (if_pos (by omega)).symm)) dX12_isProduct_17
theorem kw_X12_isProduct {R : Room} {s : State} {args : Array Value} {own : String} {idx : Nat} (hts : ∀ w ∈ TB, w.before args s = true) (hl : Cond.methodLink own idx yX12_isProduct ∈ TB) (hR : 0 + 1 ≤ R.frames ∧ 8 + (2 + 11) + 40 * 0 ≤ R.locals) : CallW R s args own RX12 idx yX12_isProduct cX12_isProduct 2 (some .boolean) (Cond.code yX12_isProduct cX12_isProduct 2 (some .boolean) :: TB) (rmN 0) 0 0 1 := cwV 1 hts (TB_V hl tw_1160 ts_57 tw_9 tw_1161) rfl rfl rfl (by decide +kernel) hR
set_option maxHeartbeats 4000000 in
set_option maxRecDepth 100000 in
/-- isWord -/
theorem c_X12_isWord (l : Launch) (D : va_G) (cy : Nat → ClassId) (sz : Nat) (cs : List Nat) (ad : Nat → Nat) (en : Nat → va_E) (hI : RX cy cs ad en) (t : Int32)   : Met l yX12_isWord (Cond.code yX12_isWord cX12_isWord 2 (some .boolean) :: TB) (rmN 0) (va_Pc [.ref (ad 0), .int t] (Pre D cy cs ad en sz)) (va_Qi (S := Unit) (fun r _ => r = if (0 ≤ t.toInt ∧ t.toInt < (rdI (en 0) 30).toInt) then 1 else 0) (fun _ _ => True) (Nf sz)) 0 0 (Nf sz) := by
  refine Met.ofW (cc := cX12_isWord) (maxL := 2) (ret := (some .boolean)) (by decide) rfl ?_
  intro p e s m args below meth c s₁ B hml hv
  obtain ⟨rfl, hsz, hP, hK, hD0⟩ := hv
  have hx := B.exec
  have hb := B.bytes
  have hr := B.returns
  have hts : ∀ w ∈ TB, w.before _ s = true := fun w h => atoms_spec (ws := _ :: TB) B.pre w (List.mem_cons_of_mem _ h)
  have hown : s.vm.findClass RX12 = some m.cls := findClass_of_methodNamed B.named
  have hlocks := B.notSynchronized
  have hh : Hp D (Nf sz) (fun _ => True) s.heap s.heap [] cs ad en := ⟨hP, hD0, va_S.rf⟩
  have hA : ∀ q : Nat, s.heap.size ≤ q → Nf sz q := fun q h => by rw [hsz] at h; exact h
  have hl := lv_entry ([.ref (ad 0), .int t]) (n := 2) (Nat.le_of_ble_eq_true rfl)
  rw [lg_entry_eq]
  generalize (lg_sl ([.ref (ad 0), .int t]) ++ List.replicate (2 - (lg_sl ([.ref (ad 0), .int t])).length) Slot.unset).toArray = ls at hl ⊢
  have hl : lv_has ls 2 [(0, .ref (ad 0)), (1, .int t)] := hl
  obtain ⟨fa, hi, wd, mo, tb, dp, many, grt, lst, nou, rm, rb, pr, wo, es941, hwd2, hwd3, hmo, htb, hwo⟩ := getr_M hI
  refine lv_iload_n hx hb dX12_isWord_0 rfl (lv_at hl 1 rfl) ?_
  refine lv_if_lt (tgt := 16) hx hb dX12_isWord_1 (by decide) (fun c_942 => ?_) (fun c_942 => ?_)
  · refine lv_iconst (v := 0) hx hb dX12_isWord_16 (by decide) ?_
    have : (0 : Int32).toInt = 0 := by decide
    have := i_lt c_942
    have hrd9 : rdI (en 0) 30 = (nI wo) := by rw [es941]; rfl
    have hnT : (nI wo).toInt = (wo : Int) := nI_toInt (by omega)
    exact hp_iretR hx hb hr rfl hlocks hsz hh ((by rw [hrd9]; exact (if_neg (by omega)).symm)) dX12_isWord_17
  · refine lv_iload_n hx hb dX12_isWord_4 rfl (lv_at hl 1 rfl) ?_
    refine lv_aload_n hx hb dX12_isWord_5 rfl (lv_at hl 0 rfl) ?_
    refine hp_get hx hb hts ix12 hown hK hh (q := 0) rfl (hI.1 _ (by decide)) es941 rfl 30 (by decide) (hts _ tw_909) (fun _ h9 => h9) rfl dX12_isWord_6 ?_
    refine lv_icmp_ge (tgt := 16) hx hb dX12_isWord_9 (by decide) (fun c_943 => ?_) (fun c_943 => ?_)
    · refine lv_iconst (v := 0) hx hb dX12_isWord_16 (by decide) ?_
      have : (0 : Int32).toInt = 0 := by decide
      have := i_nlt c_942
      have := i_le c_943
      have hrd9 : rdI (en 0) 30 = (nI wo) := by rw [es941]; rfl
      have hnT : (nI wo).toInt = (wo : Int) := nI_toInt (by omega)
      exact hp_iretR hx hb hr rfl hlocks hsz hh ((by rw [hrd9]; exact (if_neg (by omega)).symm)) dX12_isWord_17
    · refine lv_iconst (v := 1) hx hb dX12_isWord_12 (by decide) ?_
      refine lv_goto (tgt := 17) hx hb dX12_isWord_13 (by decide) ?_
      have : (0 : Int32).toInt = 0 := by decide
      have := i_nlt c_942
      have := i_nle c_943
      have hrd9 : rdI (en 0) 30 = (nI wo) := by rw [es941]; rfl
      have hnT : (nI wo).toInt = (wo : Int) := nI_toInt (by omega)
      exact hp_iretR hx hb hr rfl hlocks hsz hh ((by rw [hrd9]; exact (if_pos (by omega)).symm)) dX12_isWord_17
theorem kw_X12_isWord {R : Room} {s : State} {args : Array Value} {own : String} {idx : Nat} (hts : ∀ w ∈ TB, w.before args s = true) (hl : Cond.methodLink own idx yX12_isWord ∈ TB) (hR : 0 + 1 ≤ R.frames ∧ 8 + (2 + 11) + 40 * 0 ≤ R.locals) : CallW R s args own RX12 idx yX12_isWord cX12_isWord 2 (some .boolean) (Cond.code yX12_isWord cX12_isWord 2 (some .boolean) :: TB) (rmN 0) 0 0 1 := cwV 1 hts (TB_V hl tw_1177 ts_58 tw_9 tw_1178) rfl rfl rfl (by decide +kernel) hR
set_option maxHeartbeats 4000000 in
set_option maxRecDepth 100000 in
/-- isPlace -/
theorem c_X12_isPlace (l : Launch) (D : va_G) (cy : Nat → ClassId) (sz : Nat) (cs : List Nat) (ad : Nat → Nat) (en : Nat → va_E) (hI : RX cy cs ad en) (a b : Int32)   : Met l yX12_isPlace (Cond.code yX12_isPlace cX12_isPlace 3 (some .boolean) :: TB) (rmN 1) (va_Pc [.ref (ad 0), .int a, .int b] (Pre D cy cs ad en sz)) (va_Qi (S := Unit) (fun r _ => r = if ((0 ≤ a.toInt ∧ a.toInt < (rdI (en 0) 2).toInt) ∧ 0 ≤ b.toInt ∧ b.toInt < (rdI (en 0) 2).toInt) then 1 else 0) (fun _ _ => True) (Nf sz)) 0 0 (Nf sz) := by
  refine Met.ofW (cc := cX12_isPlace) (maxL := 3) (ret := (some .boolean)) (by decide) rfl ?_
  intro p e s m args below meth c s₁ B hml hv
  obtain ⟨rfl, hsz, hP, hK, hD0⟩ := hv
  have hx := B.exec
  have hb := B.bytes
  have hr := B.returns
  have hts : ∀ w ∈ TB, w.before _ s = true := fun w h => atoms_spec (ws := _ :: TB) B.pre w (List.mem_cons_of_mem _ h)
  have hown : s.vm.findClass RX12 = some m.cls := findClass_of_methodNamed B.named
  have hlocks := B.notSynchronized
  have hh : Hp D (Nf sz) (fun _ => True) s.heap s.heap [] cs ad en := ⟨hP, hD0, va_S.rf⟩
  have hA : ∀ q : Nat, s.heap.size ≤ q → Nf sz q := fun q h => by rw [hsz] at h; exact h
  have hl := lv_entry ([.ref (ad 0), .int a, .int b]) (n := 3) (Nat.le_of_ble_eq_true rfl)
  rw [lg_entry_eq]
  generalize (lg_sl ([.ref (ad 0), .int a, .int b]) ++ List.replicate (3 - (lg_sl ([.ref (ad 0), .int a, .int b])).length) Slot.unset).toArray = ls at hl ⊢
  have hl : lv_has ls 3 [(0, .ref (ad 0)), (1, .int a), (2, .int b)] := hl
  obtain ⟨fa, hi, wd, mo, tb, dp, many, grt, lst, nou, rm, rb, pr, wo, es944, hwd2, hwd3, hmo, htb, hwo⟩ := getr_M hI
  refine lv_iload_n hx hb dX12_isPlace_0 rfl (lv_at hl 1 rfl) ?_
  refine lv_i2l hx hb dX12_isPlace_1 rfl ?_
  refine lv_lconst (v := 0) hx hb dX12_isPlace_2 (by decide) ?_
  refine lv_aload_n hx hb dX12_isPlace_3 rfl (lv_at hl 0 rfl) ?_
  refine hp_get hx hb hts ix12 hown hK hh (q := 0) rfl (hI.1 _ (by decide)) es944 rfl 2 (by decide) (hts _ tw_881) (fun _ h9 => h9) rfl dX12_isPlace_4 ?_
  refine lv_i2l hx hb dX12_isPlace_7 rfl ?_
  refine lv_lconst (v := 1) hx hb dX12_isPlace_8 (by decide) ?_
  refine lv_lsub hx hb dX12_isPlace_9 ?_
  refine hp_callRi (va_runS (As := [.long a.toInt64, .long 0, .long ((nI wd).toInt64 - 1)]) (rest := []) ⟨hx, hb, hml, hown, hts⟩ (c_X12_within l D cy _ cs ad en a.toInt64 0 ((nI wd).toInt64 - 1)) (kw_X12_within hts tw_985 ⟨by decide, by decide⟩) (preS_of hh hK) rfl rfl hl.1 rfl (lv_room (Nat.le_of_ble_eq_true rfl)) dX12_isPlace_10 ⟨Nat.le_of_ble_eq_true rfl, Nat.le_of_ble_eq_true rfl⟩) hh hA (fun r_945 H locs hw_945 hh => ?_)
  rcases Decidable.em (0 ≤ a.toInt ∧ a.toInt < (wd : Int)) with hp_945 | hp_945
  · obtain rfl : r_945 = 1 := Eq.trans hw_945 (if_pos ((wj_m1 (by omega)).mpr hp_945))
    refine lv_if_eq (tgt := 36) hx hb dX12_isPlace_13 (by decide) (fun c_0 => absurd c_0 (by decide)) (fun _ => ?_)
    refine lv_iload_n hx hb dX12_isPlace_16 rfl (lv_at hl 2 rfl) ?_
    refine lv_i2l hx hb dX12_isPlace_17 rfl ?_
    refine lv_lconst (v := 0) hx hb dX12_isPlace_18 (by decide) ?_
    refine lv_aload_n hx hb dX12_isPlace_19 rfl (lv_at hl 0 rfl) ?_
    refine hp_get hx hb hts ix12 hown hK hh (q := 0) rfl (hI.1 _ (by decide)) es944 rfl 2 (by decide) (hts _ tw_881) (fun _ h9 => h9) rfl dX12_isPlace_20 ?_
    refine lv_i2l hx hb dX12_isPlace_23 rfl ?_
    refine lv_lconst (v := 1) hx hb dX12_isPlace_24 (by decide) ?_
    refine lv_lsub hx hb dX12_isPlace_25 ?_
    refine hp_callRi (va_runS (As := [.long b.toInt64, .long 0, .long ((nI wd).toInt64 - 1)]) (rest := []) ⟨hx, hb, hml, hown, hts⟩ (c_X12_within l D cy _ cs ad en b.toInt64 0 ((nI wd).toInt64 - 1)) (kw_X12_within hts tw_985 ⟨by decide, by decide⟩) (preS_of hh hK) rfl rfl hl.1 rfl (lv_room (Nat.le_of_ble_eq_true rfl)) dX12_isPlace_26 ⟨Nat.le_of_ble_eq_true rfl, Nat.le_of_ble_eq_true rfl⟩) hh hA (fun r_946 H locs hw_946 hh => ?_)
    rcases Decidable.em (0 ≤ b.toInt ∧ b.toInt < (wd : Int)) with hp_946 | hp_946
    · obtain rfl : r_946 = 1 := Eq.trans hw_946 (if_pos ((wj_m1 (by omega)).mpr hp_946))
      refine lv_if_eq (tgt := 36) hx hb dX12_isPlace_29 (by decide) (fun c_0 => absurd c_0 (by decide)) (fun _ => ?_)
      refine lv_iconst (v := 1) hx hb dX12_isPlace_32 (by decide) ?_
      refine lv_goto (tgt := 37) hx hb dX12_isPlace_33 (by decide) ?_
      have hrd9 : (rdI (en 0) 2).toInt = (wd : Int) := by rw [es944]; exact nI_toInt (by omega)
      exact hp_iretR hx hb hr rfl hlocks hsz hh ((by rw [hrd9]; exact (if_pos ⟨hp_945, hp_946⟩).symm)) dX12_isPlace_37
    · obtain rfl : r_946 = 0 := Eq.trans hw_946 (if_neg (fun q => hp_946 ((wj_m1 (by omega)).mp q)))
      refine lv_if_eq (tgt := 36) hx hb dX12_isPlace_29 (by decide) (fun _ => ?_) (fun c_0 => absurd c_0 (by decide))
      refine lv_iconst (v := 0) hx hb dX12_isPlace_36 (by decide) ?_
      have hrd9 : (rdI (en 0) 2).toInt = (wd : Int) := by rw [es944]; exact nI_toInt (by omega)
      exact hp_iretR hx hb hr rfl hlocks hsz hh ((by rw [hrd9]; exact (if_neg (fun q => hp_946 q.2)).symm)) dX12_isPlace_37
  · obtain rfl : r_945 = 0 := Eq.trans hw_945 (if_neg (fun q => hp_945 ((wj_m1 (by omega)).mp q)))
    refine lv_if_eq (tgt := 36) hx hb dX12_isPlace_13 (by decide) (fun _ => ?_) (fun c_0 => absurd c_0 (by decide))
    refine lv_iconst (v := 0) hx hb dX12_isPlace_36 (by decide) ?_
    have hrd9 : (rdI (en 0) 2).toInt = (wd : Int) := by rw [es944]; exact nI_toInt (by omega)
    exact hp_iretR hx hb hr rfl hlocks hsz hh ((by rw [hrd9]; exact (if_neg (fun q => hp_945 q.1)).symm)) dX12_isPlace_37
theorem kw_X12_isPlace {R : Room} {s : State} {args : Array Value} {own : String} {idx : Nat} (hts : ∀ w ∈ TB, w.before args s = true) (hl : Cond.methodLink own idx yX12_isPlace ∈ TB) (hR : 1 + 1 ≤ R.frames ∧ 8 + (3 + 11) + 40 * 1 ≤ R.locals) : CallW R s args own RX12 idx yX12_isPlace cX12_isPlace 3 (some .boolean) (Cond.code yX12_isPlace cX12_isPlace 3 (some .boolean) :: TB) (rmN 1) 0 0 2 := cwV 2 hts (TB_V hl tw_1013 ts_34 tw_9 tw_1014) rfl rfl rfl (by decide +kernel) hR
set_option maxHeartbeats 4000000 in
set_option maxRecDepth 100000 in
/-- mayFollow -/
theorem c_X12_mayFollow (l : Launch) (D : va_G) (cy : Nat → ClassId) (sz : Nat) (cs : List Nat) (ad : Nat → Nat) (en : Nat → va_E) (hI : RX cy cs ad en) (a b : Nat) (ha : a < 6) (hb6 : b < 6)   : Met l yX12_mayFollow (Cond.code yX12_mayFollow cX12_mayFollow 3 (some .boolean) :: TB) (rmN 0) (va_Pc [.ref (ad 0), .int (nI a), .int (nI b)] (Pre D cy cs ad en sz)) (va_Qi (S := Unit) (fun r _ => r = if rdF (en 2) (6 * a + b) = 0 then 1 else 0) (fun _ _ => True) (Nf sz)) 0 0 (Nf sz) := by
  refine Met.ofW (cc := cX12_mayFollow) (maxL := 3) (ret := (some .boolean)) (by decide) rfl ?_
  intro p e s m args below meth c s₁ B hml hv
  obtain ⟨rfl, hsz, hP, hK, hD0⟩ := hv
  have hx := B.exec
  have hb := B.bytes
  have hr := B.returns
  have hts : ∀ w ∈ TB, w.before _ s = true := fun w h => atoms_spec (ws := _ :: TB) B.pre w (List.mem_cons_of_mem _ h)
  have hown : s.vm.findClass RX12 = some m.cls := findClass_of_methodNamed B.named
  have hlocks := B.notSynchronized
  have hh : Hp D (Nf sz) (fun _ => True) s.heap s.heap [] cs ad en := ⟨hP, hD0, va_S.rf⟩
  have hA : ∀ q : Nat, s.heap.size ≤ q → Nf sz q := fun q h => by rw [hsz] at h; exact h
  have hl := lv_entry ([.ref (ad 0), .int (nI a), .int (nI b)]) (n := 3) (Nat.le_of_ble_eq_true rfl)
  rw [lg_entry_eq]
  generalize (lg_sl ([.ref (ad 0), .int (nI a), .int (nI b)]) ++ List.replicate (3 - (lg_sl ([.ref (ad 0), .int (nI a), .int (nI b)])).length) Slot.unset).toArray = ls at hl ⊢
  have hl : lv_has ls 3 [(0, .ref (ad 0)), (1, .int (nI a)), (2, .int (nI b))] := hl
  obtain ⟨fa, hi, wd, mo, tb, dp, many, grt, lst, nou, rm, rb, pr, wo, es947, hwd2, hwd3, hmo, htb, hwo⟩ := getr_M hI
  obtain ⟨f_948, es948, p0_948⟩ := getr_mn hI
  refine lv_aload_n hx hb dX12_mayFollow_0 rfl (lv_at hl 0 rfl) ?_
  refine hp_get hx hb hts ix12 hown hK hh (q := 0) rfl (hI.1 _ (by decide)) es947 rfl 6 (by decide) (hts _ tw_885) (fun _ h9 => h9) rfl dX12_mayFollow_1 ?_
  refine lv_bipush (v := 6) hx hb dX12_mayFollow_4 (by decide) ?_
  refine lv_iload_n hx hb dX12_mayFollow_6 rfl (lv_at hl 1 rfl) ?_
  refine lv_imul hx hb dX12_mayFollow_7 ?_
  rw [show (6 : Int32) = nI 6 from rfl, pk_mul 6 a]
  refine lv_iload_n hx hb dX12_mayFollow_8 rfl (lv_at hl 2 rfl) ?_
  refine lv_iadd hx hb dX12_mayFollow_9 ?_
  rw [nI_add (6 * a) b]
  refine hp_zald hx hb hK hh (q := 2) rfl (hI.1 _ (by decide)) es948 (vp_in_nI (n := ((6 * a) + b)) (by omega) (by decide)) dX12_mayFollow_10 ?_
  rw [nI_clamp (n := ((6 * a) + b)) (by omega)]
  refine lv_if_ne (tgt := 18) hx hb dX12_mayFollow_11 (by decide) (fun c_949 => ?_) (fun c_949 => ?_)
  · refine lv_iconst (v := 0) hx hb dX12_mayFollow_18 (by decide) ?_
    exact hp_iretR hx hb hr rfl hlocks hsz hh ((by rw [show rdF (en 2) = f_948 from by rw [es948]; rfl]; exact (if_neg c_949).symm)) dX12_mayFollow_19
  · refine lv_iconst (v := 1) hx hb dX12_mayFollow_14 (by decide) ?_
    refine lv_goto (tgt := 19) hx hb dX12_mayFollow_15 (by decide) ?_
    exact hp_iretR hx hb hr rfl hlocks hsz hh ((by rw [show rdF (en 2) = f_948 from by rw [es948]; rfl]; exact (if_pos c_949).symm)) dX12_mayFollow_19
theorem kw_X12_mayFollow {R : Room} {s : State} {args : Array Value} {own : String} {idx : Nat} (hts : ∀ w ∈ TB, w.before args s = true) (hl : Cond.methodLink own idx yX12_mayFollow ∈ TB) (hR : 0 + 1 ≤ R.frames ∧ 8 + (3 + 11) + 40 * 0 ≤ R.locals) : CallW R s args own RX12 idx yX12_mayFollow cX12_mayFollow 3 (some .boolean) (Cond.code yX12_mayFollow cX12_mayFollow 3 (some .boolean) :: TB) (rmN 0) 0 0 2 := cwV 2 hts (TB_V hl tw_1031 ts_36 tw_9 tw_1032) rfl rfl rfl (by decide +kernel) hR
set_option maxHeartbeats 4000000 in
set_option maxRecDepth 100000 in
/-- rest -/
theorem c_X12_rest (l : Launch) (D : va_G) (cy : Nat → ClassId) (sz : Nat) (cs : List Nat) (ad : Nat → Nat) (en : Nat → va_E) (hI : RX cy cs ad en) (v : Int64)   : Met l yX12_rest (Cond.code yX12_rest cX12_rest 3 (some .long) :: TB) (rmN 0) (va_Pc [.ref (ad 0), .long v] (Pre D cy cs ad en sz)) (va_Ql (S := Unit) (fun r _ => r = restR (rdI (en 0) 3).toNatClampNeg v) (fun _ _ => True) (Nf sz)) 0 0 (Nf sz) := by
  refine Met.ofW (cc := cX12_rest) (maxL := 3) (ret := (some .long)) (by decide) rfl ?_
  intro p e s m args below meth c s₁ B hml hv
  obtain ⟨rfl, hsz, hP, hK, hD0⟩ := hv
  have hx := B.exec
  have hb := B.bytes
  have hr := B.returns
  have hts : ∀ w ∈ TB, w.before _ s = true := fun w h => atoms_spec (ws := _ :: TB) B.pre w (List.mem_cons_of_mem _ h)
  have hown : s.vm.findClass RX12 = some m.cls := findClass_of_methodNamed B.named
  have hlocks := B.notSynchronized
  have hh : Hp D (Nf sz) (fun _ => True) s.heap s.heap [] cs ad en := ⟨hP, hD0, va_S.rf⟩
  have hA : ∀ q : Nat, s.heap.size ≤ q → Nf sz q := fun q h => by rw [hsz] at h; exact h
  have hl := lv_entry ([.ref (ad 0), .long v]) (n := 3) (Nat.le_of_ble_eq_true rfl)
  rw [lg_entry_eq]
  generalize (lg_sl ([.ref (ad 0), .long v]) ++ List.replicate (3 - (lg_sl ([.ref (ad 0), .long v])).length) Slot.unset).toArray = ls at hl ⊢
  have hl : lv_has ls 3 [(0, .ref (ad 0)), (1, .long v)] := hl
  obtain ⟨fa, hi, wd, mo, tb, dp, many, grt, lst, nou, rm, rb, pr, wo, es950, hwd2, hwd3, hmo, htb, hwo⟩ := getr_M hI
  refine lv_aload_n hx hb dX12_rest_0 rfl (lv_at hl 0 rfl) ?_
  refine hp_get hx hb hts ix12 hown hK hh (q := 0) rfl (hI.1 _ (by decide)) es950 rfl 3 (by decide) (hts _ tw_882) (fun _ h9 => h9) rfl dX12_rest_1 ?_
  refine lv_if_ne (tgt := 11) hx hb dX12_rest_4 (by decide) (fun c_951 => ?_) (fun c_951 => ?_)
  · have n_951 : mo ≠ 0 := n_neq (a := mo) (b := 0) c_951 (by omega) (by decide)
    refine lv_lload_n hx hb dX12_rest_11 rfl (lv_at hl 1 rfl) ?_
    refine lv_aload_n hx hb dX12_rest_12 rfl (lv_at hl 0 rfl) ?_
    refine hp_get hx hb hts ix12 hown hK hh (q := 0) rfl (hI.1 _ (by decide)) es950 rfl 3 (by decide) (hts _ tw_882) (fun _ h9 => h9) rfl dX12_rest_13 ?_
    refine lv_i2l hx hb dX12_rest_16 rfl ?_
    refine lv_lrem hx hb dX12_rest_17 (l_ne0 (by omega) (by omega)) ?_
    refine lv_aload_n hx hb dX12_rest_18 rfl (lv_at hl 0 rfl) ?_
    refine hp_get hx hb hts ix12 hown hK hh (q := 0) rfl (hI.1 _ (by decide)) es950 rfl 3 (by decide) (hts _ tw_882) (fun _ h9 => h9) rfl dX12_rest_19 ?_
    refine lv_i2l hx hb dX12_rest_22 rfl ?_
    refine lv_ladd hx hb dX12_rest_23 ?_
    refine lv_aload_n hx hb dX12_rest_24 rfl (lv_at hl 0 rfl) ?_
    refine hp_get hx hb hts ix12 hown hK hh (q := 0) rfl (hI.1 _ (by decide)) es950 rfl 3 (by decide) (hts _ tw_882) (fun _ h9 => h9) rfl dX12_rest_25 ?_
    refine lv_i2l hx hb dX12_rest_28 rfl ?_
    refine lv_lrem hx hb dX12_rest_29 (l_ne0 (by omega) (by omega)) ?_
    exact hp_lretR hx hb hr hlocks hsz hh (by rw [show rdI (en 0) 3 = nI mo from by rw [es950]; rfl]; unfold restR; rw [nI_clamp (by omega), if_neg (by omega)]) dX12_rest_30
  · have n_951 : mo = 0 := n_eq (a := mo) (b := 0) c_951 (by omega) (by decide)
    refine lv_lload_n hx hb dX12_rest_7 rfl (lv_at hl 1 rfl) ?_
    refine lv_goto (tgt := 30) hx hb dX12_rest_8 (by decide) ?_
    exact hp_lretR hx hb hr hlocks hsz hh (by rw [show rdI (en 0) 3 = nI mo from by rw [es950]; rfl]; unfold restR; rw [nI_clamp (by omega), if_pos (by omega)]) dX12_rest_30
theorem kw_X12_rest {R : Room} {s : State} {args : Array Value} {own : String} {idx : Nat} (hts : ∀ w ∈ TB, w.before args s = true) (hl : Cond.methodLink own idx yX12_rest ∈ TB) (hR : 0 + 1 ≤ R.frames ∧ 8 + (3 + 11) + 40 * 0 ≤ R.locals) : CallW R s args own RX12 idx yX12_rest cX12_rest 3 (some .long) (Cond.code yX12_rest cX12_rest 3 (some .long) :: TB) (rmN 0) 0 0 1 := cwV 1 hts (TB_V hl tw_1056 ts_42 tw_9 tw_1057) rfl rfl rfl (by decide +kernel) hR
set_option maxHeartbeats 4000000 in
set_option maxRecDepth 100000 in
/-- beginLevels -/
theorem c_X12_beginLevels (l : Launch) (D : va_G) (cy : Nat → ClassId) (sz : Nat) (cs : List Nat) (ad : Nat → Nat) (en : Nat → va_E) (hI : RX cy cs ad en)    : Met l yX12_beginLevels (Cond.code yX12_beginLevels cX12_beginLevels 3 none :: TB) (rmN 0) (va_Pc [.ref (ad 0)] (Pre D cy cs ad en sz)) (va_Qv (S := Nat → va_E) (fun en1 => RX cy cs ad en1 ∧ (∀ c, (c ≠ 6) → en1 c = en c) ∧ BLV en en1) (PostM D cs ad) (Af cs ad sz)) 0 0 (Af cs ad sz) := by
  refine Met.ofW (cc := cX12_beginLevels) (maxL := 3) (ret := none) (by decide) rfl ?_
  intro p e s m args below meth c s₁ B hml hv
  obtain ⟨rfl, hsz, hP, hK, hD0⟩ := hv
  have hx := B.exec
  have hb := B.bytes
  have hr := B.returns
  have hts : ∀ w ∈ TB, w.before _ s = true := fun w h => atoms_spec (ws := _ :: TB) B.pre w (List.mem_cons_of_mem _ h)
  have hown : s.vm.findClass RX12 = some m.cls := findClass_of_methodNamed B.named
  have hlocks := B.notSynchronized
  have hh : Hp D (Af cs ad sz) (Af cs ad sz) s.heap s.heap [] cs ad en := ⟨hP, Af_self hD0, va_S.rf⟩
  have hA : ∀ q : Nat, s.heap.size ≤ q → Af cs ad sz q := fun q h => Or.inr (by rw [hsz] at h; exact h)
  have hl := lv_entry ([.ref (ad 0)]) (n := 3) (Nat.le_of_ble_eq_true rfl)
  rw [lg_entry_eq]
  generalize (lg_sl ([.ref (ad 0)]) ++ List.replicate (3 - (lg_sl ([.ref (ad 0)])).length) Slot.unset).toArray = ls at hl ⊢
  have hl : lv_has ls 3 [(0, .ref (ad 0))] := hl
  have hf0 : ∀ c, (c ≠ 6) → en c = en c := fun _ _ => rfl
  obtain ⟨fa, hi, wd, mo, tb, dp, many, grt, lst, nou, rm, rb, pr, wo, es952, hwd2, hwd3, hmo, htb, hwo⟩ := getr_M hI
  refine lv_iconst (v := 0) hx hb dX12_beginLevels_0 (by decide) ?_
  refine lv_istore_n (lv' := [(1, .int 0), (0, .ref (ad 0))]) hx hb dX12_beginLevels_1 rfl hl (by decide) rfl (fun ls hl => ?_)
  have loop_953 : ∀ (fu j953 : Nat)  (en_953 : Nat → va_E) (ls : Array Slot) (H : Heap) (locs : List Loc), 0 ≤ j953 → j953 ≤ wd → wd < j953 + fu → RX cy cs ad en_953 → (∀ c, (c ≠ 6) → en_953 c = en c) → (∀ x, rdL (en_953 6) x = if 0 ≤ x ∧ x < 0 + wd * j953 then uV wd (x - (0)) else rdL (en 6) x) → lv_has ls 3 [(1, .int (nI j953)), (0, .ref (ad 0))] → Hp D (Af cs ad sz) (Af cs ad sz) s.heap H locs cs ad en_953 → W p l e (headSpec (Cond.code yX12_beginLevels cX12_beginLevels 3 none :: TB) (rmN 0)).room s m ([.ref (ad 0)] : List Value).toArray below meth c H locs 0 0 (MQ below (va_Qv (S := Nat → va_E) (fun en1 => RX cy cs ad en1 ∧ (∀ c, (c ≠ 6) → en1 c = en c) ∧ BLV en en1) (PostM D cs ad) (Af cs ad sz)) ([.ref (ad 0)] : List Value).toArray s 0 0 (Af cs ad sz)) (F0 m 2 ls []) := by
    intro fu
    induction fu with
    | zero => intro j953  en_953 ls H locs h0 h1 h2; exact absurd h2 (by omega)
    | succ fu ih_953 =>
      intro j953  en_953 ls H locs hj0_953 hj_953 hfu_953 hI_953 hf_953 i0_953 hl hh
      refine lv_iload_n hx hb dX12_beginLevels_2 rfl (lv_at hl 0 rfl) ?_
      refine lv_aload_n hx hb dX12_beginLevels_3 rfl (lv_at hl 1 rfl) ?_
      have es952_954 : en_953 0 = .inr (11, [.int fa, .int hi, .int (nI wd), .int (nI mo), .int (nI tb), .ref (ad 1), .ref (ad 2), .ref (ad 3), .ref (ad 4), .ref (ad 5), .ref (ad 6), .ref (ad 7), .ref (ad 8), .ref (ad 9), .int dp, .long many, .long grt, .long lst, .long nou, .ref (ad 10), .ref (ad 11), .ref (ad 12), .int rm, .long rb, .ref (ad 13), .int pr, .ref (ad 14), .ref (ad 15), .ref (ad 16), .ref (ad 17), .int (nI wo), .ref (ad 18), .ref (ad 19)]) := (hf_953 0 (by omega)).trans es952
      refine hp_get hx hb hts ix12 hown hK hh (q := 0) rfl (hI.1 _ (by decide)) es952_954 rfl 2 (by decide) (hts _ tw_881) (fun _ h9 => h9) rfl dX12_beginLevels_4 ?_
      refine lv_icmp_ge (tgt := 55) hx hb dX12_beginLevels_7 (by decide) (fun c_955 => ?_) (fun c_955 => ?_)
      · have n_955 : wd ≤ j953 := n_le (a := wd) (b := j953) c_955 (by omega) (by omega)
        have hq2 : (rdI (en 0) 2).toNatClampNeg = wd := by rw [show rdI (en 0) 2 = nI wd from by rw [es952]; rfl]; exact nI_clamp (by omega)
        exact hp_vretM hx hb hr hlocks hh (⟨hI_953, hf_953, (fun x => by rw [hq2]; have e9 : j953 = wd := (by omega); have h9 := i0_953 x; rw [e9] at h9; exact h9)⟩) dX12_beginLevels_55
      · have n_955 : j953 < wd := n_nle (a := wd) (b := j953) c_955 (by omega) (by omega)
        refine lv_iconst (v := 0) hx hb dX12_beginLevels_10 (by decide) ?_
        refine lv_istore_n (lv' := [(2, .int 0), (1, .int (nI j953)), (0, .ref (ad 0))]) hx hb dX12_beginLevels_11 rfl hl (by decide) rfl (fun ls hl => ?_)
        have loop_956 : ∀ (fu j956 : Nat)  (en_956 : Nat → va_E) (ls : Array Slot) (H : Heap) (locs : List Loc), 0 ≤ j956 → j956 ≤ wd → wd < j956 + fu → RX cy cs ad en_956 → (∀ c, (c ≠ 6) → en_956 c = en c) → (∀ x, rdL (en_956 6) x = if 0 ≤ x ∧ x < 0 + (wd * j953 + j956) then uV wd (x - (0)) else rdL (en 6) x) → lv_has ls 3 [(2, .int (nI j956)), (1, .int (nI j953)), (0, .ref (ad 0))] → Hp D (Af cs ad sz) (Af cs ad sz) s.heap H locs cs ad en_956 → W p l e (headSpec (Cond.code yX12_beginLevels cX12_beginLevels 3 none :: TB) (rmN 0)).room s m ([.ref (ad 0)] : List Value).toArray below meth c H locs 0 0 (MQ below (va_Qv (S := Nat → va_E) (fun en1 => RX cy cs ad en1 ∧ (∀ c, (c ≠ 6) → en1 c = en c) ∧ BLV en en1) (PostM D cs ad) (Af cs ad sz)) ([.ref (ad 0)] : List Value).toArray s 0 0 (Af cs ad sz)) (F0 m 12 ls []) := by
          intro fu
          induction fu with
          | zero => intro j956  en_956 ls H locs h0 h1 h2; exact absurd h2 (by omega)
          | succ fu ih_956 =>
            intro j956  en_956 ls H locs hj0_956 hj_956 hfu_956 hI_956 hf_956 i0_956 hl hh
            refine lv_iload_n hx hb dX12_beginLevels_12 rfl (lv_at hl 0 rfl) ?_
            refine lv_aload_n hx hb dX12_beginLevels_13 rfl (lv_at hl 2 rfl) ?_
            have es952_957 : en_956 0 = .inr (11, [.int fa, .int hi, .int (nI wd), .int (nI mo), .int (nI tb), .ref (ad 1), .ref (ad 2), .ref (ad 3), .ref (ad 4), .ref (ad 5), .ref (ad 6), .ref (ad 7), .ref (ad 8), .ref (ad 9), .int dp, .long many, .long grt, .long lst, .long nou, .ref (ad 10), .ref (ad 11), .ref (ad 12), .int rm, .long rb, .ref (ad 13), .int pr, .ref (ad 14), .ref (ad 15), .ref (ad 16), .ref (ad 17), .int (nI wo), .ref (ad 18), .ref (ad 19)]) := (hf_956 0 (by omega)).trans es952
            refine hp_get hx hb hts ix12 hown hK hh (q := 0) rfl (hI.1 _ (by decide)) es952_957 rfl 2 (by decide) (hts _ tw_881) (fun _ h9 => h9) rfl dX12_beginLevels_14 ?_
            refine lv_icmp_ge (tgt := 49) hx hb dX12_beginLevels_17 (by decide) (fun c_958 => ?_) (fun c_958 => ?_)
            · have n_958 : wd ≤ j956 := n_le (a := wd) (b := j956) c_958 (by omega) (by omega)
              refine lv_iinc (v := (nI (j953 + 1))) (lv' := [(1, .int (nI (j953 + 1))), (2, .int (nI j956)), (0, .ref (ad 0))]) hx hb dX12_beginLevels_49 hl (k := 1) rfl (nI_1 _) (by decide) rfl (fun ls hl => ?_)
              refine lv_goto (tgt := 2) hx hb dX12_beginLevels_52 (by decide) ?_
              exact ih_953 ((j953 + 1))  en_956 ls H locs (by omega) (by omega) (by omega) hI_956 hf_956 (fun x => by have e9 : j956 = wd := (by omega); have h9 := i0_956 x; rw [e9] at h9; rw [Nat.mul_add, Nat.mul_one]; exact h9) (lv_sub hl [0, 2] rfl) hh
            · have n_958 : j956 < wd := n_nle (a := wd) (b := j956) c_958 (by omega) (by omega)
              refine lv_aload_n hx hb dX12_beginLevels_20 rfl (lv_at hl 2 rfl) ?_
              refine hp_get hx hb hts ix12 hown hK hh (q := 0) rfl (hI.1 _ (by decide)) es952_957 rfl 10 (by decide) (hts _ tw_889) (fun _ h9 => h9) rfl dX12_beginLevels_21 ?_
              refine lv_aload_n hx hb dX12_beginLevels_24 rfl (lv_at hl 2 rfl) ?_
              refine hp_get hx hb hts ix12 hown hK hh (q := 0) rfl (hI.1 _ (by decide)) es952_957 rfl 2 (by decide) (hts _ tw_881) (fun _ h9 => h9) rfl dX12_beginLevels_25 ?_
              refine lv_iload_n hx hb dX12_beginLevels_28 rfl (lv_at hl 1 rfl) ?_
              refine lv_imul hx hb dX12_beginLevels_29 ?_
              rw [pk_mul wd j953]
              refine lv_iload_n hx hb dX12_beginLevels_30 rfl (lv_at hl 0 rfl) ?_
              refine lv_iadd hx hb dX12_beginLevels_31 ?_
              rw [nI_add (wd * j953) j956]
              refine lv_iload_n hx hb dX12_beginLevels_32 rfl (lv_at hl 1 rfl) ?_
              refine lv_iload_n hx hb dX12_beginLevels_33 rfl (lv_at hl 0 rfl) ?_
              refine lv_icmp_ne (tgt := 41) hx hb dX12_beginLevels_34 (by decide) (fun c_959 => ?_) (fun c_959 => ?_)
              · have n_959 : j953 ≠ j956 := n_neq (a := j953) (b := j956) c_959 (by omega) (by omega)
                refine lv_lconst (v := 0) hx hb dX12_beginLevels_41 (by decide) ?_
                obtain ⟨f_960, es960⟩ := getr_lv hI_956
                have hi_961 : wd * j953 + j956 < 9 := mdr (by omega) (by omega) (by omega)
                refine hp_last hx hb hK hh (q := 6) rfl (hI.1 _ (by decide)) es960 (vp_in_nI (n := ((wd * j953) + j956)) (by omega) (by decide)) dX12_beginLevels_42 (fun H locs en_962 hen_962 hh => ?_)
                rw [nI_clamp (n := ((wd * j953) + j956)) (by omega)] at hen_962
                have es952_962 : en_962 0 = .inr (11, [.int fa, .int hi, .int (nI wd), .int (nI mo), .int (nI tb), .ref (ad 1), .ref (ad 2), .ref (ad 3), .ref (ad 4), .ref (ad 5), .ref (ad 6), .ref (ad 7), .ref (ad 8), .ref (ad 9), .int dp, .long many, .long grt, .long lst, .long nou, .ref (ad 10), .ref (ad 11), .ref (ad 12), .int rm, .long rb, .ref (ad 13), .int pr, .ref (ad 14), .ref (ad 15), .ref (ad 16), .ref (ad 17), .int (nI wo), .ref (ad 18), .ref (ad 19)]) := by rw [hen_962, va_up_ne _ _ (by decide)]; exact es952_957
                have es960_962 : en_962 6 = .inl (cy 1, 117, .inr (.inl (vp_updL f_960 ((wd * j953) + j956) 0))) := by rw [hen_962]; exact va_up_self _ _ _
                have hI_962 : RX cy cs ad en_962 := by rw [hen_962]; exact upr_lv hI_956 ⟨(vp_updL f_960 ((wd * j953) + j956) 0), rfl⟩
                have hf_962 : ∀ c, (c ≠ 6) → en_962 c = en c := fun c hc => Eq.trans (show en_962 c = en_956 c from by rw [hen_962, va_up_ne _ _ (by omega)]) (hf_956 c hc)
                refine lv_iinc (v := (nI (j956 + 1))) (lv' := [(2, .int (nI (j956 + 1))), (1, .int (nI j953)), (0, .ref (ad 0))]) hx hb dX12_beginLevels_43 hl (k := 0) rfl (nI_1 _) (by decide) rfl (fun ls hl => ?_)
                refine lv_goto (tgt := 12) hx hb dX12_beginLevels_46 (by decide) ?_
                exact ih_956 ((j956 + 1))  en_962 ls H locs (by omega) (by omega) (by omega) hI_962 hf_962 (fun x => by rw [es960_962]; exact cpL_upd (c := uV wd) (j := wd * j953 + j956) (fun x => (show f_960 x = rdL (en_956 6) x from by rw [es960]; rfl).trans (i0_956 x)) (by omega) (by omega) (by rw [uV_at (by omega), if_neg n_959]) x) (lv_sub hl [0, 1, 2] rfl) hh
              · have n_959 : j953 = j956 := n_eq (a := j953) (b := j956) c_959 (by omega) (by omega)
                refine lv_lconst (v := 1) hx hb dX12_beginLevels_37 (by decide) ?_
                refine lv_goto (tgt := 42) hx hb dX12_beginLevels_38 (by decide) ?_
                obtain ⟨f_963, es963⟩ := getr_lv hI_956
                have hi_964 : wd * j953 + j956 < 9 := mdr (by omega) (by omega) (by omega)
                refine hp_last hx hb hK hh (q := 6) rfl (hI.1 _ (by decide)) es963 (vp_in_nI (n := ((wd * j953) + j956)) (by omega) (by decide)) dX12_beginLevels_42 (fun H locs en_965 hen_965 hh => ?_)
                rw [nI_clamp (n := ((wd * j953) + j956)) (by omega)] at hen_965
                have es952_965 : en_965 0 = .inr (11, [.int fa, .int hi, .int (nI wd), .int (nI mo), .int (nI tb), .ref (ad 1), .ref (ad 2), .ref (ad 3), .ref (ad 4), .ref (ad 5), .ref (ad 6), .ref (ad 7), .ref (ad 8), .ref (ad 9), .int dp, .long many, .long grt, .long lst, .long nou, .ref (ad 10), .ref (ad 11), .ref (ad 12), .int rm, .long rb, .ref (ad 13), .int pr, .ref (ad 14), .ref (ad 15), .ref (ad 16), .ref (ad 17), .int (nI wo), .ref (ad 18), .ref (ad 19)]) := by rw [hen_965, va_up_ne _ _ (by decide)]; exact es952_957
                have es963_965 : en_965 6 = .inl (cy 1, 117, .inr (.inl (vp_updL f_963 ((wd * j953) + j956) 1))) := by rw [hen_965]; exact va_up_self _ _ _
                have hI_965 : RX cy cs ad en_965 := by rw [hen_965]; exact upr_lv hI_956 ⟨(vp_updL f_963 ((wd * j953) + j956) 1), rfl⟩
                have hf_965 : ∀ c, (c ≠ 6) → en_965 c = en c := fun c hc => Eq.trans (show en_965 c = en_956 c from by rw [hen_965, va_up_ne _ _ (by omega)]) (hf_956 c hc)
                refine lv_iinc (v := (nI (j956 + 1))) (lv' := [(2, .int (nI (j956 + 1))), (1, .int (nI j953)), (0, .ref (ad 0))]) hx hb dX12_beginLevels_43 hl (k := 0) rfl (nI_1 _) (by decide) rfl (fun ls hl => ?_)
                refine lv_goto (tgt := 12) hx hb dX12_beginLevels_46 (by decide) ?_
                exact ih_956 ((j956 + 1))  en_965 ls H locs (by omega) (by omega) (by omega) hI_965 hf_965 (fun x => by rw [es963_965]; exact cpL_upd (c := uV wd) (j := wd * j953 + j956) (fun x => (show f_963 x = rdL (en_956 6) x from by rw [es963]; rfl).trans (i0_956 x)) (by omega) (by omega) (by rw [uV_at (by omega), if_pos n_959]) x) (lv_sub hl [0, 1, 2] rfl) hh
        exact loop_956 (wd + 1) 0  en_953 ls _ _ (Nat.le_refl _) (by omega) (by omega) hI_953 hf_953 (fun x => by rw [Nat.add_zero]; exact i0_953 x) (lv_sub hl [0, 1, 2] rfl) hh
  exact loop_953 (wd + 1) 0  en ls _ _ (Nat.le_refl _) (by omega) (by omega) hI hf0 (fun x => by rw [Nat.mul_zero, if_neg (by omega)]) (lv_sub hl [0, 1] rfl) hh
theorem kw_X12_beginLevels {R : Room} {s : State} {args : Array Value} {own : String} {idx : Nat} (hts : ∀ w ∈ TB, w.before args s = true) (hl : Cond.methodLink own idx yX12_beginLevels ∈ TB) (hR : 0 + 1 ≤ R.frames ∧ 8 + (3 + 11) + 40 * 0 ≤ R.locals) : CallW R s args own RX12 idx yX12_beginLevels cX12_beginLevels 3 none (Cond.code yX12_beginLevels cX12_beginLevels 3 none :: TB) (rmN 0) 0 0 0 := cwV 0 hts (TB_V hl tw_1044 ts_39 tw_9 tw_1045) rfl rfl rfl (by decide +kernel) hR
set_option maxHeartbeats 4000000 in
set_option maxRecDepth 100000 in
/-- goOn -/
theorem c_X12_goOn (l : Launch) (D : va_G) (cy : Nat → ClassId) (sz : Nat) (cs : List Nat) (ad : Nat → Nat) (en : Nat → va_E) (hI : RX cy cs ad en) (n t : Nat) (hn : n < 12) (ht6 : t < 6)   : Met l yX12_goOn (Cond.code yX12_goOn cX12_goOn 8 none :: TB) (rmN 1) (va_Pc [.ref (ad 0), .int (nI n), .int (nI t)] (Pre D cy cs ad en sz)) (va_Qv (S := Nat → va_E) (fun en1 => RX cy cs ad en1 ∧ (∀ c, (c ≠ 6) → en1 c = en c) ∧ GON n t en en1) (PostM D cs ad) (Af cs ad sz)) 0 0 (Af cs ad sz) := by
  refine Met.ofW (cc := cX12_goOn) (maxL := 8) (ret := none) (by decide) rfl ?_
  intro p e s m args below meth c s₁ B hml hv
  obtain ⟨rfl, hsz, hP, hK, hD0⟩ := hv
  have hx := B.exec
  have hb := B.bytes
  have hr := B.returns
  have hts : ∀ w ∈ TB, w.before _ s = true := fun w h => atoms_spec (ws := _ :: TB) B.pre w (List.mem_cons_of_mem _ h)
  have hown : s.vm.findClass RX12 = some m.cls := findClass_of_methodNamed B.named
  have hlocks := B.notSynchronized
  have hh : Hp D (Af cs ad sz) (Af cs ad sz) s.heap s.heap [] cs ad en := ⟨hP, Af_self hD0, va_S.rf⟩
  have hA : ∀ q : Nat, s.heap.size ≤ q → Af cs ad sz q := fun q h => Or.inr (by rw [hsz] at h; exact h)
  have hl := lv_entry ([.ref (ad 0), .int (nI n), .int (nI t)]) (n := 8) (Nat.le_of_ble_eq_true rfl)
  rw [lg_entry_eq]
  generalize (lg_sl ([.ref (ad 0), .int (nI n), .int (nI t)]) ++ List.replicate (8 - (lg_sl ([.ref (ad 0), .int (nI n), .int (nI t)])).length) Slot.unset).toArray = ls at hl ⊢
  have hl : lv_has ls 8 [(0, .ref (ad 0)), (1, .int (nI n)), (2, .int (nI t))] := hl
  have hf0 : ∀ c, (c ≠ 6) → en c = en c := fun _ _ => rfl
  obtain ⟨fa, hi, wd, mo, tb, dp, many, grt, lst, nou, rm, rb, pr, wo, es966, hwd2, hwd3, hmo, htb, hwo⟩ := getr_M hI
  refine lv_iconst (v := 0) hx hb dX12_goOn_0 (by decide) ?_
  refine lv_istore_n (lv' := [(3, .int 0), (0, .ref (ad 0)), (1, .int (nI n)), (2, .int (nI t))]) hx hb dX12_goOn_1 rfl hl (by decide) rfl (fun ls hl => ?_)
  have loop_967 : ∀ (fu j967 : Nat)  (en_967 : Nat → va_E) (ls : Array Slot) (H : Heap) (locs : List Loc), 0 ≤ j967 → j967 ≤ wd → wd < j967 + fu → RX cy cs ad en_967 → (∀ c, (c ≠ 6) → en_967 c = en c) → (∀ x, rdL (en_967 6) x = if 9 * n + 9 ≤ x ∧ x < 9 * n + 9 + wd * j967 then goV wd mo n t (rdL (en 6)) (rdF (en 1)) (x - (9 * n + 9)) else rdL (en 6) x) → lv_has ls 8 [(3, .int (nI j967)), (0, .ref (ad 0)), (1, .int (nI n)), (2, .int (nI t))] → Hp D (Af cs ad sz) (Af cs ad sz) s.heap H locs cs ad en_967 → W p l e (headSpec (Cond.code yX12_goOn cX12_goOn 8 none :: TB) (rmN 1)).room s m ([.ref (ad 0), .int (nI n), .int (nI t)] : List Value).toArray below meth c H locs 0 0 (MQ below (va_Qv (S := Nat → va_E) (fun en1 => RX cy cs ad en1 ∧ (∀ c, (c ≠ 6) → en1 c = en c) ∧ GON n t en en1) (PostM D cs ad) (Af cs ad sz)) ([.ref (ad 0), .int (nI n), .int (nI t)] : List Value).toArray s 0 0 (Af cs ad sz)) (F0 m 2 ls []) := by
    intro fu
    induction fu with
    | zero => intro j967  en_967 ls H locs h0 h1 h2; exact absurd h2 (by omega)
    | succ fu ih_967 =>
      intro j967  en_967 ls H locs hj0_967 hj_967 hfu_967 hI_967 hf_967 i0_967 hl hh
      refine lv_iload_n hx hb dX12_goOn_2 rfl (lv_at hl 0 rfl) ?_
      refine lv_aload_n hx hb dX12_goOn_3 rfl (lv_at hl 1 rfl) ?_
      have es966_968 : en_967 0 = .inr (11, [.int fa, .int hi, .int (nI wd), .int (nI mo), .int (nI tb), .ref (ad 1), .ref (ad 2), .ref (ad 3), .ref (ad 4), .ref (ad 5), .ref (ad 6), .ref (ad 7), .ref (ad 8), .ref (ad 9), .int dp, .long many, .long grt, .long lst, .long nou, .ref (ad 10), .ref (ad 11), .ref (ad 12), .int rm, .long rb, .ref (ad 13), .int pr, .ref (ad 14), .ref (ad 15), .ref (ad 16), .ref (ad 17), .int (nI wo), .ref (ad 18), .ref (ad 19)]) := (hf_967 0 (by omega)).trans es966
      refine hp_get hx hb hts ix12 hown hK hh (q := 0) rfl (hI.1 _ (by decide)) es966_968 rfl 2 (by decide) (hts _ tw_881) (fun _ h9 => h9) rfl dX12_goOn_4 ?_
      refine lv_icmp_ge (tgt := 129) hx hb dX12_goOn_7 (by decide) (fun c_969 => ?_) (fun c_969 => ?_)
      · have n_969 : wd ≤ j967 := n_le (a := wd) (b := j967) c_969 (by omega) (by omega)
        have hq2 : (rdI (en 0) 2).toNatClampNeg = wd := by rw [show rdI (en 0) 2 = nI wd from by rw [es966]; rfl]; exact nI_clamp (by omega)
        have hq3 : (rdI (en 0) 3).toNatClampNeg = mo := by rw [show rdI (en 0) 3 = nI mo from by rw [es966]; rfl]; exact nI_clamp (by omega)
        exact hp_vretM hx hb hr hlocks hh (⟨hI_967, hf_967, (fun x => by rw [hq2, hq3]; have e9 : j967 = wd := (by omega); have h9 := i0_967 x; rw [e9] at h9; exact h9)⟩) dX12_goOn_129
      · have n_969 : j967 < wd := n_nle (a := wd) (b := j967) c_969 (by omega) (by omega)
        refine lv_iconst (v := 0) hx hb dX12_goOn_10 (by decide) ?_
        refine lv_istore (lv' := [(4, .int 0), (3, .int (nI j967)), (0, .ref (ad 0)), (1, .int (nI n)), (2, .int (nI t))]) hx hb dX12_goOn_11 hl (by decide) rfl (fun ls hl => ?_)
        have loop_970 : ∀ (fu j970 : Nat)  (en_970 : Nat → va_E) (ls : Array Slot) (H : Heap) (locs : List Loc), 0 ≤ j970 → j970 ≤ wd → wd < j970 + fu → RX cy cs ad en_970 → (∀ c, (c ≠ 6) → en_970 c = en c) → (∀ x, rdL (en_970 6) x = if 9 * n + 9 ≤ x ∧ x < 9 * n + 9 + (wd * j967 + j970) then goV wd mo n t (rdL (en 6)) (rdF (en 1)) (x - (9 * n + 9)) else rdL (en 6) x) → lv_has ls 8 [(4, .int (nI j970)), (3, .int (nI j967)), (0, .ref (ad 0)), (1, .int (nI n)), (2, .int (nI t))] → Hp D (Af cs ad sz) (Af cs ad sz) s.heap H locs cs ad en_970 → W p l e (headSpec (Cond.code yX12_goOn cX12_goOn 8 none :: TB) (rmN 1)).room s m ([.ref (ad 0), .int (nI n), .int (nI t)] : List Value).toArray below meth c H locs 0 0 (MQ below (va_Qv (S := Nat → va_E) (fun en1 => RX cy cs ad en1 ∧ (∀ c, (c ≠ 6) → en1 c = en c) ∧ GON n t en en1) (PostM D cs ad) (Af cs ad sz)) ([.ref (ad 0), .int (nI n), .int (nI t)] : List Value).toArray s 0 0 (Af cs ad sz)) (F0 m 13 ls []) := by
          intro fu
          induction fu with
          | zero => intro j970  en_970 ls H locs h0 h1 h2; exact absurd h2 (by omega)
          | succ fu ih_970 =>
            intro j970  en_970 ls H locs hj0_970 hj_970 hfu_970 hI_970 hf_970 i0_970 hl hh
            refine lv_iload hx hb dX12_goOn_13 (lv_at hl 0 rfl) ?_
            refine lv_aload_n hx hb dX12_goOn_15 rfl (lv_at hl 2 rfl) ?_
            have es966_971 : en_970 0 = .inr (11, [.int fa, .int hi, .int (nI wd), .int (nI mo), .int (nI tb), .ref (ad 1), .ref (ad 2), .ref (ad 3), .ref (ad 4), .ref (ad 5), .ref (ad 6), .ref (ad 7), .ref (ad 8), .ref (ad 9), .int dp, .long many, .long grt, .long lst, .long nou, .ref (ad 10), .ref (ad 11), .ref (ad 12), .int rm, .long rb, .ref (ad 13), .int pr, .ref (ad 14), .ref (ad 15), .ref (ad 16), .ref (ad 17), .int (nI wo), .ref (ad 18), .ref (ad 19)]) := (hf_970 0 (by omega)).trans es966
            refine hp_get hx hb hts ix12 hown hK hh (q := 0) rfl (hI.1 _ (by decide)) es966_971 rfl 2 (by decide) (hts _ tw_881) (fun _ h9 => h9) rfl dX12_goOn_16 ?_
            refine lv_icmp_ge (tgt := 123) hx hb dX12_goOn_19 (by decide) (fun c_972 => ?_) (fun c_972 => ?_)
            · have n_972 : wd ≤ j970 := n_le (a := wd) (b := j970) c_972 (by omega) (by omega)
              refine lv_iinc (v := (nI (j967 + 1))) (lv' := [(3, .int (nI (j967 + 1))), (4, .int (nI j970)), (0, .ref (ad 0)), (1, .int (nI n)), (2, .int (nI t))]) hx hb dX12_goOn_123 hl (k := 1) rfl (nI_1 _) (by decide) rfl (fun ls hl => ?_)
              refine lv_goto (tgt := 2) hx hb dX12_goOn_126 (by decide) ?_
              exact ih_967 ((j967 + 1))  en_970 ls H locs (by omega) (by omega) (by omega) hI_970 hf_970 (fun x => by have e9 : j970 = wd := (by omega); have h9 := i0_970 x; rw [e9] at h9; rw [Nat.mul_add, Nat.mul_one]; exact h9) (lv_sub hl [0, 2, 3, 4] rfl) hh
            · have n_972 : j970 < wd := n_nle (a := wd) (b := j970) c_972 (by omega) (by omega)
              refine lv_lconst (v := 0) hx hb dX12_goOn_22 (by decide) ?_
              refine lv_lstore (lv' := [(5, .long 0), (4, .int (nI j970)), (3, .int (nI j967)), (0, .ref (ad 0)), (1, .int (nI n)), (2, .int (nI t))]) hx hb dX12_goOn_23 hl (by decide) rfl (fun ls hl => ?_)
              refine lv_iconst (v := 0) hx hb dX12_goOn_25 (by decide) ?_
              refine lv_istore (lv' := [(7, .int 0), (5, .long 0), (4, .int (nI j970)), (3, .int (nI j967)), (0, .ref (ad 0)), (1, .int (nI n)), (2, .int (nI t))]) hx hb dX12_goOn_26 hl (by decide) rfl (fun ls hl => ?_)
              have loop_973 : ∀ (fu j973 : Nat) (ac973 : Int64)  (ls : Array Slot) (H : Heap) (locs : List Loc), 0 ≤ j973 → j973 ≤ wd → wd < j973 + fu →  (ac973 = sumTo (fun k => rdL (en 6) (9 * n + wd * j967 + k) * (rdF (en 1) (9 * t + wd * k + j970)).toInt64) j973) → lv_has ls 8 [(7, .int (nI j973)), (5, .long ac973), (4, .int (nI j970)), (3, .int (nI j967)), (0, .ref (ad 0)), (1, .int (nI n)), (2, .int (nI t))] → Hp D (Af cs ad sz) (Af cs ad sz) s.heap H locs cs ad en_970 → W p l e (headSpec (Cond.code yX12_goOn cX12_goOn 8 none :: TB) (rmN 1)).room s m ([.ref (ad 0), .int (nI n), .int (nI t)] : List Value).toArray below meth c H locs 0 0 (MQ below (va_Qv (S := Nat → va_E) (fun en1 => RX cy cs ad en1 ∧ (∀ c, (c ≠ 6) → en1 c = en c) ∧ GON n t en en1) (PostM D cs ad) (Af cs ad sz)) ([.ref (ad 0), .int (nI n), .int (nI t)] : List Value).toArray s 0 0 (Af cs ad sz)) (F0 m 28 ls []) := by
                intro fu
                induction fu with
                | zero => intro j973 ac973 ls H locs h0 h1 h2; exact absurd h2 (by omega)
                | succ fu ih_973 =>
                  intro j973 ac973 ls H locs hj0_973 hj_973 hfu_973 i0_973 hl hh
                  refine lv_iload hx hb dX12_goOn_28 (lv_at hl 0 rfl) ?_
                  refine lv_aload_n hx hb dX12_goOn_30 rfl (lv_at hl 4 rfl) ?_
                  refine hp_get hx hb hts ix12 hown hK hh (q := 0) rfl (hI.1 _ (by decide)) es966_971 rfl 2 (by decide) (hts _ tw_881) (fun _ h9 => h9) rfl dX12_goOn_31 ?_
                  refine lv_icmp_ge (tgt := 89) hx hb dX12_goOn_34 (by decide) (fun c_974 => ?_) (fun c_974 => ?_)
                  · have n_974 : wd ≤ j973 := n_le (a := wd) (b := j973) c_974 (by omega) (by omega)
                    refine lv_aload_n hx hb dX12_goOn_89 rfl (lv_at hl 4 rfl) ?_
                    refine hp_get hx hb hts ix12 hown hK hh (q := 0) rfl (hI.1 _ (by decide)) es966_971 rfl 10 (by decide) (hts _ tw_889) (fun _ h9 => h9) rfl dX12_goOn_90 ?_
                    refine lv_bipush (v := 9) hx hb dX12_goOn_93 (by decide) ?_
                    refine lv_iload_n hx hb dX12_goOn_95 rfl (lv_at hl 5 rfl) ?_
                    refine lv_imul hx hb dX12_goOn_96 ?_
                    rw [show (9 : Int32) = nI 9 from rfl, pk_mul 9 n]
                    refine lv_bipush (v := 9) hx hb dX12_goOn_97 (by decide) ?_
                    refine lv_iadd hx hb dX12_goOn_99 ?_
                    rw [show (9 : Int32) = nI 9 from rfl, nI_add (9 * n) 9]
                    refine lv_aload_n hx hb dX12_goOn_100 rfl (lv_at hl 4 rfl) ?_
                    refine hp_get hx hb hts ix12 hown hK hh (q := 0) rfl (hI.1 _ (by decide)) es966_971 rfl 2 (by decide) (hts _ tw_881) (fun _ h9 => h9) rfl dX12_goOn_101 ?_
                    refine lv_iload_n hx hb dX12_goOn_104 rfl (lv_at hl 3 rfl) ?_
                    refine lv_imul hx hb dX12_goOn_105 ?_
                    rw [pk_mul wd j967]
                    refine lv_iadd hx hb dX12_goOn_106 ?_
                    rw [nI_add ((9 * n) + 9) (wd * j967)]
                    refine lv_iload hx hb dX12_goOn_107 (lv_at hl 2 rfl) ?_
                    refine lv_iadd hx hb dX12_goOn_109 ?_
                    rw [nI_add (((9 * n) + 9) + (wd * j967)) j970]
                    refine lv_aload_n hx hb dX12_goOn_110 rfl (lv_at hl 4 rfl) ?_
                    refine lv_lload hx hb dX12_goOn_111 (lv_at hl 1 rfl) ?_
                    refine hp_callRl (va_runV (As := [.long ac973]) (rest := [.int (nI ((((9 * n) + 9) + (wd * j967)) + j970)), .ref (ad 6)]) ⟨hx, hb, hml, hown, hts⟩ (c_X12_rest l D cy _ cs ad en_970 hI_970 ac973 ) (kw_X12_rest hts tw_1054 ⟨by decide, by decide⟩) (preV_of hh hK (hI.1 _ (by decide)) es966_971 rfl) rfl rfl hl.1 rfl (lv_room (Nat.le_of_ble_eq_true rfl)) dX12_goOn_113 ⟨Nat.le_of_ble_eq_true rfl, Nat.le_of_ble_eq_true rfl⟩) hh hA (fun r_975 H locs hw_975 hh => ?_)
                    rw [show rdI (en_970 0) 3 = nI mo from by rw [es966_971]; rfl, nI_clamp (n := mo) (by omega)] at hw_975
                    obtain ⟨f_976, es976⟩ := getr_lv hI_970
                    have hi_977 : wd * j967 + j970 < 9 := mdr (by omega) (by omega) (by omega)
                    refine hp_last hx hb hK hh (q := 6) rfl (hI.1 _ (by decide)) es976 (vp_in_nI (n := ((((9 * n) + 9) + (wd * j967)) + j970)) (by omega) (by decide)) dX12_goOn_116 (fun H locs en_978 hen_978 hh => ?_)
                    rw [nI_clamp (n := ((((9 * n) + 9) + (wd * j967)) + j970)) (by omega)] at hen_978
                    have es966_978 : en_978 0 = .inr (11, [.int fa, .int hi, .int (nI wd), .int (nI mo), .int (nI tb), .ref (ad 1), .ref (ad 2), .ref (ad 3), .ref (ad 4), .ref (ad 5), .ref (ad 6), .ref (ad 7), .ref (ad 8), .ref (ad 9), .int dp, .long many, .long grt, .long lst, .long nou, .ref (ad 10), .ref (ad 11), .ref (ad 12), .int rm, .long rb, .ref (ad 13), .int pr, .ref (ad 14), .ref (ad 15), .ref (ad 16), .ref (ad 17), .int (nI wo), .ref (ad 18), .ref (ad 19)]) := by rw [hen_978, va_up_ne _ _ (by decide)]; exact es966_971
                    have es976_978 : en_978 6 = .inl (cy 1, 117, .inr (.inl (vp_updL f_976 ((((9 * n) + 9) + (wd * j967)) + j970) r_975))) := by rw [hen_978]; exact va_up_self _ _ _
                    have hI_978 : RX cy cs ad en_978 := by rw [hen_978]; exact upr_lv hI_970 ⟨(vp_updL f_976 ((((9 * n) + 9) + (wd * j967)) + j970) r_975), rfl⟩
                    have hf_978 : ∀ c, (c ≠ 6) → en_978 c = en c := fun c hc => Eq.trans (show en_978 c = en_970 c from by rw [hen_978, va_up_ne _ _ (by omega)]) (hf_970 c hc)
                    refine lv_iinc (v := (nI (j970 + 1))) (lv' := [(4, .int (nI (j970 + 1))), (7, .int (nI j973)), (5, .long ac973), (3, .int (nI j967)), (0, .ref (ad 0)), (1, .int (nI n)), (2, .int (nI t))]) hx hb dX12_goOn_117 hl (k := 2) rfl (nI_1 _) (by decide) rfl (fun ls hl => ?_)
                    refine lv_goto (tgt := 13) hx hb dX12_goOn_120 (by decide) ?_
                    exact ih_970 ((j970 + 1))  en_978 ls H locs (by omega) (by omega) (by omega) hI_978 hf_978 (fun x => by rw [es976_978]; exact cpL_upd (c := goV wd mo n t (rdL (en 6)) (rdF (en 1))) (j := wd * j967 + j970) (fun x => (show f_976 x = rdL (en_970 6) x from by rw [es976]; rfl).trans (i0_970 x)) (by omega) (by omega) (by rw [goV_at (by omega), hw_975]; have e9 : j973 = wd := (by omega); rw [e9] at i0_973; rw [i0_973]) x) (lv_sub hl [0, 3, 4, 5, 6] rfl) hh
                  · have n_974 : j973 < wd := n_nle (a := wd) (b := j973) c_974 (by omega) (by omega)
                    refine lv_lload hx hb dX12_goOn_37 (lv_at hl 1 rfl) ?_
                    refine lv_aload_n hx hb dX12_goOn_39 rfl (lv_at hl 4 rfl) ?_
                    refine hp_get hx hb hts ix12 hown hK hh (q := 0) rfl (hI.1 _ (by decide)) es966_971 rfl 10 (by decide) (hts _ tw_889) (fun _ h9 => h9) rfl dX12_goOn_40 ?_
                    refine lv_bipush (v := 9) hx hb dX12_goOn_43 (by decide) ?_
                    refine lv_iload_n hx hb dX12_goOn_45 rfl (lv_at hl 5 rfl) ?_
                    refine lv_imul hx hb dX12_goOn_46 ?_
                    rw [show (9 : Int32) = nI 9 from rfl, pk_mul 9 n]
                    refine lv_aload_n hx hb dX12_goOn_47 rfl (lv_at hl 4 rfl) ?_
                    refine hp_get hx hb hts ix12 hown hK hh (q := 0) rfl (hI.1 _ (by decide)) es966_971 rfl 2 (by decide) (hts _ tw_881) (fun _ h9 => h9) rfl dX12_goOn_48 ?_
                    refine lv_iload_n hx hb dX12_goOn_51 rfl (lv_at hl 3 rfl) ?_
                    refine lv_imul hx hb dX12_goOn_52 ?_
                    rw [pk_mul wd j967]
                    refine lv_iadd hx hb dX12_goOn_53 ?_
                    rw [nI_add (9 * n) (wd * j967)]
                    refine lv_iload hx hb dX12_goOn_54 (lv_at hl 0 rfl) ?_
                    refine lv_iadd hx hb dX12_goOn_56 ?_
                    rw [nI_add ((9 * n) + (wd * j967)) j973]
                    have hi_979 : wd * j967 + j973 < 9 := mdr (by omega) (by omega) (by omega)
                    obtain ⟨f_980, es980⟩ := getr_lv hI_970
                    refine hp_lald hx hb hK hh (q := 6) rfl (hI.1 _ (by decide)) es980 (vp_in_nI (n := (((9 * n) + (wd * j967)) + j973)) (by omega) (by decide)) dX12_goOn_57 ?_
                    rw [nI_clamp (n := (((9 * n) + (wd * j967)) + j973)) (by omega)]
                    refine lv_aload_n hx hb dX12_goOn_58 rfl (lv_at hl 4 rfl) ?_
                    refine hp_get hx hb hts ix12 hown hK hh (q := 0) rfl (hI.1 _ (by decide)) es966_971 rfl 5 (by decide) (hts _ tw_884) (fun _ h9 => h9) rfl dX12_goOn_59 ?_
                    refine lv_bipush (v := 9) hx hb dX12_goOn_62 (by decide) ?_
                    refine lv_iload_n hx hb dX12_goOn_64 rfl (lv_at hl 6 rfl) ?_
                    refine lv_imul hx hb dX12_goOn_65 ?_
                    rw [show (9 : Int32) = nI 9 from rfl, pk_mul 9 t]
                    refine lv_aload_n hx hb dX12_goOn_66 rfl (lv_at hl 4 rfl) ?_
                    refine hp_get hx hb hts ix12 hown hK hh (q := 0) rfl (hI.1 _ (by decide)) es966_971 rfl 2 (by decide) (hts _ tw_881) (fun _ h9 => h9) rfl dX12_goOn_67 ?_
                    refine lv_iload hx hb dX12_goOn_70 (lv_at hl 0 rfl) ?_
                    refine lv_imul hx hb dX12_goOn_72 ?_
                    rw [pk_mul wd j973]
                    refine lv_iadd hx hb dX12_goOn_73 ?_
                    rw [nI_add (9 * t) (wd * j973)]
                    refine lv_iload hx hb dX12_goOn_74 (lv_at hl 2 rfl) ?_
                    refine lv_iadd hx hb dX12_goOn_76 ?_
                    rw [nI_add ((9 * t) + (wd * j973)) j970]
                    have hi_981 : wd * j973 + j970 < 9 := mdr (by omega) (by omega) (by omega)
                    obtain ⟨f_982, es982⟩ := getr_E hI_970
                    refine hp_iald hx hb hK hh (q := 1) rfl (hI.1 _ (by decide)) es982 (vp_in_nI (n := (((9 * t) + (wd * j973)) + j970)) (by omega) (by decide)) dX12_goOn_77 ?_
                    rw [nI_clamp (n := (((9 * t) + (wd * j973)) + j970)) (by omega)]
                    refine lv_i2l hx hb dX12_goOn_78 rfl ?_
                    refine lv_lmul hx hb dX12_goOn_79 ?_
                    refine lv_ladd hx hb dX12_goOn_80 ?_
                    refine lv_lstore (lv' := [(5, .long (ac973 + ((f_980 (((9 * n) + (wd * j967)) + j973)) * (f_982 (((9 * t) + (wd * j973)) + j970)).toInt64))), (7, .int (nI j973)), (4, .int (nI j970)), (3, .int (nI j967)), (0, .ref (ad 0)), (1, .int (nI n)), (2, .int (nI t))]) hx hb dX12_goOn_81 hl (by decide) rfl (fun ls hl => ?_)
                    refine lv_iinc (v := (nI (j973 + 1))) (lv' := [(7, .int (nI (j973 + 1))), (5, .long (ac973 + ((f_980 (((9 * n) + (wd * j967)) + j973)) * (f_982 (((9 * t) + (wd * j973)) + j970)).toInt64))), (4, .int (nI j970)), (3, .int (nI j967)), (0, .ref (ad 0)), (1, .int (nI n)), (2, .int (nI t))]) hx hb dX12_goOn_83 hl (k := 1) rfl (nI_1 _) (by decide) rfl (fun ls hl => ?_)
                    refine lv_goto (tgt := 28) hx hb dX12_goOn_86 (by decide) ?_
                    exact ih_973 ((j973 + 1)) (ac973 + ((f_980 (((9 * n) + (wd * j967)) + j973)) * (f_982 (((9 * t) + (wd * j973)) + j970)).toInt64)) ls H locs (by omega) (by omega) (by omega) (by rw [i0_973, show f_980 (9 * n + wd * j967 + j973) = rdL (en 6) (9 * n + wd * j967 + j973) from (show f_980 (9 * n + wd * j967 + j973) = rdL (en_970 6) (9 * n + wd * j967 + j973) from by rw [es980]; rfl).trans ((i0_970 (9 * n + wd * j967 + j973)).trans (if_neg (by omega))), show f_982 = rdF (en 1) from by rw [← hf_970 1 (by omega), es982]; rfl]; rfl) (lv_sub hl [0, 1, 2, 3, 4, 5, 6] rfl) hh
              exact loop_973 (wd + 1) 0 0 ls _ _ (Nat.le_refl _) (by omega) (by omega) (rfl) (lv_sub hl [0, 1, 2, 3, 4, 5, 6] rfl) hh
        exact loop_970 (wd + 1) 0  en_967 ls _ _ (Nat.le_refl _) (by omega) (by omega) hI_967 hf_967 (fun x => by rw [Nat.add_zero]; exact i0_967 x) (lv_sub hl [0, 1, 2, 3, 4] rfl) hh
  exact loop_967 (wd + 1) 0  en ls _ _ (Nat.le_refl _) (by omega) (by omega) hI hf0 (fun x => by rw [Nat.mul_zero, if_neg (by omega)]) (lv_sub hl [0, 1, 2, 3] rfl) hh
theorem kw_X12_goOn {R : Room} {s : State} {args : Array Value} {own : String} {idx : Nat} (hts : ∀ w ∈ TB, w.before args s = true) (hl : Cond.methodLink own idx yX12_goOn ∈ TB) (hR : 1 + 1 ≤ R.frames ∧ 8 + (8 + 11) + 40 * 1 ≤ R.locals) : CallW R s args own RX12 idx yX12_goOn cX12_goOn 8 none (Cond.code yX12_goOn cX12_goOn 8 none :: TB) (rmN 1) 0 0 2 := cwV 2 hts (TB_V hl tw_1052 ts_41 tw_9 tw_1053) rfl rfl rfl (by decide +kernel) hR
set_option maxHeartbeats 4000000 in
set_option maxRecDepth 100000 in
/-- normAt -/
theorem c_X12_normAt (l : Launch) (D : va_G) (cy : Nat → ClassId) (sz : Nat) (cs : List Nat) (ad : Nat → Nat) (en : Nat → va_E) (hI : RX cy cs ad en) (n : Nat) (hn : n ≤ 12)   : Met l yX12_normAt (Cond.code yX12_normAt cX12_normAt 8 (some .long) :: TB) (rmN 1) (va_Pc [.ref (ad 0), .int (nI n)] (Pre D cy cs ad en sz)) (va_Ql (S := Unit) (fun r _ => r = normR (rdI (en 0) 2).toNatClampNeg n (rdL (en 6)) (rdI (en 0) 2).toNatClampNeg) (fun _ _ => True) (Nf sz)) 0 0 (Nf sz) := by
  refine Met.ofW (cc := cX12_normAt) (maxL := 8) (ret := (some .long)) (by decide) rfl ?_
  intro p e s m args below meth c s₁ B hml hv
  obtain ⟨rfl, hsz, hP, hK, hD0⟩ := hv
  have hx := B.exec
  have hb := B.bytes
  have hr := B.returns
  have hts : ∀ w ∈ TB, w.before _ s = true := fun w h => atoms_spec (ws := _ :: TB) B.pre w (List.mem_cons_of_mem _ h)
  have hown : s.vm.findClass RX12 = some m.cls := findClass_of_methodNamed B.named
  have hlocks := B.notSynchronized
  have hh : Hp D (Nf sz) (fun _ => True) s.heap s.heap [] cs ad en := ⟨hP, hD0, va_S.rf⟩
  have hA : ∀ q : Nat, s.heap.size ≤ q → Nf sz q := fun q h => by rw [hsz] at h; exact h
  have hl := lv_entry ([.ref (ad 0), .int (nI n)]) (n := 8) (Nat.le_of_ble_eq_true rfl)
  rw [lg_entry_eq]
  generalize (lg_sl ([.ref (ad 0), .int (nI n)]) ++ List.replicate (8 - (lg_sl ([.ref (ad 0), .int (nI n)])).length) Slot.unset).toArray = ls at hl ⊢
  have hl : lv_has ls 8 [(0, .ref (ad 0)), (1, .int (nI n))] := hl
  obtain ⟨fa, hi, wd, mo, tb, dp, many, grt, lst, nou, rm, rb, pr, wo, es983, hwd2, hwd3, hmo, htb, hwo⟩ := getr_M hI
  refine lv_lconst (v := 0) hx hb dX12_normAt_0 (by decide) ?_
  refine lv_lstore_n (lv' := [(2, .long 0), (0, .ref (ad 0)), (1, .int (nI n))]) hx hb dX12_normAt_1 rfl hl (by decide) rfl (fun ls hl => ?_)
  refine lv_iconst (v := 0) hx hb dX12_normAt_2 (by decide) ?_
  refine lv_istore (lv' := [(4, .int 0), (2, .long 0), (0, .ref (ad 0)), (1, .int (nI n))]) hx hb dX12_normAt_3 hl (by decide) rfl (fun ls hl => ?_)
  have loop_984 : ∀ (fu j984 : Nat) (mx984 : Int64)  (ls : Array Slot) (H : Heap) (locs : List Loc), 0 ≤ j984 → j984 ≤ wd → wd < j984 + fu →  (mx984 = normR wd n (rdL (en 6)) j984) → lv_has ls 8 [(4, .int (nI j984)), (2, .long mx984), (0, .ref (ad 0)), (1, .int (nI n))] → Hp D (Nf sz) (fun _ => True) s.heap H locs cs ad en → W p l e (headSpec (Cond.code yX12_normAt cX12_normAt 8 (some .long) :: TB) (rmN 1)).room s m ([.ref (ad 0), .int (nI n)] : List Value).toArray below meth c H locs 0 0 (MQ below (va_Ql (S := Unit) (fun r _ => r = normR (rdI (en 0) 2).toNatClampNeg n (rdL (en 6)) (rdI (en 0) 2).toNatClampNeg) (fun _ _ => True) (Nf sz)) ([.ref (ad 0), .int (nI n)] : List Value).toArray s 0 0 (Nf sz)) (F0 m 5 ls []) := by
    intro fu
    induction fu with
    | zero => intro j984 mx984 ls H locs h0 h1 h2; exact absurd h2 (by omega)
    | succ fu ih_984 =>
      intro j984 mx984 ls H locs hj0_984 hj_984 hfu_984 i0_984 hl hh
      refine lv_iload hx hb dX12_normAt_5 (lv_at hl 0 rfl) ?_
      refine lv_aload_n hx hb dX12_normAt_7 rfl (lv_at hl 2 rfl) ?_
      refine hp_get hx hb hts ix12 hown hK hh (q := 0) rfl (hI.1 _ (by decide)) es983 rfl 2 (by decide) (hts _ tw_881) (fun _ h9 => h9) rfl dX12_normAt_8 ?_
      refine lv_icmp_ge (tgt := 83) hx hb dX12_normAt_11 (by decide) (fun c_985 => ?_) (fun c_985 => ?_)
      · have n_985 : wd ≤ j984 := n_le (a := wd) (b := j984) c_985 (by omega) (by omega)
        refine lv_lload_n hx hb dX12_normAt_83 rfl (lv_at hl 1 rfl) ?_
        have hq2 : (rdI (en 0) 2).toNatClampNeg = wd := by rw [show rdI (en 0) 2 = nI wd from by rw [es983]; rfl]; exact nI_clamp (by omega)
        exact hp_lretR hx hb hr hlocks hsz hh (by rw [hq2]; have e9 : j984 = wd := (by omega); rw [e9] at i0_984; exact i0_984) dX12_normAt_84
      · have n_985 : j984 < wd := n_nle (a := wd) (b := j984) c_985 (by omega) (by omega)
        refine lv_lconst (v := 0) hx hb dX12_normAt_14 (by decide) ?_
        refine lv_lstore (lv' := [(5, .long 0), (4, .int (nI j984)), (2, .long mx984), (0, .ref (ad 0)), (1, .int (nI n))]) hx hb dX12_normAt_15 hl (by decide) rfl (fun ls hl => ?_)
        refine lv_iconst (v := 0) hx hb dX12_normAt_17 (by decide) ?_
        refine lv_istore (lv' := [(7, .int 0), (5, .long 0), (4, .int (nI j984)), (2, .long mx984), (0, .ref (ad 0)), (1, .int (nI n))]) hx hb dX12_normAt_18 hl (by decide) rfl (fun ls hl => ?_)
        have loop_986 : ∀ (fu j986 : Nat) (ac986 : Int64)  (ls : Array Slot) (H : Heap) (locs : List Loc), 0 ≤ j986 → j986 ≤ wd → wd < j986 + fu →  (ac986 = sumTo (fun c => absR (rdL (en 6) (9 * n + wd * j984 + c))) j986) → lv_has ls 8 [(7, .int (nI j986)), (5, .long ac986), (4, .int (nI j984)), (2, .long mx984), (0, .ref (ad 0)), (1, .int (nI n))] → Hp D (Nf sz) (fun _ => True) s.heap H locs cs ad en → W p l e (headSpec (Cond.code yX12_normAt cX12_normAt 8 (some .long) :: TB) (rmN 1)).room s m ([.ref (ad 0), .int (nI n)] : List Value).toArray below meth c H locs 0 0 (MQ below (va_Ql (S := Unit) (fun r _ => r = normR (rdI (en 0) 2).toNatClampNeg n (rdL (en 6)) (rdI (en 0) 2).toNatClampNeg) (fun _ _ => True) (Nf sz)) ([.ref (ad 0), .int (nI n)] : List Value).toArray s 0 0 (Nf sz)) (F0 m 20 ls []) := by
          intro fu
          induction fu with
          | zero => intro j986 ac986 ls H locs h0 h1 h2; exact absurd h2 (by omega)
          | succ fu ih_986 =>
            intro j986 ac986 ls H locs hj0_986 hj_986 hfu_986 i0_986 hl hh
            refine lv_iload hx hb dX12_normAt_20 (lv_at hl 0 rfl) ?_
            refine lv_aload_n hx hb dX12_normAt_22 rfl (lv_at hl 4 rfl) ?_
            refine hp_get hx hb hts ix12 hown hK hh (q := 0) rfl (hI.1 _ (by decide)) es983 rfl 2 (by decide) (hts _ tw_881) (fun _ h9 => h9) rfl dX12_normAt_23 ?_
            refine lv_icmp_ge (tgt := 63) hx hb dX12_normAt_26 (by decide) (fun c_987 => ?_) (fun c_987 => ?_)
            · have n_987 : wd ≤ j986 := n_le (a := wd) (b := j986) c_987 (by omega) (by omega)
              refine lv_lload hx hb dX12_normAt_63 (lv_at hl 1 rfl) ?_
              refine lv_lload_n hx hb dX12_normAt_65 rfl (lv_at hl 3 rfl) ?_
              refine W.lcmp hx hb dX12_normAt_66 ?_
              refine lv_if_le (tgt := 75) hx hb dX12_normAt_67 (by decide) (fun c_988 => ?_) (fun c_988 => ?_)
              · refine lv_lload_n hx hb dX12_normAt_75 rfl (lv_at hl 3 rfl) ?_
                refine lv_lstore_n (lv' := [(2, .long mx984), (7, .int (nI j986)), (5, .long ac986), (4, .int (nI j984)), (0, .ref (ad 0)), (1, .int (nI n))]) hx hb dX12_normAt_76 rfl hl (by decide) rfl (fun ls hl => ?_)
                refine lv_iinc (v := (nI (j984 + 1))) (lv' := [(4, .int (nI (j984 + 1))), (2, .long mx984), (7, .int (nI j986)), (5, .long ac986), (0, .ref (ad 0)), (1, .int (nI n))]) hx hb dX12_normAt_77 hl (k := 3) rfl (nI_1 _) (by decide) rfl (fun ls hl => ?_)
                refine lv_goto (tgt := 5) hx hb dX12_normAt_80 (by decide) ?_
                exact ih_984 ((j984 + 1)) mx984 ls H locs (by omega) (by omega) (by omega) (normR_n i0_984 (by have e9 : j986 = wd := (by omega); rw [e9] at i0_986; exact i0_986) (fun q => absurd (Int64.lt_iff_toInt_lt.mp q) (Int.not_lt.mpr (g_le c_988)))) (lv_sub hl [0, 1, 4, 5] rfl) hh
              · refine lv_lload hx hb dX12_normAt_70 (lv_at hl 1 rfl) ?_
                refine lv_goto (tgt := 76) hx hb dX12_normAt_72 (by decide) ?_
                refine lv_lstore_n (lv' := [(2, .long ac986), (7, .int (nI j986)), (5, .long ac986), (4, .int (nI j984)), (0, .ref (ad 0)), (1, .int (nI n))]) hx hb dX12_normAt_76 rfl hl (by decide) rfl (fun ls hl => ?_)
                refine lv_iinc (v := (nI (j984 + 1))) (lv' := [(4, .int (nI (j984 + 1))), (2, .long ac986), (7, .int (nI j986)), (5, .long ac986), (0, .ref (ad 0)), (1, .int (nI n))]) hx hb dX12_normAt_77 hl (k := 3) rfl (nI_1 _) (by decide) rfl (fun ls hl => ?_)
                refine lv_goto (tgt := 5) hx hb dX12_normAt_80 (by decide) ?_
                exact ih_984 ((j984 + 1)) ac986 ls H locs (by omega) (by omega) (by omega) (normR_p i0_984 (by have e9 : j986 = wd := (by omega); rw [e9] at i0_986; exact i0_986) (Int64.lt_iff_toInt_lt.mpr (g_nle c_988))) (lv_sub hl [0, 1, 4, 5] rfl) hh
            · have n_987 : j986 < wd := n_nle (a := wd) (b := j986) c_987 (by omega) (by omega)
              refine lv_lload hx hb dX12_normAt_29 (lv_at hl 1 rfl) ?_
              refine lv_aload_n hx hb dX12_normAt_31 rfl (lv_at hl 4 rfl) ?_
              refine hp_get hx hb hts ix12 hown hK hh (q := 0) rfl (hI.1 _ (by decide)) es983 rfl 10 (by decide) (hts _ tw_889) (fun _ h9 => h9) rfl dX12_normAt_32 ?_
              refine lv_bipush (v := 9) hx hb dX12_normAt_35 (by decide) ?_
              refine lv_iload_n hx hb dX12_normAt_37 rfl (lv_at hl 5 rfl) ?_
              refine lv_imul hx hb dX12_normAt_38 ?_
              rw [show (9 : Int32) = nI 9 from rfl, pk_mul 9 n]
              refine lv_aload_n hx hb dX12_normAt_39 rfl (lv_at hl 4 rfl) ?_
              refine hp_get hx hb hts ix12 hown hK hh (q := 0) rfl (hI.1 _ (by decide)) es983 rfl 2 (by decide) (hts _ tw_881) (fun _ h9 => h9) rfl dX12_normAt_40 ?_
              refine lv_iload hx hb dX12_normAt_43 (lv_at hl 2 rfl) ?_
              refine lv_imul hx hb dX12_normAt_45 ?_
              rw [pk_mul wd j984]
              refine lv_iadd hx hb dX12_normAt_46 ?_
              rw [nI_add (9 * n) (wd * j984)]
              refine lv_iload hx hb dX12_normAt_47 (lv_at hl 0 rfl) ?_
              refine lv_iadd hx hb dX12_normAt_49 ?_
              rw [nI_add ((9 * n) + (wd * j984)) j986]
              have hi_989 : wd * j984 + j986 < 9 := mdr (by omega) (by omega) (by omega)
              obtain ⟨f_990, es990⟩ := getr_lv hI
              refine hp_lald hx hb hK hh (q := 6) rfl (hI.1 _ (by decide)) es990 (vp_in_nI (n := (((9 * n) + (wd * j984)) + j986)) (by omega) (by decide)) dX12_normAt_50 ?_
              rw [nI_clamp (n := (((9 * n) + (wd * j984)) + j986)) (by omega)]
              refine hp_callRl (va_runS (As := [.long (f_990 (((9 * n) + (wd * j984)) + j986))]) (rest := [.long ac986]) ⟨hx, hb, hml, hown, hts⟩ (c_X12_sizeOf l D cy _ cs ad en hI (f_990 (((9 * n) + (wd * j984)) + j986)) ) (kw_X12_sizeOf hts tw_1062 ⟨by decide, by decide⟩) (preS_of hh hK) rfl rfl hl.1 rfl (lv_room (Nat.le_of_ble_eq_true rfl)) dX12_normAt_51 ⟨Nat.le_of_ble_eq_true rfl, Nat.le_of_ble_eq_true rfl⟩) hh hA (fun r_991 H locs hw_991 hh => ?_)
              obtain rfl : r_991 = absR (f_990 (((9 * n) + (wd * j984)) + j986)) := hw_991
              refine lv_ladd hx hb dX12_normAt_54 ?_
              refine lv_lstore (lv' := [(5, .long (ac986 + (absR (f_990 (((9 * n) + (wd * j984)) + j986))))), (7, .int (nI j986)), (4, .int (nI j984)), (2, .long mx984), (0, .ref (ad 0)), (1, .int (nI n))]) hx hb dX12_normAt_55 hl (by decide) rfl (fun ls hl => ?_)
              refine lv_iinc (v := (nI (j986 + 1))) (lv' := [(7, .int (nI (j986 + 1))), (5, .long (ac986 + (absR (f_990 (((9 * n) + (wd * j984)) + j986))))), (4, .int (nI j984)), (2, .long mx984), (0, .ref (ad 0)), (1, .int (nI n))]) hx hb dX12_normAt_57 hl (k := 1) rfl (nI_1 _) (by decide) rfl (fun ls hl => ?_)
              refine lv_goto (tgt := 20) hx hb dX12_normAt_60 (by decide) ?_
              exact ih_986 ((j986 + 1)) (ac986 + (absR (f_990 (((9 * n) + (wd * j984)) + j986)))) ls H locs (by omega) (by omega) (by omega) (by rw [i0_986, show f_990 = rdL (en 6) from by rw [es990]; rfl]; rfl) (lv_sub hl [0, 1, 2, 3, 4, 5] rfl) hh
        exact loop_986 (wd + 1) 0 0 ls _ _ (Nat.le_refl _) (by omega) (by omega) (rfl) (lv_sub hl [0, 1, 2, 3, 4, 5] rfl) hh
  exact loop_984 (wd + 1) 0 0 ls _ _ (Nat.le_refl _) (by omega) (by omega) (rfl) (lv_sub hl [0, 1, 2, 3] rfl) hh
theorem kw_X12_normAt {R : Room} {s : State} {args : Array Value} {own : String} {idx : Nat} (hts : ∀ w ∈ TB, w.before args s = true) (hl : Cond.methodLink own idx yX12_normAt ∈ TB) (hR : 1 + 1 ≤ R.frames ∧ 8 + (8 + 11) + 40 * 1 ≤ R.locals) : CallW R s args own RX12 idx yX12_normAt cX12_normAt 8 (some .long) (Cond.code yX12_normAt cX12_normAt 8 (some .long) :: TB) (rmN 1) 0 0 1 := cwV 1 hts (TB_V hl tw_1060 ts_43 tw_9 tw_1061) rfl rfl rfl (by decide +kernel) hR
set_option maxHeartbeats 4000000 in
set_option maxRecDepth 100000 in
/-- trackAt -/
theorem c_X12_trackAt (l : Launch) (D : va_G) (cy : Nat → ClassId) (sz : Nat) (cs : List Nat) (ad : Nat → Nat) (en : Nat → va_E) (hI : RX cy cs ad en) (n : Nat) (hn : n ≤ 12)   : Met l yX12_trackAt (Cond.code yX12_trackAt cX12_trackAt 5 (some .long) :: TB) (rmN 0) (va_Pc [.ref (ad 0), .int (nI n)] (Pre D cy cs ad en sz)) (va_Ql (S := Unit) (fun r _ => r = sumTo (fun i => rdL (en 6) (9 * n + (rdI (en 0) 2).toNatClampNeg * i + i)) (rdI (en 0) 2).toNatClampNeg) (fun _ _ => True) (Nf sz)) 0 0 (Nf sz) := by
  refine Met.ofW (cc := cX12_trackAt) (maxL := 5) (ret := (some .long)) (by decide) rfl ?_
  intro p e s m args below meth c s₁ B hml hv
  obtain ⟨rfl, hsz, hP, hK, hD0⟩ := hv
  have hx := B.exec
  have hb := B.bytes
  have hr := B.returns
  have hts : ∀ w ∈ TB, w.before _ s = true := fun w h => atoms_spec (ws := _ :: TB) B.pre w (List.mem_cons_of_mem _ h)
  have hown : s.vm.findClass RX12 = some m.cls := findClass_of_methodNamed B.named
  have hlocks := B.notSynchronized
  have hh : Hp D (Nf sz) (fun _ => True) s.heap s.heap [] cs ad en := ⟨hP, hD0, va_S.rf⟩
  have hA : ∀ q : Nat, s.heap.size ≤ q → Nf sz q := fun q h => by rw [hsz] at h; exact h
  have hl := lv_entry ([.ref (ad 0), .int (nI n)]) (n := 5) (Nat.le_of_ble_eq_true rfl)
  rw [lg_entry_eq]
  generalize (lg_sl ([.ref (ad 0), .int (nI n)]) ++ List.replicate (5 - (lg_sl ([.ref (ad 0), .int (nI n)])).length) Slot.unset).toArray = ls at hl ⊢
  have hl : lv_has ls 5 [(0, .ref (ad 0)), (1, .int (nI n))] := hl
  obtain ⟨fa, hi, wd, mo, tb, dp, many, grt, lst, nou, rm, rb, pr, wo, es992, hwd2, hwd3, hmo, htb, hwo⟩ := getr_M hI
  refine lv_lconst (v := 0) hx hb dX12_trackAt_0 (by decide) ?_
  refine lv_lstore_n (lv' := [(2, .long 0), (0, .ref (ad 0)), (1, .int (nI n))]) hx hb dX12_trackAt_1 rfl hl (by decide) rfl (fun ls hl => ?_)
  refine lv_iconst (v := 0) hx hb dX12_trackAt_2 (by decide) ?_
  refine lv_istore (lv' := [(4, .int 0), (2, .long 0), (0, .ref (ad 0)), (1, .int (nI n))]) hx hb dX12_trackAt_3 hl (by decide) rfl (fun ls hl => ?_)
  have loop_993 : ∀ (fu j993 : Nat) (ac993 : Int64)  (ls : Array Slot) (H : Heap) (locs : List Loc), 0 ≤ j993 → j993 ≤ wd → wd < j993 + fu →  (ac993 = sumTo (fun i => rdL (en 6) (9 * n + wd * i + i)) j993) → lv_has ls 5 [(4, .int (nI j993)), (2, .long ac993), (0, .ref (ad 0)), (1, .int (nI n))] → Hp D (Nf sz) (fun _ => True) s.heap H locs cs ad en → W p l e (headSpec (Cond.code yX12_trackAt cX12_trackAt 5 (some .long) :: TB) (rmN 0)).room s m ([.ref (ad 0), .int (nI n)] : List Value).toArray below meth c H locs 0 0 (MQ below (va_Ql (S := Unit) (fun r _ => r = sumTo (fun i => rdL (en 6) (9 * n + (rdI (en 0) 2).toNatClampNeg * i + i)) (rdI (en 0) 2).toNatClampNeg) (fun _ _ => True) (Nf sz)) ([.ref (ad 0), .int (nI n)] : List Value).toArray s 0 0 (Nf sz)) (F0 m 5 ls []) := by
    intro fu
    induction fu with
    | zero => intro j993 ac993 ls H locs h0 h1 h2; exact absurd h2 (by omega)
    | succ fu ih_993 =>
      intro j993 ac993 ls H locs hj0_993 hj_993 hfu_993 i0_993 hl hh
      refine lv_iload hx hb dX12_trackAt_5 (lv_at hl 0 rfl) ?_
      refine lv_aload_n hx hb dX12_trackAt_7 rfl (lv_at hl 2 rfl) ?_
      refine hp_get hx hb hts ix12 hown hK hh (q := 0) rfl (hI.1 _ (by decide)) es992 rfl 2 (by decide) (hts _ tw_881) (fun _ h9 => h9) rfl dX12_trackAt_8 ?_
      refine lv_icmp_ge (tgt := 43) hx hb dX12_trackAt_11 (by decide) (fun c_994 => ?_) (fun c_994 => ?_)
      · have n_994 : wd ≤ j993 := n_le (a := wd) (b := j993) c_994 (by omega) (by omega)
        refine lv_lload_n hx hb dX12_trackAt_43 rfl (lv_at hl 1 rfl) ?_
        have hq2 : (rdI (en 0) 2).toNatClampNeg = wd := by rw [show rdI (en 0) 2 = nI wd from by rw [es992]; rfl]; exact nI_clamp (by omega)
        exact hp_lretR hx hb hr hlocks hsz hh (by rw [hq2]; have e9 : j993 = wd := (by omega); rw [e9] at i0_993; exact i0_993) dX12_trackAt_44
      · have n_994 : j993 < wd := n_nle (a := wd) (b := j993) c_994 (by omega) (by omega)
        refine lv_lload_n hx hb dX12_trackAt_14 rfl (lv_at hl 1 rfl) ?_
        refine lv_aload_n hx hb dX12_trackAt_15 rfl (lv_at hl 2 rfl) ?_
        refine hp_get hx hb hts ix12 hown hK hh (q := 0) rfl (hI.1 _ (by decide)) es992 rfl 10 (by decide) (hts _ tw_889) (fun _ h9 => h9) rfl dX12_trackAt_16 ?_
        refine lv_bipush (v := 9) hx hb dX12_trackAt_19 (by decide) ?_
        refine lv_iload_n hx hb dX12_trackAt_21 rfl (lv_at hl 3 rfl) ?_
        refine lv_imul hx hb dX12_trackAt_22 ?_
        rw [show (9 : Int32) = nI 9 from rfl, pk_mul 9 n]
        refine lv_aload_n hx hb dX12_trackAt_23 rfl (lv_at hl 2 rfl) ?_
        refine hp_get hx hb hts ix12 hown hK hh (q := 0) rfl (hI.1 _ (by decide)) es992 rfl 2 (by decide) (hts _ tw_881) (fun _ h9 => h9) rfl dX12_trackAt_24 ?_
        refine lv_iload hx hb dX12_trackAt_27 (lv_at hl 0 rfl) ?_
        refine lv_imul hx hb dX12_trackAt_29 ?_
        rw [pk_mul wd j993]
        refine lv_iadd hx hb dX12_trackAt_30 ?_
        rw [nI_add (9 * n) (wd * j993)]
        refine lv_iload hx hb dX12_trackAt_31 (lv_at hl 0 rfl) ?_
        refine lv_iadd hx hb dX12_trackAt_33 ?_
        rw [nI_add ((9 * n) + (wd * j993)) j993]
        have hi_995 : wd * j993 + j993 < 9 := mdr (by omega) (by omega) (by omega)
        obtain ⟨f_996, es996⟩ := getr_lv hI
        refine hp_lald hx hb hK hh (q := 6) rfl (hI.1 _ (by decide)) es996 (vp_in_nI (n := (((9 * n) + (wd * j993)) + j993)) (by omega) (by decide)) dX12_trackAt_34 ?_
        rw [nI_clamp (n := (((9 * n) + (wd * j993)) + j993)) (by omega)]
        refine lv_ladd hx hb dX12_trackAt_35 ?_
        refine lv_lstore_n (lv' := [(2, .long (ac993 + (f_996 (((9 * n) + (wd * j993)) + j993)))), (4, .int (nI j993)), (0, .ref (ad 0)), (1, .int (nI n))]) hx hb dX12_trackAt_36 rfl hl (by decide) rfl (fun ls hl => ?_)
        refine lv_iinc (v := (nI (j993 + 1))) (lv' := [(4, .int (nI (j993 + 1))), (2, .long (ac993 + (f_996 (((9 * n) + (wd * j993)) + j993)))), (0, .ref (ad 0)), (1, .int (nI n))]) hx hb dX12_trackAt_37 hl (k := 1) rfl (nI_1 _) (by decide) rfl (fun ls hl => ?_)
        refine lv_goto (tgt := 5) hx hb dX12_trackAt_40 (by decide) ?_
        exact ih_993 ((j993 + 1)) (ac993 + (f_996 (((9 * n) + (wd * j993)) + j993))) ls H locs (by omega) (by omega) (by omega) (by rw [i0_993, show f_996 = rdL (en 6) from by rw [es996]; rfl]; rfl) (lv_sub hl [0, 1, 2, 3] rfl) hh
  exact loop_993 (wd + 1) 0 0 ls _ _ (Nat.le_refl _) (by omega) (by omega) (rfl) (lv_sub hl [0, 1, 2, 3] rfl) hh
theorem kw_X12_trackAt {R : Room} {s : State} {args : Array Value} {own : String} {idx : Nat} (hts : ∀ w ∈ TB, w.before args s = true) (hl : Cond.methodLink own idx yX12_trackAt ∈ TB) (hR : 0 + 1 ≤ R.frames ∧ 8 + (5 + 11) + 40 * 0 ≤ R.locals) : CallW R s args own RX12 idx yX12_trackAt cX12_trackAt 5 (some .long) (Cond.code yX12_trackAt cX12_trackAt 5 (some .long) :: TB) (rmN 0) 0 0 1 := cwV 1 hts (TB_V hl tw_1095 ts_49 tw_9 tw_1096) rfl rfl rfl (by decide +kernel) hR
