set_option maxHeartbeats 4000000 in
set_option maxRecDepth 100000 in
/-- fails -/
theorem c_X12_fails (l : Launch) (D : va_G) (cy : Nat → ClassId) (sz : Nat) (cs : List Nat) (ad : Nat → Nat) (en : Nat → va_E) (hcs : ∀ c, c < 20 → c ∈ cs) (m_fault : Int32) (m_history : Int32) (m_wide : Int32) (m_modulus : Int32) (m_tables : Int32) (m_depth : Int32) (m_many : Int64) (m_greatest : Int64) (m_least : Int64) (m_noughts : Int64) (m_ringMany : Int32) (m_ringBest : Int64) (m_products : Int32) (m_words : Int32) (k : Int32) (mz : en 0 = .inr (11, [.int m_fault, .int m_history, .int m_wide, .int m_modulus, .int m_tables, .ref (ad 1), .ref (ad 2), .ref (ad 3), .ref (ad 4), .ref (ad 5), .ref (ad 6), .ref (ad 7), .ref (ad 8), .ref (ad 9), .int m_depth, .long m_many, .long m_greatest, .long m_least, .long m_noughts, .ref (ad 10), .ref (ad 11), .ref (ad 12), .int m_ringMany, .long m_ringBest, .ref (ad 13), .int m_products, .ref (ad 14), .ref (ad 15), .ref (ad 16), .ref (ad 17), .int m_words, .ref (ad 18), .ref (ad 19)]))  : Met l yX12_fails (Cond.code yX12_fails cX12_fails 2 (some .int) :: TB) (rmN 0) (va_Pc [.ref (ad 0), .int k] (Pre D cy cs ad en sz)) (va_Qi (S := Nat → va_E) (fun r en1 => r = (-10) - k ∧ en1 = va_up en 0 (.inr (11, [.int k, .int m_history, .int m_wide, .int m_modulus, .int m_tables, .ref (ad 1), .ref (ad 2), .ref (ad 3), .ref (ad 4), .ref (ad 5), .ref (ad 6), .ref (ad 7), .ref (ad 8), .ref (ad 9), .int m_depth, .long m_many, .long m_greatest, .long m_least, .long m_noughts, .ref (ad 10), .ref (ad 11), .ref (ad 12), .int m_ringMany, .long m_ringBest, .ref (ad 13), .int m_products, .ref (ad 14), .ref (ad 15), .ref (ad 16), .ref (ad 17), .int m_words, .ref (ad 18), .ref (ad 19)]))) (PostM D cs ad) (Af cs ad sz)) 0 0 (Af cs ad sz) := by
  refine Met.ofW (cc := cX12_fails) (maxL := 2) (ret := (some .int)) (by decide) rfl ?_
  intro p e s m args below meth c s₁ B hml hv
  obtain ⟨rfl, hsz, hP, hK, hD0⟩ := hv
  have hx := B.exec
  have hb := B.bytes
  have hr := B.returns
  have hts : ∀ w ∈ TB, w.before _ s = true := fun w h => atoms_spec (ws := _ :: TB) B.pre w (List.mem_cons_of_mem _ h)
  have hown : s.vm.findClass RX12 = some m.cls := findClass_of_methodNamed B.named
  have hlocks := B.notSynchronized
  have hh : Hp D (Af cs ad sz) (Af cs ad sz) s.heap s.heap [] cs ad en := ⟨hP, Af_self hD0, va_S.rf⟩
  have hA : ∀ q : Nat, s.heap.size ≤ q → Af cs ad sz q := fun q h => Or.inr (by rw [hsz] at h; exact h)
  have hl := lv_entry ([.ref (ad 0), .int k]) (n := 2) (Nat.le_of_ble_eq_true rfl)
  rw [lg_entry_eq]
  generalize (lg_sl ([.ref (ad 0), .int k]) ++ List.replicate (2 - (lg_sl ([.ref (ad 0), .int k])).length) Slot.unset).toArray = ls at hl ⊢
  have hl : lv_has ls 2 [(0, .ref (ad 0)), (1, .int k)] := hl
  refine lv_aload_n hx hb dX12_fails_0 rfl (lv_at hl 0 rfl) ?_
  refine lv_iload_n hx hb dX12_fails_1 rfl (lv_at hl 1 rfl) ?_
  refine hp_put hx hb hts ix12 tyX12 tyX12_ok nmX12 hown hK hh (q := 0) rfl (hcs _ (by decide)) mz rfl 0 (by decide) (hts _ tw_879) (fun _ h9 => h9) rfl (ty := .int) (by decide +kernel) rfl rfl (Nat.le_of_ble_eq_true rfl) dX12_fails_2 (fun H locs en_162 hen_162 hh => ?_)
  have mz_162 : en_162 0 = .inr (11, [.int k, .int m_history, .int m_wide, .int m_modulus, .int m_tables, .ref (ad 1), .ref (ad 2), .ref (ad 3), .ref (ad 4), .ref (ad 5), .ref (ad 6), .ref (ad 7), .ref (ad 8), .ref (ad 9), .int m_depth, .long m_many, .long m_greatest, .long m_least, .long m_noughts, .ref (ad 10), .ref (ad 11), .ref (ad 12), .int m_ringMany, .long m_ringBest, .ref (ad 13), .int m_products, .ref (ad 14), .ref (ad 15), .ref (ad 16), .ref (ad 17), .int m_words, .ref (ad 18), .ref (ad 19)]) := by rw [hen_162]; exact va_up_self _ _ _
  refine lv_bipush (v := (-10)) hx hb dX12_fails_5 (by decide) ?_
  refine lv_iload_n hx hb dX12_fails_7 rfl (lv_at hl 1 rfl) ?_
  refine lv_isub hx hb dX12_fails_8 ?_
  exact hp_iretM hx hb hr rfl hlocks hh (⟨rfl, hen_162⟩) dX12_fails_9
theorem kw_X12_fails {R : Room} {s : State} {args : Array Value} {own : String} {idx : Nat} (hts : ∀ w ∈ TB, w.before args s = true) (hl : Cond.methodLink own idx yX12_fails ∈ TB) (hR : 0 + 1 ≤ R.frames ∧ 8 + (2 + 11) + 40 * 0 ≤ R.locals) : CallW R s args own RX12 idx yX12_fails cX12_fails 2 (some .int) (Cond.code yX12_fails cX12_fails 2 (some .int) :: TB) (rmN 0) 0 0 1 := cwV 1 hts (TB_V hl tw_999 ts_32 tw_9 tw_1000) rfl rfl rfl (by decide +kernel) hR
set_option maxHeartbeats 4000000 in
set_option maxRecDepth 100000 in
/-- lost -/
theorem c_X12_lost (l : Launch) (D : va_G) (cy : Nat → ClassId) (sz : Nat) (cs : List Nat) (ad : Nat → Nat) (en : Nat → va_E) (hcs : ∀ c, c < 20 → c ∈ cs) (m_fault : Int32) (m_history : Int32) (m_wide : Int32) (m_modulus : Int32) (m_tables : Int32) (m_depth : Int32) (m_many : Int64) (m_greatest : Int64) (m_least : Int64) (m_noughts : Int64) (m_ringMany : Int32) (m_ringBest : Int64) (m_products : Int32) (m_words : Int32) (k : Int32) (mz : en 0 = .inr (11, [.int m_fault, .int m_history, .int m_wide, .int m_modulus, .int m_tables, .ref (ad 1), .ref (ad 2), .ref (ad 3), .ref (ad 4), .ref (ad 5), .ref (ad 6), .ref (ad 7), .ref (ad 8), .ref (ad 9), .int m_depth, .long m_many, .long m_greatest, .long m_least, .long m_noughts, .ref (ad 10), .ref (ad 11), .ref (ad 12), .int m_ringMany, .long m_ringBest, .ref (ad 13), .int m_products, .ref (ad 14), .ref (ad 15), .ref (ad 16), .ref (ad 17), .int m_words, .ref (ad 18), .ref (ad 19)]))  : Met l yX12_lost (Cond.code yX12_lost cX12_lost 2 (some .long) :: TB) (rmN 0) (va_Pc [.ref (ad 0), .int k] (Pre D cy cs ad en sz)) (va_Ql (S := Nat → va_E) (fun r en1 => r = (-9223372036854775808) ∧ en1 = va_up en 0 (.inr (11, [.int k, .int m_history, .int m_wide, .int m_modulus, .int m_tables, .ref (ad 1), .ref (ad 2), .ref (ad 3), .ref (ad 4), .ref (ad 5), .ref (ad 6), .ref (ad 7), .ref (ad 8), .ref (ad 9), .int m_depth, .long m_many, .long m_greatest, .long m_least, .long m_noughts, .ref (ad 10), .ref (ad 11), .ref (ad 12), .int m_ringMany, .long m_ringBest, .ref (ad 13), .int m_products, .ref (ad 14), .ref (ad 15), .ref (ad 16), .ref (ad 17), .int m_words, .ref (ad 18), .ref (ad 19)]))) (PostM D cs ad) (Af cs ad sz)) 0 0 (Af cs ad sz) := by
  refine Met.ofW (cc := cX12_lost) (maxL := 2) (ret := (some .long)) (by decide) rfl ?_
  intro p e s m args below meth c s₁ B hml hv
  obtain ⟨rfl, hsz, hP, hK, hD0⟩ := hv
  have hx := B.exec
  have hb := B.bytes
  have hr := B.returns
  have hts : ∀ w ∈ TB, w.before _ s = true := fun w h => atoms_spec (ws := _ :: TB) B.pre w (List.mem_cons_of_mem _ h)
  have hown : s.vm.findClass RX12 = some m.cls := findClass_of_methodNamed B.named
  have hlocks := B.notSynchronized
  have hh : Hp D (Af cs ad sz) (Af cs ad sz) s.heap s.heap [] cs ad en := ⟨hP, Af_self hD0, va_S.rf⟩
  have hA : ∀ q : Nat, s.heap.size ≤ q → Af cs ad sz q := fun q h => Or.inr (by rw [hsz] at h; exact h)
  have hl := lv_entry ([.ref (ad 0), .int k]) (n := 2) (Nat.le_of_ble_eq_true rfl)
  rw [lg_entry_eq]
  generalize (lg_sl ([.ref (ad 0), .int k]) ++ List.replicate (2 - (lg_sl ([.ref (ad 0), .int k])).length) Slot.unset).toArray = ls at hl ⊢
  have hl : lv_has ls 2 [(0, .ref (ad 0)), (1, .int k)] := hl
  refine lv_aload_n hx hb dX12_lost_0 rfl (lv_at hl 0 rfl) ?_
  refine lv_iload_n hx hb dX12_lost_1 rfl (lv_at hl 1 rfl) ?_
  refine hp_put hx hb hts ix12 tyX12 tyX12_ok nmX12 hown hK hh (q := 0) rfl (hcs _ (by decide)) mz rfl 0 (by decide) (hts _ tw_879) (fun _ h9 => h9) rfl (ty := .int) (by decide +kernel) rfl rfl (Nat.le_of_ble_eq_true rfl) dX12_lost_2 (fun H locs en_163 hen_163 hh => ?_)
  have mz_163 : en_163 0 = .inr (11, [.int k, .int m_history, .int m_wide, .int m_modulus, .int m_tables, .ref (ad 1), .ref (ad 2), .ref (ad 3), .ref (ad 4), .ref (ad 5), .ref (ad 6), .ref (ad 7), .ref (ad 8), .ref (ad 9), .int m_depth, .long m_many, .long m_greatest, .long m_least, .long m_noughts, .ref (ad 10), .ref (ad 11), .ref (ad 12), .int m_ringMany, .long m_ringBest, .ref (ad 13), .int m_products, .ref (ad 14), .ref (ad 15), .ref (ad 16), .ref (ad 17), .int m_words, .ref (ad 18), .ref (ad 19)]) := by rw [hen_163]; exact va_up_self _ _ _
  refine lv_ldc2 hx hb hown (hts _ tw_1015) dX12_lost_5 ?_
  exact hp_lretM hx hb hr hlocks hh (⟨rfl, hen_163⟩) dX12_lost_8
theorem kw_X12_lost {R : Room} {s : State} {args : Array Value} {own : String} {idx : Nat} (hts : ∀ w ∈ TB, w.before args s = true) (hl : Cond.methodLink own idx yX12_lost ∈ TB) (hR : 0 + 1 ≤ R.frames ∧ 8 + (2 + 11) + 40 * 0 ≤ R.locals) : CallW R s args own RX12 idx yX12_lost cX12_lost 2 (some .long) (Cond.code yX12_lost cX12_lost 2 (some .long) :: TB) (rmN 0) 0 0 1 := cwV 1 hts (TB_V hl tw_1217 ts_60 tw_9 tw_1218) rfl rfl rfl (by decide +kernel) hR
set_option maxHeartbeats 4000000 in
set_option maxRecDepth 100000 in
/-- against, new object -/
theorem c_X12_against (l : Launch) (D : va_G) (cy : Nat → ClassId) (sz : Nat) (cs : List Nat) (ad : Nat → Nat) (en : Nat → va_E) (hcs : ∀ c, c < 20 → c ∈ cs) (g3 : Nat → Int32) (hg3 : ∀ j, j < 4 → g3 j = -9) (k la : Int32) (mz : en 0 = .inr (11, [.int 0, .int 0, .int 2, .int 0, .int 0, .ref (ad 1), .ref (ad 2), .ref (ad 3), .ref (ad 4), .ref (ad 5), .ref (ad 6), .ref (ad 7), .ref (ad 8), .ref (ad 9), .int 0, .long 0, .long 0, .long 0, .long 0, .ref (ad 10), .ref (ad 11), .ref (ad 12), .int 0, .long 0, .ref (ad 13), .int (-9), .ref (ad 14), .ref (ad 15), .ref (ad 16), .ref (ad 17), .int 0, .ref (ad 18), .ref (ad 19)])) (m3 : en 3 = .inl (cy 0, 4, .inl g3))  : Met l yX12_against (Cond.code yX12_against cX12_against 3 (some .int) :: TB) (rmN 1) (va_Pc [.ref (ad 0), .int k, .int la] (Pre D cy cs ad en sz)) (va_Qi (S := Nat → va_E) (fun r _ => r = sp3 k la) (PostM D cs ad) (Af cs ad sz)) 0 0 (Af cs ad sz) := by
  refine Met.ofW (cc := cX12_against) (maxL := 3) (ret := (some .int)) (by decide) rfl ?_
  intro p e s m args below meth c s₁ B hml hv
  obtain ⟨rfl, hsz, hP, hK, hD0⟩ := hv
  have hx := B.exec
  have hb := B.bytes
  have hr := B.returns
  have hts : ∀ w ∈ TB, w.before _ s = true := fun w h => atoms_spec (ws := _ :: TB) B.pre w (List.mem_cons_of_mem _ h)
  have hown : s.vm.findClass RX12 = some m.cls := findClass_of_methodNamed B.named
  have hlocks := B.notSynchronized
  have hh : Hp D (Af cs ad sz) (Af cs ad sz) s.heap s.heap [] cs ad en := ⟨hP, Af_self hD0, va_S.rf⟩
  have hA : ∀ q : Nat, s.heap.size ≤ q → Af cs ad sz q := fun q h => Or.inr (by rw [hsz] at h; exact h)
  have hl := lv_entry ([.ref (ad 0), .int k, .int la]) (n := 3) (Nat.le_of_ble_eq_true rfl)
  rw [lg_entry_eq]
  generalize (lg_sl ([.ref (ad 0), .int k, .int la]) ++ List.replicate (3 - (lg_sl ([.ref (ad 0), .int k, .int la])).length) Slot.unset).toArray = ls at hl ⊢
  have hl : lv_has ls 3 [(0, .ref (ad 0)), (1, .int k), (2, .int la)] := hl
  refine lv_iload_n hx hb dX12_against_0 rfl (lv_at hl 1 rfl) ?_
  refine lv_i2l hx hb dX12_against_1 rfl ?_
  refine lv_lconst (v := 0) hx hb dX12_against_2 (by decide) ?_
  refine lv_ldc2 hx hb hown (hts _ tw_984) dX12_against_3 ?_
  refine hp_callRi (va_runS (As := [.long k.toInt64, .long 0, .long 3]) (rest := []) ⟨hx, hb, hml, hown, hts⟩ (c_X12_within l D cy _ cs ad en k.toInt64 0 3 ) (kw_X12_within hts tw_985 ⟨by decide, by decide⟩) (preS_of hh hK) rfl rfl hl.1 rfl (lv_room (Nat.le_of_ble_eq_true rfl)) dX12_against_6 ⟨Nat.le_of_ble_eq_true rfl, Nat.le_of_ble_eq_true rfl⟩) hh hA (fun r_164 H locs hw_164 hh => ?_)
  rcases Decidable.em (wi k 0 3) with hp_164 | hp_164
  · obtain rfl : r_164 = 1 := Eq.trans hw_164 (if_pos ((wj_32 (by decide) (by decide)).mpr hp_164))
    refine lv_if_ne (tgt := 14) hx hb dX12_against_9 (by decide) (fun _ => ?_) (fun c_0 => absurd c_0 (by decide))
    refine lv_iload_n hx hb dX12_against_14 rfl (lv_at hl 2 rfl) ?_
    refine lv_i2l hx hb dX12_against_15 rfl ?_
    refine lv_lconst (v := 0) hx hb dX12_against_16 (by decide) ?_
    refine lv_ldc2 hx hb hown (hts _ tw_983) dX12_against_17 ?_
    refine hp_callRi (va_runS (As := [.long la.toInt64, .long 0, .long 2]) (rest := []) ⟨hx, hb, hml, hown, hts⟩ (c_X12_within l D cy _ cs ad en la.toInt64 0 2 ) (kw_X12_within hts tw_985 ⟨by decide, by decide⟩) (preS_of hh hK) rfl rfl hl.1 rfl (lv_room (Nat.le_of_ble_eq_true rfl)) dX12_against_20 ⟨Nat.le_of_ble_eq_true rfl, Nat.le_of_ble_eq_true rfl⟩) hh hA (fun r_165 H locs hw_165 hh => ?_)
    rcases Decidable.em (wi la 0 2) with hp_165 | hp_165
    · obtain rfl : r_165 = 1 := Eq.trans hw_165 (if_pos ((wj_32 (by decide) (by decide)).mpr hp_165))
      refine lv_if_ne (tgt := 29) hx hb dX12_against_23 (by decide) (fun _ => ?_) (fun c_0 => absurd c_0 (by decide))
      refine lv_aload_n hx hb dX12_against_29 rfl (lv_at hl 0 rfl) ?_
      refine hp_get hx hb hts ix12 hown hK hh (q := 0) rfl (hcs _ (by decide)) mz rfl 7 (by decide) (hts _ tw_886) (fun _ h9 => h9) rfl dX12_against_30 ?_
      refine lv_iload_n hx hb dX12_against_33 rfl (lv_at hl 1 rfl) ?_
      refine hp_iald hx hb hK hh (q := 3) rfl (hcs _ (by decide)) m3 (wi_in 4 hp_164 (by decide)) dX12_against_34 ?_
      rw [show g3 k.toNatClampNeg = (-9) from hg3 _ (wi_lt 4 hp_164 (by decide))]
      refine lv_bipush (v := (-9)) hx hb dX12_against_35 (by decide) ?_
      refine lv_icmp_eq (tgt := 56) hx hb dX12_against_37 (by decide) (fun _ => ?_) (fun c_0 => absurd c_0 (by decide))
      refine lv_aload_n hx hb dX12_against_56 rfl (lv_at hl 0 rfl) ?_
      refine hp_get hx hb hts ix12 hown hK hh (q := 0) rfl (hcs _ (by decide)) mz rfl 7 (by decide) (hts _ tw_886) (fun _ h9 => h9) rfl dX12_against_57 ?_
      refine lv_iload_n hx hb dX12_against_60 rfl (lv_at hl 1 rfl) ?_
      refine hp_iald hx hb hK hh (q := 3) rfl (hcs _ (by decide)) m3 (wi_in 4 hp_164 (by decide)) dX12_against_61 ?_
      rw [show g3 k.toNatClampNeg = (-9) from hg3 _ (wi_lt 4 hp_164 (by decide))]
      refine lv_bipush (v := (-9)) hx hb dX12_against_62 (by decide) ?_
      refine lv_icmp_ne (tgt := 75) hx hb dX12_against_64 (by decide) (fun c_0 => absurd c_0 (by decide)) (fun _ => ?_)
      refine lv_aload_n hx hb dX12_against_67 rfl (lv_at hl 0 rfl) ?_
      refine lv_iconst (v := 1) hx hb dX12_against_68 (by decide) ?_
      refine hp_callMi (va_runV (As := [.int 1]) (rest := []) ⟨hx, hb, hml, hown, hts⟩ (c_X12_fails l D cy _ cs ad en hcs 0 0 2 0 0 0 0 0 0 0 0 0 (-9) 0 1 mz ) (kw_X12_fails hts tw_997 ⟨by decide, by decide⟩) (preV_of hh hK (hcs _ (by decide)) mz rfl) rfl rfl hl.1 rfl (lv_room (Nat.le_of_ble_eq_true rfl)) dX12_against_69 ⟨Nat.le_of_ble_eq_true rfl, Nat.le_of_ble_eq_true rfl⟩) hh hA (fun r_166 H locs en_166 hw_166 hh => ?_)
      obtain ⟨rfl, hen_166⟩ := hw_166
      rw [show (-10 : Int32) - 1 = (-11) by decide]
      have m3_166 : en_166 3 = .inl (cy 0, 4, .inl g3) := by rw [hen_166, va_up_ne _ _ (by decide)]; exact m3
      have mz_166 : en_166 0 = .inr (11, [.int 1, .int 0, .int 2, .int 0, .int 0, .ref (ad 1), .ref (ad 2), .ref (ad 3), .ref (ad 4), .ref (ad 5), .ref (ad 6), .ref (ad 7), .ref (ad 8), .ref (ad 9), .int 0, .long 0, .long 0, .long 0, .long 0, .ref (ad 10), .ref (ad 11), .ref (ad 12), .int 0, .long 0, .ref (ad 13), .int (-9), .ref (ad 14), .ref (ad 15), .ref (ad 16), .ref (ad 17), .int 0, .ref (ad 18), .ref (ad 19)]) := by rw [hen_166]; exact va_up_self _ _ _
      refine lv_goto (tgt := 76) hx hb dX12_against_72 (by decide) ?_
      exact hp_iretM hx hb hr rfl hlocks hh ((sp3_a hp_164 hp_165).symm) dX12_against_76
    · obtain rfl : r_165 = 0 := Eq.trans hw_165 (if_neg (fun q => hp_165 ((wj_32 (by decide) (by decide)).mp q)))
      refine lv_if_ne (tgt := 29) hx hb dX12_against_23 (by decide) (fun c_0 => absurd c_0 (by decide)) (fun _ => ?_)
      refine lv_bipush (v := (-2)) hx hb dX12_against_26 (by decide) ?_
      exact hp_iretM hx hb hr rfl hlocks hh ((sp3_b hp_164 hp_165).symm) dX12_against_28
  · obtain rfl : r_164 = 0 := Eq.trans hw_164 (if_neg (fun q => hp_164 ((wj_32 (by decide) (by decide)).mp q)))
    refine lv_if_ne (tgt := 14) hx hb dX12_against_9 (by decide) (fun c_0 => absurd c_0 (by decide)) (fun _ => ?_)
    refine lv_iconst (v := (-1)) hx hb dX12_against_12 (by decide) ?_
    exact hp_iretM hx hb hr rfl hlocks hh ((sp3_c hp_164).symm) dX12_against_13
theorem kw_X12_against {R : Room} {s : State} {args : Array Value} {own : String} {idx : Nat} (hts : ∀ w ∈ TB, w.before args s = true) (hl : Cond.methodLink own idx yX12_against ∈ TB) (hR : 1 + 1 ≤ R.frames ∧ 8 + (3 + 11) + 40 * 1 ≤ R.locals) : CallW R s args own RX12 idx yX12_against cX12_against 3 (some .int) (Cond.code yX12_against cX12_against 3 (some .int) :: TB) (rmN 1) 0 0 2 := cwV 2 hts (TB_V hl tw_995 ts_31 tw_9 tw_996) rfl rfl rfl (by decide +kernel) hR
set_option maxHeartbeats 4000000 in
set_option maxRecDepth 100000 in
/-- table, new object -/
theorem c_X12_table (l : Launch) (D : va_G) (cy : Nat → ClassId) (sz : Nat) (cs : List Nat) (ad : Nat → Nat) (en : Nat → va_E) (hcs : ∀ c, c < 20 → c ∈ cs) (g3 : Nat → Int32) (hg3 : ∀ j, j < 4 → g3 j = -9) (k la i : Int32) (mz : en 0 = .inr (11, [.int 0, .int 0, .int 2, .int 0, .int 0, .ref (ad 1), .ref (ad 2), .ref (ad 3), .ref (ad 4), .ref (ad 5), .ref (ad 6), .ref (ad 7), .ref (ad 8), .ref (ad 9), .int 0, .long 0, .long 0, .long 0, .long 0, .ref (ad 10), .ref (ad 11), .ref (ad 12), .int 0, .long 0, .ref (ad 13), .int (-9), .ref (ad 14), .ref (ad 15), .ref (ad 16), .ref (ad 17), .int 0, .ref (ad 18), .ref (ad 19)])) (m3 : en 3 = .inl (cy 0, 4, .inl g3))  : Met l yX12_table (Cond.code yX12_table cX12_table 6 (some .int) :: TB) (rmN 2) (va_Pc [.ref (ad 0), .int k, .int la, .int i] (Pre D cy cs ad en sz)) (va_Qi (S := Nat → va_E) (fun r _ => r = sp3 k la) (PostM D cs ad) (Af cs ad sz)) 0 0 (Af cs ad sz) := by
  refine Met.ofW (cc := cX12_table) (maxL := 6) (ret := (some .int)) (by decide) rfl ?_
  intro p e s m args below meth c s₁ B hml hv
  obtain ⟨rfl, hsz, hP, hK, hD0⟩ := hv
  have hx := B.exec
  have hb := B.bytes
  have hr := B.returns
  have hts : ∀ w ∈ TB, w.before _ s = true := fun w h => atoms_spec (ws := _ :: TB) B.pre w (List.mem_cons_of_mem _ h)
  have hown : s.vm.findClass RX12 = some m.cls := findClass_of_methodNamed B.named
  have hlocks := B.notSynchronized
  have hh : Hp D (Af cs ad sz) (Af cs ad sz) s.heap s.heap [] cs ad en := ⟨hP, Af_self hD0, va_S.rf⟩
  have hA : ∀ q : Nat, s.heap.size ≤ q → Af cs ad sz q := fun q h => Or.inr (by rw [hsz] at h; exact h)
  have hl := lv_entry ([.ref (ad 0), .int k, .int la, .int i]) (n := 6) (Nat.le_of_ble_eq_true rfl)
  rw [lg_entry_eq]
  generalize (lg_sl ([.ref (ad 0), .int k, .int la, .int i]) ++ List.replicate (6 - (lg_sl ([.ref (ad 0), .int k, .int la, .int i])).length) Slot.unset).toArray = ls at hl ⊢
  have hl : lv_has ls 6 [(0, .ref (ad 0)), (1, .int k), (2, .int la), (3, .int i)] := hl
  refine lv_aload_n hx hb dX12_table_0 rfl (lv_at hl 0 rfl) ?_
  refine lv_iconst (v := 0) hx hb dX12_table_1 (by decide) ?_
  refine hp_put hx hb hts ix12 tyX12 tyX12_ok nmX12 hown hK hh (q := 0) rfl (hcs _ (by decide)) mz rfl 0 (by decide) (hts _ tw_879) (fun _ h9 => h9) rfl (ty := .int) (by decide +kernel) rfl rfl (Nat.le_of_ble_eq_true rfl) dX12_table_2 (fun H locs en_167 hen_167 hh => ?_)
  have hid_167 : en_167 = en := hen_167.trans (va_up_id mz)
  rw [hid_167] at hh
  refine lv_aload_n hx hb dX12_table_5 rfl (lv_at hl 0 rfl) ?_
  refine lv_iload_n hx hb dX12_table_6 rfl (lv_at hl 1 rfl) ?_
  refine lv_iload_n hx hb dX12_table_7 rfl (lv_at hl 2 rfl) ?_
  refine hp_callMi (va_runV (As := [.int k, .int la]) (rest := []) ⟨hx, hb, hml, hown, hts⟩ (c_X12_against l D cy _ cs ad en hcs g3 hg3 k la mz m3) (kw_X12_against hts tw_993 ⟨by decide, by decide⟩) (preV_of hh hK (hcs _ (by decide)) mz rfl) rfl rfl hl.1 rfl (lv_room (Nat.le_of_ble_eq_true rfl)) dX12_table_8 ⟨Nat.le_of_ble_eq_true rfl, Nat.le_of_ble_eq_true rfl⟩) hh hA (fun r_168 H locs en_168 hw_168 hh => ?_)
  rcases Decidable.em (wi k 0 3) with hp_168 | hp_168
  · rcases Decidable.em (wi la 0 2) with hq_168 | hq_168
    · obtain rfl : r_168 = (-11) := Eq.trans hw_168 (sp3_a hp_168 hq_168)
      refine lv_istore (lv' := [(4, .int (-11)), (0, .ref (ad 0)), (1, .int k), (2, .int la), (3, .int i)]) hx hb dX12_table_11 hl (by decide) rfl (fun ls hl => ?_)
      refine lv_iload hx hb dX12_table_13 (lv_at hl 0 rfl) ?_
      refine lv_if_eq (tgt := 21) hx hb dX12_table_15 (by decide) (fun c_0 => absurd c_0 (by decide)) (fun _ => ?_)
      refine lv_iload hx hb dX12_table_18 (lv_at hl 0 rfl) ?_
      exact hp_iretM hx hb hr rfl hlocks hh ((sp3_a hp_168 hq_168).symm) dX12_table_20
    · obtain rfl : r_168 = (-2) := Eq.trans hw_168 (sp3_b hp_168 hq_168)
      refine lv_istore (lv' := [(4, .int (-2)), (0, .ref (ad 0)), (1, .int k), (2, .int la), (3, .int i)]) hx hb dX12_table_11 hl (by decide) rfl (fun ls hl => ?_)
      refine lv_iload hx hb dX12_table_13 (lv_at hl 0 rfl) ?_
      refine lv_if_eq (tgt := 21) hx hb dX12_table_15 (by decide) (fun c_0 => absurd c_0 (by decide)) (fun _ => ?_)
      refine lv_iload hx hb dX12_table_18 (lv_at hl 0 rfl) ?_
      exact hp_iretM hx hb hr rfl hlocks hh ((sp3_b hp_168 hq_168).symm) dX12_table_20
  · obtain rfl : r_168 = -1 := Eq.trans hw_168 (sp3_c hp_168)
    refine lv_istore (lv' := [(4, .int (-1)), (0, .ref (ad 0)), (1, .int k), (2, .int la), (3, .int i)]) hx hb dX12_table_11 hl (by decide) rfl (fun ls hl => ?_)
    refine lv_iload hx hb dX12_table_13 (lv_at hl 0 rfl) ?_
    refine lv_if_eq (tgt := 21) hx hb dX12_table_15 (by decide) (fun c_0 => absurd c_0 (by decide)) (fun _ => ?_)
    refine lv_iload hx hb dX12_table_18 (lv_at hl 0 rfl) ?_
    exact hp_iretM hx hb hr rfl hlocks hh ((sp3_c hp_168).symm) dX12_table_20
theorem kw_X12_table {R : Room} {s : State} {args : Array Value} {own : String} {idx : Nat} (hts : ∀ w ∈ TB, w.before args s = true) (hl : Cond.methodLink own idx yX12_table ∈ TB) (hR : 2 + 1 ≤ R.frames ∧ 8 + (6 + 11) + 40 * 2 ≤ R.locals) : CallW R s args own RX12 idx yX12_table cX12_table 6 (some .int) (Cond.code yX12_table cX12_table 6 (some .int) :: TB) (rmN 2) 0 0 3 := cwV 3 hts (TB_V hl tw_990 tw_991 tw_9 tw_992) rfl rfl rfl (by decide +kernel) hR
set_option maxHeartbeats 4000000 in
set_option maxRecDepth 100000 in
/-- word, new object -/
theorem c_X12_word (l : Launch) (D : va_G) (cy : Nat → ClassId) (sz : Nat) (cs : List Nat) (ad : Nat → Nat) (en : Nat → va_E) (hcs : ∀ c, c < 20 → c ∈ cs) (g3 : Nat → Int32) (hg3 : ∀ j, j < 4 → g3 j = -9) (k la i n : Int32) (mz : en 0 = .inr (11, [.int 0, .int 0, .int 2, .int 0, .int 0, .ref (ad 1), .ref (ad 2), .ref (ad 3), .ref (ad 4), .ref (ad 5), .ref (ad 6), .ref (ad 7), .ref (ad 8), .ref (ad 9), .int 0, .long 0, .long 0, .long 0, .long 0, .ref (ad 10), .ref (ad 11), .ref (ad 12), .int 0, .long 0, .ref (ad 13), .int (-9), .ref (ad 14), .ref (ad 15), .ref (ad 16), .ref (ad 17), .int 0, .ref (ad 18), .ref (ad 19)])) (m3 : en 3 = .inl (cy 0, 4, .inl g3))  : Met l yX12_word (Cond.code yX12_word cX12_word 7 (some .int) :: TB) (rmN 2) (va_Pc [.ref (ad 0), .int k, .int la, .int i, .int n] (Pre D cy cs ad en sz)) (va_Qi (S := Nat → va_E) (fun r _ => r = sp3 k la) (PostM D cs ad) (Af cs ad sz)) 0 0 (Af cs ad sz) := by
  refine Met.ofW (cc := cX12_word) (maxL := 7) (ret := (some .int)) (by decide) rfl ?_
  intro p e s m args below meth c s₁ B hml hv
  obtain ⟨rfl, hsz, hP, hK, hD0⟩ := hv
  have hx := B.exec
  have hb := B.bytes
  have hr := B.returns
  have hts : ∀ w ∈ TB, w.before _ s = true := fun w h => atoms_spec (ws := _ :: TB) B.pre w (List.mem_cons_of_mem _ h)
  have hown : s.vm.findClass RX12 = some m.cls := findClass_of_methodNamed B.named
  have hlocks := B.notSynchronized
  have hh : Hp D (Af cs ad sz) (Af cs ad sz) s.heap s.heap [] cs ad en := ⟨hP, Af_self hD0, va_S.rf⟩
  have hA : ∀ q : Nat, s.heap.size ≤ q → Af cs ad sz q := fun q h => Or.inr (by rw [hsz] at h; exact h)
  have hl := lv_entry ([.ref (ad 0), .int k, .int la, .int i, .int n]) (n := 7) (Nat.le_of_ble_eq_true rfl)
  rw [lg_entry_eq]
  generalize (lg_sl ([.ref (ad 0), .int k, .int la, .int i, .int n]) ++ List.replicate (7 - (lg_sl ([.ref (ad 0), .int k, .int la, .int i, .int n])).length) Slot.unset).toArray = ls at hl ⊢
  have hl : lv_has ls 7 [(0, .ref (ad 0)), (1, .int k), (2, .int la), (3, .int i), (4, .int n)] := hl
  refine lv_aload_n hx hb dX12_word_0 rfl (lv_at hl 0 rfl) ?_
  refine lv_iconst (v := 0) hx hb dX12_word_1 (by decide) ?_
  refine hp_put hx hb hts ix12 tyX12 tyX12_ok nmX12 hown hK hh (q := 0) rfl (hcs _ (by decide)) mz rfl 0 (by decide) (hts _ tw_879) (fun _ h9 => h9) rfl (ty := .int) (by decide +kernel) rfl rfl (Nat.le_of_ble_eq_true rfl) dX12_word_2 (fun H locs en_169 hen_169 hh => ?_)
  have hid_169 : en_169 = en := hen_169.trans (va_up_id mz)
  rw [hid_169] at hh
  refine lv_aload_n hx hb dX12_word_5 rfl (lv_at hl 0 rfl) ?_
  refine lv_iload_n hx hb dX12_word_6 rfl (lv_at hl 1 rfl) ?_
  refine lv_iload_n hx hb dX12_word_7 rfl (lv_at hl 2 rfl) ?_
  refine hp_callMi (va_runV (As := [.int k, .int la]) (rest := []) ⟨hx, hb, hml, hown, hts⟩ (c_X12_against l D cy _ cs ad en hcs g3 hg3 k la mz m3) (kw_X12_against hts tw_993 ⟨by decide, by decide⟩) (preV_of hh hK (hcs _ (by decide)) mz rfl) rfl rfl hl.1 rfl (lv_room (Nat.le_of_ble_eq_true rfl)) dX12_word_8 ⟨Nat.le_of_ble_eq_true rfl, Nat.le_of_ble_eq_true rfl⟩) hh hA (fun r_170 H locs en_170 hw_170 hh => ?_)
  rcases Decidable.em (wi k 0 3) with hp_170 | hp_170
  · rcases Decidable.em (wi la 0 2) with hq_170 | hq_170
    · obtain rfl : r_170 = (-11) := Eq.trans hw_170 (sp3_a hp_170 hq_170)
      refine lv_istore (lv' := [(5, .int (-11)), (0, .ref (ad 0)), (1, .int k), (2, .int la), (3, .int i), (4, .int n)]) hx hb dX12_word_11 hl (by decide) rfl (fun ls hl => ?_)
      refine lv_iload hx hb dX12_word_13 (lv_at hl 0 rfl) ?_
      refine lv_if_eq (tgt := 21) hx hb dX12_word_15 (by decide) (fun c_0 => absurd c_0 (by decide)) (fun _ => ?_)
      refine lv_iload hx hb dX12_word_18 (lv_at hl 0 rfl) ?_
      exact hp_iretM hx hb hr rfl hlocks hh ((sp3_a hp_170 hq_170).symm) dX12_word_20
    · obtain rfl : r_170 = (-2) := Eq.trans hw_170 (sp3_b hp_170 hq_170)
      refine lv_istore (lv' := [(5, .int (-2)), (0, .ref (ad 0)), (1, .int k), (2, .int la), (3, .int i), (4, .int n)]) hx hb dX12_word_11 hl (by decide) rfl (fun ls hl => ?_)
      refine lv_iload hx hb dX12_word_13 (lv_at hl 0 rfl) ?_
      refine lv_if_eq (tgt := 21) hx hb dX12_word_15 (by decide) (fun c_0 => absurd c_0 (by decide)) (fun _ => ?_)
      refine lv_iload hx hb dX12_word_18 (lv_at hl 0 rfl) ?_
      exact hp_iretM hx hb hr rfl hlocks hh ((sp3_b hp_170 hq_170).symm) dX12_word_20
  · obtain rfl : r_170 = -1 := Eq.trans hw_170 (sp3_c hp_170)
    refine lv_istore (lv' := [(5, .int (-1)), (0, .ref (ad 0)), (1, .int k), (2, .int la), (3, .int i), (4, .int n)]) hx hb dX12_word_11 hl (by decide) rfl (fun ls hl => ?_)
    refine lv_iload hx hb dX12_word_13 (lv_at hl 0 rfl) ?_
    refine lv_if_eq (tgt := 21) hx hb dX12_word_15 (by decide) (fun c_0 => absurd c_0 (by decide)) (fun _ => ?_)
    refine lv_iload hx hb dX12_word_18 (lv_at hl 0 rfl) ?_
    exact hp_iretM hx hb hr rfl hlocks hh ((sp3_c hp_170).symm) dX12_word_20
theorem kw_X12_word {R : Room} {s : State} {args : Array Value} {own : String} {idx : Nat} (hts : ∀ w ∈ TB, w.before args s = true) (hl : Cond.methodLink own idx yX12_word ∈ TB) (hR : 2 + 1 ≤ R.frames ∧ 8 + (7 + 11) + 40 * 2 ≤ R.locals) : CallW R s args own RX12 idx yX12_word cX12_word 7 (some .int) (Cond.code yX12_word cX12_word 7 (some .int) :: TB) (rmN 2) 0 0 4 := cwV 4 hts (TB_V hl tw_1167 tw_1168 tw_9 tw_1169) rfl rfl rfl (by decide +kernel) hR
set_option maxHeartbeats 4000000 in
set_option maxRecDepth 100000 in
/-- put, new object -/
theorem c_X12_put (l : Launch) (D : va_G) (cy : Nat → ClassId) (sz : Nat) (cs : List Nat) (ad : Nat → Nat) (en : Nat → va_E) (hcs : ∀ c, c < 20 → c ∈ cs) (g3 : Nat → Int32) (hg3 : ∀ j, j < 4 → g3 j = -9) (k i v : Int32) (mz : en 0 = .inr (11, [.int 0, .int 0, .int 2, .int 0, .int 0, .ref (ad 1), .ref (ad 2), .ref (ad 3), .ref (ad 4), .ref (ad 5), .ref (ad 6), .ref (ad 7), .ref (ad 8), .ref (ad 9), .int 0, .long 0, .long 0, .long 0, .long 0, .ref (ad 10), .ref (ad 11), .ref (ad 12), .int 0, .long 0, .ref (ad 13), .int (-9), .ref (ad 14), .ref (ad 15), .ref (ad 16), .ref (ad 17), .int 0, .ref (ad 18), .ref (ad 19)])) (m3 : en 3 = .inl (cy 0, 4, .inl g3))  : Met l yX12_put (Cond.code yX12_put cX12_put 4 (some .int) :: TB) (rmN 1) (va_Pc [.ref (ad 0), .int k, .int i, .int v] (Pre D cy cs ad en sz)) (va_Qi (S := Nat → va_E) (fun r _ => r = if wi k 0 3 then (-11) else (-1)) (PostM D cs ad) (Af cs ad sz)) 0 0 (Af cs ad sz) := by
  refine Met.ofW (cc := cX12_put) (maxL := 4) (ret := (some .int)) (by decide) rfl ?_
  intro p e s m args below meth c s₁ B hml hv
  obtain ⟨rfl, hsz, hP, hK, hD0⟩ := hv
  have hx := B.exec
  have hb := B.bytes
  have hr := B.returns
  have hts : ∀ w ∈ TB, w.before _ s = true := fun w h => atoms_spec (ws := _ :: TB) B.pre w (List.mem_cons_of_mem _ h)
  have hown : s.vm.findClass RX12 = some m.cls := findClass_of_methodNamed B.named
  have hlocks := B.notSynchronized
  have hh : Hp D (Af cs ad sz) (Af cs ad sz) s.heap s.heap [] cs ad en := ⟨hP, Af_self hD0, va_S.rf⟩
  have hA : ∀ q : Nat, s.heap.size ≤ q → Af cs ad sz q := fun q h => Or.inr (by rw [hsz] at h; exact h)
  have hl := lv_entry ([.ref (ad 0), .int k, .int i, .int v]) (n := 4) (Nat.le_of_ble_eq_true rfl)
  rw [lg_entry_eq]
  generalize (lg_sl ([.ref (ad 0), .int k, .int i, .int v]) ++ List.replicate (4 - (lg_sl ([.ref (ad 0), .int k, .int i, .int v])).length) Slot.unset).toArray = ls at hl ⊢
  have hl : lv_has ls 4 [(0, .ref (ad 0)), (1, .int k), (2, .int i), (3, .int v)] := hl
  refine lv_aload_n hx hb dX12_put_0 rfl (lv_at hl 0 rfl) ?_
  refine lv_iconst (v := 0) hx hb dX12_put_1 (by decide) ?_
  refine hp_put hx hb hts ix12 tyX12 tyX12_ok nmX12 hown hK hh (q := 0) rfl (hcs _ (by decide)) mz rfl 0 (by decide) (hts _ tw_879) (fun _ h9 => h9) rfl (ty := .int) (by decide +kernel) rfl rfl (Nat.le_of_ble_eq_true rfl) dX12_put_2 (fun H locs en_171 hen_171 hh => ?_)
  have hid_171 : en_171 = en := hen_171.trans (va_up_id mz)
  rw [hid_171] at hh
  refine lv_iload_n hx hb dX12_put_5 rfl (lv_at hl 1 rfl) ?_
  refine lv_i2l hx hb dX12_put_6 rfl ?_
  refine lv_lconst (v := 0) hx hb dX12_put_7 (by decide) ?_
  refine lv_ldc2 hx hb hown (hts _ tw_984) dX12_put_8 ?_
  refine hp_callRi (va_runS (As := [.long k.toInt64, .long 0, .long 3]) (rest := []) ⟨hx, hb, hml, hown, hts⟩ (c_X12_within l D cy _ cs ad en k.toInt64 0 3 ) (kw_X12_within hts tw_985 ⟨by decide, by decide⟩) (preS_of hh hK) rfl rfl hl.1 rfl (lv_room (Nat.le_of_ble_eq_true rfl)) dX12_put_11 ⟨Nat.le_of_ble_eq_true rfl, Nat.le_of_ble_eq_true rfl⟩) hh hA (fun r_172 H locs hw_172 hh => ?_)
  rcases Decidable.em (wi k 0 3) with hp_172 | hp_172
  · obtain rfl : r_172 = 1 := Eq.trans hw_172 (if_pos ((wj_32 (by decide) (by decide)).mpr hp_172))
    refine lv_if_ne (tgt := 19) hx hb dX12_put_14 (by decide) (fun _ => ?_) (fun c_0 => absurd c_0 (by decide))
    refine lv_aload_n hx hb dX12_put_19 rfl (lv_at hl 0 rfl) ?_
    refine hp_get hx hb hts ix12 hown hK hh (q := 0) rfl (hcs _ (by decide)) mz rfl 7 (by decide) (hts _ tw_886) (fun _ h9 => h9) rfl dX12_put_20 ?_
    refine lv_iload_n hx hb dX12_put_23 rfl (lv_at hl 1 rfl) ?_
    refine hp_iald hx hb hK hh (q := 3) rfl (hcs _ (by decide)) m3 (wi_in 4 hp_172 (by decide)) dX12_put_24 ?_
    rw [show g3 k.toNatClampNeg = (-9) from hg3 _ (wi_lt 4 hp_172 (by decide))]
    refine lv_bipush (v := (-9)) hx hb dX12_put_25 (by decide) ?_
    refine lv_icmp_ne (tgt := 36) hx hb dX12_put_27 (by decide) (fun c_0 => absurd c_0 (by decide)) (fun _ => ?_)
    refine lv_aload_n hx hb dX12_put_30 rfl (lv_at hl 0 rfl) ?_
    refine lv_iconst (v := 1) hx hb dX12_put_31 (by decide) ?_
    refine hp_callMi (va_runV (As := [.int 1]) (rest := []) ⟨hx, hb, hml, hown, hts⟩ (c_X12_fails l D cy _ cs ad en hcs 0 0 2 0 0 0 0 0 0 0 0 0 (-9) 0 1 mz ) (kw_X12_fails hts tw_997 ⟨by decide, by decide⟩) (preV_of hh hK (hcs _ (by decide)) mz rfl) rfl rfl hl.1 rfl (lv_room (Nat.le_of_ble_eq_true rfl)) dX12_put_32 ⟨Nat.le_of_ble_eq_true rfl, Nat.le_of_ble_eq_true rfl⟩) hh hA (fun r_173 H locs en_173 hw_173 hh => ?_)
    obtain ⟨rfl, hen_173⟩ := hw_173
    rw [show (-10 : Int32) - 1 = (-11) by decide]
    have m3_173 : en_173 3 = .inl (cy 0, 4, .inl g3) := by rw [hen_173, va_up_ne _ _ (by decide)]; exact m3
    have mz_173 : en_173 0 = .inr (11, [.int 1, .int 0, .int 2, .int 0, .int 0, .ref (ad 1), .ref (ad 2), .ref (ad 3), .ref (ad 4), .ref (ad 5), .ref (ad 6), .ref (ad 7), .ref (ad 8), .ref (ad 9), .int 0, .long 0, .long 0, .long 0, .long 0, .ref (ad 10), .ref (ad 11), .ref (ad 12), .int 0, .long 0, .ref (ad 13), .int (-9), .ref (ad 14), .ref (ad 15), .ref (ad 16), .ref (ad 17), .int 0, .ref (ad 18), .ref (ad 19)]) := by rw [hen_173]; exact va_up_self _ _ _
    exact hp_iretM hx hb hr rfl hlocks hh ((if_pos hp_172).symm) dX12_put_35
  · obtain rfl : r_172 = 0 := Eq.trans hw_172 (if_neg (fun q => hp_172 ((wj_32 (by decide) (by decide)).mp q)))
    refine lv_if_ne (tgt := 19) hx hb dX12_put_14 (by decide) (fun c_0 => absurd c_0 (by decide)) (fun _ => ?_)
    refine lv_iconst (v := (-1)) hx hb dX12_put_17 (by decide) ?_
    exact hp_iretM hx hb hr rfl hlocks hh ((if_neg hp_172).symm) dX12_put_18
theorem kw_X12_put {R : Room} {s : State} {args : Array Value} {own : String} {idx : Nat} (hts : ∀ w ∈ TB, w.before args s = true) (hl : Cond.methodLink own idx yX12_put ∈ TB) (hR : 1 + 1 ≤ R.frames ∧ 8 + (4 + 11) + 40 * 1 ≤ R.locals) : CallW R s args own RX12 idx yX12_put cX12_put 4 (some .int) (Cond.code yX12_put cX12_put 4 (some .int) :: TB) (rmN 1) 0 0 3 := cwV 3 hts (TB_V hl tw_1208 tw_1209 tw_9 tw_1210) rfl rfl rfl (by decide +kernel) hR
set_option maxHeartbeats 4000000 in
set_option maxRecDepth 100000 in
/-- at, new object -/
theorem c_X12_at (l : Launch) (D : va_G) (cy : Nat → ClassId) (sz : Nat) (cs : List Nat) (ad : Nat → Nat) (en : Nat → va_E) (hcs : ∀ c, c < 20 → c ∈ cs) (g3 : Nat → Int32) (hg3 : ∀ j, j < 4 → g3 j = -9) (k i la : Int32) (mz : en 0 = .inr (11, [.int 0, .int 0, .int 2, .int 0, .int 0, .ref (ad 1), .ref (ad 2), .ref (ad 3), .ref (ad 4), .ref (ad 5), .ref (ad 6), .ref (ad 7), .ref (ad 8), .ref (ad 9), .int 0, .long 0, .long 0, .long 0, .long 0, .ref (ad 10), .ref (ad 11), .ref (ad 12), .int 0, .long 0, .ref (ad 13), .int (-9), .ref (ad 14), .ref (ad 15), .ref (ad 16), .ref (ad 17), .int 0, .ref (ad 18), .ref (ad 19)])) (m3 : en 3 = .inl (cy 0, 4, .inl g3))  : Met l yX12_at (Cond.code yX12_at cX12_at 4 (some .long) :: TB) (rmN 1) (va_Pc [.ref (ad 0), .int k, .int i, .int la] (Pre D cy cs ad en sz)) (va_Ql (S := Nat → va_E) (fun r _ => r = (-9223372036854775808)) (PostM D cs ad) (Af cs ad sz)) 0 0 (Af cs ad sz) := by
  refine Met.ofW (cc := cX12_at) (maxL := 4) (ret := (some .long)) (by decide) rfl ?_
  intro p e s m args below meth c s₁ B hml hv
  obtain ⟨rfl, hsz, hP, hK, hD0⟩ := hv
  have hx := B.exec
  have hb := B.bytes
  have hr := B.returns
  have hts : ∀ w ∈ TB, w.before _ s = true := fun w h => atoms_spec (ws := _ :: TB) B.pre w (List.mem_cons_of_mem _ h)
  have hown : s.vm.findClass RX12 = some m.cls := findClass_of_methodNamed B.named
  have hlocks := B.notSynchronized
  have hh : Hp D (Af cs ad sz) (Af cs ad sz) s.heap s.heap [] cs ad en := ⟨hP, Af_self hD0, va_S.rf⟩
  have hA : ∀ q : Nat, s.heap.size ≤ q → Af cs ad sz q := fun q h => Or.inr (by rw [hsz] at h; exact h)
  have hl := lv_entry ([.ref (ad 0), .int k, .int i, .int la]) (n := 4) (Nat.le_of_ble_eq_true rfl)
  rw [lg_entry_eq]
  generalize (lg_sl ([.ref (ad 0), .int k, .int i, .int la]) ++ List.replicate (4 - (lg_sl ([.ref (ad 0), .int k, .int i, .int la])).length) Slot.unset).toArray = ls at hl ⊢
  have hl : lv_has ls 4 [(0, .ref (ad 0)), (1, .int k), (2, .int i), (3, .int la)] := hl
  refine lv_aload_n hx hb dX12_at_0 rfl (lv_at hl 0 rfl) ?_
  refine lv_iconst (v := 0) hx hb dX12_at_1 (by decide) ?_
  refine hp_put hx hb hts ix12 tyX12 tyX12_ok nmX12 hown hK hh (q := 0) rfl (hcs _ (by decide)) mz rfl 0 (by decide) (hts _ tw_879) (fun _ h9 => h9) rfl (ty := .int) (by decide +kernel) rfl rfl (Nat.le_of_ble_eq_true rfl) dX12_at_2 (fun H locs en_174 hen_174 hh => ?_)
  have hid_174 : en_174 = en := hen_174.trans (va_up_id mz)
  rw [hid_174] at hh
  refine lv_iload_n hx hb dX12_at_5 rfl (lv_at hl 1 rfl) ?_
  refine lv_i2l hx hb dX12_at_6 rfl ?_
  refine lv_lconst (v := 0) hx hb dX12_at_7 (by decide) ?_
  refine lv_ldc2 hx hb hown (hts _ tw_984) dX12_at_8 ?_
  refine hp_callRi (va_runS (As := [.long k.toInt64, .long 0, .long 3]) (rest := []) ⟨hx, hb, hml, hown, hts⟩ (c_X12_within l D cy _ cs ad en k.toInt64 0 3 ) (kw_X12_within hts tw_985 ⟨by decide, by decide⟩) (preS_of hh hK) rfl rfl hl.1 rfl (lv_room (Nat.le_of_ble_eq_true rfl)) dX12_at_11 ⟨Nat.le_of_ble_eq_true rfl, Nat.le_of_ble_eq_true rfl⟩) hh hA (fun r_175 H locs hw_175 hh => ?_)
  rcases Decidable.em (wi k 0 3) with hp_175 | hp_175
  · obtain rfl : r_175 = 1 := Eq.trans hw_175 (if_pos ((wj_32 (by decide) (by decide)).mpr hp_175))
    refine lv_if_eq (tgt := 29) hx hb dX12_at_14 (by decide) (fun c_0 => absurd c_0 (by decide)) (fun _ => ?_)
    refine lv_iload_n hx hb dX12_at_17 rfl (lv_at hl 3 rfl) ?_
    refine lv_i2l hx hb dX12_at_18 rfl ?_
    refine lv_lconst (v := 0) hx hb dX12_at_19 (by decide) ?_
    refine lv_ldc2 hx hb hown (hts _ tw_983) dX12_at_20 ?_
    refine hp_callRi (va_runS (As := [.long la.toInt64, .long 0, .long 2]) (rest := []) ⟨hx, hb, hml, hown, hts⟩ (c_X12_within l D cy _ cs ad en la.toInt64 0 2 ) (kw_X12_within hts tw_985 ⟨by decide, by decide⟩) (preS_of hh hK) rfl rfl hl.1 rfl (lv_room (Nat.le_of_ble_eq_true rfl)) dX12_at_23 ⟨Nat.le_of_ble_eq_true rfl, Nat.le_of_ble_eq_true rfl⟩) hh hA (fun r_176 H locs hw_176 hh => ?_)
    rcases Decidable.em (wi la 0 2) with hp_176 | hp_176
    · obtain rfl : r_176 = 1 := Eq.trans hw_176 (if_pos ((wj_32 (by decide) (by decide)).mpr hp_176))
      refine lv_if_ne (tgt := 33) hx hb dX12_at_26 (by decide) (fun _ => ?_) (fun c_0 => absurd c_0 (by decide))
      refine lv_aload_n hx hb dX12_at_33 rfl (lv_at hl 0 rfl) ?_
      refine hp_get hx hb hts ix12 hown hK hh (q := 0) rfl (hcs _ (by decide)) mz rfl 7 (by decide) (hts _ tw_886) (fun _ h9 => h9) rfl dX12_at_34 ?_
      refine lv_iload_n hx hb dX12_at_37 rfl (lv_at hl 1 rfl) ?_
      refine hp_iald hx hb hK hh (q := 3) rfl (hcs _ (by decide)) m3 (wi_in 4 hp_175 (by decide)) dX12_at_38 ?_
      rw [show g3 k.toNatClampNeg = (-9) from hg3 _ (wi_lt 4 hp_175 (by decide))]
      refine lv_bipush (v := (-9)) hx hb dX12_at_39 (by decide) ?_
      refine lv_icmp_eq (tgt := 60) hx hb dX12_at_41 (by decide) (fun _ => ?_) (fun c_0 => absurd c_0 (by decide))
      refine lv_aload_n hx hb dX12_at_60 rfl (lv_at hl 0 rfl) ?_
      refine hp_get hx hb hts ix12 hown hK hh (q := 0) rfl (hcs _ (by decide)) mz rfl 7 (by decide) (hts _ tw_886) (fun _ h9 => h9) rfl dX12_at_61 ?_
      refine lv_iload_n hx hb dX12_at_64 rfl (lv_at hl 1 rfl) ?_
      refine hp_iald hx hb hK hh (q := 3) rfl (hcs _ (by decide)) m3 (wi_in 4 hp_175 (by decide)) dX12_at_65 ?_
      rw [show g3 k.toNatClampNeg = (-9) from hg3 _ (wi_lt 4 hp_175 (by decide))]
      refine lv_bipush (v := (-9)) hx hb dX12_at_66 (by decide) ?_
      refine lv_icmp_ne (tgt := 77) hx hb dX12_at_68 (by decide) (fun c_0 => absurd c_0 (by decide)) (fun _ => ?_)
      refine lv_aload_n hx hb dX12_at_71 rfl (lv_at hl 0 rfl) ?_
      refine lv_iconst (v := 1) hx hb dX12_at_72 (by decide) ?_
      refine hp_callMl (va_runV (As := [.int 1]) (rest := []) ⟨hx, hb, hml, hown, hts⟩ (c_X12_lost l D cy _ cs ad en hcs 0 0 2 0 0 0 0 0 0 0 0 0 (-9) 0 1 mz ) (kw_X12_lost hts tw_1215 ⟨by decide, by decide⟩) (preV_of hh hK (hcs _ (by decide)) mz rfl) rfl rfl hl.1 rfl (lv_room (Nat.le_of_ble_eq_true rfl)) dX12_at_73 ⟨Nat.le_of_ble_eq_true rfl, Nat.le_of_ble_eq_true rfl⟩) hh hA (fun r_177 H locs en_177 hw_177 hh => ?_)
      obtain ⟨rfl, hen_177⟩ := hw_177
      have m3_177 : en_177 3 = .inl (cy 0, 4, .inl g3) := by rw [hen_177, va_up_ne _ _ (by decide)]; exact m3
      have mz_177 : en_177 0 = .inr (11, [.int 1, .int 0, .int 2, .int 0, .int 0, .ref (ad 1), .ref (ad 2), .ref (ad 3), .ref (ad 4), .ref (ad 5), .ref (ad 6), .ref (ad 7), .ref (ad 8), .ref (ad 9), .int 0, .long 0, .long 0, .long 0, .long 0, .ref (ad 10), .ref (ad 11), .ref (ad 12), .int 0, .long 0, .ref (ad 13), .int (-9), .ref (ad 14), .ref (ad 15), .ref (ad 16), .ref (ad 17), .int 0, .ref (ad 18), .ref (ad 19)]) := by rw [hen_177]; exact va_up_self _ _ _
      exact hp_lretM hx hb hr hlocks hh (rfl) dX12_at_76
    · obtain rfl : r_176 = 0 := Eq.trans hw_176 (if_neg (fun q => hp_176 ((wj_32 (by decide) (by decide)).mp q)))
      refine lv_if_ne (tgt := 33) hx hb dX12_at_26 (by decide) (fun c_0 => absurd c_0 (by decide)) (fun _ => ?_)
      refine lv_ldc2 hx hb hown (hts _ tw_1015) dX12_at_29 ?_
      exact hp_lretM hx hb hr hlocks hh (rfl) dX12_at_32
  · obtain rfl : r_175 = 0 := Eq.trans hw_175 (if_neg (fun q => hp_175 ((wj_32 (by decide) (by decide)).mp q)))
    refine lv_if_eq (tgt := 29) hx hb dX12_at_14 (by decide) (fun _ => ?_) (fun c_0 => absurd c_0 (by decide))
    refine lv_ldc2 hx hb hown (hts _ tw_1015) dX12_at_29 ?_
    exact hp_lretM hx hb hr hlocks hh (rfl) dX12_at_32
theorem kw_X12_at {R : Room} {s : State} {args : Array Value} {own : String} {idx : Nat} (hts : ∀ w ∈ TB, w.before args s = true) (hl : Cond.methodLink own idx yX12_at ∈ TB) (hR : 1 + 1 ≤ R.frames ∧ 8 + (4 + 11) + 40 * 1 ≤ R.locals) : CallW R s args own RX12 idx yX12_at cX12_at 4 (some .long) (Cond.code yX12_at cX12_at 4 (some .long) :: TB) (rmN 1) 0 0 3 := cwV 3 hts (TB_V hl tw_1212 tw_1213 tw_9 tw_1214) rfl rfl rfl (by decide +kernel) hR
set_option maxHeartbeats 4000000 in
set_option maxRecDepth 100000 in
/-- lose, new object -/
theorem c_X12_lose (l : Launch) (D : va_G) (cy : Nat → ClassId) (sz : Nat) (cs : List Nat) (ad : Nat → Nat) (en : Nat → va_E) (hcs : ∀ c, c < 20 → c ∈ cs) (g3 : Nat → Int32) (hg3 : ∀ j, j < 4 → g3 j = -9) (k : Int32) (mz : en 0 = .inr (11, [.int 0, .int 0, .int 2, .int 0, .int 0, .ref (ad 1), .ref (ad 2), .ref (ad 3), .ref (ad 4), .ref (ad 5), .ref (ad 6), .ref (ad 7), .ref (ad 8), .ref (ad 9), .int 0, .long 0, .long 0, .long 0, .long 0, .ref (ad 10), .ref (ad 11), .ref (ad 12), .int 0, .long 0, .ref (ad 13), .int (-9), .ref (ad 14), .ref (ad 15), .ref (ad 16), .ref (ad 17), .int 0, .ref (ad 18), .ref (ad 19)])) (m3 : en 3 = .inl (cy 0, 4, .inl g3))  : Met l yX12_lose (Cond.code yX12_lose cX12_lose 3 (some .int) :: TB) (rmN 1) (va_Pc [.ref (ad 0), .int k] (Pre D cy cs ad en sz)) (va_Qi (S := Nat → va_E) (fun r _ => r = if wi k 0 3 then 0 else (-1)) (PostM D cs ad) (Af cs ad sz)) 0 0 (Af cs ad sz) := by
  refine Met.ofW (cc := cX12_lose) (maxL := 3) (ret := (some .int)) (by decide) rfl ?_
  intro p e s m args below meth c s₁ B hml hv
  obtain ⟨rfl, hsz, hP, hK, hD0⟩ := hv
  have hx := B.exec
  have hb := B.bytes
  have hr := B.returns
  have hts : ∀ w ∈ TB, w.before _ s = true := fun w h => atoms_spec (ws := _ :: TB) B.pre w (List.mem_cons_of_mem _ h)
  have hown : s.vm.findClass RX12 = some m.cls := findClass_of_methodNamed B.named
  have hlocks := B.notSynchronized
  have hh : Hp D (Af cs ad sz) (Af cs ad sz) s.heap s.heap [] cs ad en := ⟨hP, Af_self hD0, va_S.rf⟩
  have hA : ∀ q : Nat, s.heap.size ≤ q → Af cs ad sz q := fun q h => Or.inr (by rw [hsz] at h; exact h)
  have hl := lv_entry ([.ref (ad 0), .int k]) (n := 3) (Nat.le_of_ble_eq_true rfl)
  rw [lg_entry_eq]
  generalize (lg_sl ([.ref (ad 0), .int k]) ++ List.replicate (3 - (lg_sl ([.ref (ad 0), .int k])).length) Slot.unset).toArray = ls at hl ⊢
  have hl : lv_has ls 3 [(0, .ref (ad 0)), (1, .int k)] := hl
  refine lv_iload_n hx hb dX12_lose_0 rfl (lv_at hl 1 rfl) ?_
  refine lv_i2l hx hb dX12_lose_1 rfl ?_
  refine lv_lconst (v := 0) hx hb dX12_lose_2 (by decide) ?_
  refine lv_ldc2 hx hb hown (hts _ tw_984) dX12_lose_3 ?_
  refine hp_callRi (va_runS (As := [.long k.toInt64, .long 0, .long 3]) (rest := []) ⟨hx, hb, hml, hown, hts⟩ (c_X12_within l D cy _ cs ad en k.toInt64 0 3 ) (kw_X12_within hts tw_985 ⟨by decide, by decide⟩) (preS_of hh hK) rfl rfl hl.1 rfl (lv_room (Nat.le_of_ble_eq_true rfl)) dX12_lose_6 ⟨Nat.le_of_ble_eq_true rfl, Nat.le_of_ble_eq_true rfl⟩) hh hA (fun r_178 H locs hw_178 hh => ?_)
  rcases Decidable.em (wi k 0 3) with hp_178 | hp_178
  · obtain rfl : r_178 = 1 := Eq.trans hw_178 (if_pos ((wj_32 (by decide) (by decide)).mpr hp_178))
    refine lv_if_ne (tgt := 14) hx hb dX12_lose_9 (by decide) (fun _ => ?_) (fun c_0 => absurd c_0 (by decide))
    refine lv_aload_n hx hb dX12_lose_14 rfl (lv_at hl 0 rfl) ?_
    refine hp_get hx hb hts ix12 hown hK hh (q := 0) rfl (hcs _ (by decide)) mz rfl 7 (by decide) (hts _ tw_886) (fun _ h9 => h9) rfl dX12_lose_15 ?_
    refine lv_iload_n hx hb dX12_lose_18 rfl (lv_at hl 1 rfl) ?_
    refine hp_iald hx hb hK hh (q := 3) rfl (hcs _ (by decide)) m3 (wi_in 4 hp_178 (by decide)) dX12_lose_19 ?_
    rw [show g3 k.toNatClampNeg = (-9) from hg3 _ (wi_lt 4 hp_178 (by decide))]
    refine lv_bipush (v := (-9)) hx hb dX12_lose_20 (by decide) ?_
    refine lv_icmp_ne (tgt := 29) hx hb dX12_lose_22 (by decide) (fun c_0 => absurd c_0 (by decide)) (fun _ => ?_)
    refine lv_iconst (v := 0) hx hb dX12_lose_25 (by decide) ?_
    refine lv_goto (tgt := 30) hx hb dX12_lose_26 (by decide) ?_
    refine lv_istore_n (lv' := [(2, .int 0), (0, .ref (ad 0)), (1, .int k)]) hx hb dX12_lose_30 rfl hl (by decide) rfl (fun ls hl => ?_)
    refine lv_aload_n hx hb dX12_lose_31 rfl (lv_at hl 1 rfl) ?_
    refine hp_get hx hb hts ix12 hown hK hh (q := 0) rfl (hcs _ (by decide)) mz rfl 7 (by decide) (hts _ tw_886) (fun _ h9 => h9) rfl dX12_lose_32 ?_
    refine lv_iload_n hx hb dX12_lose_35 rfl (lv_at hl 2 rfl) ?_
    refine lv_bipush (v := (-9)) hx hb dX12_lose_36 (by decide) ?_
    refine hp_iast hx hb hK hh (q := 3) rfl (hcs _ (by decide)) m3 (wi_in 4 hp_178 (by decide)) dX12_lose_38 (fun H locs en_179 hen_179 hh => ?_)
    have mz_179 : en_179 0 = .inr (11, [.int 0, .int 0, .int 2, .int 0, .int 0, .ref (ad 1), .ref (ad 2), .ref (ad 3), .ref (ad 4), .ref (ad 5), .ref (ad 6), .ref (ad 7), .ref (ad 8), .ref (ad 9), .int 0, .long 0, .long 0, .long 0, .long 0, .ref (ad 10), .ref (ad 11), .ref (ad 12), .int 0, .long 0, .ref (ad 13), .int (-9), .ref (ad 14), .ref (ad 15), .ref (ad 16), .ref (ad 17), .int 0, .ref (ad 18), .ref (ad 19)]) := by rw [hen_179, va_up_ne _ _ (by decide)]; exact mz
    have m3_179 : en_179 3 = .inl (cy 0, 4, .inl (upd g3 k.toNatClampNeg (-9))) := by rw [hen_179]; exact va_up_self _ _ _
    refine lv_iload_n hx hb dX12_lose_39 rfl (lv_at hl 0 rfl) ?_
    exact hp_iretM hx hb hr rfl hlocks hh ((if_pos hp_178).symm) dX12_lose_40
  · obtain rfl : r_178 = 0 := Eq.trans hw_178 (if_neg (fun q => hp_178 ((wj_32 (by decide) (by decide)).mp q)))
    refine lv_if_ne (tgt := 14) hx hb dX12_lose_9 (by decide) (fun c_0 => absurd c_0 (by decide)) (fun _ => ?_)
    refine lv_iconst (v := (-1)) hx hb dX12_lose_12 (by decide) ?_
    exact hp_iretM hx hb hr rfl hlocks hh ((if_neg hp_178).symm) dX12_lose_13
theorem kw_X12_lose {R : Room} {s : State} {args : Array Value} {own : String} {idx : Nat} (hts : ∀ w ∈ TB, w.before args s = true) (hl : Cond.methodLink own idx yX12_lose ∈ TB) (hR : 1 + 1 ≤ R.frames ∧ 8 + (3 + 11) + 40 * 1 ≤ R.locals) : CallW R s args own RX12 idx yX12_lose cX12_lose 3 (some .int) (Cond.code yX12_lose cX12_lose 3 (some .int) :: TB) (rmN 1) 0 0 1 := cwV 1 hts (TB_V hl tw_1204 tw_1205 tw_9 tw_1206) rfl rfl rfl (by decide +kernel) hR
set_option maxHeartbeats 4000000 in
set_option maxRecDepth 100000 in
/-- entry, new object -/
theorem c_X12_entry (l : Launch) (D : va_G) (cy : Nat → ClassId) (sz : Nat) (cs : List Nat) (ad : Nat → Nat) (en : Nat → va_E) (hcs : ∀ c, c < 20 → c ∈ cs) (t r0 c0 : Int32) (mz : en 0 = .inr (11, [.int 0, .int 0, .int 2, .int 0, .int 0, .ref (ad 1), .ref (ad 2), .ref (ad 3), .ref (ad 4), .ref (ad 5), .ref (ad 6), .ref (ad 7), .ref (ad 8), .ref (ad 9), .int 0, .long 0, .long 0, .long 0, .long 0, .ref (ad 10), .ref (ad 11), .ref (ad 12), .int 0, .long 0, .ref (ad 13), .int (-9), .ref (ad 14), .ref (ad 15), .ref (ad 16), .ref (ad 17), .int 0, .ref (ad 18), .ref (ad 19)]))  : Met l yX12_entry (Cond.code yX12_entry cX12_entry 4 (some .long) :: TB) (rmN 1) (va_Pc [.ref (ad 0), .int t, .int r0, .int c0] (Pre D cy cs ad en sz)) (va_Ql (S := Nat → va_E) (fun r _ => r = (-9223372036854775808)) (PostM D cs ad) (Af cs ad sz)) 0 0 (Af cs ad sz) := by
  refine Met.ofW (cc := cX12_entry) (maxL := 4) (ret := (some .long)) (by decide) rfl ?_
  intro p e s m args below meth c s₁ B hml hv
  obtain ⟨rfl, hsz, hP, hK, hD0⟩ := hv
  have hx := B.exec
  have hb := B.bytes
  have hr := B.returns
  have hts : ∀ w ∈ TB, w.before _ s = true := fun w h => atoms_spec (ws := _ :: TB) B.pre w (List.mem_cons_of_mem _ h)
  have hown : s.vm.findClass RX12 = some m.cls := findClass_of_methodNamed B.named
  have hlocks := B.notSynchronized
  have hh : Hp D (Af cs ad sz) (Af cs ad sz) s.heap s.heap [] cs ad en := ⟨hP, Af_self hD0, va_S.rf⟩
  have hA : ∀ q : Nat, s.heap.size ≤ q → Af cs ad sz q := fun q h => Or.inr (by rw [hsz] at h; exact h)
  have hl := lv_entry ([.ref (ad 0), .int t, .int r0, .int c0]) (n := 4) (Nat.le_of_ble_eq_true rfl)
  rw [lg_entry_eq]
  generalize (lg_sl ([.ref (ad 0), .int t, .int r0, .int c0]) ++ List.replicate (4 - (lg_sl ([.ref (ad 0), .int t, .int r0, .int c0])).length) Slot.unset).toArray = ls at hl ⊢
  have hl : lv_has ls 4 [(0, .ref (ad 0)), (1, .int t), (2, .int r0), (3, .int c0)] := hl
  refine lv_aload_n hx hb dX12_entry_0 rfl (lv_at hl 0 rfl) ?_
  refine lv_iload_n hx hb dX12_entry_1 rfl (lv_at hl 1 rfl) ?_
  refine hp_callRi (va_runV (As := [.int t]) (rest := []) ⟨hx, hb, hml, hown, hts⟩ (c_X12_isTable l D cy _ cs ad en hcs 0 0 2 0 0 0 0 0 0 0 0 0 (-9) 0 t mz) (kw_X12_isTable hts tw_1007 ⟨by decide, by decide⟩) (preV_of hh hK (hcs _ (by decide)) mz rfl) rfl rfl hl.1 rfl (lv_room (Nat.le_of_ble_eq_true rfl)) dX12_entry_2 ⟨Nat.le_of_ble_eq_true rfl, Nat.le_of_ble_eq_true rfl⟩) hh hA (fun r_180 H locs hw_180 hh => ?_)
  obtain rfl : r_180 = 0 := Eq.trans hw_180 (if_neg (no_has (by decide)))
  refine lv_if_eq (tgt := 39) hx hb dX12_entry_5 (by decide) (fun _ => ?_) (fun c_0 => absurd c_0 (by decide))
  refine lv_ldc2 hx hb hown (hts _ tw_1015) dX12_entry_39 ?_
  exact hp_lretM hx hb hr hlocks hh (rfl) dX12_entry_42
theorem kw_X12_entry {R : Room} {s : State} {args : Array Value} {own : String} {idx : Nat} (hts : ∀ w ∈ TB, w.before args s = true) (hl : Cond.methodLink own idx yX12_entry ∈ TB) (hR : 1 + 1 ≤ R.frames ∧ 8 + (4 + 11) + 40 * 1 ≤ R.locals) : CallW R s args own RX12 idx yX12_entry cX12_entry 4 (some .long) (Cond.code yX12_entry cX12_entry 4 (some .long) :: TB) (rmN 1) 0 0 3 := cwV 3 hts (TB_V hl tw_1004 tw_1005 tw_9 tw_1006) rfl rfl rfl (by decide +kernel) hR
set_option maxHeartbeats 4000000 in
set_option maxRecDepth 100000 in
/-- may, new object -/
theorem c_X12_may (l : Launch) (D : va_G) (cy : Nat → ClassId) (sz : Nat) (cs : List Nat) (ad : Nat → Nat) (en : Nat → va_E) (hcs : ∀ c, c < 20 → c ∈ cs) (a b z : Int32) (mz : en 0 = .inr (11, [.int 0, .int 0, .int 2, .int 0, .int 0, .ref (ad 1), .ref (ad 2), .ref (ad 3), .ref (ad 4), .ref (ad 5), .ref (ad 6), .ref (ad 7), .ref (ad 8), .ref (ad 9), .int 0, .long 0, .long 0, .long 0, .long 0, .ref (ad 10), .ref (ad 11), .ref (ad 12), .int 0, .long 0, .ref (ad 13), .int (-9), .ref (ad 14), .ref (ad 15), .ref (ad 16), .ref (ad 17), .int 0, .ref (ad 18), .ref (ad 19)]))  : Met l yX12_may (Cond.code yX12_may cX12_may 5 (some .int) :: TB) (rmN 1) (va_Pc [.ref (ad 0), .int a, .int b, .int z] (Pre D cy cs ad en sz)) (va_Qi (S := Nat → va_E) (fun r _ => r = (-1)) (PostM D cs ad) (Af cs ad sz)) 0 0 (Af cs ad sz) := by
  refine Met.ofW (cc := cX12_may) (maxL := 5) (ret := (some .int)) (by decide) rfl ?_
  intro p e s m args below meth c s₁ B hml hv
  obtain ⟨rfl, hsz, hP, hK, hD0⟩ := hv
  have hx := B.exec
  have hb := B.bytes
  have hr := B.returns
  have hts : ∀ w ∈ TB, w.before _ s = true := fun w h => atoms_spec (ws := _ :: TB) B.pre w (List.mem_cons_of_mem _ h)
  have hown : s.vm.findClass RX12 = some m.cls := findClass_of_methodNamed B.named
  have hlocks := B.notSynchronized
  have hh : Hp D (Af cs ad sz) (Af cs ad sz) s.heap s.heap [] cs ad en := ⟨hP, Af_self hD0, va_S.rf⟩
  have hA : ∀ q : Nat, s.heap.size ≤ q → Af cs ad sz q := fun q h => Or.inr (by rw [hsz] at h; exact h)
  have hl := lv_entry ([.ref (ad 0), .int a, .int b, .int z]) (n := 5) (Nat.le_of_ble_eq_true rfl)
  rw [lg_entry_eq]
  generalize (lg_sl ([.ref (ad 0), .int a, .int b, .int z]) ++ List.replicate (5 - (lg_sl ([.ref (ad 0), .int a, .int b, .int z])).length) Slot.unset).toArray = ls at hl ⊢
  have hl : lv_has ls 5 [(0, .ref (ad 0)), (1, .int a), (2, .int b), (3, .int z)] := hl
  refine lv_aload_n hx hb dX12_may_0 rfl (lv_at hl 0 rfl) ?_
  refine lv_iload_n hx hb dX12_may_1 rfl (lv_at hl 1 rfl) ?_
  refine hp_callRi (va_runV (As := [.int a]) (rest := []) ⟨hx, hb, hml, hown, hts⟩ (c_X12_isTable l D cy _ cs ad en hcs 0 0 2 0 0 0 0 0 0 0 0 0 (-9) 0 a mz) (kw_X12_isTable hts tw_1007 ⟨by decide, by decide⟩) (preV_of hh hK (hcs _ (by decide)) mz rfl) rfl rfl hl.1 rfl (lv_room (Nat.le_of_ble_eq_true rfl)) dX12_may_2 ⟨Nat.le_of_ble_eq_true rfl, Nat.le_of_ble_eq_true rfl⟩) hh hA (fun r_181 H locs hw_181 hh => ?_)
  obtain rfl : r_181 = 0 := Eq.trans hw_181 (if_neg (no_has (by decide)))
  refine lv_if_eq (tgt := 16) hx hb dX12_may_5 (by decide) (fun _ => ?_) (fun c_0 => absurd c_0 (by decide))
  refine lv_iconst (v := (-1)) hx hb dX12_may_16 (by decide) ?_
  exact hp_iretM hx hb hr rfl hlocks hh (rfl) dX12_may_17
theorem kw_X12_may {R : Room} {s : State} {args : Array Value} {own : String} {idx : Nat} (hts : ∀ w ∈ TB, w.before args s = true) (hl : Cond.methodLink own idx yX12_may ∈ TB) (hR : 1 + 1 ≤ R.frames ∧ 8 + (5 + 11) + 40 * 1 ≤ R.locals) : CallW R s args own RX12 idx yX12_may cX12_may 5 (some .int) (Cond.code yX12_may cX12_may 5 (some .int) :: TB) (rmN 1) 0 0 3 := cwV 3 hts (TB_V hl tw_1017 tw_1018 tw_9 tw_1019) rfl rfl rfl (by decide +kernel) hR
set_option maxHeartbeats 4000000 in
set_option maxRecDepth 100000 in
/-- close, new object -/
theorem c_X12_close (l : Launch) (D : va_G) (cy : Nat → ClassId) (sz : Nat) (cs : List Nat) (ad : Nat → Nat) (en : Nat → va_E) (hcs : ∀ c, c < 20 → c ∈ cs)  (mz : en 0 = .inr (11, [.int 0, .int 0, .int 2, .int 0, .int 0, .ref (ad 1), .ref (ad 2), .ref (ad 3), .ref (ad 4), .ref (ad 5), .ref (ad 6), .ref (ad 7), .ref (ad 8), .ref (ad 9), .int 0, .long 0, .long 0, .long 0, .long 0, .ref (ad 10), .ref (ad 11), .ref (ad 12), .int 0, .long 0, .ref (ad 13), .int (-9), .ref (ad 14), .ref (ad 15), .ref (ad 16), .ref (ad 17), .int 0, .ref (ad 18), .ref (ad 19)]))  : Met l yX12_close (Cond.code yX12_close cX12_close 4 (some .int) :: TB) (rmN 1) (va_Pc [.ref (ad 0)] (Pre D cy cs ad en sz)) (va_Qi (S := Nat → va_E) (fun r _ => r = (-3)) (PostM D cs ad) (Af cs ad sz)) 0 0 (Af cs ad sz) := by
  refine Met.ofW (cc := cX12_close) (maxL := 4) (ret := (some .int)) (by decide) rfl ?_
  intro p e s m args below meth c s₁ B hml hv
  obtain ⟨rfl, hsz, hP, hK, hD0⟩ := hv
  have hx := B.exec
  have hb := B.bytes
  have hr := B.returns
  have hts : ∀ w ∈ TB, w.before _ s = true := fun w h => atoms_spec (ws := _ :: TB) B.pre w (List.mem_cons_of_mem _ h)
  have hown : s.vm.findClass RX12 = some m.cls := findClass_of_methodNamed B.named
  have hlocks := B.notSynchronized
  have hh : Hp D (Af cs ad sz) (Af cs ad sz) s.heap s.heap [] cs ad en := ⟨hP, Af_self hD0, va_S.rf⟩
  have hA : ∀ q : Nat, s.heap.size ≤ q → Af cs ad sz q := fun q h => Or.inr (by rw [hsz] at h; exact h)
  have hl := lv_entry ([.ref (ad 0)]) (n := 4) (Nat.le_of_ble_eq_true rfl)
  rw [lg_entry_eq]
  generalize (lg_sl ([.ref (ad 0)]) ++ List.replicate (4 - (lg_sl ([.ref (ad 0)])).length) Slot.unset).toArray = ls at hl ⊢
  have hl : lv_has ls 4 [(0, .ref (ad 0))] := hl
  refine lv_aload_n hx hb dX12_close_0 rfl (lv_at hl 0 rfl) ?_
  refine hp_get hx hb hts ix12 hown hK hh (q := 0) rfl (hcs _ (by decide)) mz rfl 4 (by decide) (hts _ tw_883) (fun _ h9 => h9) rfl dX12_close_1 ?_
  refine lv_if_ne (tgt := 10) hx hb dX12_close_4 (by decide) (fun c_0 => absurd c_0 (by decide)) (fun _ => ?_)
  refine lv_bipush (v := (-3)) hx hb dX12_close_7 (by decide) ?_
  exact hp_iretM hx hb hr rfl hlocks hh (rfl) dX12_close_9
theorem kw_X12_close {R : Room} {s : State} {args : Array Value} {own : String} {idx : Nat} (hts : ∀ w ∈ TB, w.before args s = true) (hl : Cond.methodLink own idx yX12_close ∈ TB) (hR : 1 + 1 ≤ R.frames ∧ 8 + (4 + 11) + 40 * 1 ≤ R.locals) : CallW R s args own RX12 idx yX12_close cX12_close 4 (some .int) (Cond.code yX12_close cX12_close 4 (some .int) :: TB) (rmN 1) 0 0 0 := cwV 0 hts (TB_V hl tw_1114 tw_1115 tw_9 tw_1116) rfl rfl rfl (by decide +kernel) hR
set_option maxHeartbeats 4000000 in
set_option maxRecDepth 100000 in
/-- product, new object -/
theorem c_X12_product (l : Launch) (D : va_G) (cy : Nat → ClassId) (sz : Nat) (cs : List Nat) (ad : Nat → Nat) (en : Nat → va_E) (hcs : ∀ c, c < 20 → c ∈ cs) (k r0 c0 : Int32) (mz : en 0 = .inr (11, [.int 0, .int 0, .int 2, .int 0, .int 0, .ref (ad 1), .ref (ad 2), .ref (ad 3), .ref (ad 4), .ref (ad 5), .ref (ad 6), .ref (ad 7), .ref (ad 8), .ref (ad 9), .int 0, .long 0, .long 0, .long 0, .long 0, .ref (ad 10), .ref (ad 11), .ref (ad 12), .int 0, .long 0, .ref (ad 13), .int (-9), .ref (ad 14), .ref (ad 15), .ref (ad 16), .ref (ad 17), .int 0, .ref (ad 18), .ref (ad 19)]))  : Met l yX12_product (Cond.code yX12_product cX12_product 4 (some .long) :: TB) (rmN 1) (va_Pc [.ref (ad 0), .int k, .int r0, .int c0] (Pre D cy cs ad en sz)) (va_Ql (S := Nat → va_E) (fun r _ => r = (-9223372036854775808)) (PostM D cs ad) (Af cs ad sz)) 0 0 (Af cs ad sz) := by
  refine Met.ofW (cc := cX12_product) (maxL := 4) (ret := (some .long)) (by decide) rfl ?_
  intro p e s m args below meth c s₁ B hml hv
  obtain ⟨rfl, hsz, hP, hK, hD0⟩ := hv
  have hx := B.exec
  have hb := B.bytes
  have hr := B.returns
  have hts : ∀ w ∈ TB, w.before _ s = true := fun w h => atoms_spec (ws := _ :: TB) B.pre w (List.mem_cons_of_mem _ h)
  have hown : s.vm.findClass RX12 = some m.cls := findClass_of_methodNamed B.named
  have hlocks := B.notSynchronized
  have hh : Hp D (Af cs ad sz) (Af cs ad sz) s.heap s.heap [] cs ad en := ⟨hP, Af_self hD0, va_S.rf⟩
  have hA : ∀ q : Nat, s.heap.size ≤ q → Af cs ad sz q := fun q h => Or.inr (by rw [hsz] at h; exact h)
  have hl := lv_entry ([.ref (ad 0), .int k, .int r0, .int c0]) (n := 4) (Nat.le_of_ble_eq_true rfl)
  rw [lg_entry_eq]
  generalize (lg_sl ([.ref (ad 0), .int k, .int r0, .int c0]) ++ List.replicate (4 - (lg_sl ([.ref (ad 0), .int k, .int r0, .int c0])).length) Slot.unset).toArray = ls at hl ⊢
  have hl : lv_has ls 4 [(0, .ref (ad 0)), (1, .int k), (2, .int r0), (3, .int c0)] := hl
  refine lv_aload_n hx hb dX12_product_0 rfl (lv_at hl 0 rfl) ?_
  refine lv_iload_n hx hb dX12_product_1 rfl (lv_at hl 1 rfl) ?_
  refine hp_callRi (va_runV (As := [.int k]) (rest := []) ⟨hx, hb, hml, hown, hts⟩ (c_X12_isProduct l D cy _ cs ad en hcs 0 0 2 0 0 0 0 0 0 0 0 0 (-9) 0 k mz) (kw_X12_isProduct hts tw_1158 ⟨by decide, by decide⟩) (preV_of hh hK (hcs _ (by decide)) mz rfl) rfl rfl hl.1 rfl (lv_room (Nat.le_of_ble_eq_true rfl)) dX12_product_2 ⟨Nat.le_of_ble_eq_true rfl, Nat.le_of_ble_eq_true rfl⟩) hh hA (fun r_182 H locs hw_182 hh => ?_)
  obtain rfl : r_182 = 0 := Eq.trans hw_182 (if_neg (no_has (by decide)))
  refine lv_if_eq (tgt := 38) hx hb dX12_product_5 (by decide) (fun _ => ?_) (fun c_0 => absurd c_0 (by decide))
  refine lv_ldc2 hx hb hown (hts _ tw_1015) dX12_product_38 ?_
  exact hp_lretM hx hb hr hlocks hh (rfl) dX12_product_41
theorem kw_X12_product {R : Room} {s : State} {args : Array Value} {own : String} {idx : Nat} (hts : ∀ w ∈ TB, w.before args s = true) (hl : Cond.methodLink own idx yX12_product ∈ TB) (hR : 1 + 1 ≤ R.frames ∧ 8 + (4 + 11) + 40 * 1 ≤ R.locals) : CallW R s args own RX12 idx yX12_product cX12_product 4 (some .long) (Cond.code yX12_product cX12_product 4 (some .long) :: TB) (rmN 1) 0 0 3 := cwV 3 hts (TB_V hl tw_1155 tw_1156 tw_9 tw_1157) rfl rfl rfl (by decide +kernel) hR
set_option maxHeartbeats 4000000 in
set_option maxRecDepth 100000 in
/-- times, new object -/
theorem c_X12_times (l : Launch) (D : va_G) (cy : Nat → ClassId) (sz : Nat) (cs : List Nat) (ad : Nat → Nat) (en : Nat → va_E) (hcs : ∀ c, c < 20 → c ∈ cs) (k j : Int32) (mz : en 0 = .inr (11, [.int 0, .int 0, .int 2, .int 0, .int 0, .ref (ad 1), .ref (ad 2), .ref (ad 3), .ref (ad 4), .ref (ad 5), .ref (ad 6), .ref (ad 7), .ref (ad 8), .ref (ad 9), .int 0, .long 0, .long 0, .long 0, .long 0, .ref (ad 10), .ref (ad 11), .ref (ad 12), .int 0, .long 0, .ref (ad 13), .int (-9), .ref (ad 14), .ref (ad 15), .ref (ad 16), .ref (ad 17), .int 0, .ref (ad 18), .ref (ad 19)]))  : Met l yX12_times (Cond.code yX12_times cX12_times 3 (some .int) :: TB) (rmN 1) (va_Pc [.ref (ad 0), .int k, .int j] (Pre D cy cs ad en sz)) (va_Qi (S := Nat → va_E) (fun r _ => r = (-1)) (PostM D cs ad) (Af cs ad sz)) 0 0 (Af cs ad sz) := by
  refine Met.ofW (cc := cX12_times) (maxL := 3) (ret := (some .int)) (by decide) rfl ?_
  intro p e s m args below meth c s₁ B hml hv
  obtain ⟨rfl, hsz, hP, hK, hD0⟩ := hv
  have hx := B.exec
  have hb := B.bytes
  have hr := B.returns
  have hts : ∀ w ∈ TB, w.before _ s = true := fun w h => atoms_spec (ws := _ :: TB) B.pre w (List.mem_cons_of_mem _ h)
  have hown : s.vm.findClass RX12 = some m.cls := findClass_of_methodNamed B.named
  have hlocks := B.notSynchronized
  have hh : Hp D (Af cs ad sz) (Af cs ad sz) s.heap s.heap [] cs ad en := ⟨hP, Af_self hD0, va_S.rf⟩
  have hA : ∀ q : Nat, s.heap.size ≤ q → Af cs ad sz q := fun q h => Or.inr (by rw [hsz] at h; exact h)
  have hl := lv_entry ([.ref (ad 0), .int k, .int j]) (n := 3) (Nat.le_of_ble_eq_true rfl)
  rw [lg_entry_eq]
  generalize (lg_sl ([.ref (ad 0), .int k, .int j]) ++ List.replicate (3 - (lg_sl ([.ref (ad 0), .int k, .int j])).length) Slot.unset).toArray = ls at hl ⊢
  have hl : lv_has ls 3 [(0, .ref (ad 0)), (1, .int k), (2, .int j)] := hl
  refine lv_aload_n hx hb dX12_times_0 rfl (lv_at hl 0 rfl) ?_
  refine lv_iload_n hx hb dX12_times_1 rfl (lv_at hl 1 rfl) ?_
  refine hp_callRi (va_runV (As := [.int k]) (rest := []) ⟨hx, hb, hml, hown, hts⟩ (c_X12_isProduct l D cy _ cs ad en hcs 0 0 2 0 0 0 0 0 0 0 0 0 (-9) 0 k mz) (kw_X12_isProduct hts tw_1158 ⟨by decide, by decide⟩) (preV_of hh hK (hcs _ (by decide)) mz rfl) rfl rfl hl.1 rfl (lv_room (Nat.le_of_ble_eq_true rfl)) dX12_times_2 ⟨Nat.le_of_ble_eq_true rfl, Nat.le_of_ble_eq_true rfl⟩) hh hA (fun r_183 H locs hw_183 hh => ?_)
  obtain rfl : r_183 = 0 := Eq.trans hw_183 (if_neg (no_has (by decide)))
  refine lv_if_eq (tgt := 16) hx hb dX12_times_5 (by decide) (fun _ => ?_) (fun c_0 => absurd c_0 (by decide))
  refine lv_iconst (v := (-1)) hx hb dX12_times_16 (by decide) ?_
  exact hp_iretM hx hb hr rfl hlocks hh (rfl) dX12_times_17
theorem kw_X12_times {R : Room} {s : State} {args : Array Value} {own : String} {idx : Nat} (hts : ∀ w ∈ TB, w.before args s = true) (hl : Cond.methodLink own idx yX12_times ∈ TB) (hR : 1 + 1 ≤ R.frames ∧ 8 + (3 + 11) + 40 * 1 ≤ R.locals) : CallW R s args own RX12 idx yX12_times cX12_times 3 (some .int) (Cond.code yX12_times cX12_times 3 (some .int) :: TB) (rmN 1) 0 0 2 := cwV 2 hts (TB_V hl tw_1163 tw_1164 tw_9 tw_1165) rfl rfl rfl (by decide +kernel) hR
set_option maxHeartbeats 4000000 in
set_option maxRecDepth 100000 in
/-- join, new object -/
theorem c_X12_join (l : Launch) (D : va_G) (cy : Nat → ClassId) (sz : Nat) (cs : List Nat) (ad : Nat → Nat) (en : Nat → va_E) (hcs : ∀ c, c < 20 → c ∈ cs) (a b : Int32) (mz : en 0 = .inr (11, [.int 0, .int 0, .int 2, .int 0, .int 0, .ref (ad 1), .ref (ad 2), .ref (ad 3), .ref (ad 4), .ref (ad 5), .ref (ad 6), .ref (ad 7), .ref (ad 8), .ref (ad 9), .int 0, .long 0, .long 0, .long 0, .long 0, .ref (ad 10), .ref (ad 11), .ref (ad 12), .int 0, .long 0, .ref (ad 13), .int (-9), .ref (ad 14), .ref (ad 15), .ref (ad 16), .ref (ad 17), .int 0, .ref (ad 18), .ref (ad 19)]))  : Met l yX12_join (Cond.code yX12_join cX12_join 4 (some .int) :: TB) (rmN 1) (va_Pc [.ref (ad 0), .int a, .int b] (Pre D cy cs ad en sz)) (va_Qi (S := Nat → va_E) (fun r _ => r = (-1)) (PostM D cs ad) (Af cs ad sz)) 0 0 (Af cs ad sz) := by
  refine Met.ofW (cc := cX12_join) (maxL := 4) (ret := (some .int)) (by decide) rfl ?_
  intro p e s m args below meth c s₁ B hml hv
  obtain ⟨rfl, hsz, hP, hK, hD0⟩ := hv
  have hx := B.exec
  have hb := B.bytes
  have hr := B.returns
  have hts : ∀ w ∈ TB, w.before _ s = true := fun w h => atoms_spec (ws := _ :: TB) B.pre w (List.mem_cons_of_mem _ h)
  have hown : s.vm.findClass RX12 = some m.cls := findClass_of_methodNamed B.named
  have hlocks := B.notSynchronized
  have hh : Hp D (Af cs ad sz) (Af cs ad sz) s.heap s.heap [] cs ad en := ⟨hP, Af_self hD0, va_S.rf⟩
  have hA : ∀ q : Nat, s.heap.size ≤ q → Af cs ad sz q := fun q h => Or.inr (by rw [hsz] at h; exact h)
  have hl := lv_entry ([.ref (ad 0), .int a, .int b]) (n := 4) (Nat.le_of_ble_eq_true rfl)
  rw [lg_entry_eq]
  generalize (lg_sl ([.ref (ad 0), .int a, .int b]) ++ List.replicate (4 - (lg_sl ([.ref (ad 0), .int a, .int b])).length) Slot.unset).toArray = ls at hl ⊢
  have hl : lv_has ls 4 [(0, .ref (ad 0)), (1, .int a), (2, .int b)] := hl
  refine lv_aload_n hx hb dX12_join_0 rfl (lv_at hl 0 rfl) ?_
  refine lv_iload_n hx hb dX12_join_1 rfl (lv_at hl 1 rfl) ?_
  refine hp_callRi (va_runV (As := [.int a]) (rest := []) ⟨hx, hb, hml, hown, hts⟩ (c_X12_isWord l D cy _ cs ad en hcs 0 0 2 0 0 0 0 0 0 0 0 0 (-9) 0 a mz) (kw_X12_isWord hts tw_1175 ⟨by decide, by decide⟩) (preV_of hh hK (hcs _ (by decide)) mz rfl) rfl rfl hl.1 rfl (lv_room (Nat.le_of_ble_eq_true rfl)) dX12_join_2 ⟨Nat.le_of_ble_eq_true rfl, Nat.le_of_ble_eq_true rfl⟩) hh hA (fun r_184 H locs hw_184 hh => ?_)
  obtain rfl : r_184 = 0 := Eq.trans hw_184 (if_neg (no_has (by decide)))
  refine lv_if_eq (tgt := 16) hx hb dX12_join_5 (by decide) (fun _ => ?_) (fun c_0 => absurd c_0 (by decide))
  refine lv_iconst (v := (-1)) hx hb dX12_join_16 (by decide) ?_
  exact hp_iretM hx hb hr rfl hlocks hh (rfl) dX12_join_17
theorem kw_X12_join {R : Room} {s : State} {args : Array Value} {own : String} {idx : Nat} (hts : ∀ w ∈ TB, w.before args s = true) (hl : Cond.methodLink own idx yX12_join ∈ TB) (hR : 1 + 1 ≤ R.frames ∧ 8 + (4 + 11) + 40 * 1 ≤ R.locals) : CallW R s args own RX12 idx yX12_join cX12_join 4 (some .int) (Cond.code yX12_join cX12_join 4 (some .int) :: TB) (rmN 1) 0 0 2 := cwV 2 hts (TB_V hl tw_1172 tw_1173 tw_9 tw_1174) rfl rfl rfl (by decide +kernel) hR
set_option maxHeartbeats 4000000 in
set_option maxRecDepth 100000 in
/-- letter, new object -/
theorem c_X12_letter (l : Launch) (D : va_G) (cy : Nat → ClassId) (sz : Nat) (cs : List Nat) (ad : Nat → Nat) (en : Nat → va_E) (hcs : ∀ c, c < 20 → c ∈ cs) (w i : Int32) (mz : en 0 = .inr (11, [.int 0, .int 0, .int 2, .int 0, .int 0, .ref (ad 1), .ref (ad 2), .ref (ad 3), .ref (ad 4), .ref (ad 5), .ref (ad 6), .ref (ad 7), .ref (ad 8), .ref (ad 9), .int 0, .long 0, .long 0, .long 0, .long 0, .ref (ad 10), .ref (ad 11), .ref (ad 12), .int 0, .long 0, .ref (ad 13), .int (-9), .ref (ad 14), .ref (ad 15), .ref (ad 16), .ref (ad 17), .int 0, .ref (ad 18), .ref (ad 19)]))  : Met l yX12_letter (Cond.code yX12_letter cX12_letter 3 (some .int) :: TB) (rmN 1) (va_Pc [.ref (ad 0), .int w, .int i] (Pre D cy cs ad en sz)) (va_Qi (S := Nat → va_E) (fun r _ => r = (-1)) (PostM D cs ad) (Af cs ad sz)) 0 0 (Af cs ad sz) := by
  refine Met.ofW (cc := cX12_letter) (maxL := 3) (ret := (some .int)) (by decide) rfl ?_
  intro p e s m args below meth c s₁ B hml hv
  obtain ⟨rfl, hsz, hP, hK, hD0⟩ := hv
  have hx := B.exec
  have hb := B.bytes
  have hr := B.returns
  have hts : ∀ w ∈ TB, w.before _ s = true := fun w h => atoms_spec (ws := _ :: TB) B.pre w (List.mem_cons_of_mem _ h)
  have hown : s.vm.findClass RX12 = some m.cls := findClass_of_methodNamed B.named
  have hlocks := B.notSynchronized
  have hh : Hp D (Af cs ad sz) (Af cs ad sz) s.heap s.heap [] cs ad en := ⟨hP, Af_self hD0, va_S.rf⟩
  have hA : ∀ q : Nat, s.heap.size ≤ q → Af cs ad sz q := fun q h => Or.inr (by rw [hsz] at h; exact h)
  have hl := lv_entry ([.ref (ad 0), .int w, .int i]) (n := 3) (Nat.le_of_ble_eq_true rfl)
  rw [lg_entry_eq]
  generalize (lg_sl ([.ref (ad 0), .int w, .int i]) ++ List.replicate (3 - (lg_sl ([.ref (ad 0), .int w, .int i])).length) Slot.unset).toArray = ls at hl ⊢
  have hl : lv_has ls 3 [(0, .ref (ad 0)), (1, .int w), (2, .int i)] := hl
  refine lv_aload_n hx hb dX12_letter_0 rfl (lv_at hl 0 rfl) ?_
  refine lv_iload_n hx hb dX12_letter_1 rfl (lv_at hl 1 rfl) ?_
  refine hp_callRi (va_runV (As := [.int w]) (rest := []) ⟨hx, hb, hml, hown, hts⟩ (c_X12_isWord l D cy _ cs ad en hcs 0 0 2 0 0 0 0 0 0 0 0 0 (-9) 0 w mz) (kw_X12_isWord hts tw_1175 ⟨by decide, by decide⟩) (preV_of hh hK (hcs _ (by decide)) mz rfl) rfl rfl hl.1 rfl (lv_room (Nat.le_of_ble_eq_true rfl)) dX12_letter_2 ⟨Nat.le_of_ble_eq_true rfl, Nat.le_of_ble_eq_true rfl⟩) hh hA (fun r_185 H locs hw_185 hh => ?_)
  obtain rfl : r_185 = 0 := Eq.trans hw_185 (if_neg (no_has (by decide)))
  refine lv_if_eq (tgt := 40) hx hb dX12_letter_5 (by decide) (fun _ => ?_) (fun c_0 => absurd c_0 (by decide))
  refine lv_iconst (v := (-1)) hx hb dX12_letter_40 (by decide) ?_
  exact hp_iretM hx hb hr rfl hlocks hh (rfl) dX12_letter_41
theorem kw_X12_letter {R : Room} {s : State} {args : Array Value} {own : String} {idx : Nat} (hts : ∀ w ∈ TB, w.before args s = true) (hl : Cond.methodLink own idx yX12_letter ∈ TB) (hR : 1 + 1 ≤ R.frames ∧ 8 + (3 + 11) + 40 * 1 ≤ R.locals) : CallW R s args own RX12 idx yX12_letter cX12_letter 3 (some .int) (Cond.code yX12_letter cX12_letter 3 (some .int) :: TB) (rmN 1) 0 0 2 := cwV 2 hts (TB_V hl tw_1180 tw_1181 tw_9 tw_1182) rfl rfl rfl (by decide +kernel) hR
set_option maxHeartbeats 4000000 in
set_option maxRecDepth 100000 in
/-- about, new object -/
theorem c_X12_about (l : Launch) (D : va_G) (cy : Nat → ClassId) (sz : Nat) (cs : List Nat) (ad : Nat → Nat) (en : Nat → va_E) (hcs : ∀ c, c < 20 → c ∈ cs) (w z : Int32) (mz : en 0 = .inr (11, [.int 0, .int 0, .int 2, .int 0, .int 0, .ref (ad 1), .ref (ad 2), .ref (ad 3), .ref (ad 4), .ref (ad 5), .ref (ad 6), .ref (ad 7), .ref (ad 8), .ref (ad 9), .int 0, .long 0, .long 0, .long 0, .long 0, .ref (ad 10), .ref (ad 11), .ref (ad 12), .int 0, .long 0, .ref (ad 13), .int (-9), .ref (ad 14), .ref (ad 15), .ref (ad 16), .ref (ad 17), .int 0, .ref (ad 18), .ref (ad 19)]))  : Met l yX12_about (Cond.code yX12_about cX12_about 5 (some .int) :: TB) (rmN 1) (va_Pc [.ref (ad 0), .int w, .int z] (Pre D cy cs ad en sz)) (va_Qi (S := Nat → va_E) (fun r _ => r = (-1)) (PostM D cs ad) (Af cs ad sz)) 0 0 (Af cs ad sz) := by
  refine Met.ofW (cc := cX12_about) (maxL := 5) (ret := (some .int)) (by decide) rfl ?_
  intro p e s m args below meth c s₁ B hml hv
  obtain ⟨rfl, hsz, hP, hK, hD0⟩ := hv
  have hx := B.exec
  have hb := B.bytes
  have hr := B.returns
  have hts : ∀ w ∈ TB, w.before _ s = true := fun w h => atoms_spec (ws := _ :: TB) B.pre w (List.mem_cons_of_mem _ h)
  have hown : s.vm.findClass RX12 = some m.cls := findClass_of_methodNamed B.named
  have hlocks := B.notSynchronized
  have hh : Hp D (Af cs ad sz) (Af cs ad sz) s.heap s.heap [] cs ad en := ⟨hP, Af_self hD0, va_S.rf⟩
  have hA : ∀ q : Nat, s.heap.size ≤ q → Af cs ad sz q := fun q h => Or.inr (by rw [hsz] at h; exact h)
  have hl := lv_entry ([.ref (ad 0), .int w, .int z]) (n := 5) (Nat.le_of_ble_eq_true rfl)
  rw [lg_entry_eq]
  generalize (lg_sl ([.ref (ad 0), .int w, .int z]) ++ List.replicate (5 - (lg_sl ([.ref (ad 0), .int w, .int z])).length) Slot.unset).toArray = ls at hl ⊢
  have hl : lv_has ls 5 [(0, .ref (ad 0)), (1, .int w), (2, .int z)] := hl
  refine lv_aload_n hx hb dX12_about_0 rfl (lv_at hl 0 rfl) ?_
  refine lv_iload_n hx hb dX12_about_1 rfl (lv_at hl 1 rfl) ?_
  refine hp_callRi (va_runV (As := [.int w]) (rest := []) ⟨hx, hb, hml, hown, hts⟩ (c_X12_isWord l D cy _ cs ad en hcs 0 0 2 0 0 0 0 0 0 0 0 0 (-9) 0 w mz) (kw_X12_isWord hts tw_1175 ⟨by decide, by decide⟩) (preV_of hh hK (hcs _ (by decide)) mz rfl) rfl rfl hl.1 rfl (lv_room (Nat.le_of_ble_eq_true rfl)) dX12_about_2 ⟨Nat.le_of_ble_eq_true rfl, Nat.le_of_ble_eq_true rfl⟩) hh hA (fun r_186 H locs hw_186 hh => ?_)
  obtain rfl : r_186 = 0 := Eq.trans hw_186 (if_neg (no_has (by decide)))
  refine lv_if_ne (tgt := 10) hx hb dX12_about_5 (by decide) (fun c_0 => absurd c_0 (by decide)) (fun _ => ?_)
  refine lv_iconst (v := (-1)) hx hb dX12_about_8 (by decide) ?_
  exact hp_iretM hx hb hr rfl hlocks hh (rfl) dX12_about_9
theorem kw_X12_about {R : Room} {s : State} {args : Array Value} {own : String} {idx : Nat} (hts : ∀ w ∈ TB, w.before args s = true) (hl : Cond.methodLink own idx yX12_about ∈ TB) (hR : 1 + 1 ≤ R.frames ∧ 8 + (5 + 11) + 40 * 1 ≤ R.locals) : CallW R s args own RX12 idx yX12_about cX12_about 5 (some .int) (Cond.code yX12_about cX12_about 5 (some .int) :: TB) (rmN 1) 0 0 2 := cwV 2 hts (TB_V hl tw_1184 tw_1185 tw_9 tw_1186) rfl rfl rfl (by decide +kernel) hR
set_option maxHeartbeats 4000000 in
set_option maxRecDepth 100000 in
/-- entryOf, new object -/
theorem c_X12_entryOf (l : Launch) (D : va_G) (cy : Nat → ClassId) (sz : Nat) (cs : List Nat) (ad : Nat → Nat) (en : Nat → va_E) (hcs : ∀ c, c < 20 → c ∈ cs) (w r0 c0 : Int32) (mz : en 0 = .inr (11, [.int 0, .int 0, .int 2, .int 0, .int 0, .ref (ad 1), .ref (ad 2), .ref (ad 3), .ref (ad 4), .ref (ad 5), .ref (ad 6), .ref (ad 7), .ref (ad 8), .ref (ad 9), .int 0, .long 0, .long 0, .long 0, .long 0, .ref (ad 10), .ref (ad 11), .ref (ad 12), .int 0, .long 0, .ref (ad 13), .int (-9), .ref (ad 14), .ref (ad 15), .ref (ad 16), .ref (ad 17), .int 0, .ref (ad 18), .ref (ad 19)]))  : Met l yX12_entryOf (Cond.code yX12_entryOf cX12_entryOf 4 (some .long) :: TB) (rmN 1) (va_Pc [.ref (ad 0), .int w, .int r0, .int c0] (Pre D cy cs ad en sz)) (va_Ql (S := Nat → va_E) (fun r _ => r = (-9223372036854775808)) (PostM D cs ad) (Af cs ad sz)) 0 0 (Af cs ad sz) := by
  refine Met.ofW (cc := cX12_entryOf) (maxL := 4) (ret := (some .long)) (by decide) rfl ?_
  intro p e s m args below meth c s₁ B hml hv
  obtain ⟨rfl, hsz, hP, hK, hD0⟩ := hv
  have hx := B.exec
  have hb := B.bytes
  have hr := B.returns
  have hts : ∀ w ∈ TB, w.before _ s = true := fun w h => atoms_spec (ws := _ :: TB) B.pre w (List.mem_cons_of_mem _ h)
  have hown : s.vm.findClass RX12 = some m.cls := findClass_of_methodNamed B.named
  have hlocks := B.notSynchronized
  have hh : Hp D (Af cs ad sz) (Af cs ad sz) s.heap s.heap [] cs ad en := ⟨hP, Af_self hD0, va_S.rf⟩
  have hA : ∀ q : Nat, s.heap.size ≤ q → Af cs ad sz q := fun q h => Or.inr (by rw [hsz] at h; exact h)
  have hl := lv_entry ([.ref (ad 0), .int w, .int r0, .int c0]) (n := 4) (Nat.le_of_ble_eq_true rfl)
  rw [lg_entry_eq]
  generalize (lg_sl ([.ref (ad 0), .int w, .int r0, .int c0]) ++ List.replicate (4 - (lg_sl ([.ref (ad 0), .int w, .int r0, .int c0])).length) Slot.unset).toArray = ls at hl ⊢
  have hl : lv_has ls 4 [(0, .ref (ad 0)), (1, .int w), (2, .int r0), (3, .int c0)] := hl
  refine lv_aload_n hx hb dX12_entryOf_0 rfl (lv_at hl 0 rfl) ?_
  refine lv_iload_n hx hb dX12_entryOf_1 rfl (lv_at hl 1 rfl) ?_
  refine hp_callRi (va_runV (As := [.int w]) (rest := []) ⟨hx, hb, hml, hown, hts⟩ (c_X12_isWord l D cy _ cs ad en hcs 0 0 2 0 0 0 0 0 0 0 0 0 (-9) 0 w mz) (kw_X12_isWord hts tw_1175 ⟨by decide, by decide⟩) (preV_of hh hK (hcs _ (by decide)) mz rfl) rfl rfl hl.1 rfl (lv_room (Nat.le_of_ble_eq_true rfl)) dX12_entryOf_2 ⟨Nat.le_of_ble_eq_true rfl, Nat.le_of_ble_eq_true rfl⟩) hh hA (fun r_187 H locs hw_187 hh => ?_)
  obtain rfl : r_187 = 0 := Eq.trans hw_187 (if_neg (no_has (by decide)))
  refine lv_if_eq (tgt := 17) hx hb dX12_entryOf_5 (by decide) (fun _ => ?_) (fun c_0 => absurd c_0 (by decide))
  refine lv_ldc2 hx hb hown (hts _ tw_1015) dX12_entryOf_17 ?_
  exact hp_lretM hx hb hr hlocks hh (rfl) dX12_entryOf_20
theorem kw_X12_entryOf {R : Room} {s : State} {args : Array Value} {own : String} {idx : Nat} (hts : ∀ w ∈ TB, w.before args s = true) (hl : Cond.methodLink own idx yX12_entryOf ∈ TB) (hR : 1 + 1 ≤ R.frames ∧ 8 + (4 + 11) + 40 * 1 ≤ R.locals) : CallW R s args own RX12 idx yX12_entryOf cX12_entryOf 4 (some .long) (Cond.code yX12_entryOf cX12_entryOf 4 (some .long) :: TB) (rmN 1) 0 0 3 := cwV 3 hts (TB_V hl tw_1188 tw_1189 tw_9 tw_1190) rfl rfl rfl (by decide +kernel) hR
set_option maxHeartbeats 4000000 in
set_option maxRecDepth 100000 in
/-- size, new object -/
theorem c_X12_size (l : Launch) (D : va_G) (cy : Nat → ClassId) (sz : Nat) (cs : List Nat) (ad : Nat → Nat) (en : Nat → va_E) (hcs : ∀ c, c < 20 → c ∈ cs) (w z : Int32) (mz : en 0 = .inr (11, [.int 0, .int 0, .int 2, .int 0, .int 0, .ref (ad 1), .ref (ad 2), .ref (ad 3), .ref (ad 4), .ref (ad 5), .ref (ad 6), .ref (ad 7), .ref (ad 8), .ref (ad 9), .int 0, .long 0, .long 0, .long 0, .long 0, .ref (ad 10), .ref (ad 11), .ref (ad 12), .int 0, .long 0, .ref (ad 13), .int (-9), .ref (ad 14), .ref (ad 15), .ref (ad 16), .ref (ad 17), .int 0, .ref (ad 18), .ref (ad 19)]))  : Met l yX12_size (Cond.code yX12_size cX12_size 3 (some .long) :: TB) (rmN 1) (va_Pc [.ref (ad 0), .int w, .int z] (Pre D cy cs ad en sz)) (va_Ql (S := Nat → va_E) (fun r _ => r = (-9223372036854775808)) (PostM D cs ad) (Af cs ad sz)) 0 0 (Af cs ad sz) := by
  refine Met.ofW (cc := cX12_size) (maxL := 3) (ret := (some .long)) (by decide) rfl ?_
  intro p e s m args below meth c s₁ B hml hv
  obtain ⟨rfl, hsz, hP, hK, hD0⟩ := hv
  have hx := B.exec
  have hb := B.bytes
  have hr := B.returns
  have hts : ∀ w ∈ TB, w.before _ s = true := fun w h => atoms_spec (ws := _ :: TB) B.pre w (List.mem_cons_of_mem _ h)
  have hown : s.vm.findClass RX12 = some m.cls := findClass_of_methodNamed B.named
  have hlocks := B.notSynchronized
  have hh : Hp D (Af cs ad sz) (Af cs ad sz) s.heap s.heap [] cs ad en := ⟨hP, Af_self hD0, va_S.rf⟩
  have hA : ∀ q : Nat, s.heap.size ≤ q → Af cs ad sz q := fun q h => Or.inr (by rw [hsz] at h; exact h)
  have hl := lv_entry ([.ref (ad 0), .int w, .int z]) (n := 3) (Nat.le_of_ble_eq_true rfl)
  rw [lg_entry_eq]
  generalize (lg_sl ([.ref (ad 0), .int w, .int z]) ++ List.replicate (3 - (lg_sl ([.ref (ad 0), .int w, .int z])).length) Slot.unset).toArray = ls at hl ⊢
  have hl : lv_has ls 3 [(0, .ref (ad 0)), (1, .int w), (2, .int z)] := hl
  refine lv_aload_n hx hb dX12_size_0 rfl (lv_at hl 0 rfl) ?_
  refine lv_iload_n hx hb dX12_size_1 rfl (lv_at hl 1 rfl) ?_
  refine hp_callRi (va_runV (As := [.int w]) (rest := []) ⟨hx, hb, hml, hown, hts⟩ (c_X12_isWord l D cy _ cs ad en hcs 0 0 2 0 0 0 0 0 0 0 0 0 (-9) 0 w mz) (kw_X12_isWord hts tw_1175 ⟨by decide, by decide⟩) (preV_of hh hK (hcs _ (by decide)) mz rfl) rfl rfl hl.1 rfl (lv_room (Nat.le_of_ble_eq_true rfl)) dX12_size_2 ⟨Nat.le_of_ble_eq_true rfl, Nat.le_of_ble_eq_true rfl⟩) hh hA (fun r_188 H locs hw_188 hh => ?_)
  obtain rfl : r_188 = 0 := Eq.trans hw_188 (if_neg (no_has (by decide)))
  refine lv_if_eq (tgt := 18) hx hb dX12_size_5 (by decide) (fun _ => ?_) (fun c_0 => absurd c_0 (by decide))
  refine lv_ldc2 hx hb hown (hts _ tw_1015) dX12_size_18 ?_
  exact hp_lretM hx hb hr hlocks hh (rfl) dX12_size_21
theorem kw_X12_size {R : Room} {s : State} {args : Array Value} {own : String} {idx : Nat} (hts : ∀ w ∈ TB, w.before args s = true) (hl : Cond.methodLink own idx yX12_size ∈ TB) (hR : 1 + 1 ≤ R.frames ∧ 8 + (3 + 11) + 40 * 1 ≤ R.locals) : CallW R s args own RX12 idx yX12_size cX12_size 3 (some .long) (Cond.code yX12_size cX12_size 3 (some .long) :: TB) (rmN 1) 0 0 2 := cwV 2 hts (TB_V hl tw_1196 tw_1197 tw_9 tw_1198) rfl rfl rfl (by decide +kernel) hR
set_option maxHeartbeats 4000000 in
set_option maxRecDepth 100000 in
/-- tell, new object -/
theorem c_X12_tell (l : Launch) (D : va_G) (cy : Nat → ClassId) (sz : Nat) (cs : List Nat) (ad : Nat → Nat) (en : Nat → va_E) (hcs : ∀ c, c < 20 → c ∈ cs) (t : Int32) (mz : en 0 = .inr (11, [.int 0, .int 0, .int 2, .int 0, .int 0, .ref (ad 1), .ref (ad 2), .ref (ad 3), .ref (ad 4), .ref (ad 5), .ref (ad 6), .ref (ad 7), .ref (ad 8), .ref (ad 9), .int 0, .long 0, .long 0, .long 0, .long 0, .ref (ad 10), .ref (ad 11), .ref (ad 12), .int 0, .long 0, .ref (ad 13), .int (-9), .ref (ad 14), .ref (ad 15), .ref (ad 16), .ref (ad 17), .int 0, .ref (ad 18), .ref (ad 19)]))  : Met l yX12_tell (Cond.code yX12_tell cX12_tell 3 (some .int) :: TB) (rmN 1) (va_Pc [.ref (ad 0), .int t] (Pre D cy cs ad en sz)) (va_Qi (S := Nat → va_E) (fun r _ => r = (-1)) (PostM D cs ad) (Af cs ad sz)) 0 0 (Af cs ad sz) := by
  refine Met.ofW (cc := cX12_tell) (maxL := 3) (ret := (some .int)) (by decide) rfl ?_
  intro p e s m args below meth c s₁ B hml hv
  obtain ⟨rfl, hsz, hP, hK, hD0⟩ := hv
  have hx := B.exec
  have hb := B.bytes
  have hr := B.returns
  have hts : ∀ w ∈ TB, w.before _ s = true := fun w h => atoms_spec (ws := _ :: TB) B.pre w (List.mem_cons_of_mem _ h)
  have hown : s.vm.findClass RX12 = some m.cls := findClass_of_methodNamed B.named
  have hlocks := B.notSynchronized
  have hh : Hp D (Af cs ad sz) (Af cs ad sz) s.heap s.heap [] cs ad en := ⟨hP, Af_self hD0, va_S.rf⟩
  have hA : ∀ q : Nat, s.heap.size ≤ q → Af cs ad sz q := fun q h => Or.inr (by rw [hsz] at h; exact h)
  have hl := lv_entry ([.ref (ad 0), .int t]) (n := 3) (Nat.le_of_ble_eq_true rfl)
  rw [lg_entry_eq]
  generalize (lg_sl ([.ref (ad 0), .int t]) ++ List.replicate (3 - (lg_sl ([.ref (ad 0), .int t])).length) Slot.unset).toArray = ls at hl ⊢
  have hl : lv_has ls 3 [(0, .ref (ad 0)), (1, .int t)] := hl
  refine lv_aload_n hx hb dX12_tell_0 rfl (lv_at hl 0 rfl) ?_
  refine lv_iload_n hx hb dX12_tell_1 rfl (lv_at hl 1 rfl) ?_
  refine hp_callRi (va_runV (As := [.int t]) (rest := []) ⟨hx, hb, hml, hown, hts⟩ (c_X12_isTable l D cy _ cs ad en hcs 0 0 2 0 0 0 0 0 0 0 0 0 (-9) 0 t mz) (kw_X12_isTable hts tw_1007 ⟨by decide, by decide⟩) (preV_of hh hK (hcs _ (by decide)) mz rfl) rfl rfl hl.1 rfl (lv_room (Nat.le_of_ble_eq_true rfl)) dX12_tell_2 ⟨Nat.le_of_ble_eq_true rfl, Nat.le_of_ble_eq_true rfl⟩) hh hA (fun r_189 H locs hw_189 hh => ?_)
  obtain rfl : r_189 = 0 := Eq.trans hw_189 (if_neg (no_has (by decide)))
  refine lv_if_ne (tgt := 10) hx hb dX12_tell_5 (by decide) (fun c_0 => absurd c_0 (by decide)) (fun _ => ?_)
  refine lv_iconst (v := (-1)) hx hb dX12_tell_8 (by decide) ?_
  exact hp_iretM hx hb hr rfl hlocks hh (rfl) dX12_tell_9
theorem kw_X12_tell {R : Room} {s : State} {args : Array Value} {own : String} {idx : Nat} (hts : ∀ w ∈ TB, w.before args s = true) (hl : Cond.methodLink own idx yX12_tell ∈ TB) (hR : 1 + 1 ≤ R.frames ∧ 8 + (3 + 11) + 40 * 1 ≤ R.locals) : CallW R s args own RX12 idx yX12_tell cX12_tell 3 (some .int) (Cond.code yX12_tell cX12_tell 3 (some .int) :: TB) (rmN 1) 0 0 1 := cwV 1 hts (TB_V hl tw_1220 tw_1221 tw_9 tw_1222) rfl rfl rfl (by decide +kernel) hR
set_option maxHeartbeats 4000000 in
set_option maxRecDepth 100000 in
/-- weigh, new object -/
theorem c_X12_weigh (l : Launch) (D : va_G) (cy : Nat → ClassId) (sz : Nat) (cs : List Nat) (ad : Nat → Nat) (en : Nat → va_E) (hcs : ∀ c, c < 20 → c ∈ cs) (t : Int32) (mz : en 0 = .inr (11, [.int 0, .int 0, .int 2, .int 0, .int 0, .ref (ad 1), .ref (ad 2), .ref (ad 3), .ref (ad 4), .ref (ad 5), .ref (ad 6), .ref (ad 7), .ref (ad 8), .ref (ad 9), .int 0, .long 0, .long 0, .long 0, .long 0, .ref (ad 10), .ref (ad 11), .ref (ad 12), .int 0, .long 0, .ref (ad 13), .int (-9), .ref (ad 14), .ref (ad 15), .ref (ad 16), .ref (ad 17), .int 0, .ref (ad 18), .ref (ad 19)]))  : Met l yX12_weigh (Cond.code yX12_weigh cX12_weigh 3 (some .int) :: TB) (rmN 1) (va_Pc [.ref (ad 0), .int t] (Pre D cy cs ad en sz)) (va_Qi (S := Nat → va_E) (fun r _ => r = (-1)) (PostM D cs ad) (Af cs ad sz)) 0 0 (Af cs ad sz) := by
  refine Met.ofW (cc := cX12_weigh) (maxL := 3) (ret := (some .int)) (by decide) rfl ?_
  intro p e s m args below meth c s₁ B hml hv
  obtain ⟨rfl, hsz, hP, hK, hD0⟩ := hv
  have hx := B.exec
  have hb := B.bytes
  have hr := B.returns
  have hts : ∀ w ∈ TB, w.before _ s = true := fun w h => atoms_spec (ws := _ :: TB) B.pre w (List.mem_cons_of_mem _ h)
  have hown : s.vm.findClass RX12 = some m.cls := findClass_of_methodNamed B.named
  have hlocks := B.notSynchronized
  have hh : Hp D (Af cs ad sz) (Af cs ad sz) s.heap s.heap [] cs ad en := ⟨hP, Af_self hD0, va_S.rf⟩
  have hA : ∀ q : Nat, s.heap.size ≤ q → Af cs ad sz q := fun q h => Or.inr (by rw [hsz] at h; exact h)
  have hl := lv_entry ([.ref (ad 0), .int t]) (n := 3) (Nat.le_of_ble_eq_true rfl)
  rw [lg_entry_eq]
  generalize (lg_sl ([.ref (ad 0), .int t]) ++ List.replicate (3 - (lg_sl ([.ref (ad 0), .int t])).length) Slot.unset).toArray = ls at hl ⊢
  have hl : lv_has ls 3 [(0, .ref (ad 0)), (1, .int t)] := hl
  refine lv_aload_n hx hb dX12_weigh_0 rfl (lv_at hl 0 rfl) ?_
  refine lv_iload_n hx hb dX12_weigh_1 rfl (lv_at hl 1 rfl) ?_
  refine hp_callRi (va_runV (As := [.int t]) (rest := []) ⟨hx, hb, hml, hown, hts⟩ (c_X12_isTable l D cy _ cs ad en hcs 0 0 2 0 0 0 0 0 0 0 0 0 (-9) 0 t mz) (kw_X12_isTable hts tw_1007 ⟨by decide, by decide⟩) (preV_of hh hK (hcs _ (by decide)) mz rfl) rfl rfl hl.1 rfl (lv_room (Nat.le_of_ble_eq_true rfl)) dX12_weigh_2 ⟨Nat.le_of_ble_eq_true rfl, Nat.le_of_ble_eq_true rfl⟩) hh hA (fun r_190 H locs hw_190 hh => ?_)
  obtain rfl : r_190 = 0 := Eq.trans hw_190 (if_neg (no_has (by decide)))
  refine lv_if_ne (tgt := 10) hx hb dX12_weigh_5 (by decide) (fun c_0 => absurd c_0 (by decide)) (fun _ => ?_)
  refine lv_iconst (v := (-1)) hx hb dX12_weigh_8 (by decide) ?_
  exact hp_iretM hx hb hr rfl hlocks hh (rfl) dX12_weigh_9
theorem kw_X12_weigh {R : Room} {s : State} {args : Array Value} {own : String} {idx : Nat} (hts : ∀ w ∈ TB, w.before args s = true) (hl : Cond.methodLink own idx yX12_weigh ∈ TB) (hR : 1 + 1 ≤ R.frames ∧ 8 + (3 + 11) + 40 * 1 ≤ R.locals) : CallW R s args own RX12 idx yX12_weigh cX12_weigh 3 (some .int) (Cond.code yX12_weigh cX12_weigh 3 (some .int) :: TB) (rmN 1) 0 0 1 := cwV 1 hts (TB_V hl tw_1240 tw_1241 tw_9 tw_1242) rfl rfl rfl (by decide +kernel) hR
set_option maxHeartbeats 4000000 in
set_option maxRecDepth 100000 in
/-- as, new object -/
theorem c_X12_as (l : Launch) (D : va_G) (cy : Nat → ClassId) (sz : Nat) (cs : List Nat) (ad : Nat → Nat) (en : Nat → va_E) (hcs : ∀ c, c < 20 → c ∈ cs) (t z : Int32) (mz : en 0 = .inr (11, [.int 0, .int 0, .int 2, .int 0, .int 0, .ref (ad 1), .ref (ad 2), .ref (ad 3), .ref (ad 4), .ref (ad 5), .ref (ad 6), .ref (ad 7), .ref (ad 8), .ref (ad 9), .int 0, .long 0, .long 0, .long 0, .long 0, .ref (ad 10), .ref (ad 11), .ref (ad 12), .int 0, .long 0, .ref (ad 13), .int (-9), .ref (ad 14), .ref (ad 15), .ref (ad 16), .ref (ad 17), .int 0, .ref (ad 18), .ref (ad 19)]))  : Met l yX12_as (Cond.code yX12_as cX12_as 3 (some .int) :: TB) (rmN 1) (va_Pc [.ref (ad 0), .int t, .int z] (Pre D cy cs ad en sz)) (va_Qi (S := Nat → va_E) (fun r _ => r = (-1)) (PostM D cs ad) (Af cs ad sz)) 0 0 (Af cs ad sz) := by
  refine Met.ofW (cc := cX12_as) (maxL := 3) (ret := (some .int)) (by decide) rfl ?_
  intro p e s m args below meth c s₁ B hml hv
  obtain ⟨rfl, hsz, hP, hK, hD0⟩ := hv
  have hx := B.exec
  have hb := B.bytes
  have hr := B.returns
  have hts : ∀ w ∈ TB, w.before _ s = true := fun w h => atoms_spec (ws := _ :: TB) B.pre w (List.mem_cons_of_mem _ h)
  have hown : s.vm.findClass RX12 = some m.cls := findClass_of_methodNamed B.named
  have hlocks := B.notSynchronized
  have hh : Hp D (Af cs ad sz) (Af cs ad sz) s.heap s.heap [] cs ad en := ⟨hP, Af_self hD0, va_S.rf⟩
  have hA : ∀ q : Nat, s.heap.size ≤ q → Af cs ad sz q := fun q h => Or.inr (by rw [hsz] at h; exact h)
  have hl := lv_entry ([.ref (ad 0), .int t, .int z]) (n := 3) (Nat.le_of_ble_eq_true rfl)
  rw [lg_entry_eq]
  generalize (lg_sl ([.ref (ad 0), .int t, .int z]) ++ List.replicate (3 - (lg_sl ([.ref (ad 0), .int t, .int z])).length) Slot.unset).toArray = ls at hl ⊢
  have hl : lv_has ls 3 [(0, .ref (ad 0)), (1, .int t), (2, .int z)] := hl
  refine lv_aload_n hx hb dX12_as_0 rfl (lv_at hl 0 rfl) ?_
  refine lv_iconst (v := 0) hx hb dX12_as_1 (by decide) ?_
  refine hp_put hx hb hts ix12 tyX12 tyX12_ok nmX12 hown hK hh (q := 0) rfl (hcs _ (by decide)) mz rfl 0 (by decide) (hts _ tw_879) (fun _ h9 => h9) rfl (ty := .int) (by decide +kernel) rfl rfl (Nat.le_of_ble_eq_true rfl) dX12_as_2 (fun H locs en_191 hen_191 hh => ?_)
  have hid_191 : en_191 = en := hen_191.trans (va_up_id mz)
  rw [hid_191] at hh
  refine lv_aload_n hx hb dX12_as_5 rfl (lv_at hl 0 rfl) ?_
  refine lv_iload_n hx hb dX12_as_6 rfl (lv_at hl 1 rfl) ?_
  refine hp_callRi (va_runV (As := [.int t]) (rest := []) ⟨hx, hb, hml, hown, hts⟩ (c_X12_isTable l D cy _ cs ad en hcs 0 0 2 0 0 0 0 0 0 0 0 0 (-9) 0 t mz) (kw_X12_isTable hts tw_1007 ⟨by decide, by decide⟩) (preV_of hh hK (hcs _ (by decide)) mz rfl) rfl rfl hl.1 rfl (lv_room (Nat.le_of_ble_eq_true rfl)) dX12_as_7 ⟨Nat.le_of_ble_eq_true rfl, Nat.le_of_ble_eq_true rfl⟩) hh hA (fun r_192 H locs hw_192 hh => ?_)
  obtain rfl : r_192 = 0 := Eq.trans hw_192 (if_neg (no_has (by decide)))
  refine lv_if_ne (tgt := 15) hx hb dX12_as_10 (by decide) (fun c_0 => absurd c_0 (by decide)) (fun _ => ?_)
  refine lv_iconst (v := (-1)) hx hb dX12_as_13 (by decide) ?_
  exact hp_iretM hx hb hr rfl hlocks hh (rfl) dX12_as_14
theorem kw_X12_as {R : Room} {s : State} {args : Array Value} {own : String} {idx : Nat} (hts : ∀ w ∈ TB, w.before args s = true) (hl : Cond.methodLink own idx yX12_as ∈ TB) (hR : 1 + 1 ≤ R.frames ∧ 8 + (3 + 11) + 40 * 1 ≤ R.locals) : CallW R s args own RX12 idx yX12_as cX12_as 3 (some .int) (Cond.code yX12_as cX12_as 3 (some .int) :: TB) (rmN 1) 0 0 2 := cwV 2 hts (TB_V hl tw_1244 tw_1245 tw_9 tw_1246) rfl rfl rfl (by decide +kernel) hR
set_option maxHeartbeats 4000000 in
set_option maxRecDepth 100000 in
/-- history, new object -/
theorem c_X12_history (l : Launch) (D : va_G) (cy : Nat → ClassId) (sz : Nat) (cs : List Nat) (ad : Nat → Nat) (en : Nat → va_E) (hcs : ∀ c, c < 20 → c ∈ cs)  (mz : en 0 = .inr (11, [.int 0, .int 0, .int 2, .int 0, .int 0, .ref (ad 1), .ref (ad 2), .ref (ad 3), .ref (ad 4), .ref (ad 5), .ref (ad 6), .ref (ad 7), .ref (ad 8), .ref (ad 9), .int 0, .long 0, .long 0, .long 0, .long 0, .ref (ad 10), .ref (ad 11), .ref (ad 12), .int 0, .long 0, .ref (ad 13), .int (-9), .ref (ad 14), .ref (ad 15), .ref (ad 16), .ref (ad 17), .int 0, .ref (ad 18), .ref (ad 19)]))  : Met l yX12_history (Cond.code yX12_history cX12_history 1 (some .int) :: TB) (rmN 1) (va_Pc [.ref (ad 0)] (Pre D cy cs ad en sz)) (va_Qi (S := Nat → va_E) (fun r _ => r = 0) (PostM D cs ad) (Af cs ad sz)) 0 0 (Af cs ad sz) := by
  refine Met.ofW (cc := cX12_history) (maxL := 1) (ret := (some .int)) (by decide) rfl ?_
  intro p e s m args below meth c s₁ B hml hv
  obtain ⟨rfl, hsz, hP, hK, hD0⟩ := hv
  have hx := B.exec
  have hb := B.bytes
  have hr := B.returns
  have hts : ∀ w ∈ TB, w.before _ s = true := fun w h => atoms_spec (ws := _ :: TB) B.pre w (List.mem_cons_of_mem _ h)
  have hown : s.vm.findClass RX12 = some m.cls := findClass_of_methodNamed B.named
  have hlocks := B.notSynchronized
  have hh : Hp D (Af cs ad sz) (Af cs ad sz) s.heap s.heap [] cs ad en := ⟨hP, Af_self hD0, va_S.rf⟩
  have hA : ∀ q : Nat, s.heap.size ≤ q → Af cs ad sz q := fun q h => Or.inr (by rw [hsz] at h; exact h)
  have hl := lv_entry ([.ref (ad 0)]) (n := 1) (Nat.le_of_ble_eq_true rfl)
  rw [lg_entry_eq]
  generalize (lg_sl ([.ref (ad 0)]) ++ List.replicate (1 - (lg_sl ([.ref (ad 0)])).length) Slot.unset).toArray = ls at hl ⊢
  have hl : lv_has ls 1 [(0, .ref (ad 0))] := hl
  refine lv_aload_n hx hb dX12_history_0 rfl (lv_at hl 0 rfl) ?_
  refine hp_get hx hb hts ix12 hown hK hh (q := 0) rfl (hcs _ (by decide)) mz rfl 1 (by decide) (hts _ tw_880) (fun _ h9 => h9) rfl dX12_history_1 ?_
  exact hp_iretM hx hb hr rfl hlocks hh (rfl) dX12_history_4
theorem kw_X12_history {R : Room} {s : State} {args : Array Value} {own : String} {idx : Nat} (hts : ∀ w ∈ TB, w.before args s = true) (hl : Cond.methodLink own idx yX12_history ∈ TB) (hR : 1 + 1 ≤ R.frames ∧ 8 + (1 + 11) + 40 * 1 ≤ R.locals) : CallW R s args own RX12 idx yX12_history cX12_history 1 (some .int) (Cond.code yX12_history cX12_history 1 (some .int) :: TB) (rmN 1) 0 0 0 := cwV 0 hts (TB_V hl tw_1248 tw_1249 tw_9 tw_1250) rfl rfl rfl (by decide +kernel) hR
set_option maxHeartbeats 4000000 in
set_option maxRecDepth 100000 in
/-- fault, new object -/
theorem c_X12_fault (l : Launch) (D : va_G) (cy : Nat → ClassId) (sz : Nat) (cs : List Nat) (ad : Nat → Nat) (en : Nat → va_E) (hcs : ∀ c, c < 20 → c ∈ cs)  (mz : en 0 = .inr (11, [.int 0, .int 0, .int 2, .int 0, .int 0, .ref (ad 1), .ref (ad 2), .ref (ad 3), .ref (ad 4), .ref (ad 5), .ref (ad 6), .ref (ad 7), .ref (ad 8), .ref (ad 9), .int 0, .long 0, .long 0, .long 0, .long 0, .ref (ad 10), .ref (ad 11), .ref (ad 12), .int 0, .long 0, .ref (ad 13), .int (-9), .ref (ad 14), .ref (ad 15), .ref (ad 16), .ref (ad 17), .int 0, .ref (ad 18), .ref (ad 19)]))  : Met l yX12_fault (Cond.code yX12_fault cX12_fault 1 (some .int) :: TB) (rmN 1) (va_Pc [.ref (ad 0)] (Pre D cy cs ad en sz)) (va_Qi (S := Nat → va_E) (fun r _ => r = 0) (PostM D cs ad) (Af cs ad sz)) 0 0 (Af cs ad sz) := by
  refine Met.ofW (cc := cX12_fault) (maxL := 1) (ret := (some .int)) (by decide) rfl ?_
  intro p e s m args below meth c s₁ B hml hv
  obtain ⟨rfl, hsz, hP, hK, hD0⟩ := hv
  have hx := B.exec
  have hb := B.bytes
  have hr := B.returns
  have hts : ∀ w ∈ TB, w.before _ s = true := fun w h => atoms_spec (ws := _ :: TB) B.pre w (List.mem_cons_of_mem _ h)
  have hown : s.vm.findClass RX12 = some m.cls := findClass_of_methodNamed B.named
  have hlocks := B.notSynchronized
  have hh : Hp D (Af cs ad sz) (Af cs ad sz) s.heap s.heap [] cs ad en := ⟨hP, Af_self hD0, va_S.rf⟩
  have hA : ∀ q : Nat, s.heap.size ≤ q → Af cs ad sz q := fun q h => Or.inr (by rw [hsz] at h; exact h)
  have hl := lv_entry ([.ref (ad 0)]) (n := 1) (Nat.le_of_ble_eq_true rfl)
  rw [lg_entry_eq]
  generalize (lg_sl ([.ref (ad 0)]) ++ List.replicate (1 - (lg_sl ([.ref (ad 0)])).length) Slot.unset).toArray = ls at hl ⊢
  have hl : lv_has ls 1 [(0, .ref (ad 0))] := hl
  refine lv_aload_n hx hb dX12_fault_0 rfl (lv_at hl 0 rfl) ?_
  refine hp_get hx hb hts ix12 hown hK hh (q := 0) rfl (hcs _ (by decide)) mz rfl 0 (by decide) (hts _ tw_879) (fun _ h9 => h9) rfl dX12_fault_1 ?_
  exact hp_iretM hx hb hr rfl hlocks hh (rfl) dX12_fault_4
theorem kw_X12_fault {R : Room} {s : State} {args : Array Value} {own : String} {idx : Nat} (hts : ∀ w ∈ TB, w.before args s = true) (hl : Cond.methodLink own idx yX12_fault ∈ TB) (hR : 1 + 1 ≤ R.frames ∧ 8 + (1 + 11) + 40 * 1 ≤ R.locals) : CallW R s args own RX12 idx yX12_fault cX12_fault 1 (some .int) (Cond.code yX12_fault cX12_fault 1 (some .int) :: TB) (rmN 1) 0 0 0 := cwV 0 hts (TB_V hl tw_1252 tw_1253 tw_9 tw_1254) rfl rfl rfl (by decide +kernel) hR
set_option maxHeartbeats 4000000 in
set_option maxRecDepth 100000 in
/-- closed, new object -/
theorem c_X12_closed (l : Launch) (D : va_G) (cy : Nat → ClassId) (sz : Nat) (cs : List Nat) (ad : Nat → Nat) (en : Nat → va_E) (hcs : ∀ c, c < 20 → c ∈ cs) (w : Int32) (mz : en 0 = .inr (11, [.int 0, .int 0, .int 2, .int 0, .int 0, .ref (ad 1), .ref (ad 2), .ref (ad 3), .ref (ad 4), .ref (ad 5), .ref (ad 6), .ref (ad 7), .ref (ad 8), .ref (ad 9), .int 0, .long 0, .long 0, .long 0, .long 0, .ref (ad 10), .ref (ad 11), .ref (ad 12), .int 0, .long 0, .ref (ad 13), .int (-9), .ref (ad 14), .ref (ad 15), .ref (ad 16), .ref (ad 17), .int 0, .ref (ad 18), .ref (ad 19)]))  : Met l yX12_closed (Cond.code yX12_closed cX12_closed 4 (some .int) :: TB) (rmN 1) (va_Pc [.ref (ad 0), .int w] (Pre D cy cs ad en sz)) (va_Qi (S := Nat → va_E) (fun r _ => r = if wi w 0 4 then (-3) else (-2)) (PostM D cs ad) (Af cs ad sz)) 0 0 (Af cs ad sz) := by
  refine Met.ofW (cc := cX12_closed) (maxL := 4) (ret := (some .int)) (by decide) rfl ?_
  intro p e s m args below meth c s₁ B hml hv
  obtain ⟨rfl, hsz, hP, hK, hD0⟩ := hv
  have hx := B.exec
  have hb := B.bytes
  have hr := B.returns
  have hts : ∀ w ∈ TB, w.before _ s = true := fun w h => atoms_spec (ws := _ :: TB) B.pre w (List.mem_cons_of_mem _ h)
  have hown : s.vm.findClass RX12 = some m.cls := findClass_of_methodNamed B.named
  have hlocks := B.notSynchronized
  have hh : Hp D (Af cs ad sz) (Af cs ad sz) s.heap s.heap [] cs ad en := ⟨hP, Af_self hD0, va_S.rf⟩
  have hA : ∀ q : Nat, s.heap.size ≤ q → Af cs ad sz q := fun q h => Or.inr (by rw [hsz] at h; exact h)
  have hl := lv_entry ([.ref (ad 0), .int w]) (n := 4) (Nat.le_of_ble_eq_true rfl)
  rw [lg_entry_eq]
  generalize (lg_sl ([.ref (ad 0), .int w]) ++ List.replicate (4 - (lg_sl ([.ref (ad 0), .int w])).length) Slot.unset).toArray = ls at hl ⊢
  have hl : lv_has ls 4 [(0, .ref (ad 0)), (1, .int w)] := hl
  refine lv_iload_n hx hb dX12_closed_0 rfl (lv_at hl 1 rfl) ?_
  refine lv_i2l hx hb dX12_closed_1 rfl ?_
  refine lv_lconst (v := 0) hx hb dX12_closed_2 (by decide) ?_
  refine lv_ldc2 hx hb hown (hts _ tw_1141) dX12_closed_3 ?_
  refine hp_callRi (va_runS (As := [.long w.toInt64, .long 0, .long 4]) (rest := []) ⟨hx, hb, hml, hown, hts⟩ (c_X12_within l D cy _ cs ad en w.toInt64 0 4 ) (kw_X12_within hts tw_985 ⟨by decide, by decide⟩) (preS_of hh hK) rfl rfl hl.1 rfl (lv_room (Nat.le_of_ble_eq_true rfl)) dX12_closed_6 ⟨Nat.le_of_ble_eq_true rfl, Nat.le_of_ble_eq_true rfl⟩) hh hA (fun r_193 H locs hw_193 hh => ?_)
  rcases Decidable.em (wi w 0 4) with hp_193 | hp_193
  · obtain rfl : r_193 = 1 := Eq.trans hw_193 (if_pos ((wj_32 (by decide) (by decide)).mpr hp_193))
    refine lv_if_ne (tgt := 15) hx hb dX12_closed_9 (by decide) (fun _ => ?_) (fun c_0 => absurd c_0 (by decide))
    refine lv_aload_n hx hb dX12_closed_15 rfl (lv_at hl 0 rfl) ?_
    refine hp_get hx hb hts ix12 hown hK hh (q := 0) rfl (hcs _ (by decide)) mz rfl 25 (by decide) (hts _ tw_904) (fun _ h9 => h9) rfl dX12_closed_16 ?_
    refine lv_bipush (v := (-9)) hx hb dX12_closed_19 (by decide) ?_
    refine lv_icmp_ne (tgt := 27) hx hb dX12_closed_21 (by decide) (fun c_0 => absurd c_0 (by decide)) (fun _ => ?_)
    refine lv_bipush (v := (-3)) hx hb dX12_closed_24 (by decide) ?_
    exact hp_iretM hx hb hr rfl hlocks hh ((if_pos hp_193).symm) dX12_closed_26
  · obtain rfl : r_193 = 0 := Eq.trans hw_193 (if_neg (fun q => hp_193 ((wj_32 (by decide) (by decide)).mp q)))
    refine lv_if_ne (tgt := 15) hx hb dX12_closed_9 (by decide) (fun c_0 => absurd c_0 (by decide)) (fun _ => ?_)
    refine lv_bipush (v := (-2)) hx hb dX12_closed_12 (by decide) ?_
    exact hp_iretM hx hb hr rfl hlocks hh ((if_neg hp_193).symm) dX12_closed_14
theorem kw_X12_closed {R : Room} {s : State} {args : Array Value} {own : String} {idx : Nat} (hts : ∀ w ∈ TB, w.before args s = true) (hl : Cond.methodLink own idx yX12_closed ∈ TB) (hR : 1 + 1 ≤ R.frames ∧ 8 + (4 + 11) + 40 * 1 ≤ R.locals) : CallW R s args own RX12 idx yX12_closed cX12_closed 4 (some .int) (Cond.code yX12_closed cX12_closed 4 (some .int) :: TB) (rmN 1) 0 0 1 := cwV 1 hts (TB_V hl tw_1138 tw_1139 tw_9 tw_1140) rfl rfl rfl (by decide +kernel) hR
set_option maxHeartbeats 4000000 in
set_option maxRecDepth 100000 in
/-- growth, new object -/
theorem c_X12_growth (l : Launch) (D : va_G) (cy : Nat → ClassId) (sz : Nat) (cs : List Nat) (ad : Nat → Nat) (en : Nat → va_E) (hcs : ∀ c, c < 20 → c ∈ cs) (a b n : Int32) (mz : en 0 = .inr (11, [.int 0, .int 0, .int 2, .int 0, .int 0, .ref (ad 1), .ref (ad 2), .ref (ad 3), .ref (ad 4), .ref (ad 5), .ref (ad 6), .ref (ad 7), .ref (ad 8), .ref (ad 9), .int 0, .long 0, .long 0, .long 0, .long 0, .ref (ad 10), .ref (ad 11), .ref (ad 12), .int 0, .long 0, .ref (ad 13), .int (-9), .ref (ad 14), .ref (ad 15), .ref (ad 16), .ref (ad 17), .int 0, .ref (ad 18), .ref (ad 19)]))  : Met l yX12_growth (Cond.code yX12_growth cX12_growth 7 (some .int) :: TB) (rmN 1) (va_Pc [.ref (ad 0), .int a, .int b, .int n] (Pre D cy cs ad en sz)) (va_Qi (S := Nat → va_E) (fun r _ => r = if wi a 1 9 ∧ wi b 1 9 ∧ wi n 1 7 then (-3) else (-2)) (PostM D cs ad) (Af cs ad sz)) 0 0 (Af cs ad sz) := by
  refine Met.ofW (cc := cX12_growth) (maxL := 7) (ret := (some .int)) (by decide) rfl ?_
  intro p e s m args below meth c s₁ B hml hv
  obtain ⟨rfl, hsz, hP, hK, hD0⟩ := hv
  have hx := B.exec
  have hb := B.bytes
  have hr := B.returns
  have hts : ∀ w ∈ TB, w.before _ s = true := fun w h => atoms_spec (ws := _ :: TB) B.pre w (List.mem_cons_of_mem _ h)
  have hown : s.vm.findClass RX12 = some m.cls := findClass_of_methodNamed B.named
  have hlocks := B.notSynchronized
  have hh : Hp D (Af cs ad sz) (Af cs ad sz) s.heap s.heap [] cs ad en := ⟨hP, Af_self hD0, va_S.rf⟩
  have hA : ∀ q : Nat, s.heap.size ≤ q → Af cs ad sz q := fun q h => Or.inr (by rw [hsz] at h; exact h)
  have hl := lv_entry ([.ref (ad 0), .int a, .int b, .int n]) (n := 7) (Nat.le_of_ble_eq_true rfl)
  rw [lg_entry_eq]
  generalize (lg_sl ([.ref (ad 0), .int a, .int b, .int n]) ++ List.replicate (7 - (lg_sl ([.ref (ad 0), .int a, .int b, .int n])).length) Slot.unset).toArray = ls at hl ⊢
  have hl : lv_has ls 7 [(0, .ref (ad 0)), (1, .int a), (2, .int b), (3, .int n)] := hl
  refine lv_iload_n hx hb dX12_growth_0 rfl (lv_at hl 1 rfl) ?_
  refine lv_i2l hx hb dX12_growth_1 rfl ?_
  refine lv_lconst (v := 1) hx hb dX12_growth_2 (by decide) ?_
  refine lv_ldc2 hx hb hown (hts _ tw_1002) dX12_growth_3 ?_
  refine hp_callRi (va_runS (As := [.long a.toInt64, .long 1, .long 9]) (rest := []) ⟨hx, hb, hml, hown, hts⟩ (c_X12_within l D cy _ cs ad en a.toInt64 1 9 ) (kw_X12_within hts tw_985 ⟨by decide, by decide⟩) (preS_of hh hK) rfl rfl hl.1 rfl (lv_room (Nat.le_of_ble_eq_true rfl)) dX12_growth_6 ⟨Nat.le_of_ble_eq_true rfl, Nat.le_of_ble_eq_true rfl⟩) hh hA (fun r_194 H locs hw_194 hh => ?_)
  rcases Decidable.em (wi a 1 9) with hp_194 | hp_194
  · obtain rfl : r_194 = 1 := Eq.trans hw_194 (if_pos ((wj_32 (by decide) (by decide)).mpr hp_194))
    refine lv_if_eq (tgt := 36) hx hb dX12_growth_9 (by decide) (fun c_0 => absurd c_0 (by decide)) (fun _ => ?_)
    refine lv_iload_n hx hb dX12_growth_12 rfl (lv_at hl 2 rfl) ?_
    refine lv_i2l hx hb dX12_growth_13 rfl ?_
    refine lv_lconst (v := 1) hx hb dX12_growth_14 (by decide) ?_
    refine lv_ldc2 hx hb hown (hts _ tw_1002) dX12_growth_15 ?_
    refine hp_callRi (va_runS (As := [.long b.toInt64, .long 1, .long 9]) (rest := []) ⟨hx, hb, hml, hown, hts⟩ (c_X12_within l D cy _ cs ad en b.toInt64 1 9 ) (kw_X12_within hts tw_985 ⟨by decide, by decide⟩) (preS_of hh hK) rfl rfl hl.1 rfl (lv_room (Nat.le_of_ble_eq_true rfl)) dX12_growth_18 ⟨Nat.le_of_ble_eq_true rfl, Nat.le_of_ble_eq_true rfl⟩) hh hA (fun r_195 H locs hw_195 hh => ?_)
    rcases Decidable.em (wi b 1 9) with hp_195 | hp_195
    · obtain rfl : r_195 = 1 := Eq.trans hw_195 (if_pos ((wj_32 (by decide) (by decide)).mpr hp_195))
      refine lv_if_eq (tgt := 36) hx hb dX12_growth_21 (by decide) (fun c_0 => absurd c_0 (by decide)) (fun _ => ?_)
      refine lv_iload_n hx hb dX12_growth_24 rfl (lv_at hl 3 rfl) ?_
      refine lv_i2l hx hb dX12_growth_25 rfl ?_
      refine lv_lconst (v := 1) hx hb dX12_growth_26 (by decide) ?_
      refine lv_ldc2 hx hb hown (hts _ tw_1109) dX12_growth_27 ?_
      refine hp_callRi (va_runS (As := [.long n.toInt64, .long 1, .long 7]) (rest := []) ⟨hx, hb, hml, hown, hts⟩ (c_X12_within l D cy _ cs ad en n.toInt64 1 7 ) (kw_X12_within hts tw_985 ⟨by decide, by decide⟩) (preS_of hh hK) rfl rfl hl.1 rfl (lv_room (Nat.le_of_ble_eq_true rfl)) dX12_growth_30 ⟨Nat.le_of_ble_eq_true rfl, Nat.le_of_ble_eq_true rfl⟩) hh hA (fun r_196 H locs hw_196 hh => ?_)
      rcases Decidable.em (wi n 1 7) with hp_196 | hp_196
      · obtain rfl : r_196 = 1 := Eq.trans hw_196 (if_pos ((wj_32 (by decide) (by decide)).mpr hp_196))
        refine lv_if_ne (tgt := 39) hx hb dX12_growth_33 (by decide) (fun _ => ?_) (fun c_0 => absurd c_0 (by decide))
        refine lv_aload_n hx hb dX12_growth_39 rfl (lv_at hl 0 rfl) ?_
        refine hp_get hx hb hts ix12 hown hK hh (q := 0) rfl (hcs _ (by decide)) mz rfl 3 (by decide) (hts _ tw_882) (fun _ h9 => h9) rfl dX12_growth_40 ?_
        refine lv_if_gt (tgt := 53) hx hb dX12_growth_43 (by decide) (fun c_0 => absurd c_0 (by decide)) (fun _ => ?_)
        refine lv_aload_n hx hb dX12_growth_46 rfl (lv_at hl 0 rfl) ?_
        refine hp_get hx hb hts ix12 hown hK hh (q := 0) rfl (hcs _ (by decide)) mz rfl 4 (by decide) (hts _ tw_883) (fun _ h9 => h9) rfl dX12_growth_47 ?_
        refine lv_if_ne (tgt := 56) hx hb dX12_growth_50 (by decide) (fun c_0 => absurd c_0 (by decide)) (fun _ => ?_)
        refine lv_bipush (v := (-3)) hx hb dX12_growth_53 (by decide) ?_
        exact hp_iretM hx hb hr rfl hlocks hh ((if_pos ⟨hp_194, hp_195, hp_196⟩).symm) dX12_growth_55
      · obtain rfl : r_196 = 0 := Eq.trans hw_196 (if_neg (fun q => hp_196 ((wj_32 (by decide) (by decide)).mp q)))
        refine lv_if_ne (tgt := 39) hx hb dX12_growth_33 (by decide) (fun c_0 => absurd c_0 (by decide)) (fun _ => ?_)
        refine lv_bipush (v := (-2)) hx hb dX12_growth_36 (by decide) ?_
        exact hp_iretM hx hb hr rfl hlocks hh ((if_neg (fun h => hp_196 h.2.2)).symm) dX12_growth_38
    · obtain rfl : r_195 = 0 := Eq.trans hw_195 (if_neg (fun q => hp_195 ((wj_32 (by decide) (by decide)).mp q)))
      refine lv_if_eq (tgt := 36) hx hb dX12_growth_21 (by decide) (fun _ => ?_) (fun c_0 => absurd c_0 (by decide))
      refine lv_bipush (v := (-2)) hx hb dX12_growth_36 (by decide) ?_
      exact hp_iretM hx hb hr rfl hlocks hh ((if_neg (fun h => hp_195 h.2.1)).symm) dX12_growth_38
  · obtain rfl : r_194 = 0 := Eq.trans hw_194 (if_neg (fun q => hp_194 ((wj_32 (by decide) (by decide)).mp q)))
    refine lv_if_eq (tgt := 36) hx hb dX12_growth_9 (by decide) (fun _ => ?_) (fun c_0 => absurd c_0 (by decide))
    refine lv_bipush (v := (-2)) hx hb dX12_growth_36 (by decide) ?_
    exact hp_iretM hx hb hr rfl hlocks hh ((if_neg (fun h => hp_194 h.1)).symm) dX12_growth_38
theorem kw_X12_growth {R : Room} {s : State} {args : Array Value} {own : String} {idx : Nat} (hts : ∀ w ∈ TB, w.before args s = true) (hl : Cond.methodLink own idx yX12_growth ∈ TB) (hR : 1 + 1 ≤ R.frames ∧ 8 + (7 + 11) + 40 * 1 ≤ R.locals) : CallW R s args own RX12 idx yX12_growth cX12_growth 7 (some .int) (Cond.code yX12_growth cX12_growth 7 (some .int) :: TB) (rmN 1) 0 0 3 := cwV 3 hts (TB_V hl tw_1106 tw_1107 tw_9 tw_1108) rfl rfl rfl (by decide +kernel) hR
set_option maxHeartbeats 4000000 in
set_option maxRecDepth 100000 in
/-- told, new object -/
theorem c_X12_told (l : Launch) (D : va_G) (cy : Nat → ClassId) (sz : Nat) (cs : List Nat) (ad : Nat → Nat) (en : Nat → va_E) (hcs : ∀ c, c < 20 → c ∈ cs) (w : Int32) (mz : en 0 = .inr (11, [.int 0, .int 0, .int 2, .int 0, .int 0, .ref (ad 1), .ref (ad 2), .ref (ad 3), .ref (ad 4), .ref (ad 5), .ref (ad 6), .ref (ad 7), .ref (ad 8), .ref (ad 9), .int 0, .long 0, .long 0, .long 0, .long 0, .ref (ad 10), .ref (ad 11), .ref (ad 12), .int 0, .long 0, .ref (ad 13), .int (-9), .ref (ad 14), .ref (ad 15), .ref (ad 16), .ref (ad 17), .int 0, .ref (ad 18), .ref (ad 19)]))  : Met l yX12_told (Cond.code yX12_told cX12_told 5 (some .int) :: TB) (rmN 1) (va_Pc [.ref (ad 0), .int w] (Pre D cy cs ad en sz)) (va_Qi (S := Nat → va_E) (fun r _ => r = spTold w) (PostM D cs ad) (Af cs ad sz)) 0 0 (Af cs ad sz) := by
  refine Met.ofW (cc := cX12_told) (maxL := 5) (ret := (some .int)) (by decide) rfl ?_
  intro p e s m args below meth c s₁ B hml hv
  obtain ⟨rfl, hsz, hP, hK, hD0⟩ := hv
  have hx := B.exec
  have hb := B.bytes
  have hr := B.returns
  have hts : ∀ w ∈ TB, w.before _ s = true := fun w h => atoms_spec (ws := _ :: TB) B.pre w (List.mem_cons_of_mem _ h)
  have hown : s.vm.findClass RX12 = some m.cls := findClass_of_methodNamed B.named
  have hlocks := B.notSynchronized
  have hh : Hp D (Af cs ad sz) (Af cs ad sz) s.heap s.heap [] cs ad en := ⟨hP, Af_self hD0, va_S.rf⟩
  have hA : ∀ q : Nat, s.heap.size ≤ q → Af cs ad sz q := fun q h => Or.inr (by rw [hsz] at h; exact h)
  have hl := lv_entry ([.ref (ad 0), .int w]) (n := 5) (Nat.le_of_ble_eq_true rfl)
  rw [lg_entry_eq]
  generalize (lg_sl ([.ref (ad 0), .int w]) ++ List.replicate (5 - (lg_sl ([.ref (ad 0), .int w])).length) Slot.unset).toArray = ls at hl ⊢
  have hl : lv_has ls 5 [(0, .ref (ad 0)), (1, .int w)] := hl
  refine lv_iload_n hx hb dX12_told_0 rfl (lv_at hl 1 rfl) ?_
  by_cases q_197_0 : w = 0
  · refine lv_tableIn (off := 35) (tgt := 36) hx hb dX12_told_1 (by rw [q_197_0]; decide) (by rw [q_197_0]; decide) (by rw [q_197_0]; decide) (by decide) ?_
    refine lv_aload_n hx hb dX12_told_36 rfl (lv_at hl 0 rfl) ?_
    refine hp_get hx hb hts ix12 hown hK hh (q := 0) rfl (hcs _ (by decide)) mz rfl 4 (by decide) (hts _ tw_883) (fun _ h9 => h9) rfl dX12_told_37 ?_
    exact hp_iretM hx hb hr rfl hlocks hh (by rw [q_197_0]; decide) dX12_told_40
  by_cases q_197_1 : w = 1
  · refine lv_tableIn (off := 40) (tgt := 41) hx hb dX12_told_1 (by rw [q_197_1]; decide) (by rw [q_197_1]; decide) (by rw [q_197_1]; decide) (by decide) ?_
    refine lv_aload_n hx hb dX12_told_41 rfl (lv_at hl 0 rfl) ?_
    refine hp_get hx hb hts ix12 hown hK hh (q := 0) rfl (hcs _ (by decide)) mz rfl 2 (by decide) (hts _ tw_881) (fun _ h9 => h9) rfl dX12_told_42 ?_
    exact hp_iretM hx hb hr rfl hlocks hh (by rw [q_197_1]; decide) dX12_told_45
  by_cases q_197_2 : w = 2
  · refine lv_tableIn (off := 45) (tgt := 46) hx hb dX12_told_1 (by rw [q_197_2]; decide) (by rw [q_197_2]; decide) (by rw [q_197_2]; decide) (by decide) ?_
    refine lv_aload_n hx hb dX12_told_46 rfl (lv_at hl 0 rfl) ?_
    refine hp_get hx hb hts ix12 hown hK hh (q := 0) rfl (hcs _ (by decide)) mz rfl 3 (by decide) (hts _ tw_882) (fun _ h9 => h9) rfl dX12_told_47 ?_
    exact hp_iretM hx hb hr rfl hlocks hh (by rw [q_197_2]; decide) dX12_told_50
  by_cases q_197_3 : w = 3
  · refine lv_tableIn (off := 50) (tgt := 51) hx hb dX12_told_1 (by rw [q_197_3]; decide) (by rw [q_197_3]; decide) (by rw [q_197_3]; decide) (by decide) ?_
    refine lv_aload_n hx hb dX12_told_51 rfl (lv_at hl 0 rfl) ?_
    refine hp_get hx hb hts ix12 hown hK hh (q := 0) rfl (hcs _ (by decide)) mz rfl 30 (by decide) (hts _ tw_909) (fun _ h9 => h9) rfl dX12_told_52 ?_
    exact hp_iretM hx hb hr rfl hlocks hh (by rw [q_197_3]; decide) dX12_told_55
  by_cases q_197_4 : w = 4
  · refine lv_tableIn (off := 55) (tgt := 56) hx hb dX12_told_1 (by rw [q_197_4]; decide) (by rw [q_197_4]; decide) (by rw [q_197_4]; decide) (by decide) ?_
    refine lv_iconst (v := 0) hx hb dX12_told_56 (by decide) ?_
    refine lv_istore_n (lv' := [(2, .int 0), (0, .ref (ad 0)), (1, .int w)]) hx hb dX12_told_57 rfl hl (by decide) rfl (fun ls hl => ?_)
    refine lv_iconst (v := 0) hx hb dX12_told_58 (by decide) ?_
    refine lv_istore_n (lv' := [(3, .int 0), (2, .int 0), (0, .ref (ad 0)), (1, .int w)]) hx hb dX12_told_59 rfl hl (by decide) rfl (fun ls hl => ?_)
    refine lv_iload_n hx hb dX12_told_60 rfl (lv_at hl 0 rfl) ?_
    refine lv_aload_n hx hb dX12_told_61 rfl (lv_at hl 2 rfl) ?_
    refine hp_get hx hb hts ix12 hown hK hh (q := 0) rfl (hcs _ (by decide)) mz rfl 4 (by decide) (hts _ tw_883) (fun _ h9 => h9) rfl dX12_told_62 ?_
    refine lv_icmp_ge (tgt := 110) hx hb dX12_told_65 (by decide) (fun _ => ?_) (fun c_0 => absurd c_0 (by decide))
    refine lv_iload_n hx hb dX12_told_110 rfl (lv_at hl 1 rfl) ?_
    exact hp_iretM hx hb hr rfl hlocks hh (by rw [q_197_4]; decide) dX12_told_111
  refine lv_tableOut (tgt := 112) hx hb dX12_told_1 (tb_out 5 (by decide) (by decide) (fun j hj => by rcases (show j = 0 ∨ j = 1 ∨ j = 2 ∨ j = 3 ∨ j = 4 by omega) with rfl | rfl | rfl | rfl | rfl <;> first | exact lv_neT q_197_0 (by decide) | exact lv_neT q_197_1 (by decide) | exact lv_neT q_197_2 (by decide) | exact lv_neT q_197_3 (by decide) | exact lv_neT q_197_4 (by decide))) (by decide) ?_
  refine lv_bipush (v := (-2)) hx hb dX12_told_112 (by decide) ?_
  exact hp_iretM hx hb hr rfl hlocks hh ((spTold_d q_197_0 q_197_1 q_197_2 q_197_3 q_197_4).symm) dX12_told_114
theorem kw_X12_told {R : Room} {s : State} {args : Array Value} {own : String} {idx : Nat} (hts : ∀ w ∈ TB, w.before args s = true) (hl : Cond.methodLink own idx yX12_told ∈ TB) (hR : 1 + 1 ≤ R.frames ∧ 8 + (5 + 11) + 40 * 1 ≤ R.locals) : CallW R s args own RX12 idx yX12_told cX12_told 5 (some .int) (Cond.code yX12_told cX12_told 5 (some .int) :: TB) (rmN 1) 0 0 1 := cwV 1 hts (TB_V hl tw_1256 tw_1257 tw_9 tw_1258) rfl rfl rfl (by decide +kernel) hR
