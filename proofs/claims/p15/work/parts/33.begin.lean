set_option maxHeartbeats 4000000 in
set_option maxRecDepth 100000 in
/-- allowAll: all 36 places of allowed are true -/
theorem c_X8_allowAll (l : Launch) (D : va_G) (cy : Nat → ClassId) (sz : Nat) (cs : List Nat) (ad : Nat → Nat) (en : Nat → va_E) (hm1 : 1 ∈ cs) (hm10 : 10 ∈ cs) (cnt dd mm : Int32) (f0 : Nat → Int32) (e1 : en 1 = .inr (7, [.ref (ad 2), .ref (ad 3), .ref (ad 10), .ref (ad 11), .int cnt, .int dd, .int mm])) (e10 : en 10 = .inl (cy 2, 36, .inl f0))  : Met l yX8_allowAll (Cond.code yX8_allowAll cX8_allowAll 2 none :: TB) (rmN 0) (va_Pc [.ref (ad 1)] (Pre D cy cs ad en sz)) (va_Qv (S := Nat → va_E) (fun en1 => ∃ f : Nat → Int32, en1 = va_up en 10 (.inl (cy 2, 36, .inl f)) ∧ ∀ i, i < 36 → f i = 1) (PostM D cs ad) (Af cs ad sz)) 0 0 (Af cs ad sz) := by
  refine Met.ofW (cc := cX8_allowAll) (maxL := 2) (ret := none) (by decide) rfl ?_
  intro p e s m args below meth c s₁ B hml hv
  obtain ⟨rfl, hsz, hP, hK, hD0⟩ := hv
  have hx := B.exec
  have hb := B.bytes
  have hr := B.returns
  have hts : ∀ w ∈ TB, w.before _ s = true := fun w h => atoms_spec (ws := _ :: TB) B.pre w (List.mem_cons_of_mem _ h)
  have hown : s.vm.findClass RX8 = some m.cls := findClass_of_methodNamed B.named
  have hlocks := B.notSynchronized
  have hh : Hp D (Af cs ad sz) (Af cs ad sz) s.heap s.heap [] cs ad en := ⟨hP, Af_self hD0, va_S.rf⟩
  have hA : ∀ q : Nat, s.heap.size ≤ q → Af cs ad sz q := fun q h => Or.inr (by rw [hsz] at h; exact h)
  have hl := lv_entry ([.ref (ad 1)]) (n := 2) (Nat.le_of_ble_eq_true rfl)
  rw [lg_entry_eq]
  generalize (lg_sl ([.ref (ad 1)]) ++ List.replicate (2 - (lg_sl ([.ref (ad 1)])).length) Slot.unset).toArray = ls at hl ⊢
  have hl : lv_has ls 2 [(0, .ref (ad 1))] := hl
  refine lv_iconst (v := 0) hx hb dX8_allowAll_0 (by decide) ?_
  refine lv_istore_n (lv' := [(1, .int 0), (0, .ref (ad 1))]) hx hb dX8_allowAll_1 rfl hl (by decide) rfl (fun ls hl => ?_)
  have loop_67 : ∀ (fu j : Nat) (g : Nat → Int32) (ls : Array Slot) (H : Heap) (locs : List Loc) (en_67 : Nat → va_E), j ≤ 36 → 36 < j + fu → en_67 = va_up en 10 (.inl (cy 2, 36, .inl g)) → (∀ i, i < j → g i = 1) → lv_has ls 2 [(1, .int (nI j)), (0, .ref (ad 1))] → Hp D (Af cs ad sz) (Af cs ad sz) s.heap H locs cs ad en_67 → W p l e (headSpec (Cond.code yX8_allowAll cX8_allowAll 2 none :: TB) (rmN 0)).room s m ([.ref (ad 1)] : List Value).toArray below meth c H locs 0 0 (MQ below (va_Qv (S := Nat → va_E) (fun en1 => ∃ f : Nat → Int32, en1 = va_up en 10 (.inl (cy 2, 36, .inl f)) ∧ ∀ i, i < 36 → f i = 1) (PostM D cs ad) (Af cs ad sz)) ([.ref (ad 1)] : List Value).toArray s 0 0 (Af cs ad sz)) (F0 m 2 ls []) := by
    intro fu
    induction fu with
    | zero => intro j g ls H locs en_67 h1 h2; exact absurd h2 (by omega)
    | succ fu ih =>
      intro j g ls H locs en_67 hj hn hen_67 hg hl hh
      have e1_67 : en_67 1 = .inr (7, [.ref (ad 2), .ref (ad 3), .ref (ad 10), .ref (ad 11), .int cnt, .int dd, .int mm]) := by rw [hen_67, va_up_ne _ _ (by decide)]; exact e1
      have e10_67 : en_67 10 = .inl (cy 2, 36, .inl g) := by rw [hen_67]; exact va_up_self _ _ _
      rcases Nat.lt_or_ge j 36 with hjN | hjN
      · refine lv_iload_n hx hb dX8_allowAll_2 rfl (lv_at hl 0 rfl) ?_
        refine lv_bipush (v := 36) hx hb dX8_allowAll_3 (by decide) ?_
        refine lv_icmp_ge (tgt := 21) hx hb dX8_allowAll_5 (by decide) (fun c_0 => absurd c_0 (nI_ge (b := 36) hjN (by decide))) (fun _ => ?_)
        refine lv_aload_n hx hb dX8_allowAll_8 rfl (lv_at hl 1 rfl) ?_
        refine hp_get hx hb hts ix8 hown hK hh (q := 1) rfl hm1 e1_67 rfl 2 (by decide) (hts _ tw_41) (fun _ h9 => h9) rfl dX8_allowAll_9 ?_
        refine lv_iload_n hx hb dX8_allowAll_12 rfl (lv_at hl 0 rfl) ?_
        refine lv_iconst (v := 1) hx hb dX8_allowAll_13 (by decide) ?_
        refine hp_zast hx hb hK hh (q := 10) rfl hm10 e10_67 (vp_in_nI hjN (by decide)) dX8_allowAll_14 (fun H locs en_68 hen_68 hh => ?_)
        have e1_68 : en_68 1 = .inr (7, [.ref (ad 2), .ref (ad 3), .ref (ad 10), .ref (ad 11), .int cnt, .int dd, .int mm]) := by rw [hen_68, va_up_ne _ _ (by decide)]; exact e1_67
        have e10_68 : en_68 10 = .inl (cy 2, 36, .inl (upd g (nI j).toNatClampNeg (vp_nar .boolean 1))) := by rw [hen_68]; exact va_up_self _ _ _
        refine lv_iinc (v := nI (j + 1)) (lv' := [(1, .int (nI (j + 1))), (0, .ref (ad 1))]) hx hb dX8_allowAll_15 hl (k := 0) rfl (nI_1 _) (by decide) rfl (fun ls hl => ?_)
        refine lv_goto (tgt := 2) hx hb dX8_allowAll_18 (by decide) ?_
        exact ih (j + 1) _ ls H locs en_68 (by omega) (by omega) (by rw [hen_68, hen_67, bx_uu]; try rfl) (up_lt hjN (by decide) hg) (lv_sub hl [0, 1] rfl) hh
      · have hgN : ∀ i, i < 36 → g i = 1 := fun i hi => hg i (by omega)
        refine lv_iload_n hx hb dX8_allowAll_2 rfl (lv_at hl 0 rfl) ?_
        refine lv_bipush (v := 36) hx hb dX8_allowAll_3 (by decide) ?_
        refine lv_icmp_ge (tgt := 21) hx hb dX8_allowAll_5 (by decide) (fun _ => ?_) (fun c_0 => absurd (nI_le (a := 36) hjN (by omega)) c_0)
        exact hp_vretM hx hb hr hlocks hh (⟨g, hen_67, hgN⟩) dX8_allowAll_21
  exact loop_67 (36 + 1) 0 f0 ls _ _ en (Nat.zero_le _) (by omega) (va_up_id e10).symm (fun i hi => absurd hi (Nat.not_lt_zero i)) (lv_sub hl [0, 1] rfl) hh
theorem kw_X8_allowAll {R : Room} {s : State} {args : Array Value} {own : String} {idx : Nat} (hts : ∀ w ∈ TB, w.before args s = true) (hl : Cond.methodLink own idx yX8_allowAll ∈ TB) (hR : 0 + 1 ≤ R.frames ∧ 8 + (2 + 11) + 40 * 0 ≤ R.locals) : CallW R s args own RX8 idx yX8_allowAll cX8_allowAll 2 none (Cond.code yX8_allowAll cX8_allowAll 2 none :: TB) (rmN 0) 0 0 0 := cwV 0 hts (TB_V hl tw_37 ts_0 tw_2 tw_38) rfl rfl rfl (by decide +kernel) hR
set_option maxHeartbeats 4000000 in
set_option maxRecDepth 100000 in
/-- restart -/
theorem c_X8_restart (l : Launch) (D : va_G) (cy : Nat → ClassId) (sz : Nat) (cs : List Nat) (ad : Nat → Nat) (en : Nat → va_E) (hI : SX cy cs ad en) (nd nm : Nat) (h2 : 2 ≤ nd) (h3 : nd ≤ 3) (h97 : nm ≤ 97)   : Met l yX8_restart (Cond.code yX8_restart cX8_restart 3 none :: TB) (rmN 1) (va_Pc [.ref (ad 1), .int (nI nd), .int (nI nm)] (Pre D cy cs ad en sz)) (va_Qv (S := Nat → va_E) (fun en1 => SX cy cs ad en1 ∧ (∀ c, (c ≠ 1 ∧ c ≠ 10) → en1 c = en c) ∧ rdI (en1 1) 4 = nI 0 ∧ rdI (en1 1) 5 = nI nd ∧ rdI (en1 1) 6 = nI nm ∧ (∀ i, i < 36 → rdF (en1 10) i = 1)) (PostM D cs ad) (Af cs ad sz)) 0 0 (Af cs ad sz) := by
  refine Met.ofW (cc := cX8_restart) (maxL := 3) (ret := none) (by decide) rfl ?_
  intro p e s m args below meth c s₁ B hml hv
  obtain ⟨rfl, hsz, hP, hK, hD0⟩ := hv
  have hx := B.exec
  have hb := B.bytes
  have hr := B.returns
  have hts : ∀ w ∈ TB, w.before _ s = true := fun w h => atoms_spec (ws := _ :: TB) B.pre w (List.mem_cons_of_mem _ h)
  have hown : s.vm.findClass RX8 = some m.cls := findClass_of_methodNamed B.named
  have hlocks := B.notSynchronized
  have hh : Hp D (Af cs ad sz) (Af cs ad sz) s.heap s.heap [] cs ad en := ⟨hP, Af_self hD0, va_S.rf⟩
  have hA : ∀ q : Nat, s.heap.size ≤ q → Af cs ad sz q := fun q h => Or.inr (by rw [hsz] at h; exact h)
  have hl := lv_entry ([.ref (ad 1), .int (nI nd), .int (nI nm)]) (n := 3) (Nat.le_of_ble_eq_true rfl)
  rw [lg_entry_eq]
  generalize (lg_sl ([.ref (ad 1), .int (nI nd), .int (nI nm)]) ++ List.replicate (3 - (lg_sl ([.ref (ad 1), .int (nI nd), .int (nI nm)])).length) Slot.unset).toArray = ls at hl ⊢
  have hl : lv_has ls 3 [(0, .ref (ad 1)), (1, .int (nI nd)), (2, .int (nI nm))] := hl
  have hf0 : ∀ c, (c ≠ 1 ∧ c ≠ 10) → en c = en c := fun _ _ => rfl
  obtain ⟨cnt, d, mm, es853, hcnt, hd2, hd3, hmm⟩ := get_T hI
  obtain ⟨f10, es854, hb10⟩ := get_alw hI
  refine lv_aload_n hx hb dX8_restart_0 rfl (lv_at hl 0 rfl) ?_
  refine lv_iload_n hx hb dX8_restart_1 rfl (lv_at hl 1 rfl) ?_
  refine hp_put hx hb hts ix8 tyX8 tyX8_ok nmX8 hown hK hh (q := 1) rfl (hI.1 _ (by decide)) es853 rfl 5 (by decide) (hts _ tw_44) (fun _ h9 => h9) rfl (ty := .int) (by decide +kernel) rfl rfl (Nat.le_of_ble_eq_true rfl) dX8_restart_2 (fun H locs en_855 hen_855 hh => ?_)
  have es854_855 : en_855 10 = .inl (cy 2, 36, .inl f10) := by rw [hen_855, va_up_ne _ _ (by decide)]; exact es854
  have es853_855 : en_855 1 = .inr (7, [.ref (ad 2), .ref (ad 3), .ref (ad 10), .ref (ad 11), .int (nI cnt), .int (nI nd), .int (nI mm)]) := by rw [hen_855]; exact va_up_self _ _ _
  have hI_855 : SX cy cs ad en_855 := by rw [hen_855]; exact up_T hI ⟨cnt, nd, mm, rfl, hcnt, (by omega), (by omega), hmm⟩
  have hf_855 : ∀ c, (c ≠ 1 ∧ c ≠ 10) → en_855 c = en c := fun c hc => Eq.trans (show en_855 c = en c from by rw [hen_855, va_up_ne _ _ (by omega)]) (hf0 c hc)
  refine lv_aload_n hx hb dX8_restart_5 rfl (lv_at hl 0 rfl) ?_
  refine lv_iload_n hx hb dX8_restart_6 rfl (lv_at hl 2 rfl) ?_
  refine hp_put hx hb hts ix8 tyX8 tyX8_ok nmX8 hown hK hh (q := 1) rfl (hI.1 _ (by decide)) es853_855 rfl 6 (by decide) (hts _ tw_45) (fun _ h9 => h9) rfl (ty := .int) (by decide +kernel) rfl rfl (Nat.le_of_ble_eq_true rfl) dX8_restart_7 (fun H locs en_856 hen_856 hh => ?_)
  have es854_856 : en_856 10 = .inl (cy 2, 36, .inl f10) := by rw [hen_856, va_up_ne _ _ (by decide)]; exact es854_855
  have es853_856 : en_856 1 = .inr (7, [.ref (ad 2), .ref (ad 3), .ref (ad 10), .ref (ad 11), .int (nI cnt), .int (nI nd), .int (nI nm)]) := by rw [hen_856]; exact va_up_self _ _ _
  have hI_856 : SX cy cs ad en_856 := by rw [hen_856]; exact up_T hI_855 ⟨cnt, nd, nm, rfl, hcnt, (by omega), (by omega), (by omega)⟩
  have hf_856 : ∀ c, (c ≠ 1 ∧ c ≠ 10) → en_856 c = en c := fun c hc => Eq.trans (show en_856 c = en_855 c from by rw [hen_856, va_up_ne _ _ (by omega)]) (hf_855 c hc)
  refine lv_aload_n hx hb dX8_restart_10 rfl (lv_at hl 0 rfl) ?_
  refine lv_iconst (v := 0) hx hb dX8_restart_11 (by decide) ?_
  refine hp_put hx hb hts ix8 tyX8 tyX8_ok nmX8 hown hK hh (q := 1) rfl (hI.1 _ (by decide)) es853_856 rfl 4 (by decide) (hts _ tw_43) (fun _ h9 => h9) rfl (ty := .int) (by decide +kernel) rfl rfl (Nat.le_of_ble_eq_true rfl) dX8_restart_12 (fun H locs en_857 hen_857 hh => ?_)
  have es854_857 : en_857 10 = .inl (cy 2, 36, .inl f10) := by rw [hen_857, va_up_ne _ _ (by decide)]; exact es854_856
  have es853_857 : en_857 1 = .inr (7, [.ref (ad 2), .ref (ad 3), .ref (ad 10), .ref (ad 11), .int 0, .int (nI nd), .int (nI nm)]) := by rw [hen_857]; exact va_up_self _ _ _
  have hI_857 : SX cy cs ad en_857 := by rw [hen_857]; exact up_T hI_856 ⟨0, nd, nm, rfl, (by omega), (by omega), (by omega), (by omega)⟩
  have hf_857 : ∀ c, (c ≠ 1 ∧ c ≠ 10) → en_857 c = en c := fun c hc => Eq.trans (show en_857 c = en_856 c from by rw [hen_857, va_up_ne _ _ (by omega)]) (hf_856 c hc)
  refine lv_aload_n hx hb dX8_restart_15 rfl (lv_at hl 0 rfl) ?_
  refine hp_callMv (va_runV (As := []) (rest := []) ⟨hx, hb, hml, hown, hts⟩ (c_X8_allowAll l D cy _ cs ad en_857 (hI.1 _ (by decide)) (hI.1 _ (by decide)) 0 (nI nd) (nI nm) f10 es853_857 es854_857) (kw_X8_allowAll hts tw_35 ⟨by decide, by decide⟩) (preV_of hh hK (hI.1 _ (by decide)) es853_857 rfl) rfl rfl hl.1 rfl (lv_room (Nat.le_of_ble_eq_true rfl)) dX8_restart_16 ⟨Nat.le_of_ble_eq_true rfl, Nat.le_of_ble_eq_true rfl⟩) hh hA (fun H locs en_858 hw_858 hh => ?_)
  obtain ⟨f_858, hen_858, hf9_858⟩ := hw_858
  have es853_858 : en_858 1 = .inr (7, [.ref (ad 2), .ref (ad 3), .ref (ad 10), .ref (ad 11), .int 0, .int (nI nd), .int (nI nm)]) := by rw [hen_858, va_up_ne _ _ (by decide)]; exact es853_857
  have es854_858 : en_858 10 = .inl (cy 2, 36, .inl f_858) := by rw [hen_858]; exact va_up_self _ _ _
  have hI_858 : SX cy cs ad en_858 := by rw [hen_858]; exact up_alw hI_857 ⟨f_858, rfl, (fun i hi => Or.inr (hf9_858 i hi))⟩
  have hf_858 : ∀ c, (c ≠ 1 ∧ c ≠ 10) → en_858 c = en c := fun c hc => Eq.trans (show en_858 c = en_857 c from by rw [hen_858, va_up_ne _ _ (by omega)]) (hf_857 c hc)
  exact hp_vretM hx hb hr hlocks hh (⟨hI_858, hf_858, (by rw [es853_858]; rfl), (by rw [es853_858]; rfl), (by rw [es853_858]; rfl), (fun i hi => by rw [es854_858]; exact hf9_858 i hi)⟩) dX8_restart_19
theorem kw_X8_restart {R : Room} {s : State} {args : Array Value} {own : String} {idx : Nat} (hts : ∀ w ∈ TB, w.before args s = true) (hl : Cond.methodLink own idx yX8_restart ∈ TB) (hR : 1 + 1 ≤ R.frames ∧ 8 + (3 + 11) + 40 * 1 ≤ R.locals) : CallW R s args own RX8 idx yX8_restart cX8_restart 3 none (Cond.code yX8_restart cX8_restart 3 none :: TB) (rmN 1) 0 0 2 := cwV 2 hts (TB_V hl tw_278 tw_279 tw_2 tw_280) rfl rfl rfl (by decide +kernel) hR
set_option maxHeartbeats 4000000 in
set_option maxRecDepth 100000 in
/-- begin -/
theorem c_X11_begin (l : Launch) (D : va_G) (cy : Nat → ClassId) (sz : Nat) (cs : List Nat) (ad : Nat → Nat) (en : Nat → va_E) (hI : SX cy cs ad en) (d0 m0 : Int32)   : Met l yX11_begin (Cond.code yX11_begin cX11_begin 3 (some .int) :: TB) (rmN 2) (va_Pc [.ref (ad 0), .int d0, .int m0] (Pre D cy cs ad en sz)) (va_Qi (S := Nat → va_E) (fun r en1 => SX cy cs ad en1 ∧ (∀ c, ((2 ≤ c ∧ c < 10) ∨ c = 11 ∨ 71 ≤ c) → en1 c = en c) ∧ r = spBegin d0 m0 ∧ ((r = -2 ∧ en1 = en) ∨ (r = 1 ∧ rdI (en1 0) 6 = nI 0 ∧ rdI (en1 1) 4 = nI 0 ∧ (∃ (ea eb ec : Option Nat) (st0 cc0 ct0 un0 ow0 hn0 : Int32), en 70 = .inr (0, [.ref (ad 1), .ref (ad 71), .ref (ad 72), .ref (ad 73), va_rf ea, va_rf eb, va_rf ec, .int st0, .int cc0, .int ct0, .int un0, .int ow0, .int hn0]) ∧ en1 70 = .inr (0, [.ref (ad 1), .ref (ad 71), .ref (ad 72), .ref (ad 73), va_rf ea, va_rf eb, va_rf ec, .int 0, .int cc0, .int ct0, .int un0, .int ow0, .int hn0])) ∧ rdI (en1 1) 5 = d0 ∧ rdI (en1 1) 6 = m0 ∧ ∀ i, i < 36 → rdF (en1 10) i = 1))) (PostM D cs ad) (Af cs ad sz)) 0 0 (Af cs ad sz) := by
  refine Met.ofW (cc := cX11_begin) (maxL := 3) (ret := (some .int)) (by decide) rfl ?_
  intro p e s m args below meth c s₁ B hml hv
  obtain ⟨rfl, hsz, hP, hK, hD0⟩ := hv
  have hx := B.exec
  have hb := B.bytes
  have hr := B.returns
  have hts : ∀ w ∈ TB, w.before _ s = true := fun w h => atoms_spec (ws := _ :: TB) B.pre w (List.mem_cons_of_mem _ h)
  have hown : s.vm.findClass RX11 = some m.cls := findClass_of_methodNamed B.named
  have hlocks := B.notSynchronized
  have hh : Hp D (Af cs ad sz) (Af cs ad sz) s.heap s.heap [] cs ad en := ⟨hP, Af_self hD0, va_S.rf⟩
  have hA : ∀ q : Nat, s.heap.size ≤ q → Af cs ad sz q := fun q h => Or.inr (by rw [hsz] at h; exact h)
  have hl := lv_entry ([.ref (ad 0), .int d0, .int m0]) (n := 3) (Nat.le_of_ble_eq_true rfl)
  rw [lg_entry_eq]
  generalize (lg_sl ([.ref (ad 0), .int d0, .int m0]) ++ List.replicate (3 - (lg_sl ([.ref (ad 0), .int d0, .int m0])).length) Slot.unset).toArray = ls at hl ⊢
  have hl : lv_has ls 3 [(0, .ref (ad 0)), (1, .int d0), (2, .int m0)] := hl
  have hf0 : ∀ c, ((2 ≤ c ∧ c < 10) ∨ c = 11 ∨ 71 ≤ c) → en c = en c := fun _ _ => rfl
  obtain ⟨wc_859, lf_859, es859, p0_859⟩ := get_A hI
  refine lv_iload_n hx hb dX11_begin_0 rfl (lv_at hl 1 rfl) ?_
  refine lv_iconst (v := 2) hx hb dX11_begin_1 (by decide) ?_
  refine lv_iconst (v := 3) hx hb dX11_begin_2 (by decide) ?_
  refine hp_callRi (va_runS (As := [.int d0, .int 2, .int 3]) (rest := []) ⟨hx, hb, hml, hown, hts⟩ (c_X11_isWithin l D cy _ cs ad en d0 2 3) (kw_X11_isWithin hts tw_274 ⟨by decide, by decide⟩) (preS_of hh hK) rfl rfl hl.1 rfl (lv_room (Nat.le_of_ble_eq_true rfl)) dX11_begin_3 ⟨Nat.le_of_ble_eq_true rfl, Nat.le_of_ble_eq_true rfl⟩) hh hA (fun r_860 H locs hw_860 hh => ?_)
  rcases Decidable.em (wi d0 2 3) with hp_860 | hp_860
  · obtain rfl : r_860 = 1 := Eq.trans hw_860 (if_pos hp_860)
    obtain ⟨N_860, rfl, hA_860, hB_860⟩ := wi_natB hp_860 2 3 (by decide) (by decide)
    refine lv_if_eq (tgt := 23) hx hb dX11_begin_6 (by decide) (fun c_0 => absurd c_0 (by decide)) (fun _ => ?_)
    refine lv_iload_n hx hb dX11_begin_9 rfl (lv_at hl 2 rfl) ?_
    refine lv_if_eq (tgt := 26) hx hb dX11_begin_10 (by decide) (fun c_861 => ?_) (fun c_861 => ?_)
    · obtain rfl : m0 = nI 0 := c_861
      refine lv_aload_n hx hb dX11_begin_26 rfl (lv_at hl 0 rfl) ?_
      refine hp_get hx hb hts ix11 hown hK hh (q := 0) rfl (hI.1 _ (by decide)) es859 rfl 0 (by decide) (hts _ tw_245) (fun _ h9 => h9) rfl dX11_begin_27 ?_
      refine lv_iload_n hx hb dX11_begin_30 rfl (lv_at hl 1 rfl) ?_
      refine lv_iload_n hx hb dX11_begin_31 rfl (lv_at hl 2 rfl) ?_
      obtain ⟨cnt, d, mm, es862, hcnt, hd2, hd3, hmm⟩ := get_T hI
      refine hp_callMv (va_runV (As := [.int (nI N_860), .int (nI 0)]) (rest := []) ⟨hx, hb, hml, hown, hts⟩ (c_X8_restart l D cy _ cs ad en hI N_860 0 (by omega) (by omega) (by omega)) (kw_X8_restart hts tw_277 ⟨by decide, by decide⟩) (preV_of hh hK (hI.1 _ (by decide)) es862 rfl) rfl rfl hl.1 rfl (lv_room (Nat.le_of_ble_eq_true rfl)) dX11_begin_32 ⟨Nat.le_of_ble_eq_true rfl, Nat.le_of_ble_eq_true rfl⟩) hh hA (fun H locs en_863 hw_863 hh => ?_)
      obtain ⟨hI_863, hu_863, hx_863⟩ := hw_863
      have hf_863 : ∀ c, ((2 ≤ c ∧ c < 10) ∨ c = 11 ∨ 71 ≤ c) → en_863 c = en c := fun c hc => (hu_863 c (by omega)).trans (hf0 c hc)
      refine lv_aload_n hx hb dX11_begin_35 rfl (lv_at hl 0 rfl) ?_
      obtain ⟨wc_864, lf_864, es864, p0_864⟩ := get_A hI_863
      refine hp_get hx hb hts ix11 hown hK hh (q := 0) rfl (hI.1 _ (by decide)) es864 rfl 1 (by decide) (hts _ tw_246) (fun _ h9 => h9) rfl dX11_begin_36 ?_
      obtain ⟨hw_865, es865, p0_865⟩ := get_L hI_863
      refine hp_callMv (va_runV (As := []) (rest := []) ⟨hx, hb, hml, hown, hts⟩ (c_X2_forget l D cy _ cs ad en_863 hI_863  ) (kw_X2_forget hts tw_281 ⟨by decide, by decide⟩) (preV_of hh hK (hI.1 _ (by decide)) es865 rfl) rfl rfl hl.1 rfl (lv_room (Nat.le_of_ble_eq_true rfl)) dX11_begin_39 ⟨Nat.le_of_ble_eq_true rfl, Nat.le_of_ble_eq_true rfl⟩) hh hA (fun H locs en_866 hw_866 hh => ?_)
      obtain ⟨hI_866, hu_866⟩ := hw_866
      have hf_866 : ∀ c, ((2 ≤ c ∧ c < 10) ∨ c = 11 ∨ 71 ≤ c) → en_866 c = en c := fun c hc => (hu_866 c (by omega)).trans (hf_863 c hc)
      refine lv_aload_n hx hb dX11_begin_42 rfl (lv_at hl 0 rfl) ?_
      obtain ⟨wc_867, lf_867, es867, p0_867⟩ := get_A hI_866
      refine hp_get hx hb hts ix11 hown hK hh (q := 0) rfl (hI.1 _ (by decide)) es867 rfl 2 (by decide) (hts _ tw_247) (fun _ h9 => h9) rfl dX11_begin_43 ?_
      obtain ⟨ea_868, eb_868, ec_868, st0_868, cc0_868, ct0_868, un0_868, ow0_868, hn0_868, es868⟩ := get_C hI_866
      refine hp_callMv (va_runV (As := []) (rest := []) ⟨hx, hb, hml, hown, hts⟩ (c_X0_forget l D cy _ cs ad en_866 hI_866) (kw_X0_forget hts tw_285 ⟨by decide, by decide⟩) (preV_of hh hK (hI.1 _ (by decide)) es868 rfl) rfl rfl hl.1 rfl (lv_room (Nat.le_of_ble_eq_true rfl)) dX11_begin_46 ⟨Nat.le_of_ble_eq_true rfl, Nat.le_of_ble_eq_true rfl⟩) hh hA (fun H locs en_869 hw_869 hh => ?_)
      obtain ⟨hI_869, hu_869, hx_869⟩ := hw_869
      have hf_869 : ∀ c, ((2 ≤ c ∧ c < 10) ∨ c = 11 ∨ 71 ≤ c) → en_869 c = en c := fun c hc => (hu_869 c (by omega)).trans (hf_866 c hc)
      refine lv_aload_n hx hb dX11_begin_49 rfl (lv_at hl 0 rfl) ?_
      refine lv_iconst (v := 0) hx hb dX11_begin_50 (by decide) ?_
      obtain ⟨wc_870, lf_870, es870, p0_870⟩ := get_A hI_869
      refine hp_put hx hb hts ix11 tyX11 tyX11_ok nmX11 hown hK hh (q := 0) rfl (hI.1 _ (by decide)) es870 rfl 6 (by decide) (hts _ tw_251) (fun _ h9 => h9) rfl (ty := .int) (by decide +kernel) rfl rfl (Nat.le_of_ble_eq_true rfl) dX11_begin_51 (fun H locs en_871 hen_871 hh => ?_)
      have es870_871 : en_871 0 = .inr (10, [.ref (ad 1), .ref (ad 12), .ref (ad 70), .ref (ad 74), .ref (ad 75), .ref (ad 76), .int 0, .int lf_870]) := by rw [hen_871]; exact va_up_self _ _ _
      have hI_871 : SX cy cs ad en_871 := by rw [hen_871]; exact up_A hI_869 ⟨0, lf_870, rfl, (by omega)⟩
      have hf_871 : ∀ c, ((2 ≤ c ∧ c < 10) ∨ c = 11 ∨ 71 ≤ c) → en_871 c = en c := fun c hc => Eq.trans (show en_871 c = en_869 c from by rw [hen_871, va_up_ne _ _ (by omega)]) (hf_869 c hc)
      refine lv_iconst (v := 1) hx hb dX11_begin_54 (by decide) ?_
      exact hp_iretM hx hb hr rfl hlocks hh (⟨hI_871, hf_871, (by unfold spBegin; rw [if_pos ⟨hp_860, Or.inl rfl⟩]), Or.inr ⟨rfl, (by rw [es870_871]; rfl), (by rw [hen_871, va_up_ne _ _ (by omega), hu_869 _ (by omega), hu_866 _ (by omega)]; exact hx_863.1), (by rw [hen_871, va_up_ne _ _ (by omega), ← hu_863 70 (by omega), ← hu_866 70 (by omega)]; exact hx_869), (by rw [hen_871, va_up_ne _ _ (by omega), hu_869 _ (by omega), hu_866 _ (by omega)]; exact hx_863.2.1), (by rw [hen_871, va_up_ne _ _ (by omega), hu_869 _ (by omega), hu_866 _ (by omega)]; exact hx_863.2.2.1), (by rw [hen_871, va_up_ne _ _ (by omega), hu_869 _ (by omega), hu_866 _ (by omega)]; exact hx_863.2.2.2)⟩⟩) dX11_begin_55
    · refine lv_iload_n hx hb dX11_begin_13 rfl (lv_at hl 2 rfl) ?_
      refine lv_iconst (v := 2) hx hb dX11_begin_14 (by decide) ?_
      refine lv_bipush (v := 97) hx hb dX11_begin_15 (by decide) ?_
      refine hp_callRi (va_runS (As := [.int m0, .int 2, .int 97]) (rest := []) ⟨hx, hb, hml, hown, hts⟩ (c_X11_isWithin l D cy _ cs ad en m0 2 97) (kw_X11_isWithin hts tw_274 ⟨by decide, by decide⟩) (preS_of hh hK) rfl rfl hl.1 rfl (lv_room (Nat.le_of_ble_eq_true rfl)) dX11_begin_17 ⟨Nat.le_of_ble_eq_true rfl, Nat.le_of_ble_eq_true rfl⟩) hh hA (fun r_872 H locs hw_872 hh => ?_)
      rcases Decidable.em (wi m0 2 97) with hp_872 | hp_872
      · obtain rfl : r_872 = 1 := Eq.trans hw_872 (if_pos hp_872)
        obtain ⟨N_872, rfl, hA_872, hB_872⟩ := wi_natB hp_872 2 97 (by decide) (by decide)
        refine lv_if_ne (tgt := 26) hx hb dX11_begin_20 (by decide) (fun _ => ?_) (fun c_0 => absurd c_0 (by decide))
        refine lv_aload_n hx hb dX11_begin_26 rfl (lv_at hl 0 rfl) ?_
        refine hp_get hx hb hts ix11 hown hK hh (q := 0) rfl (hI.1 _ (by decide)) es859 rfl 0 (by decide) (hts _ tw_245) (fun _ h9 => h9) rfl dX11_begin_27 ?_
        refine lv_iload_n hx hb dX11_begin_30 rfl (lv_at hl 1 rfl) ?_
        refine lv_iload_n hx hb dX11_begin_31 rfl (lv_at hl 2 rfl) ?_
        obtain ⟨cnt, d, mm, es873, hcnt, hd2, hd3, hmm⟩ := get_T hI
        refine hp_callMv (va_runV (As := [.int (nI N_860), .int (nI N_872)]) (rest := []) ⟨hx, hb, hml, hown, hts⟩ (c_X8_restart l D cy _ cs ad en hI N_860 N_872 (by omega) (by omega) (by omega)) (kw_X8_restart hts tw_277 ⟨by decide, by decide⟩) (preV_of hh hK (hI.1 _ (by decide)) es873 rfl) rfl rfl hl.1 rfl (lv_room (Nat.le_of_ble_eq_true rfl)) dX11_begin_32 ⟨Nat.le_of_ble_eq_true rfl, Nat.le_of_ble_eq_true rfl⟩) hh hA (fun H locs en_874 hw_874 hh => ?_)
        obtain ⟨hI_874, hu_874, hx_874⟩ := hw_874
        have hf_874 : ∀ c, ((2 ≤ c ∧ c < 10) ∨ c = 11 ∨ 71 ≤ c) → en_874 c = en c := fun c hc => (hu_874 c (by omega)).trans (hf0 c hc)
        refine lv_aload_n hx hb dX11_begin_35 rfl (lv_at hl 0 rfl) ?_
        obtain ⟨wc_875, lf_875, es875, p0_875⟩ := get_A hI_874
        refine hp_get hx hb hts ix11 hown hK hh (q := 0) rfl (hI.1 _ (by decide)) es875 rfl 1 (by decide) (hts _ tw_246) (fun _ h9 => h9) rfl dX11_begin_36 ?_
        obtain ⟨hw_876, es876, p0_876⟩ := get_L hI_874
        refine hp_callMv (va_runV (As := []) (rest := []) ⟨hx, hb, hml, hown, hts⟩ (c_X2_forget l D cy _ cs ad en_874 hI_874  ) (kw_X2_forget hts tw_281 ⟨by decide, by decide⟩) (preV_of hh hK (hI.1 _ (by decide)) es876 rfl) rfl rfl hl.1 rfl (lv_room (Nat.le_of_ble_eq_true rfl)) dX11_begin_39 ⟨Nat.le_of_ble_eq_true rfl, Nat.le_of_ble_eq_true rfl⟩) hh hA (fun H locs en_877 hw_877 hh => ?_)
        obtain ⟨hI_877, hu_877⟩ := hw_877
        have hf_877 : ∀ c, ((2 ≤ c ∧ c < 10) ∨ c = 11 ∨ 71 ≤ c) → en_877 c = en c := fun c hc => (hu_877 c (by omega)).trans (hf_874 c hc)
        refine lv_aload_n hx hb dX11_begin_42 rfl (lv_at hl 0 rfl) ?_
        obtain ⟨wc_878, lf_878, es878, p0_878⟩ := get_A hI_877
        refine hp_get hx hb hts ix11 hown hK hh (q := 0) rfl (hI.1 _ (by decide)) es878 rfl 2 (by decide) (hts _ tw_247) (fun _ h9 => h9) rfl dX11_begin_43 ?_
        obtain ⟨ea_879, eb_879, ec_879, st0_879, cc0_879, ct0_879, un0_879, ow0_879, hn0_879, es879⟩ := get_C hI_877
        refine hp_callMv (va_runV (As := []) (rest := []) ⟨hx, hb, hml, hown, hts⟩ (c_X0_forget l D cy _ cs ad en_877 hI_877) (kw_X0_forget hts tw_285 ⟨by decide, by decide⟩) (preV_of hh hK (hI.1 _ (by decide)) es879 rfl) rfl rfl hl.1 rfl (lv_room (Nat.le_of_ble_eq_true rfl)) dX11_begin_46 ⟨Nat.le_of_ble_eq_true rfl, Nat.le_of_ble_eq_true rfl⟩) hh hA (fun H locs en_880 hw_880 hh => ?_)
        obtain ⟨hI_880, hu_880, hx_880⟩ := hw_880
        have hf_880 : ∀ c, ((2 ≤ c ∧ c < 10) ∨ c = 11 ∨ 71 ≤ c) → en_880 c = en c := fun c hc => (hu_880 c (by omega)).trans (hf_877 c hc)
        refine lv_aload_n hx hb dX11_begin_49 rfl (lv_at hl 0 rfl) ?_
        refine lv_iconst (v := 0) hx hb dX11_begin_50 (by decide) ?_
        obtain ⟨wc_881, lf_881, es881, p0_881⟩ := get_A hI_880
        refine hp_put hx hb hts ix11 tyX11 tyX11_ok nmX11 hown hK hh (q := 0) rfl (hI.1 _ (by decide)) es881 rfl 6 (by decide) (hts _ tw_251) (fun _ h9 => h9) rfl (ty := .int) (by decide +kernel) rfl rfl (Nat.le_of_ble_eq_true rfl) dX11_begin_51 (fun H locs en_882 hen_882 hh => ?_)
        have es881_882 : en_882 0 = .inr (10, [.ref (ad 1), .ref (ad 12), .ref (ad 70), .ref (ad 74), .ref (ad 75), .ref (ad 76), .int 0, .int lf_881]) := by rw [hen_882]; exact va_up_self _ _ _
        have hI_882 : SX cy cs ad en_882 := by rw [hen_882]; exact up_A hI_880 ⟨0, lf_881, rfl, (by omega)⟩
        have hf_882 : ∀ c, ((2 ≤ c ∧ c < 10) ∨ c = 11 ∨ 71 ≤ c) → en_882 c = en c := fun c hc => Eq.trans (show en_882 c = en_880 c from by rw [hen_882, va_up_ne _ _ (by omega)]) (hf_880 c hc)
        refine lv_iconst (v := 1) hx hb dX11_begin_54 (by decide) ?_
        exact hp_iretM hx hb hr rfl hlocks hh (⟨hI_882, hf_882, (by unfold spBegin; rw [if_pos ⟨hp_860, Or.inr hp_872⟩]), Or.inr ⟨rfl, (by rw [es881_882]; rfl), (by rw [hen_882, va_up_ne _ _ (by omega), hu_880 _ (by omega), hu_877 _ (by omega)]; exact hx_874.1), (by rw [hen_882, va_up_ne _ _ (by omega), ← hu_874 70 (by omega), ← hu_877 70 (by omega)]; exact hx_880), (by rw [hen_882, va_up_ne _ _ (by omega), hu_880 _ (by omega), hu_877 _ (by omega)]; exact hx_874.2.1), (by rw [hen_882, va_up_ne _ _ (by omega), hu_880 _ (by omega), hu_877 _ (by omega)]; exact hx_874.2.2.1), (by rw [hen_882, va_up_ne _ _ (by omega), hu_880 _ (by omega), hu_877 _ (by omega)]; exact hx_874.2.2.2)⟩⟩) dX11_begin_55
      · obtain rfl : r_872 = 0 := Eq.trans hw_872 (if_neg hp_872)
        refine lv_if_ne (tgt := 26) hx hb dX11_begin_20 (by decide) (fun c_0 => absurd c_0 (by decide)) (fun _ => ?_)
        refine lv_bipush (v := (-2)) hx hb dX11_begin_23 (by decide) ?_
        exact hp_iretM hx hb hr rfl hlocks hh (⟨hI, hf0, (by unfold spBegin; rw [if_neg (fun q => q.2.elim c_861 hp_872)]), Or.inl ⟨rfl, rfl⟩⟩) dX11_begin_25
  · obtain rfl : r_860 = 0 := Eq.trans hw_860 (if_neg hp_860)
    refine lv_if_eq (tgt := 23) hx hb dX11_begin_6 (by decide) (fun _ => ?_) (fun c_0 => absurd c_0 (by decide))
    refine lv_bipush (v := (-2)) hx hb dX11_begin_23 (by decide) ?_
    exact hp_iretM hx hb hr rfl hlocks hh (⟨hI, hf0, (by unfold spBegin; rw [if_neg (fun q => hp_860 q.1)]), Or.inl ⟨rfl, rfl⟩⟩) dX11_begin_25
theorem kw_X11_begin {R : Room} {s : State} {args : Array Value} {own : String} {idx : Nat} (hts : ∀ w ∈ TB, w.before args s = true) (hl : Cond.methodLink own idx yX11_begin ∈ TB) (hR : 2 + 1 ≤ R.frames ∧ 8 + (3 + 11) + 40 * 2 ≤ R.locals) : CallW R s args own RX11 idx yX11_begin cX11_begin 3 (some .int) (Cond.code yX11_begin cX11_begin 3 (some .int) :: TB) (rmN 2) 0 0 2 := cwV 2 hts (TB_V hl tw_271 tw_272 tw_1 tw_273) rfl rfl rfl (by decide +kernel) hR
set_option maxHeartbeats 4000000 in
set_option maxRecDepth 100000 in
/-- entry -/
theorem c_X11_entry (l : Launch) (D : va_G) (cy : Nat → ClassId) (sz : Nat) (cs : List Nat) (ad : Nat → Nat) (en : Nat → va_E) (hI : SX cy cs ad en) (t a b : Int32) (F : Nat → Nat → Int32) (hTX : TXF cy cs ad en F)   : Met l yX11_entry (Cond.code yX11_entry cX11_entry 4 (some .long) :: TB) (rmN 2) (va_Pc [.ref (ad 0), .int t, .int a, .int b] (Pre D cy cs ad en sz)) (va_Ql (S := Unit) (fun r _ => XEN F t a b (rdI (en 1) 4) (rdI (en 1) 5) r) (fun _ _ => True) (Nf sz)) 0 0 (Nf sz) := by
  refine Met.ofW (cc := cX11_entry) (maxL := 4) (ret := (some .long)) (by decide) rfl ?_
  intro p e s m args below meth c s₁ B hml hv
  obtain ⟨rfl, hsz, hP, hK, hD0⟩ := hv
  have hx := B.exec
  have hb := B.bytes
  have hr := B.returns
  have hts : ∀ w ∈ TB, w.before _ s = true := fun w h => atoms_spec (ws := _ :: TB) B.pre w (List.mem_cons_of_mem _ h)
  have hown : s.vm.findClass RX11 = some m.cls := findClass_of_methodNamed B.named
  have hlocks := B.notSynchronized
  have hh : Hp D (Nf sz) (fun _ => True) s.heap s.heap [] cs ad en := ⟨hP, hD0, va_S.rf⟩
  have hA : ∀ q : Nat, s.heap.size ≤ q → Nf sz q := fun q h => by rw [hsz] at h; exact h
  have hl := lv_entry ([.ref (ad 0), .int t, .int a, .int b]) (n := 4) (Nat.le_of_ble_eq_true rfl)
  rw [lg_entry_eq]
  generalize (lg_sl ([.ref (ad 0), .int t, .int a, .int b]) ++ List.replicate (4 - (lg_sl ([.ref (ad 0), .int t, .int a, .int b])).length) Slot.unset).toArray = ls at hl ⊢
  have hl : lv_has ls 4 [(0, .ref (ad 0)), (1, .int t), (2, .int a), (3, .int b)] := hl
  obtain ⟨wc_883, lf_883, es883, p0_883⟩ := get_A hI
  obtain ⟨cnt, d, mm, es884, hcnt, hd2, hd3, hmm⟩ := get_T hI
  refine lv_aload_n hx hb dX11_entry_0 rfl (lv_at hl 0 rfl) ?_
  refine hp_get hx hb hts ix11 hown hK hh (q := 0) rfl (hI.1 _ (by decide)) es883 rfl 0 (by decide) (hts _ tw_245) (fun _ h9 => h9) rfl dX11_entry_1 ?_
  refine lv_iload_n hx hb dX11_entry_4 rfl (lv_at hl 1 rfl) ?_
  refine hp_callRi (va_runV (As := [.int t]) (rest := []) ⟨hx, hb, hml, hown, hts⟩ (c_X8_has l D cy _ cs ad en (hI.1 _ (by decide)) cnt d mm hcnt hd2 hd3 hmm t es884) (kw_X8_has hts tw_412 ⟨by decide, by decide⟩) (preV_of hh hK (hI.1 _ (by decide)) es884 rfl) rfl rfl hl.1 rfl (lv_room (Nat.le_of_ble_eq_true rfl)) dX11_entry_5 ⟨Nat.le_of_ble_eq_true rfl, Nat.le_of_ble_eq_true rfl⟩) hh hA (fun r_885 H locs hw_885 hh => ?_)
  rcases Decidable.em (0 ≤ t.toInt ∧ t.toInt < (cnt : Int)) with hp_885 | hp_885
  · obtain rfl : r_885 = 1 := Eq.trans hw_885 (if_pos hp_885)
    obtain ⟨T_885, rfl, hT_885⟩ := has_nat hp_885
    refine lv_if_eq (tgt := 23) hx hb dX11_entry_8 (by decide) (fun c_0 => absurd c_0 (by decide)) (fun _ => ?_)
    refine lv_aload_n hx hb dX11_entry_11 rfl (lv_at hl 0 rfl) ?_
    refine hp_get hx hb hts ix11 hown hK hh (q := 0) rfl (hI.1 _ (by decide)) es883 rfl 0 (by decide) (hts _ tw_245) (fun _ h9 => h9) rfl dX11_entry_12 ?_
    refine lv_iload_n hx hb dX11_entry_15 rfl (lv_at hl 2 rfl) ?_
    refine lv_iload_n hx hb dX11_entry_16 rfl (lv_at hl 3 rfl) ?_
    refine hp_callRi (va_runV (As := [.int a, .int b]) (rest := []) ⟨hx, hb, hml, hown, hts⟩ (c_X8_isPlace l D cy _ cs ad en (hI.1 _ (by decide)) cnt d mm hcnt hd2 hd3 hmm a b es884) (kw_X8_isPlace hts tw_416 ⟨by decide, by decide⟩) (preV_of hh hK (hI.1 _ (by decide)) es884 rfl) rfl rfl hl.1 rfl (lv_room (Nat.le_of_ble_eq_true rfl)) dX11_entry_17 ⟨Nat.le_of_ble_eq_true rfl, Nat.le_of_ble_eq_true rfl⟩) hh hA (fun r_886 H locs hw_886 hh => ?_)
    rcases Decidable.em ((0 ≤ a.toInt ∧ a.toInt < (d : Int)) ∧ 0 ≤ b.toInt ∧ b.toInt < (d : Int)) with hp_886 | hp_886
    · obtain rfl : r_886 = 1 := Eq.trans hw_886 (if_pos hp_886)
      obtain ⟨A_886, rfl, hA_886⟩ := has_nat hp_886.1
      obtain ⟨B_886, rfl, hB_886⟩ := has_nat hp_886.2
      refine lv_if_ne (tgt := 27) hx hb dX11_entry_20 (by decide) (fun _ => ?_) (fun c_0 => absurd c_0 (by decide))
      obtain ⟨f_887, es887⟩ := get_all hI
      have hdd : d * d ≤ 9 := Nat.mul_le_mul hd3 hd3
      obtain ⟨⟨q9, k9, ci9, hq9, hk9, hq115, hk115, hal9, eq9, hci9, ek9, hkd9⟩, hF9⟩ := hTX T_885 d hd3 (by rw [es884]; rfl) (by rw [show rdI (en 1) 4 = nI cnt from by rw [es884]; rfl, nI_toInt (by omega)]; omega)
      rw [show rdR (en 2) = f_887 from by rw [es887]; rfl] at hal9
      refine lv_aload_n hx hb dX11_entry_27 rfl (lv_at hl 0 rfl) ?_
      refine hp_get hx hb hts ix11 hown hK hh (q := 0) rfl (hI.1 _ (by decide)) es883 rfl 0 (by decide) (hts _ tw_245) (fun _ h9 => h9) rfl dX11_entry_28 ?_
      refine lv_iload_n hx hb dX11_entry_31 rfl (lv_at hl 1 rfl) ?_
      refine hp_callRq (va_runV (As := [.int (nI T_885)]) (rest := []) ⟨hx, hb, hml, hown, hts⟩ (c_X8_tableOf l D cy _ cs ad en (hI.1 _ (by decide)) (hI.1 _ (by decide)) cnt d mm hcnt hd2 hd3 hmm f_887 T_885 (ad q9) (by omega) hal9 es884 es887) (kw_X8_tableOf hts tw_421 ⟨by decide, by decide⟩) (preV_of hh hK (hI.1 _ (by decide)) es884 rfl) rfl rfl hl.1 rfl (lv_room (Nat.le_of_ble_eq_true rfl)) dX11_entry_32 ⟨Nat.le_of_ble_eq_true rfl, Nat.le_of_ble_eq_true rfl⟩) hh hA (fun r_888 H locs hw_888 hh => ?_)
      obtain rfl : r_888 = some (ad q9) := hw_888
      refine W.eq (g2 := F0 m 35 ls [.ref (ad q9)]) rfl ?_
      rcases hci9 with rfl | rfl | rfl
      · refine hp_get hx hb hts ix7 hown hK hh (q := q9) rfl hq9 eq9 rfl 2 (by decide) (hts _ tw_383) (fun _ h9 => h9) rfl dX11_entry_35 ?_
        refine lv_aload_n hx hb dX11_entry_38 rfl (lv_at hl 0 rfl) ?_
        refine hp_get hx hb hts ix11 hown hK hh (q := 0) rfl (hI.1 _ (by decide)) es883 rfl 0 (by decide) (hts _ tw_245) (fun _ h9 => h9) rfl dX11_entry_39 ?_
        refine lv_iload_n hx hb dX11_entry_42 rfl (lv_at hl 2 rfl) ?_
        refine lv_iload_n hx hb dX11_entry_43 rfl (lv_at hl 3 rfl) ?_
        refine hp_callRi (va_runV (As := [.int (nI A_886), .int (nI B_886)]) (rest := [.ref (ad k9)]) ⟨hx, hb, hml, hown, hts⟩ (c_X8_cellOf l D cy _ cs ad en (hI.1 _ (by decide)) cnt d mm hcnt hd2 hd3 hmm A_886 B_886 es884) (kw_X8_cellOf hts tw_425 ⟨by decide, by decide⟩) (preV_of hh hK (hI.1 _ (by decide)) es884 rfl) rfl rfl hl.1 rfl (lv_room (Nat.le_of_ble_eq_true rfl)) dX11_entry_44 ⟨Nat.le_of_ble_eq_true rfl, Nat.le_of_ble_eq_true rfl⟩) hh hA (fun r_889 H locs hw_889 hh => ?_)
        obtain rfl : r_889 = nI (A_886 * d + B_886) := hw_889
        have hi_890 : (A_886 * d + B_886) < d * d := md3' (by omega) (by omega) hd3
        refine hp_iald hx hb hK hh (q := k9) rfl hk9 ek9 (vp_in_nI (n := (A_886 * d + B_886)) (by omega) (by omega)) dX11_entry_47 ?_
        rw [nI_clamp (n := (A_886 * d + B_886)) (by omega)]
        refine lv_i2l hx hb dX11_entry_48 rfl ?_
        have hr4 : (rdI (en 1) 4).toInt = (cnt : Int) := by rw [show rdI (en 1) 4 = nI cnt from by rw [es884]; rfl]; exact nI_toInt (by omega)
        have hr5 : rdI (en 1) 5 = nI d := by rw [es884]; rfl
        have hr5i : (rdI (en 1) 5).toInt = (d : Int) := by rw [hr5]; exact nI_toInt (by omega)
        exact hp_lretR hx hb hr hlocks hsz hh (Or.inl ⟨⟨by rw [hr4]; exact hp_885, by rw [hr5i]; exact hp_886⟩, by rw [hr5, nI_clamp (n := T_885) (by omega), nI_clamp (n := A_886) (by omega), nI_clamp (n := B_886) (by omega), nI_clamp (n := d) (by omega)]⟩) dX11_entry_49
      · refine hp_get hx hb hts ix1 hown hK hh (q := q9) rfl hq9 eq9 rfl 2 (by decide) (hts _ tw_383) (fun _ h9 => h9) rfl dX11_entry_35 ?_
        refine lv_aload_n hx hb dX11_entry_38 rfl (lv_at hl 0 rfl) ?_
        refine hp_get hx hb hts ix11 hown hK hh (q := 0) rfl (hI.1 _ (by decide)) es883 rfl 0 (by decide) (hts _ tw_245) (fun _ h9 => h9) rfl dX11_entry_39 ?_
        refine lv_iload_n hx hb dX11_entry_42 rfl (lv_at hl 2 rfl) ?_
        refine lv_iload_n hx hb dX11_entry_43 rfl (lv_at hl 3 rfl) ?_
        refine hp_callRi (va_runV (As := [.int (nI A_886), .int (nI B_886)]) (rest := [.ref (ad k9)]) ⟨hx, hb, hml, hown, hts⟩ (c_X8_cellOf l D cy _ cs ad en (hI.1 _ (by decide)) cnt d mm hcnt hd2 hd3 hmm A_886 B_886 es884) (kw_X8_cellOf hts tw_425 ⟨by decide, by decide⟩) (preV_of hh hK (hI.1 _ (by decide)) es884 rfl) rfl rfl hl.1 rfl (lv_room (Nat.le_of_ble_eq_true rfl)) dX11_entry_44 ⟨Nat.le_of_ble_eq_true rfl, Nat.le_of_ble_eq_true rfl⟩) hh hA (fun r_891 H locs hw_891 hh => ?_)
        obtain rfl : r_891 = nI (A_886 * d + B_886) := hw_891
        have hi_892 : (A_886 * d + B_886) < d * d := md3' (by omega) (by omega) hd3
        refine hp_iald hx hb hK hh (q := k9) rfl hk9 ek9 (vp_in_nI (n := (A_886 * d + B_886)) (by omega) (by omega)) dX11_entry_47 ?_
        rw [nI_clamp (n := (A_886 * d + B_886)) (by omega)]
        refine lv_i2l hx hb dX11_entry_48 rfl ?_
        have hr4 : (rdI (en 1) 4).toInt = (cnt : Int) := by rw [show rdI (en 1) 4 = nI cnt from by rw [es884]; rfl]; exact nI_toInt (by omega)
        have hr5 : rdI (en 1) 5 = nI d := by rw [es884]; rfl
        have hr5i : (rdI (en 1) 5).toInt = (d : Int) := by rw [hr5]; exact nI_toInt (by omega)
        exact hp_lretR hx hb hr hlocks hsz hh (Or.inl ⟨⟨by rw [hr4]; exact hp_885, by rw [hr5i]; exact hp_886⟩, by rw [hr5, nI_clamp (n := T_885) (by omega), nI_clamp (n := A_886) (by omega), nI_clamp (n := B_886) (by omega), nI_clamp (n := d) (by omega)]⟩) dX11_entry_49
      · refine hp_get hx hb hts ix4 hown hK hh (q := q9) rfl hq9 eq9 rfl 2 (by decide) (hts _ tw_383) (fun _ h9 => h9) rfl dX11_entry_35 ?_
        refine lv_aload_n hx hb dX11_entry_38 rfl (lv_at hl 0 rfl) ?_
        refine hp_get hx hb hts ix11 hown hK hh (q := 0) rfl (hI.1 _ (by decide)) es883 rfl 0 (by decide) (hts _ tw_245) (fun _ h9 => h9) rfl dX11_entry_39 ?_
        refine lv_iload_n hx hb dX11_entry_42 rfl (lv_at hl 2 rfl) ?_
        refine lv_iload_n hx hb dX11_entry_43 rfl (lv_at hl 3 rfl) ?_
        refine hp_callRi (va_runV (As := [.int (nI A_886), .int (nI B_886)]) (rest := [.ref (ad k9)]) ⟨hx, hb, hml, hown, hts⟩ (c_X8_cellOf l D cy _ cs ad en (hI.1 _ (by decide)) cnt d mm hcnt hd2 hd3 hmm A_886 B_886 es884) (kw_X8_cellOf hts tw_425 ⟨by decide, by decide⟩) (preV_of hh hK (hI.1 _ (by decide)) es884 rfl) rfl rfl hl.1 rfl (lv_room (Nat.le_of_ble_eq_true rfl)) dX11_entry_44 ⟨Nat.le_of_ble_eq_true rfl, Nat.le_of_ble_eq_true rfl⟩) hh hA (fun r_893 H locs hw_893 hh => ?_)
        obtain rfl : r_893 = nI (A_886 * d + B_886) := hw_893
        have hi_894 : (A_886 * d + B_886) < d * d := md3' (by omega) (by omega) hd3
        refine hp_iald hx hb hK hh (q := k9) rfl hk9 ek9 (vp_in_nI (n := (A_886 * d + B_886)) (by omega) (by omega)) dX11_entry_47 ?_
        rw [nI_clamp (n := (A_886 * d + B_886)) (by omega)]
        refine lv_i2l hx hb dX11_entry_48 rfl ?_
        have hr4 : (rdI (en 1) 4).toInt = (cnt : Int) := by rw [show rdI (en 1) 4 = nI cnt from by rw [es884]; rfl]; exact nI_toInt (by omega)
        have hr5 : rdI (en 1) 5 = nI d := by rw [es884]; rfl
        have hr5i : (rdI (en 1) 5).toInt = (d : Int) := by rw [hr5]; exact nI_toInt (by omega)
        exact hp_lretR hx hb hr hlocks hsz hh (Or.inl ⟨⟨by rw [hr4]; exact hp_885, by rw [hr5i]; exact hp_886⟩, by rw [hr5, nI_clamp (n := T_885) (by omega), nI_clamp (n := A_886) (by omega), nI_clamp (n := B_886) (by omega), nI_clamp (n := d) (by omega)]⟩) dX11_entry_49
    · obtain rfl : r_886 = 0 := Eq.trans hw_886 (if_neg hp_886)
      refine lv_if_ne (tgt := 27) hx hb dX11_entry_20 (by decide) (fun c_0 => absurd c_0 (by decide)) (fun _ => ?_)
      refine lv_ldc2 hx hb hown (hts _ tw_420) dX11_entry_23 ?_
      have hr4 : (rdI (en 1) 4).toInt = (cnt : Int) := by rw [show rdI (en 1) 4 = nI cnt from by rw [es884]; rfl]; exact nI_toInt (by omega)
      have hr5 : rdI (en 1) 5 = nI d := by rw [es884]; rfl
      have hr5i : (rdI (en 1) 5).toInt = (d : Int) := by rw [hr5]; exact nI_toInt (by omega)
      exact hp_lretR hx hb hr hlocks hsz hh (Or.inr ⟨fun q => hp_886 (by have h9 := q.2; rw [hr5i] at h9; exact h9), rfl⟩) dX11_entry_26
  · obtain rfl : r_885 = 0 := Eq.trans hw_885 (if_neg hp_885)
    refine lv_if_eq (tgt := 23) hx hb dX11_entry_8 (by decide) (fun _ => ?_) (fun c_0 => absurd c_0 (by decide))
    refine lv_ldc2 hx hb hown (hts _ tw_420) dX11_entry_23 ?_
    have hr4 : (rdI (en 1) 4).toInt = (cnt : Int) := by rw [show rdI (en 1) 4 = nI cnt from by rw [es884]; rfl]; exact nI_toInt (by omega)
    have hr5 : rdI (en 1) 5 = nI d := by rw [es884]; rfl
    have hr5i : (rdI (en 1) 5).toInt = (d : Int) := by rw [hr5]; exact nI_toInt (by omega)
    exact hp_lretR hx hb hr hlocks hsz hh (Or.inr ⟨fun q => hp_885 (by have h9 := q.1; rw [hr4] at h9; exact h9), rfl⟩) dX11_entry_26
theorem kw_X11_entry {R : Room} {s : State} {args : Array Value} {own : String} {idx : Nat} (hts : ∀ w ∈ TB, w.before args s = true) (hl : Cond.methodLink own idx yX11_entry ∈ TB) (hR : 2 + 1 ≤ R.frames ∧ 8 + (4 + 11) + 40 * 2 ≤ R.locals) : CallW R s args own RX11 idx yX11_entry cX11_entry 4 (some .long) (Cond.code yX11_entry cX11_entry 4 (some .long) :: TB) (rmN 2) 0 0 3 := cwV 3 hts (TB_V hl tw_409 tw_410 tw_1 tw_411) rfl rfl rfl (by decide +kernel) hR
set_option maxHeartbeats 4000000 in
set_option maxRecDepth 100000 in
/-- tell -/
theorem c_X11_tell (l : Launch) (D : va_G) (cy : Nat → ClassId) (sz : Nat) (cs : List Nat) (ad : Nat → Nat) (en : Nat → va_E) (hI : SX cy cs ad en) (t : Int32) (F : Nat → Nat → Int32) (hTX : TXF cy cs ad en F)   : Met l yX11_tell (Cond.code yX11_tell cX11_tell 2 (some .int) :: TB) (rmN 5) (va_Pc [.ref (ad 0), .int t] (Pre D cy cs ad en sz)) (va_Qi (S := Nat → va_E) (fun r en1 => SX cy cs ad en1 ∧ (∀ c, (c ≠ 76) → en1 c = en c) ∧ XTE F t r en en1) (PostM D cs ad) (Af cs ad sz)) 0 0 (Af cs ad sz) := by
  refine Met.ofW (cc := cX11_tell) (maxL := 2) (ret := (some .int)) (by decide) rfl ?_
  intro p e s m args below meth c s₁ B hml hv
  obtain ⟨rfl, hsz, hP, hK, hD0⟩ := hv
  have hx := B.exec
  have hb := B.bytes
  have hr := B.returns
  have hts : ∀ w ∈ TB, w.before _ s = true := fun w h => atoms_spec (ws := _ :: TB) B.pre w (List.mem_cons_of_mem _ h)
  have hown : s.vm.findClass RX11 = some m.cls := findClass_of_methodNamed B.named
  have hlocks := B.notSynchronized
  have hh : Hp D (Af cs ad sz) (Af cs ad sz) s.heap s.heap [] cs ad en := ⟨hP, Af_self hD0, va_S.rf⟩
  have hA : ∀ q : Nat, s.heap.size ≤ q → Af cs ad sz q := fun q h => Or.inr (by rw [hsz] at h; exact h)
  have hl := lv_entry ([.ref (ad 0), .int t]) (n := 2) (Nat.le_of_ble_eq_true rfl)
  rw [lg_entry_eq]
  generalize (lg_sl ([.ref (ad 0), .int t]) ++ List.replicate (2 - (lg_sl ([.ref (ad 0), .int t])).length) Slot.unset).toArray = ls at hl ⊢
  have hl : lv_has ls 2 [(0, .ref (ad 0)), (1, .int t)] := hl
  have hf0 : ∀ c, (c ≠ 76) → en c = en c := fun _ _ => rfl
  obtain ⟨wc_895, lf_895, es895, p0_895⟩ := get_A hI
  obtain ⟨cnt, d, mm, es896, hcnt, hd2, hd3, hmm⟩ := get_T hI
  obtain ⟨hi_897, es897⟩ := get_tr hI
  refine lv_aload_n hx hb dX11_tell_0 rfl (lv_at hl 0 rfl) ?_
  refine hp_get hx hb hts ix11 hown hK hh (q := 0) rfl (hI.1 _ (by decide)) es895 rfl 0 (by decide) (hts _ tw_245) (fun _ h9 => h9) rfl dX11_tell_1 ?_
  refine lv_iload_n hx hb dX11_tell_4 rfl (lv_at hl 1 rfl) ?_
  refine hp_callRi (va_runV (As := [.int t]) (rest := []) ⟨hx, hb, hml, hown, hts⟩ (c_X8_has l D cy _ cs ad en (hI.1 _ (by decide)) cnt d mm hcnt hd2 hd3 hmm t es896) (kw_X8_has hts tw_412 ⟨by decide, by decide⟩) (preV_of hh hK (hI.1 _ (by decide)) es896 rfl) rfl rfl hl.1 rfl (lv_room (Nat.le_of_ble_eq_true rfl)) dX11_tell_5 ⟨Nat.le_of_ble_eq_true rfl, Nat.le_of_ble_eq_true rfl⟩) hh hA (fun r_898 H locs hw_898 hh => ?_)
  rcases Decidable.em (0 ≤ t.toInt ∧ t.toInt < (cnt : Int)) with hp_898 | hp_898
  · obtain rfl : r_898 = 1 := Eq.trans hw_898 (if_pos hp_898)
    obtain ⟨T_898, rfl, hT_898⟩ := has_nat hp_898
    refine lv_if_eq (tgt := 29) hx hb dX11_tell_8 (by decide) (fun c_0 => absurd c_0 (by decide)) (fun _ => ?_)
    obtain ⟨f_899, es899⟩ := get_all hI
    have hdd : d * d ≤ 9 := Nat.mul_le_mul hd3 hd3
    obtain ⟨⟨q9, k9, ci9, hq9, hk9, hq115, hk115, hal9, eq9, hci9, ek9, hkd9⟩, hF9⟩ := hTX T_898 d hd3 (by rw [es896]; rfl) (by rw [show rdI (en 1) 4 = nI cnt from by rw [es896]; rfl, nI_toInt (by omega)]; omega)
    rw [show rdR (en 2) = f_899 from by rw [es899]; rfl] at hal9
    refine lv_aload_n hx hb dX11_tell_11 rfl (lv_at hl 0 rfl) ?_
    refine hp_get hx hb hts ix11 hown hK hh (q := 0) rfl (hI.1 _ (by decide)) es895 rfl 0 (by decide) (hts _ tw_245) (fun _ h9 => h9) rfl dX11_tell_12 ?_
    refine lv_iload_n hx hb dX11_tell_15 rfl (lv_at hl 1 rfl) ?_
    refine hp_callRq (va_runV (As := [.int (nI T_898)]) (rest := []) ⟨hx, hb, hml, hown, hts⟩ (c_X8_tableOf l D cy _ cs ad en (hI.1 _ (by decide)) (hI.1 _ (by decide)) cnt d mm hcnt hd2 hd3 hmm f_899 T_898 (ad q9) (by omega) hal9 es896 es899) (kw_X8_tableOf hts tw_421 ⟨by decide, by decide⟩) (preV_of hh hK (hI.1 _ (by decide)) es896 rfl) rfl rfl hl.1 rfl (lv_room (Nat.le_of_ble_eq_true rfl)) dX11_tell_16 ⟨Nat.le_of_ble_eq_true rfl, Nat.le_of_ble_eq_true rfl⟩) hh hA (fun r_900 H locs hw_900 hh => ?_)
    obtain rfl : r_900 = some (ad q9) := hw_900
    refine W.eq (g2 := F0 m 19 ls [.ref (ad q9)]) rfl ?_
    refine lv_aload_n hx hb dX11_tell_19 rfl (lv_at hl 0 rfl) ?_
    refine hp_get hx hb hts ix11 hown hK hh (q := 0) rfl (hI.1 _ (by decide)) es895 rfl 5 (by decide) (hts _ tw_250) (fun _ h9 => h9) rfl dX11_tell_20 ?_
    rcases hci9 with rfl | rfl | rfl
    · refine hp_callMi (va_runU (As := [.ref (ad 76)]) (rest := []) ⟨hx, hb, hml, hown, hts⟩ (c_X7_telling_6 l D cy _ cs ad en q9 k9 T_898 d hq9 hk9 (by omega) (by omega) (by omega) (by omega) (by omega) (F T_898) (hI.1 _ (by decide)) hi_897 eq9 ek9 es897) (va_cwU 1 hts (TB_U tw_787 tw_790 tw_789 tw_788 tw_13 tw_820) rfl rfl rfl rfl (by decide +kernel) ⟨by decide, by decide⟩) (preV_of hh hK hq9 eq9 rfl) rfl rfl hl.1 rfl (lv_room (Nat.le_of_ble_eq_true rfl)) dX11_tell_23 ⟨Nat.le_of_ble_eq_true rfl, Nat.le_of_ble_eq_true rfl⟩) hh hA (fun r_901 H locs en_901 hw_901 hh => ?_)
      obtain ⟨hr_901, hen_901⟩ := hw_901
      have es895_901 : en_901 0 = .inr (10, [.ref (ad 1), .ref (ad 12), .ref (ad 70), .ref (ad 74), .ref (ad 75), .ref (ad 76), .int (nI wc_895), .int lf_895]) := by rw [hen_901, va_up_ne _ _ (by decide)]; exact es895
      have es896_901 : en_901 1 = .inr (7, [.ref (ad 2), .ref (ad 3), .ref (ad 10), .ref (ad 11), .int (nI cnt), .int (nI d), .int (nI mm)]) := by rw [hen_901, va_up_ne _ _ (by decide)]; exact es896
      have es899_901 : en_901 2 = .inl (cy 3, 6, .inr (.inr (.inr (.inr f_899)))) := by rw [hen_901, va_up_ne _ _ (by decide)]; exact es899
      have eq9_901 : en_901 q9 = .inr (6, [.int (nI T_898), .int (nI d), .ref (ad k9)]) := by rw [hen_901, va_up_ne _ _ (by omega)]; exact eq9
      have ek9_901 : en_901 k9 = .inl (cy 0, (d * d), .inl (F T_898)) := by rw [hen_901, va_up_ne _ _ (by omega)]; exact ek9
      have es897_901 : en_901 76 = .inr (8, [.int (31 * hi_897 + 1)]) := by rw [hen_901]; exact va_up_self _ _ _
      have hI_901 : SX cy cs ad en_901 := by rw [hen_901]; exact up_tr hI ⟨(31 * hi_897 + 1), rfl⟩
      have hf_901 : ∀ c, (c ≠ 76) → en_901 c = en c := fun c hc => Eq.trans (show en_901 c = en c from by rw [hen_901, va_up_ne _ _ (by omega)]) (hf0 c hc)
      rw [hr_901]
      refine lv_goto (tgt := 30) hx hb dX11_tell_26 (by decide) ?_
      have hr4 : (rdI (en 1) 4).toInt = (cnt : Int) := by rw [show rdI (en 1) 4 = nI cnt from by rw [es896]; rfl]; exact nI_toInt (by omega)
      have hr5 : rdI (en 1) 5 = nI d := by rw [es896]; rfl
      have hr5i : (rdI (en 1) 5).toInt = (d : Int) := by rw [hr5]; exact nI_toInt (by omega)
      exact hp_iretM hx hb hr rfl hlocks hh (⟨hI_901, hf_901, Or.inr ⟨T_898, d, 6, rfl, by unfold hasP; rw [hr4]; exact hp_898, hr5, hd3, by omega, hkd9, Or.inl ⟨rfl, rfl, (by rw [es897_901, es897]; rfl)⟩⟩⟩) dX11_tell_30
    · refine hp_callMi (va_runU (As := [.ref (ad 76)]) (rest := []) ⟨hx, hb, hml, hown, hts⟩ (c_X1_telling_1 l D cy _ cs ad en q9 k9 T_898 d hq9 hk9 (by omega) (by omega) (by omega) (by omega) (by omega) (F T_898) (hI.1 _ (by decide)) hi_897 eq9 ek9 es897) (va_cwO 1 hts (TB_O tw_787 tw_790 tw_788 tw_791 tw_792 tw_14 tw_793) rfl rfl rfl (b0 := cX7_telling) (m0 := 2) (r0 := (some .int)) tw_820 (by decide +kernel) ⟨by decide, by decide⟩) (preV_of hh hK hq9 eq9 rfl) rfl rfl hl.1 rfl (lv_room (Nat.le_of_ble_eq_true rfl)) dX11_tell_23 ⟨Nat.le_of_ble_eq_true rfl, Nat.le_of_ble_eq_true rfl⟩) hh hA (fun r_902 H locs en_902 hw_902 hh => ?_)
      obtain ⟨hr_902, hen_902⟩ := hw_902
      have es895_902 : en_902 0 = .inr (10, [.ref (ad 1), .ref (ad 12), .ref (ad 70), .ref (ad 74), .ref (ad 75), .ref (ad 76), .int (nI wc_895), .int lf_895]) := by rw [hen_902, va_up_ne _ _ (by decide)]; exact es895
      have es896_902 : en_902 1 = .inr (7, [.ref (ad 2), .ref (ad 3), .ref (ad 10), .ref (ad 11), .int (nI cnt), .int (nI d), .int (nI mm)]) := by rw [hen_902, va_up_ne _ _ (by decide)]; exact es896
      have es899_902 : en_902 2 = .inl (cy 3, 6, .inr (.inr (.inr (.inr f_899)))) := by rw [hen_902, va_up_ne _ _ (by decide)]; exact es899
      have eq9_902 : en_902 q9 = .inr (1, [.int (nI T_898), .int (nI d), .ref (ad k9)]) := by rw [hen_902, va_up_ne _ _ (by omega)]; exact eq9
      have ek9_902 : en_902 k9 = .inl (cy 0, (d * d), .inl (F T_898)) := by rw [hen_902, va_up_ne _ _ (by omega)]; exact ek9
      have es897_902 : en_902 76 = .inr (8, [.int (31 * (31 * hi_897 + 2) + 1)]) := by rw [hen_902]; exact va_up_self _ _ _
      have hI_902 : SX cy cs ad en_902 := by rw [hen_902]; exact up_tr hI ⟨(31 * (31 * hi_897 + 2) + 1), rfl⟩
      have hf_902 : ∀ c, (c ≠ 76) → en_902 c = en c := fun c hc => Eq.trans (show en_902 c = en c from by rw [hen_902, va_up_ne _ _ (by omega)]) (hf0 c hc)
      rw [hr_902]
      refine lv_goto (tgt := 30) hx hb dX11_tell_26 (by decide) ?_
      have hr4 : (rdI (en 1) 4).toInt = (cnt : Int) := by rw [show rdI (en 1) 4 = nI cnt from by rw [es896]; rfl]; exact nI_toInt (by omega)
      have hr5 : rdI (en 1) 5 = nI d := by rw [es896]; rfl
      have hr5i : (rdI (en 1) 5).toInt = (d : Int) := by rw [hr5]; exact nI_toInt (by omega)
      exact hp_iretM hx hb hr rfl hlocks hh (⟨hI_902, hf_902, Or.inr ⟨T_898, d, 1, rfl, by unfold hasP; rw [hr4]; exact hp_898, hr5, hd3, by omega, hkd9, Or.inr (Or.inl ⟨rfl, rfl, (by rw [es897_902, es897]; rfl)⟩)⟩⟩) dX11_tell_30
    · refine hp_callMi (va_runU (As := [.ref (ad 76)]) (rest := []) ⟨hx, hb, hml, hown, hts⟩ (c_X4_telling_4 l D cy _ cs ad en q9 k9 T_898 d hq9 hk9 (by omega) (by omega) (by omega) (by omega) (by omega) (F T_898) (hI.1 _ (by decide)) hi_897 eq9 ek9 es897) (va_cwO 1 hts (TB_O tw_787 tw_790 tw_788 tw_808 tw_809 tw_15 tw_810) rfl rfl rfl (b0 := cX7_telling) (m0 := 2) (r0 := (some .int)) tw_820 (by decide +kernel) ⟨by decide, by decide⟩) (preV_of hh hK hq9 eq9 rfl) rfl rfl hl.1 rfl (lv_room (Nat.le_of_ble_eq_true rfl)) dX11_tell_23 ⟨Nat.le_of_ble_eq_true rfl, Nat.le_of_ble_eq_true rfl⟩) hh hA (fun r_903 H locs en_903 hw_903 hh => ?_)
      obtain ⟨hr_903, hen_903⟩ := hw_903
      have es895_903 : en_903 0 = .inr (10, [.ref (ad 1), .ref (ad 12), .ref (ad 70), .ref (ad 74), .ref (ad 75), .ref (ad 76), .int (nI wc_895), .int lf_895]) := by rw [hen_903, va_up_ne _ _ (by decide)]; exact es895
      have es896_903 : en_903 1 = .inr (7, [.ref (ad 2), .ref (ad 3), .ref (ad 10), .ref (ad 11), .int (nI cnt), .int (nI d), .int (nI mm)]) := by rw [hen_903, va_up_ne _ _ (by decide)]; exact es896
      have es899_903 : en_903 2 = .inl (cy 3, 6, .inr (.inr (.inr (.inr f_899)))) := by rw [hen_903, va_up_ne _ _ (by decide)]; exact es899
      have eq9_903 : en_903 q9 = .inr (4, [.int (nI T_898), .int (nI d), .ref (ad k9)]) := by rw [hen_903, va_up_ne _ _ (by omega)]; exact eq9
      have ek9_903 : en_903 k9 = .inl (cy 0, (d * d), .inl (F T_898)) := by rw [hen_903, va_up_ne _ _ (by omega)]; exact ek9
      have es897_903 : en_903 76 = .inr (8, [.int (31 * (31 * (31 * (31 * hi_897 + 3) + 2) + 1) + 1)]) := by rw [hen_903]; exact va_up_self _ _ _
      have hI_903 : SX cy cs ad en_903 := by rw [hen_903]; exact up_tr hI ⟨(31 * (31 * (31 * (31 * hi_897 + 3) + 2) + 1) + 1), rfl⟩
      have hf_903 : ∀ c, (c ≠ 76) → en_903 c = en c := fun c hc => Eq.trans (show en_903 c = en c from by rw [hen_903, va_up_ne _ _ (by omega)]) (hf0 c hc)
      rw [hr_903]
      refine lv_goto (tgt := 30) hx hb dX11_tell_26 (by decide) ?_
      have hr4 : (rdI (en 1) 4).toInt = (cnt : Int) := by rw [show rdI (en 1) 4 = nI cnt from by rw [es896]; rfl]; exact nI_toInt (by omega)
      have hr5 : rdI (en 1) 5 = nI d := by rw [es896]; rfl
      have hr5i : (rdI (en 1) 5).toInt = (d : Int) := by rw [hr5]; exact nI_toInt (by omega)
      exact hp_iretM hx hb hr rfl hlocks hh (⟨hI_903, hf_903, Or.inr ⟨T_898, d, 4, rfl, by unfold hasP; rw [hr4]; exact hp_898, hr5, hd3, by omega, hkd9, Or.inr (Or.inr ⟨rfl, rfl, (by rw [es897_903, es897]; rfl)⟩)⟩⟩) dX11_tell_30
  · obtain rfl : r_898 = 0 := Eq.trans hw_898 (if_neg hp_898)
    refine lv_if_eq (tgt := 29) hx hb dX11_tell_8 (by decide) (fun _ => ?_) (fun c_0 => absurd c_0 (by decide))
    refine lv_iconst (v := (-1)) hx hb dX11_tell_29 (by decide) ?_
    have hr4 : (rdI (en 1) 4).toInt = (cnt : Int) := by rw [show rdI (en 1) 4 = nI cnt from by rw [es896]; rfl]; exact nI_toInt (by omega)
    have hr5 : rdI (en 1) 5 = nI d := by rw [es896]; rfl
    have hr5i : (rdI (en 1) 5).toInt = (d : Int) := by rw [hr5]; exact nI_toInt (by omega)
    exact hp_iretM hx hb hr rfl hlocks hh (⟨hI, hf0, Or.inl ⟨fun q => hp_898 (by have h9 := q; unfold hasP at h9; rw [hr4] at h9; exact h9), rfl, rfl⟩⟩) dX11_tell_30
theorem kw_X11_tell {R : Room} {s : State} {args : Array Value} {own : String} {idx : Nat} (hts : ∀ w ∈ TB, w.before args s = true) (hl : Cond.methodLink own idx yX11_tell ∈ TB) (hR : 5 + 1 ≤ R.frames ∧ 8 + (2 + 11) + 40 * 5 ≤ R.locals) : CallW R s args own RX11 idx yX11_tell cX11_tell 2 (some .int) (Cond.code yX11_tell cX11_tell 2 (some .int) :: TB) (rmN 5) 0 0 1 := cwV 1 hts (TB_V hl tw_784 tw_785 tw_1 tw_786) rfl rfl rfl (by decide +kernel) hR
set_option maxHeartbeats 4000000 in
set_option maxRecDepth 100000 in
/-- weigh -/
theorem c_X11_weigh (l : Launch) (D : va_G) (cy : Nat → ClassId) (sz : Nat) (cs : List Nat) (ad : Nat → Nat) (en : Nat → va_E) (hI : SX cy cs ad en) (t : Int32) (F : Nat → Nat → Int32) (hTX : TXF cy cs ad en F)   : Met l yX11_weigh (Cond.code yX11_weigh cX11_weigh 2 (some .int) :: TB) (rmN 2) (va_Pc [.ref (ad 0), .int t] (Pre D cy cs ad en sz)) (va_Qi (S := Nat → va_E) (fun r en1 => SX cy cs ad en1 ∧ (∀ c, (c ≠ 76) → en1 c = en c) ∧ XWE F t r en en1) (PostM D cs ad) (Af cs ad sz)) 0 0 (Af cs ad sz) := by
  refine Met.ofW (cc := cX11_weigh) (maxL := 2) (ret := (some .int)) (by decide) rfl ?_
  intro p e s m args below meth c s₁ B hml hv
  obtain ⟨rfl, hsz, hP, hK, hD0⟩ := hv
  have hx := B.exec
  have hb := B.bytes
  have hr := B.returns
  have hts : ∀ w ∈ TB, w.before _ s = true := fun w h => atoms_spec (ws := _ :: TB) B.pre w (List.mem_cons_of_mem _ h)
  have hown : s.vm.findClass RX11 = some m.cls := findClass_of_methodNamed B.named
  have hlocks := B.notSynchronized
  have hh : Hp D (Af cs ad sz) (Af cs ad sz) s.heap s.heap [] cs ad en := ⟨hP, Af_self hD0, va_S.rf⟩
  have hA : ∀ q : Nat, s.heap.size ≤ q → Af cs ad sz q := fun q h => Or.inr (by rw [hsz] at h; exact h)
  have hl := lv_entry ([.ref (ad 0), .int t]) (n := 2) (Nat.le_of_ble_eq_true rfl)
  rw [lg_entry_eq]
  generalize (lg_sl ([.ref (ad 0), .int t]) ++ List.replicate (2 - (lg_sl ([.ref (ad 0), .int t])).length) Slot.unset).toArray = ls at hl ⊢
  have hl : lv_has ls 2 [(0, .ref (ad 0)), (1, .int t)] := hl
  have hf0 : ∀ c, (c ≠ 76) → en c = en c := fun _ _ => rfl
  obtain ⟨wc_904, lf_904, es904, p0_904⟩ := get_A hI
  obtain ⟨cnt, d, mm, es905, hcnt, hd2, hd3, hmm⟩ := get_T hI
  obtain ⟨hi_906, es906⟩ := get_tr hI
  refine lv_aload_n hx hb dX11_weigh_0 rfl (lv_at hl 0 rfl) ?_
  refine hp_get hx hb hts ix11 hown hK hh (q := 0) rfl (hI.1 _ (by decide)) es904 rfl 0 (by decide) (hts _ tw_245) (fun _ h9 => h9) rfl dX11_weigh_1 ?_
  refine lv_iload_n hx hb dX11_weigh_4 rfl (lv_at hl 1 rfl) ?_
  refine hp_callRi (va_runV (As := [.int t]) (rest := []) ⟨hx, hb, hml, hown, hts⟩ (c_X8_has l D cy _ cs ad en (hI.1 _ (by decide)) cnt d mm hcnt hd2 hd3 hmm t es905) (kw_X8_has hts tw_412 ⟨by decide, by decide⟩) (preV_of hh hK (hI.1 _ (by decide)) es905 rfl) rfl rfl hl.1 rfl (lv_room (Nat.le_of_ble_eq_true rfl)) dX11_weigh_5 ⟨Nat.le_of_ble_eq_true rfl, Nat.le_of_ble_eq_true rfl⟩) hh hA (fun r_907 H locs hw_907 hh => ?_)
  rcases Decidable.em (0 ≤ t.toInt ∧ t.toInt < (cnt : Int)) with hp_907 | hp_907
  · obtain rfl : r_907 = 1 := Eq.trans hw_907 (if_pos hp_907)
    obtain ⟨T_907, rfl, hT_907⟩ := has_nat hp_907
    refine lv_if_eq (tgt := 29) hx hb dX11_weigh_8 (by decide) (fun c_0 => absurd c_0 (by decide)) (fun _ => ?_)
    obtain ⟨f_908, es908⟩ := get_all hI
    have hdd : d * d ≤ 9 := Nat.mul_le_mul hd3 hd3
    obtain ⟨⟨q9, k9, ci9, hq9, hk9, hq115, hk115, hal9, eq9, hci9, ek9, hkd9⟩, hF9⟩ := hTX T_907 d hd3 (by rw [es905]; rfl) (by rw [show rdI (en 1) 4 = nI cnt from by rw [es905]; rfl, nI_toInt (by omega)]; omega)
    rw [show rdR (en 2) = f_908 from by rw [es908]; rfl] at hal9
    refine lv_aload_n hx hb dX11_weigh_11 rfl (lv_at hl 0 rfl) ?_
    refine hp_get hx hb hts ix11 hown hK hh (q := 0) rfl (hI.1 _ (by decide)) es904 rfl 0 (by decide) (hts _ tw_245) (fun _ h9 => h9) rfl dX11_weigh_12 ?_
    refine lv_iload_n hx hb dX11_weigh_15 rfl (lv_at hl 1 rfl) ?_
    refine hp_callRq (va_runV (As := [.int (nI T_907)]) (rest := []) ⟨hx, hb, hml, hown, hts⟩ (c_X8_tableOf l D cy _ cs ad en (hI.1 _ (by decide)) (hI.1 _ (by decide)) cnt d mm hcnt hd2 hd3 hmm f_908 T_907 (ad q9) (by omega) hal9 es905 es908) (kw_X8_tableOf hts tw_421 ⟨by decide, by decide⟩) (preV_of hh hK (hI.1 _ (by decide)) es905 rfl) rfl rfl hl.1 rfl (lv_room (Nat.le_of_ble_eq_true rfl)) dX11_weigh_16 ⟨Nat.le_of_ble_eq_true rfl, Nat.le_of_ble_eq_true rfl⟩) hh hA (fun r_909 H locs hw_909 hh => ?_)
    obtain rfl : r_909 = some (ad q9) := hw_909
    refine W.eq (g2 := F0 m 19 ls [.ref (ad q9)]) rfl ?_
    refine lv_aload_n hx hb dX11_weigh_19 rfl (lv_at hl 0 rfl) ?_
    refine hp_get hx hb hts ix11 hown hK hh (q := 0) rfl (hI.1 _ (by decide)) es904 rfl 5 (by decide) (hts _ tw_250) (fun _ h9 => h9) rfl dX11_weigh_20 ?_
    rcases hci9 with rfl | rfl | rfl
    · refine hp_callMi (va_runU (As := [.ref (ad 76)]) (rest := []) ⟨hx, hb, hml, hown, hts⟩ (c_X7_weight_6 l D cy _ cs ad en q9 k9 T_907 d hq9 hk9 (by omega) (by omega) (by omega) (by omega) (by omega) (F T_907) (hI.1 _ (by decide)) hi_906 eq9 ek9 es906) (va_cwU 1 hts (TB_U tw_826 tw_829 tw_828 tw_827 tw_13 tw_834) rfl rfl rfl rfl (by decide +kernel) ⟨by decide, by decide⟩) (preV_of hh hK hq9 eq9 rfl) rfl rfl hl.1 rfl (lv_room (Nat.le_of_ble_eq_true rfl)) dX11_weigh_23 ⟨Nat.le_of_ble_eq_true rfl, Nat.le_of_ble_eq_true rfl⟩) hh hA (fun r_910 H locs en_910 hw_910 hh => ?_)
      obtain ⟨hr_910, hen_910⟩ := hw_910
      have es904_910 : en_910 0 = .inr (10, [.ref (ad 1), .ref (ad 12), .ref (ad 70), .ref (ad 74), .ref (ad 75), .ref (ad 76), .int (nI wc_904), .int lf_904]) := by rw [hen_910, va_up_ne _ _ (by decide)]; exact es904
      have es905_910 : en_910 1 = .inr (7, [.ref (ad 2), .ref (ad 3), .ref (ad 10), .ref (ad 11), .int (nI cnt), .int (nI d), .int (nI mm)]) := by rw [hen_910, va_up_ne _ _ (by decide)]; exact es905
      have es908_910 : en_910 2 = .inl (cy 3, 6, .inr (.inr (.inr (.inr f_908)))) := by rw [hen_910, va_up_ne _ _ (by decide)]; exact es908
      have eq9_910 : en_910 q9 = .inr (6, [.int (nI T_907), .int (nI d), .ref (ad k9)]) := by rw [hen_910, va_up_ne _ _ (by omega)]; exact eq9
      have ek9_910 : en_910 k9 = .inl (cy 0, (d * d), .inl (F T_907)) := by rw [hen_910, va_up_ne _ _ (by omega)]; exact ek9
      have es906_910 : en_910 76 = .inr (8, [.int (31 * hi_906 + 4)]) := by rw [hen_910]; exact va_up_self _ _ _
      have hI_910 : SX cy cs ad en_910 := by rw [hen_910]; exact up_tr hI ⟨(31 * hi_906 + 4), rfl⟩
      have hf_910 : ∀ c, (c ≠ 76) → en_910 c = en c := fun c hc => Eq.trans (show en_910 c = en c from by rw [hen_910, va_up_ne _ _ (by omega)]) (hf0 c hc)
      rw [hr_910]
      refine lv_goto (tgt := 30) hx hb dX11_weigh_26 (by decide) ?_
      have hr4 : (rdI (en 1) 4).toInt = (cnt : Int) := by rw [show rdI (en 1) 4 = nI cnt from by rw [es905]; rfl]; exact nI_toInt (by omega)
      have hr5 : rdI (en 1) 5 = nI d := by rw [es905]; rfl
      have hr5i : (rdI (en 1) 5).toInt = (d : Int) := by rw [hr5]; exact nI_toInt (by omega)
      exact hp_iretM hx hb hr rfl hlocks hh (⟨hI_910, hf_910, Or.inr ⟨T_907, d, 6, rfl, by unfold hasP; rw [hr4]; exact hp_907, hr5, hd3, by omega, hkd9, Or.inl ⟨by decide, rfl, (by rw [es906_910, es906]; rfl)⟩⟩⟩) dX11_weigh_30
    · refine hp_callMi (va_runU (As := [.ref (ad 76)]) (rest := []) ⟨hx, hb, hml, hown, hts⟩ (c_X7_weight_1 l D cy _ cs ad en q9 k9 T_907 d hq9 hk9 (by omega) (by omega) (by omega) (by omega) (by omega) (F T_907) (hI.1 _ (by decide)) hi_906 eq9 ek9 es906) (va_cwU 1 hts (TB_U tw_826 tw_829 tw_830 tw_827 tw_13 tw_834) rfl rfl rfl rfl (by decide +kernel) ⟨by decide, by decide⟩) (preV_of hh hK hq9 eq9 rfl) rfl rfl hl.1 rfl (lv_room (Nat.le_of_ble_eq_true rfl)) dX11_weigh_23 ⟨Nat.le_of_ble_eq_true rfl, Nat.le_of_ble_eq_true rfl⟩) hh hA (fun r_911 H locs en_911 hw_911 hh => ?_)
      obtain ⟨hr_911, hen_911⟩ := hw_911
      have es904_911 : en_911 0 = .inr (10, [.ref (ad 1), .ref (ad 12), .ref (ad 70), .ref (ad 74), .ref (ad 75), .ref (ad 76), .int (nI wc_904), .int lf_904]) := by rw [hen_911, va_up_ne _ _ (by decide)]; exact es904
      have es905_911 : en_911 1 = .inr (7, [.ref (ad 2), .ref (ad 3), .ref (ad 10), .ref (ad 11), .int (nI cnt), .int (nI d), .int (nI mm)]) := by rw [hen_911, va_up_ne _ _ (by decide)]; exact es905
      have es908_911 : en_911 2 = .inl (cy 3, 6, .inr (.inr (.inr (.inr f_908)))) := by rw [hen_911, va_up_ne _ _ (by decide)]; exact es908
      have eq9_911 : en_911 q9 = .inr (1, [.int (nI T_907), .int (nI d), .ref (ad k9)]) := by rw [hen_911, va_up_ne _ _ (by omega)]; exact eq9
      have ek9_911 : en_911 k9 = .inl (cy 0, (d * d), .inl (F T_907)) := by rw [hen_911, va_up_ne _ _ (by omega)]; exact ek9
      have es906_911 : en_911 76 = .inr (8, [.int (31 * hi_906 + 4)]) := by rw [hen_911]; exact va_up_self _ _ _
      have hI_911 : SX cy cs ad en_911 := by rw [hen_911]; exact up_tr hI ⟨(31 * hi_906 + 4), rfl⟩
      have hf_911 : ∀ c, (c ≠ 76) → en_911 c = en c := fun c hc => Eq.trans (show en_911 c = en c from by rw [hen_911, va_up_ne _ _ (by omega)]) (hf0 c hc)
      rw [hr_911]
      refine lv_goto (tgt := 30) hx hb dX11_weigh_26 (by decide) ?_
      have hr4 : (rdI (en 1) 4).toInt = (cnt : Int) := by rw [show rdI (en 1) 4 = nI cnt from by rw [es905]; rfl]; exact nI_toInt (by omega)
      have hr5 : rdI (en 1) 5 = nI d := by rw [es905]; rfl
      have hr5i : (rdI (en 1) 5).toInt = (d : Int) := by rw [hr5]; exact nI_toInt (by omega)
      exact hp_iretM hx hb hr rfl hlocks hh (⟨hI_911, hf_911, Or.inr ⟨T_907, d, 1, rfl, by unfold hasP; rw [hr4]; exact hp_907, hr5, hd3, by omega, hkd9, Or.inl ⟨by decide, rfl, (by rw [es906_911, es906]; rfl)⟩⟩⟩) dX11_weigh_30
    · refine hp_callMi (va_runU (As := [.ref (ad 76)]) (rest := []) ⟨hx, hb, hml, hown, hts⟩ (c_X4_weight_4 l D cy _ cs ad en q9 k9 T_907 d hq9 hk9 (by omega) (by omega) (by omega) (by omega) (by omega) (F T_907) (hI.1 _ (by decide)) hi_906 eq9 ek9 es906) (va_cwO 1 hts (TB_O tw_826 tw_829 tw_827 tw_831 tw_832 tw_15 tw_833) rfl rfl rfl (b0 := cX7_weight) (m0 := 2) (r0 := (some .int)) tw_834 (by decide +kernel) ⟨by decide, by decide⟩) (preV_of hh hK hq9 eq9 rfl) rfl rfl hl.1 rfl (lv_room (Nat.le_of_ble_eq_true rfl)) dX11_weigh_23 ⟨Nat.le_of_ble_eq_true rfl, Nat.le_of_ble_eq_true rfl⟩) hh hA (fun r_912 H locs en_912 hw_912 hh => ?_)
      obtain ⟨hr_912, hen_912⟩ := hw_912
      have es904_912 : en_912 0 = .inr (10, [.ref (ad 1), .ref (ad 12), .ref (ad 70), .ref (ad 74), .ref (ad 75), .ref (ad 76), .int (nI wc_904), .int lf_904]) := by rw [hen_912, va_up_ne _ _ (by decide)]; exact es904
      have es905_912 : en_912 1 = .inr (7, [.ref (ad 2), .ref (ad 3), .ref (ad 10), .ref (ad 11), .int (nI cnt), .int (nI d), .int (nI mm)]) := by rw [hen_912, va_up_ne _ _ (by decide)]; exact es905
      have es908_912 : en_912 2 = .inl (cy 3, 6, .inr (.inr (.inr (.inr f_908)))) := by rw [hen_912, va_up_ne _ _ (by decide)]; exact es908
      have eq9_912 : en_912 q9 = .inr (4, [.int (nI T_907), .int (nI d), .ref (ad k9)]) := by rw [hen_912, va_up_ne _ _ (by omega)]; exact eq9
      have ek9_912 : en_912 k9 = .inl (cy 0, (d * d), .inl (F T_907)) := by rw [hen_912, va_up_ne _ _ (by omega)]; exact ek9
      have es906_912 : en_912 76 = .inr (8, [.int (31 * hi_906 + 5)]) := by rw [hen_912]; exact va_up_self _ _ _
      have hI_912 : SX cy cs ad en_912 := by rw [hen_912]; exact up_tr hI ⟨(31 * hi_906 + 5), rfl⟩
      have hf_912 : ∀ c, (c ≠ 76) → en_912 c = en c := fun c hc => Eq.trans (show en_912 c = en c from by rw [hen_912, va_up_ne _ _ (by omega)]) (hf0 c hc)
      rw [hr_912]
      refine lv_goto (tgt := 30) hx hb dX11_weigh_26 (by decide) ?_
      have hr4 : (rdI (en 1) 4).toInt = (cnt : Int) := by rw [show rdI (en 1) 4 = nI cnt from by rw [es905]; rfl]; exact nI_toInt (by omega)
      have hr5 : rdI (en 1) 5 = nI d := by rw [es905]; rfl
      have hr5i : (rdI (en 1) 5).toInt = (d : Int) := by rw [hr5]; exact nI_toInt (by omega)
      exact hp_iretM hx hb hr rfl hlocks hh (⟨hI_912, hf_912, Or.inr ⟨T_907, d, 4, rfl, by unfold hasP; rw [hr4]; exact hp_907, hr5, hd3, by omega, hkd9, Or.inr ⟨rfl, rfl, (by rw [es906_912, es906]; rfl)⟩⟩⟩) dX11_weigh_30
  · obtain rfl : r_907 = 0 := Eq.trans hw_907 (if_neg hp_907)
    refine lv_if_eq (tgt := 29) hx hb dX11_weigh_8 (by decide) (fun _ => ?_) (fun c_0 => absurd c_0 (by decide))
    refine lv_iconst (v := (-1)) hx hb dX11_weigh_29 (by decide) ?_
    have hr4 : (rdI (en 1) 4).toInt = (cnt : Int) := by rw [show rdI (en 1) 4 = nI cnt from by rw [es905]; rfl]; exact nI_toInt (by omega)
    have hr5 : rdI (en 1) 5 = nI d := by rw [es905]; rfl
    have hr5i : (rdI (en 1) 5).toInt = (d : Int) := by rw [hr5]; exact nI_toInt (by omega)
    exact hp_iretM hx hb hr rfl hlocks hh (⟨hI, hf0, Or.inl ⟨fun q => hp_907 (by have h9 := q; unfold hasP at h9; rw [hr4] at h9; exact h9), rfl, rfl⟩⟩) dX11_weigh_30
theorem kw_X11_weigh {R : Room} {s : State} {args : Array Value} {own : String} {idx : Nat} (hts : ∀ w ∈ TB, w.before args s = true) (hl : Cond.methodLink own idx yX11_weigh ∈ TB) (hR : 2 + 1 ≤ R.frames ∧ 8 + (2 + 11) + 40 * 2 ≤ R.locals) : CallW R s args own RX11 idx yX11_weigh cX11_weigh 2 (some .int) (Cond.code yX11_weigh cX11_weigh 2 (some .int) :: TB) (rmN 2) 0 0 1 := cwV 1 hts (TB_V hl tw_823 tw_824 tw_1 tw_825) rfl rfl rfl (by decide +kernel) hR
set_option maxHeartbeats 4000000 in
set_option maxRecDepth 100000 in
/-- takeAs -/
theorem c_X11_takeAs (l : Launch) (D : va_G) (cy : Nat → ClassId) (sz : Nat) (cs : List Nat) (ad : Nat → Nat) (en : Nat → va_E) (hI : SX cy cs ad en) (t z : Int32) (F : Nat → Nat → Int32) (hTX : TXF cy cs ad en F)   : Met l yX11_takeAs (Cond.code yX11_takeAs cX11_takeAs 3 (some .int) :: TB) (rmN 3) (va_Pc [.ref (ad 0), .int t, .int z] (Pre D cy cs ad en sz)) (va_Qi (S := Unit) (fun r _ => XAS F t z r en) (fun _ _ => True) (Nf sz)) 0 0 (Nf sz) := by
  refine Met.ofW (cc := cX11_takeAs) (maxL := 3) (ret := (some .int)) (by decide) rfl ?_
  intro p e s m args below meth c s₁ B hml hv
  obtain ⟨rfl, hsz, hP, hK, hD0⟩ := hv
  have hx := B.exec
  have hb := B.bytes
  have hr := B.returns
  have hts : ∀ w ∈ TB, w.before _ s = true := fun w h => atoms_spec (ws := _ :: TB) B.pre w (List.mem_cons_of_mem _ h)
  have hown : s.vm.findClass RX11 = some m.cls := findClass_of_methodNamed B.named
  have hlocks := B.notSynchronized
  have hh : Hp D (Nf sz) (fun _ => True) s.heap s.heap [] cs ad en := ⟨hP, hD0, va_S.rf⟩
  have hA : ∀ q : Nat, s.heap.size ≤ q → Nf sz q := fun q h => by rw [hsz] at h; exact h
  have hl := lv_entry ([.ref (ad 0), .int t, .int z]) (n := 3) (Nat.le_of_ble_eq_true rfl)
  rw [lg_entry_eq]
  generalize (lg_sl ([.ref (ad 0), .int t, .int z]) ++ List.replicate (3 - (lg_sl ([.ref (ad 0), .int t, .int z])).length) Slot.unset).toArray = ls at hl ⊢
  have hl : lv_has ls 3 [(0, .ref (ad 0)), (1, .int t), (2, .int z)] := hl
  obtain ⟨wc_913, lf_913, es913, p0_913⟩ := get_A hI
  obtain ⟨cnt, d, mm, es914, hcnt, hd2, hd3, hmm⟩ := get_T hI
  refine lv_aload_n hx hb dX11_takeAs_0 rfl (lv_at hl 0 rfl) ?_
  refine hp_get hx hb hts ix11 hown hK hh (q := 0) rfl (hI.1 _ (by decide)) es913 rfl 0 (by decide) (hts _ tw_245) (fun _ h9 => h9) rfl dX11_takeAs_1 ?_
  refine lv_iload_n hx hb dX11_takeAs_4 rfl (lv_at hl 1 rfl) ?_
  refine hp_callRi (va_runV (As := [.int t]) (rest := []) ⟨hx, hb, hml, hown, hts⟩ (c_X8_has l D cy _ cs ad en (hI.1 _ (by decide)) cnt d mm hcnt hd2 hd3 hmm t es914) (kw_X8_has hts tw_412 ⟨by decide, by decide⟩) (preV_of hh hK (hI.1 _ (by decide)) es914 rfl) rfl rfl hl.1 rfl (lv_room (Nat.le_of_ble_eq_true rfl)) dX11_takeAs_5 ⟨Nat.le_of_ble_eq_true rfl, Nat.le_of_ble_eq_true rfl⟩) hh hA (fun r_915 H locs hw_915 hh => ?_)
  rcases Decidable.em (0 ≤ t.toInt ∧ t.toInt < (cnt : Int)) with hp_915 | hp_915
  · obtain rfl : r_915 = 1 := Eq.trans hw_915 (if_pos hp_915)
    obtain ⟨T_915, rfl, hT_915⟩ := has_nat hp_915
    refine lv_if_ne (tgt := 13) hx hb dX11_takeAs_8 (by decide) (fun _ => ?_) (fun c_0 => absurd c_0 (by decide))
    refine lv_iload_n hx hb dX11_takeAs_13 rfl (lv_at hl 2 rfl) ?_
    refine lv_iconst (v := 0) hx hb dX11_takeAs_14 (by decide) ?_
    refine lv_iconst (v := 2) hx hb dX11_takeAs_15 (by decide) ?_
    refine hp_callRi (va_runS (As := [.int z, .int 0, .int 2]) (rest := []) ⟨hx, hb, hml, hown, hts⟩ (c_X11_isWithin l D cy _ cs ad en z 0 2) (kw_X11_isWithin hts tw_274 ⟨by decide, by decide⟩) (preS_of hh hK) rfl rfl hl.1 rfl (lv_room (Nat.le_of_ble_eq_true rfl)) dX11_takeAs_16 ⟨Nat.le_of_ble_eq_true rfl, Nat.le_of_ble_eq_true rfl⟩) hh hA (fun r_916 H locs hw_916 hh => ?_)
    rcases Decidable.em (wi z 0 2) with hp_916 | hp_916
    · obtain rfl : r_916 = 1 := Eq.trans hw_916 (if_pos hp_916)
      obtain ⟨N_916, rfl, hA_916, hB_916⟩ := wi_natB hp_916 0 2 (by decide) (by decide)
      refine lv_if_ne (tgt := 25) hx hb dX11_takeAs_19 (by decide) (fun _ => ?_) (fun c_0 => absurd c_0 (by decide))
      obtain ⟨f_917, es917⟩ := get_all hI
      have hdd : d * d ≤ 9 := Nat.mul_le_mul hd3 hd3
      obtain ⟨⟨q9, k9, ci9, hq9, hk9, hq115, hk115, hal9, eq9, hci9, ek9, hkd9⟩, hF9⟩ := hTX T_915 d hd3 (by rw [es914]; rfl) (by rw [show rdI (en 1) 4 = nI cnt from by rw [es914]; rfl, nI_toInt (by omega)]; omega)
      rw [show rdR (en 2) = f_917 from by rw [es917]; rfl] at hal9
      refine lv_aload_n hx hb dX11_takeAs_25 rfl (lv_at hl 0 rfl) ?_
      refine hp_get hx hb hts ix11 hown hK hh (q := 0) rfl (hI.1 _ (by decide)) es913 rfl 0 (by decide) (hts _ tw_245) (fun _ h9 => h9) rfl dX11_takeAs_26 ?_
      refine lv_iload_n hx hb dX11_takeAs_29 rfl (lv_at hl 1 rfl) ?_
      refine hp_callRq (va_runV (As := [.int (nI T_915)]) (rest := []) ⟨hx, hb, hml, hown, hts⟩ (c_X8_tableOf l D cy _ cs ad en (hI.1 _ (by decide)) (hI.1 _ (by decide)) cnt d mm hcnt hd2 hd3 hmm f_917 T_915 (ad q9) (by omega) hal9 es914 es917) (kw_X8_tableOf hts tw_421 ⟨by decide, by decide⟩) (preV_of hh hK (hI.1 _ (by decide)) es914 rfl) rfl rfl hl.1 rfl (lv_room (Nat.le_of_ble_eq_true rfl)) dX11_takeAs_30 ⟨Nat.le_of_ble_eq_true rfl, Nat.le_of_ble_eq_true rfl⟩) hh hA (fun r_918 H locs hw_918 hh => ?_)
      obtain rfl : r_918 = some (ad q9) := hw_918
      refine W.eq (g2 := F0 m 33 ls [.ref (ad q9)]) rfl ?_
      refine lv_iload_n hx hb dX11_takeAs_33 rfl (lv_at hl 2 rfl) ?_
      rcases hci9 with rfl | rfl | rfl
      · refine hp_callRi (va_runU (As := [.int (nI N_916)]) (rest := []) ⟨hx, hb, hml, hown, hts⟩ (c_X7_isOfKind_6 l D cy _ cs ad en q9 k9 T_915 d hq9 hk9 (by omega) (by omega) (by omega) (by omega) (by omega) (F T_915) (nI N_916) eq9 ek9) (va_cwU 1 hts (TB_U tw_843 tw_846 tw_845 tw_844 tw_13 tw_855) rfl rfl rfl rfl (by decide +kernel) ⟨by decide, by decide⟩) (preV_of hh hK hq9 eq9 rfl) rfl rfl hl.1 rfl (lv_room (Nat.le_of_ble_eq_true rfl)) dX11_takeAs_34 ⟨Nat.le_of_ble_eq_true rfl, Nat.le_of_ble_eq_true rfl⟩) hh hA (fun r_919 H locs hw_919 hh => ?_)
        rcases hw_919 with ⟨hb_919, ht_919⟩ | ⟨hb_919, ht_919⟩
        · obtain rfl : r_919 = 1 := hb_919
          refine lv_if_eq (tgt := 44) hx hb dX11_takeAs_37 (by decide) (fun c_0 => absurd c_0 (by decide)) (fun _ => ?_)
          refine lv_iconst (v := 1) hx hb dX11_takeAs_40 (by decide) ?_
          refine lv_goto (tgt := 48) hx hb dX11_takeAs_41 (by decide) ?_
          have hr4 : (rdI (en 1) 4).toInt = (cnt : Int) := by rw [show rdI (en 1) 4 = nI cnt from by rw [es914]; rfl]; exact nI_toInt (by omega)
          have hr5 : rdI (en 1) 5 = nI d := by rw [es914]; rfl
          have hr5i : (rdI (en 1) 5).toInt = (d : Int) := by rw [hr5]; exact nI_toInt (by omega)
          exact hp_iretR hx hb hr rfl hlocks hsz hh (Or.inr (Or.inr ⟨T_915, d, 6, rfl, (by unfold hasP; rw [hr4]; exact hp_915), hp_916, hr5, hd3, by omega, hkd9, Or.inl ⟨Or.inl ht_919, rfl⟩⟩)) dX11_takeAs_48
        · obtain rfl : r_919 = 0 := hb_919
          refine lv_if_eq (tgt := 44) hx hb dX11_takeAs_37 (by decide) (fun _ => ?_) (fun c_0 => absurd c_0 (by decide))
          refine lv_iconst (v := 2) hx hb dX11_takeAs_44 (by decide) ?_
          refine hp_callRi (va_runS (As := [.int 2]) (rest := []) ⟨hx, hb, hml, hown, hts⟩ (c_X11_faultAnswer l D cy _ cs ad en 2) (kw_X11_faultAnswer hts tw_311 ⟨by decide, by decide⟩) (preS_of hh hK) rfl rfl hl.1 rfl (lv_room (Nat.le_of_ble_eq_true rfl)) dX11_takeAs_45 ⟨Nat.le_of_ble_eq_true rfl, Nat.le_of_ble_eq_true rfl⟩) hh hA (fun r_920 H locs hw_920 hh => ?_)
          obtain rfl : r_920 = (-12) := Eq.trans hw_920 (by decide)
          have hr4 : (rdI (en 1) 4).toInt = (cnt : Int) := by rw [show rdI (en 1) 4 = nI cnt from by rw [es914]; rfl]; exact nI_toInt (by omega)
          have hr5 : rdI (en 1) 5 = nI d := by rw [es914]; rfl
          have hr5i : (rdI (en 1) 5).toInt = (d : Int) := by rw [hr5]; exact nI_toInt (by omega)
          exact hp_iretR hx hb hr rfl hlocks hsz hh (Or.inr (Or.inr ⟨T_915, d, 6, rfl, (by unfold hasP; rw [hr4]; exact hp_915), hp_916, hr5, hd3, by omega, hkd9, Or.inr ⟨fun q => q.elim ht_919 (fun q => q.elim (fun w => w.1 rfl) (fun w => absurd w.1 (by decide))), rfl⟩⟩)) dX11_takeAs_48
      · refine hp_callRi (va_runU (As := [.int (nI N_916)]) (rest := []) ⟨hx, hb, hml, hown, hts⟩ (c_X1_isOfKind_1 l D cy _ cs ad en q9 k9 T_915 d hq9 hk9 (by omega) (by omega) (by omega) (by omega) (by omega) (F T_915) (nI N_916) eq9 ek9) (va_cwO 1 hts (TB_O tw_843 tw_846 tw_844 tw_847 tw_848 tw_14 tw_849) rfl rfl rfl (b0 := cX7_isOfKind) (m0 := 2) (r0 := (some .boolean)) tw_855 (by decide +kernel) ⟨by decide, by decide⟩) (preV_of hh hK hq9 eq9 rfl) rfl rfl hl.1 rfl (lv_room (Nat.le_of_ble_eq_true rfl)) dX11_takeAs_34 ⟨Nat.le_of_ble_eq_true rfl, Nat.le_of_ble_eq_true rfl⟩) hh hA (fun r_921 H locs hw_921 hh => ?_)
        rcases hw_921 with ⟨hb_921, ht_921⟩ | ⟨hb_921, ht_921⟩
        · obtain rfl : r_921 = 1 := hb_921
          refine lv_if_eq (tgt := 44) hx hb dX11_takeAs_37 (by decide) (fun c_0 => absurd c_0 (by decide)) (fun _ => ?_)
          refine lv_iconst (v := 1) hx hb dX11_takeAs_40 (by decide) ?_
          refine lv_goto (tgt := 48) hx hb dX11_takeAs_41 (by decide) ?_
          have hr4 : (rdI (en 1) 4).toInt = (cnt : Int) := by rw [show rdI (en 1) 4 = nI cnt from by rw [es914]; rfl]; exact nI_toInt (by omega)
          have hr5 : rdI (en 1) 5 = nI d := by rw [es914]; rfl
          have hr5i : (rdI (en 1) 5).toInt = (d : Int) := by rw [hr5]; exact nI_toInt (by omega)
          exact hp_iretR hx hb hr rfl hlocks hsz hh (Or.inr (Or.inr ⟨T_915, d, 1, rfl, (by unfold hasP; rw [hr4]; exact hp_915), hp_916, hr5, hd3, by omega, hkd9, Or.inl ⟨ht_921.elim (fun q => Or.inr (Or.inl ⟨by decide, q⟩)) Or.inl, rfl⟩⟩)) dX11_takeAs_48
        · obtain rfl : r_921 = 0 := hb_921
          refine lv_if_eq (tgt := 44) hx hb dX11_takeAs_37 (by decide) (fun _ => ?_) (fun c_0 => absurd c_0 (by decide))
          refine lv_iconst (v := 2) hx hb dX11_takeAs_44 (by decide) ?_
          refine hp_callRi (va_runS (As := [.int 2]) (rest := []) ⟨hx, hb, hml, hown, hts⟩ (c_X11_faultAnswer l D cy _ cs ad en 2) (kw_X11_faultAnswer hts tw_311 ⟨by decide, by decide⟩) (preS_of hh hK) rfl rfl hl.1 rfl (lv_room (Nat.le_of_ble_eq_true rfl)) dX11_takeAs_45 ⟨Nat.le_of_ble_eq_true rfl, Nat.le_of_ble_eq_true rfl⟩) hh hA (fun r_922 H locs hw_922 hh => ?_)
          obtain rfl : r_922 = (-12) := Eq.trans hw_922 (by decide)
          have hr4 : (rdI (en 1) 4).toInt = (cnt : Int) := by rw [show rdI (en 1) 4 = nI cnt from by rw [es914]; rfl]; exact nI_toInt (by omega)
          have hr5 : rdI (en 1) 5 = nI d := by rw [es914]; rfl
          have hr5i : (rdI (en 1) 5).toInt = (d : Int) := by rw [hr5]; exact nI_toInt (by omega)
          exact hp_iretR hx hb hr rfl hlocks hsz hh (Or.inr (Or.inr ⟨T_915, d, 1, rfl, (by unfold hasP; rw [hr4]; exact hp_915), hp_916, hr5, hd3, by omega, hkd9, Or.inr ⟨fun q => q.elim (fun w => ht_921 (Or.inr w)) (fun q => q.elim (fun w => ht_921 (Or.inl w.2)) (fun w => absurd w.1 (by decide))), rfl⟩⟩)) dX11_takeAs_48
      · refine hp_callRi (va_runU (As := [.int (nI N_916)]) (rest := []) ⟨hx, hb, hml, hown, hts⟩ (c_X4_isOfKind_4 l D cy _ cs ad en q9 k9 T_915 d hq9 hk9 (by omega) (by omega) (by omega) (by omega) (by omega) (F T_915) (nI N_916) eq9 ek9) (va_cwO 1 hts (TB_O tw_843 tw_846 tw_844 tw_851 tw_852 tw_15 tw_853) rfl rfl rfl (b0 := cX7_isOfKind) (m0 := 2) (r0 := (some .boolean)) tw_855 (by decide +kernel) ⟨by decide, by decide⟩) (preV_of hh hK hq9 eq9 rfl) rfl rfl hl.1 rfl (lv_room (Nat.le_of_ble_eq_true rfl)) dX11_takeAs_34 ⟨Nat.le_of_ble_eq_true rfl, Nat.le_of_ble_eq_true rfl⟩) hh hA (fun r_923 H locs hw_923 hh => ?_)
        rcases hw_923 with ⟨hb_923, ht_923⟩ | ⟨hb_923, ht_923⟩
        · obtain rfl : r_923 = 1 := hb_923
          refine lv_if_eq (tgt := 44) hx hb dX11_takeAs_37 (by decide) (fun c_0 => absurd c_0 (by decide)) (fun _ => ?_)
          refine lv_iconst (v := 1) hx hb dX11_takeAs_40 (by decide) ?_
          refine lv_goto (tgt := 48) hx hb dX11_takeAs_41 (by decide) ?_
          have hr4 : (rdI (en 1) 4).toInt = (cnt : Int) := by rw [show rdI (en 1) 4 = nI cnt from by rw [es914]; rfl]; exact nI_toInt (by omega)
          have hr5 : rdI (en 1) 5 = nI d := by rw [es914]; rfl
          have hr5i : (rdI (en 1) 5).toInt = (d : Int) := by rw [hr5]; exact nI_toInt (by omega)
          exact hp_iretR hx hb hr rfl hlocks hsz hh (Or.inr (Or.inr ⟨T_915, d, 4, rfl, (by unfold hasP; rw [hr4]; exact hp_915), hp_916, hr5, hd3, by omega, hkd9, Or.inl ⟨ht_923.elim (fun q => Or.inr (Or.inr ⟨rfl, q⟩)) (fun q => q.elim (fun w => Or.inr (Or.inl ⟨by decide, w⟩)) Or.inl), rfl⟩⟩)) dX11_takeAs_48
        · obtain rfl : r_923 = 0 := hb_923
          refine lv_if_eq (tgt := 44) hx hb dX11_takeAs_37 (by decide) (fun _ => ?_) (fun c_0 => absurd c_0 (by decide))
          refine lv_iconst (v := 2) hx hb dX11_takeAs_44 (by decide) ?_
          refine hp_callRi (va_runS (As := [.int 2]) (rest := []) ⟨hx, hb, hml, hown, hts⟩ (c_X11_faultAnswer l D cy _ cs ad en 2) (kw_X11_faultAnswer hts tw_311 ⟨by decide, by decide⟩) (preS_of hh hK) rfl rfl hl.1 rfl (lv_room (Nat.le_of_ble_eq_true rfl)) dX11_takeAs_45 ⟨Nat.le_of_ble_eq_true rfl, Nat.le_of_ble_eq_true rfl⟩) hh hA (fun r_924 H locs hw_924 hh => ?_)
          obtain rfl : r_924 = (-12) := Eq.trans hw_924 (by decide)
          have hr4 : (rdI (en 1) 4).toInt = (cnt : Int) := by rw [show rdI (en 1) 4 = nI cnt from by rw [es914]; rfl]; exact nI_toInt (by omega)
          have hr5 : rdI (en 1) 5 = nI d := by rw [es914]; rfl
          have hr5i : (rdI (en 1) 5).toInt = (d : Int) := by rw [hr5]; exact nI_toInt (by omega)
          exact hp_iretR hx hb hr rfl hlocks hsz hh (Or.inr (Or.inr ⟨T_915, d, 4, rfl, (by unfold hasP; rw [hr4]; exact hp_915), hp_916, hr5, hd3, by omega, hkd9, Or.inr ⟨fun q => q.elim (fun w => ht_923 (Or.inr (Or.inr w))) (fun q => q.elim (fun w => ht_923 (Or.inr (Or.inl w.2))) (fun w => ht_923 (Or.inl w.2))), rfl⟩⟩)) dX11_takeAs_48
    · obtain rfl : r_916 = 0 := Eq.trans hw_916 (if_neg hp_916)
      refine lv_if_ne (tgt := 25) hx hb dX11_takeAs_19 (by decide) (fun c_0 => absurd c_0 (by decide)) (fun _ => ?_)
      refine lv_bipush (v := (-2)) hx hb dX11_takeAs_22 (by decide) ?_
      have hr4 : (rdI (en 1) 4).toInt = (cnt : Int) := by rw [show rdI (en 1) 4 = nI cnt from by rw [es914]; rfl]; exact nI_toInt (by omega)
      have hr5 : rdI (en 1) 5 = nI d := by rw [es914]; rfl
      have hr5i : (rdI (en 1) 5).toInt = (d : Int) := by rw [hr5]; exact nI_toInt (by omega)
      exact hp_iretR hx hb hr rfl hlocks hsz hh (Or.inr (Or.inl ⟨(by unfold hasP; rw [hr4]; exact hp_915), hp_916, rfl⟩)) dX11_takeAs_24
  · obtain rfl : r_915 = 0 := Eq.trans hw_915 (if_neg hp_915)
    refine lv_if_ne (tgt := 13) hx hb dX11_takeAs_8 (by decide) (fun c_0 => absurd c_0 (by decide)) (fun _ => ?_)
    refine lv_iconst (v := (-1)) hx hb dX11_takeAs_11 (by decide) ?_
    have hr4 : (rdI (en 1) 4).toInt = (cnt : Int) := by rw [show rdI (en 1) 4 = nI cnt from by rw [es914]; rfl]; exact nI_toInt (by omega)
    have hr5 : rdI (en 1) 5 = nI d := by rw [es914]; rfl
    have hr5i : (rdI (en 1) 5).toInt = (d : Int) := by rw [hr5]; exact nI_toInt (by omega)
    exact hp_iretR hx hb hr rfl hlocks hsz hh (Or.inl ⟨fun q => hp_915 (by have h9 := q; unfold hasP at h9; rw [hr4] at h9; exact h9), rfl⟩) dX11_takeAs_12
theorem kw_X11_takeAs {R : Room} {s : State} {args : Array Value} {own : String} {idx : Nat} (hts : ∀ w ∈ TB, w.before args s = true) (hl : Cond.methodLink own idx yX11_takeAs ∈ TB) (hR : 3 + 1 ≤ R.frames ∧ 8 + (3 + 11) + 40 * 3 ≤ R.locals) : CallW R s args own RX11 idx yX11_takeAs cX11_takeAs 3 (some .int) (Cond.code yX11_takeAs cX11_takeAs 3 (some .int) :: TB) (rmN 3) 0 0 2 := cwV 2 hts (TB_V hl tw_841 ts_30 tw_1 tw_842) rfl rfl rfl (by decide +kernel) hR
set_option maxHeartbeats 4000000 in
set_option maxRecDepth 100000 in
/-- as -/
theorem c_X11_as (l : Launch) (D : va_G) (cy : Nat → ClassId) (sz : Nat) (cs : List Nat) (ad : Nat → Nat) (en : Nat → va_E) (hI : SX cy cs ad en) (t z : Int32) (F : Nat → Nat → Int32) (hTX : TXF cy cs ad en F)   : Met l yX11_as (Cond.code yX11_as cX11_as 3 (some .int) :: TB) (rmN 4) (va_Pc [.ref (ad 0), .int t, .int z] (Pre D cy cs ad en sz)) (va_Qi (S := Nat → va_E) (fun r en1 => SX cy cs ad en1 ∧ (∀ c, (c ≠ 0) → en1 c = en c) ∧ XAS F t z r en ∧ rdI (en1 0) 6 = rdI (en 0) 6) (PostM D cs ad) (Af cs ad sz)) 0 0 (Af cs ad sz) := by
  refine Met.ofW (cc := cX11_as) (maxL := 3) (ret := (some .int)) (by decide) rfl ?_
  intro p e s m args below meth c s₁ B hml hv
  obtain ⟨rfl, hsz, hP, hK, hD0⟩ := hv
  have hx := B.exec
  have hb := B.bytes
  have hr := B.returns
  have hts : ∀ w ∈ TB, w.before _ s = true := fun w h => atoms_spec (ws := _ :: TB) B.pre w (List.mem_cons_of_mem _ h)
  have hown : s.vm.findClass RX11 = some m.cls := findClass_of_methodNamed B.named
  have hlocks := B.notSynchronized
  have hh : Hp D (Af cs ad sz) (Af cs ad sz) s.heap s.heap [] cs ad en := ⟨hP, Af_self hD0, va_S.rf⟩
  have hA : ∀ q : Nat, s.heap.size ≤ q → Af cs ad sz q := fun q h => Or.inr (by rw [hsz] at h; exact h)
  have hl := lv_entry ([.ref (ad 0), .int t, .int z]) (n := 3) (Nat.le_of_ble_eq_true rfl)
  rw [lg_entry_eq]
  generalize (lg_sl ([.ref (ad 0), .int t, .int z]) ++ List.replicate (3 - (lg_sl ([.ref (ad 0), .int t, .int z])).length) Slot.unset).toArray = ls at hl ⊢
  have hl : lv_has ls 3 [(0, .ref (ad 0)), (1, .int t), (2, .int z)] := hl
  have hf0 : ∀ c, (c ≠ 0) → en c = en c := fun _ _ => rfl
  obtain ⟨wc_925, lf_925, es925, p0_925⟩ := get_A hI
  refine lv_aload_n hx hb dX11_as_0 rfl (lv_at hl 0 rfl) ?_
  refine lv_aload_n hx hb dX11_as_1 rfl (lv_at hl 0 rfl) ?_
  refine lv_iload_n hx hb dX11_as_2 rfl (lv_at hl 1 rfl) ?_
  refine lv_iload_n hx hb dX11_as_3 rfl (lv_at hl 2 rfl) ?_
  refine hp_callRi (va_runV (As := [.int t, .int z]) (rest := [.ref (ad 0)]) ⟨hx, hb, hml, hown, hts⟩ (c_X11_takeAs l D cy _ cs ad en hI t z F hTX) (kw_X11_takeAs hts tw_839 ⟨by decide, by decide⟩) (preV_of hh hK (hI.1 _ (by decide)) es925 rfl) rfl rfl hl.1 rfl (lv_room (Nat.le_of_ble_eq_true rfl)) dX11_as_4 ⟨Nat.le_of_ble_eq_true rfl, Nat.le_of_ble_eq_true rfl⟩) hh hA (fun r_926 H locs hw_926 hh => ?_)
  refine hp_callMi (va_runV (As := [.int r_926]) (rest := []) ⟨hx, hb, hml, hown, hts⟩ (c_X11_settle l D cy _ cs ad en hI r_926) (kw_X11_settle hts tw_404 ⟨by decide, by decide⟩) (preV_of hh hK (hI.1 _ (by decide)) es925 rfl) rfl rfl hl.1 rfl (lv_room (Nat.le_of_ble_eq_true rfl)) dX11_as_7 ⟨Nat.le_of_ble_eq_true rfl, Nat.le_of_ble_eq_true rfl⟩) hh hA (fun r_927 H locs en_927 hw_927 hh => ?_)
  obtain ⟨hI_927, hu_927, hr_927, hwc_927⟩ := hw_927
  have hf_927 : ∀ c, (c ≠ 0) → en_927 c = en c := fun c hc => (hu_927 c (by omega)).trans (hf0 c hc)
  rw [hr_927]
  exact hp_iretM hx hb hr rfl hlocks hh (⟨hI_927, hf_927, hw_926, hwc_927⟩) dX11_as_10
theorem kw_X11_as {R : Room} {s : State} {args : Array Value} {own : String} {idx : Nat} (hts : ∀ w ∈ TB, w.before args s = true) (hl : Cond.methodLink own idx yX11_as ∈ TB) (hR : 4 + 1 ≤ R.frames ∧ 8 + (3 + 11) + 40 * 4 ≤ R.locals) : CallW R s args own RX11 idx yX11_as cX11_as 3 (some .int) (Cond.code yX11_as cX11_as 3 (some .int) :: TB) (rmN 4) 0 0 2 := cwV 2 hts (TB_V hl tw_836 tw_837 tw_1 tw_838) rfl rfl rfl (by decide +kernel) hR
