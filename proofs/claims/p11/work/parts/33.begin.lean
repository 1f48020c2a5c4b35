set_option maxHeartbeats 4000000 in
set_option maxRecDepth 100000 in
/-- allowAll: all 36 places of allowed are true -/
theorem c_X8_allowAll (l : Launch) (D : va_G) (cy : Nat → ClassId) (sz : Nat) (cs : List Nat) (ad : Nat → Nat) (en : Nat → va_E) (hm1 : 1 ∈ cs) (hm10 : 10 ∈ cs) (cnt dd mm : Int32) (f0 : Nat → Int32) (e1 : en 1 = .inr (7, [.ref (ad 2), .ref (ad 3), .ref (ad 10), .ref (ad 11), .int cnt, .int dd, .int mm])) (e10 : en 10 = .inl (cy 2, 36, .inl f0))  : Met l yX8_allowAll (Cond.code yX8_allowAll cX8_allowAll 2 none :: TB) (rmN 0) (va_Pc [.ref (ad 1)] (Pre D cy cs ad en sz)) (va_Qv (S := Nat → va_E) (fun en1 => ∃ f : Nat → Int32, en1 = va_up en 10 (.inl (cy 2, 36, .inl f)) ∧ ∀ i, i < 36 → f i = 1) (PostM D cs ad) (Af cs ad sz)) 0 0 (Af cs ad sz) := by
  refine Met.ofW (cc := cX8_allowAll) (maxL := 2) (ret := none) (by decide) rfl ?_
  intro p e s m args below meth c s₁ B hml hv
  obtain ⟨rfl, hsz, hP, hK, hD0⟩ := hv
  have hx := B.exec
  have hb := B.bytes
  have hr := B.returns
  have hts : ∀ w ∈ TB, w.before _ s = true := fun w h => atoms_spec (ws := _ :: TB) B.pre w (List.mem_cons_of_mem _ h)
  have hown : s.vm.findClass RX8 = some m.cls := findClass_of_methodNamed B.named
  have hlocks := B.notSynchronized
  have hh : Hp D (Af cs ad sz) (Af cs ad sz) s.heap s.heap [] cs ad en := ⟨hP, Af_self hD0, va_S.rf⟩
  have hA : ∀ q : Nat, s.heap.size ≤ q → Af cs ad sz q := fun q h => Or.inr (by rw [hsz] at h; exact h)
  have hl := lv_entry ([.ref (ad 1)]) (n := 2) (Nat.le_of_ble_eq_true rfl)
  rw [lg_entry_eq]
  generalize (lg_sl ([.ref (ad 1)]) ++ List.replicate (2 - (lg_sl ([.ref (ad 1)])).length) Slot.unset).toArray = ls at hl ⊢
  have hl : lv_has ls 2 [(0, .ref (ad 1))] := hl
  refine lv_iconst (v := 0) hx hb dX8_allowAll_0 (by decide) ?_
  refine lv_istore_n (lv' := [(1, .int 0), (0, .ref (ad 1))]) hx hb dX8_allowAll_1 rfl hl (by decide) rfl (fun ls hl => ?_)
  have loop_67 : ∀ (fu j : Nat) (g : Nat → Int32) (ls : Array Slot) (H : Heap) (locs : List Loc) (en_67 : Nat → va_E), j ≤ 36 → 36 < j + fu → en_67 = va_up en 10 (.inl (cy 2, 36, .inl g)) → (∀ i, i < j → g i = 1) → lv_has ls 2 [(1, .int (nI j)), (0, .ref (ad 1))] → Hp D (Af cs ad sz) (Af cs ad sz) s.heap H locs cs ad en_67 → W p l e (headSpec (Cond.code yX8_allowAll cX8_allowAll 2 none :: TB) (rmN 0)).room s m ([.ref (ad 1)] : List Value).toArray below meth c H locs 0 0 (MQ below (va_Qv (S := Nat → va_E) (fun en1 => ∃ f : Nat → Int32, en1 = va_up en 10 (.inl (cy 2, 36, .inl f)) ∧ ∀ i, i < 36 → f i = 1) (PostM D cs ad) (Af cs ad sz)) ([.ref (ad 1)] : List Value).toArray s 0 0 (Af cs ad sz)) (F0 m 2 ls []) := by
    intro fu
    induction fu with
    | zero => intro j g ls H locs en_67 h1 h2; exact absurd h2 (by omega)
    | succ fu ih =>
      intro j g ls H locs en_67 hj hn hen_67 hg hl hh
      have e1_67 : en_67 1 = .inr (7, [.ref (ad 2), .ref (ad 3), .ref (ad 10), .ref (ad 11), .int cnt, .int dd, .int mm]) := by rw [hen_67, va_up_ne _ _ (by decide)]; exact e1
      have e10_67 : en_67 10 = .inl (cy 2, 36, .inl g) := by rw [hen_67]; exact va_up_self _ _ _
      rcases Nat.lt_or_ge j 36 with hjN | hjN
      · refine lv_iload_n hx hb dX8_allowAll_2 rfl (lv_at hl 0 rfl) ?_
        refine lv_bipush (v := 36) hx hb dX8_allowAll_3 (by decide) ?_
        refine lv_icmp_ge (tgt := 21) hx hb dX8_allowAll_5 (by decide) (fun c_0 => absurd c_0 (nI_ge (b := 36) hjN (by decide))) (fun _ => ?_)
        refine lv_aload_n hx hb dX8_allowAll_8 rfl (lv_at hl 1 rfl) ?_
        refine hp_get hx hb hts ix8 hown hK hh (q := 1) rfl hm1 e1_67 rfl 2 (by decide) (hts _ tw_41) (fun _ h9 => h9) rfl dX8_allowAll_9 ?_
        refine lv_iload_n hx hb dX8_allowAll_12 rfl (lv_at hl 0 rfl) ?_
        refine lv_iconst (v := 1) hx hb dX8_allowAll_13 (by decide) ?_
        refine hp_zast hx hb hK hh (q := 10) rfl hm10 e10_67 (vp_in_nI hjN (by decide)) dX8_allowAll_14 (fun H locs en_68 hen_68 hh => ?_)
        have e1_68 : en_68 1 = .inr (7, [.ref (ad 2), .ref (ad 3), .ref (ad 10), .ref (ad 11), .int cnt, .int dd, .int mm]) := by rw [hen_68, va_up_ne _ _ (by decide)]; exact e1_67
        have e10_68 : en_68 10 = .inl (cy 2, 36, .inl (upd g (nI j).toNatClampNeg (vp_nar .boolean 1))) := by rw [hen_68]; exact va_up_self _ _ _
        refine lv_iinc (v := nI (j + 1)) (lv' := [(1, .int (nI (j + 1))), (0, .ref (ad 1))]) hx hb dX8_allowAll_15 hl (k := 0) rfl (nI_1 _) (by decide) rfl (fun ls hl => ?_)
        refine lv_goto (tgt := 2) hx hb dX8_allowAll_18 (by decide) ?_
        exact ih (j + 1) _ ls H locs en_68 (by omega) (by omega) (by rw [hen_68, hen_67, bx_uu]; try rfl) (up_lt hjN (by decide) hg) (lv_sub hl [0, 1] rfl) hh
      · have hgN : ∀ i, i < 36 → g i = 1 := fun i hi => hg i (by omega)
        refine lv_iload_n hx hb dX8_allowAll_2 rfl (lv_at hl 0 rfl) ?_
        refine lv_bipush (v := 36) hx hb dX8_allowAll_3 (by decide) ?_
        refine lv_icmp_ge (tgt := 21) hx hb dX8_allowAll_5 (by decide) (fun _ => ?_) (fun c_0 => absurd (nI_le (a := 36) hjN (by omega)) c_0)
        exact hp_vretM hx hb hr hlocks hh (⟨g, hen_67, hgN⟩) dX8_allowAll_21
  exact loop_67 (36 + 1) 0 f0 ls _ _ en (Nat.zero_le _) (by omega) (va_up_id e10).symm (fun i hi => absurd hi (Nat.not_lt_zero i)) (lv_sub hl [0, 1] rfl) hh
theorem kw_X8_allowAll {R : Room} {s : State} {args : Array Value} {own : String} {idx : Nat} (hts : ∀ w ∈ TB, w.before args s = true) (hl : Cond.methodLink own idx yX8_allowAll ∈ TB) (hR : 0 + 1 ≤ R.frames ∧ 8 + (2 + 11) + 40 * 0 ≤ R.locals) : CallW R s args own RX8 idx yX8_allowAll cX8_allowAll 2 none (Cond.code yX8_allowAll cX8_allowAll 2 none :: TB) (rmN 0) 0 0 0 := cwV 0 hts (TB_V hl tw_37 ts_0 tw_2 tw_38) rfl rfl rfl (by decide +kernel) hR
set_option maxHeartbeats 4000000 in
set_option maxRecDepth 100000 in
/-- restart -/
theorem c_X8_restart (l : Launch) (D : va_G) (cy : Nat → ClassId) (sz : Nat) (cs : List Nat) (ad : Nat → Nat) (en : Nat → va_E) (hI : SX cy cs ad en) (nd nm : Nat) (h2 : 2 ≤ nd) (h3 : nd ≤ 3) (h97 : nm ≤ 97)   : Met l yX8_restart (Cond.code yX8_restart cX8_restart 3 none :: TB) (rmN 1) (va_Pc [.ref (ad 1), .int (nI nd), .int (nI nm)] (Pre D cy cs ad en sz)) (va_Qv (S := Nat → va_E) (fun en1 => SX cy cs ad en1 ∧ (∀ c, (c ≠ 1 ∧ c ≠ 10) → en1 c = en c) ∧ rdI (en1 1) 4 = nI 0 ∧ rdI (en1 1) 5 = nI nd ∧ rdI (en1 1) 6 = nI nm ∧ (∀ i, i < 36 → rdF (en1 10) i = 1)) (PostM D cs ad) (Af cs ad sz)) 0 0 (Af cs ad sz) := by
  refine Met.ofW (cc := cX8_restart) (maxL := 3) (ret := none) (by decide) rfl ?_
  intro p e s m args below meth c s₁ B hml hv
  obtain ⟨rfl, hsz, hP, hK, hD0⟩ := hv
  have hx := B.exec
  have hb := B.bytes
  have hr := B.returns
  have hts : ∀ w ∈ TB, w.before _ s = true := fun w h => atoms_spec (ws := _ :: TB) B.pre w (List.mem_cons_of_mem _ h)
  have hown : s.vm.findClass RX8 = some m.cls := findClass_of_methodNamed B.named
  have hlocks := B.notSynchronized
  have hh : Hp D (Af cs ad sz) (Af cs ad sz) s.heap s.heap [] cs ad en := ⟨hP, Af_self hD0, va_S.rf⟩
  have hA : ∀ q : Nat, s.heap.size ≤ q → Af cs ad sz q := fun q h => Or.inr (by rw [hsz] at h; exact h)
  have hl := lv_entry ([.ref (ad 1), .int (nI nd), .int (nI nm)]) (n := 3) (Nat.le_of_ble_eq_true rfl)
  rw [lg_entry_eq]
  generalize (lg_sl ([.ref (ad 1), .int (nI nd), .int (nI nm)]) ++ List.replicate (3 - (lg_sl ([.ref (ad 1), .int (nI nd), .int (nI nm)])).length) Slot.unset).toArray = ls at hl ⊢
  have hl : lv_has ls 3 [(0, .ref (ad 1)), (1, .int (nI nd)), (2, .int (nI nm))] := hl
  have hf0 : ∀ c, (c ≠ 1 ∧ c ≠ 10) → en c = en c := fun _ _ => rfl
  obtain ⟨cnt, d, mm, es845, hcnt, hd2, hd3, hmm⟩ := get_T hI
  obtain ⟨f10, es846, hb10⟩ := get_alw hI
  refine lv_aload_n hx hb dX8_restart_0 rfl (lv_at hl 0 rfl) ?_
  refine lv_iload_n hx hb dX8_restart_1 rfl (lv_at hl 1 rfl) ?_
  refine hp_put hx hb hts ix8 tyX8 tyX8_ok nmX8 hown hK hh (q := 1) rfl (hI.1 _ (by decide)) es845 rfl 5 (by decide) (hts _ tw_44) (fun _ h9 => h9) rfl (ty := .int) (by decide +kernel) rfl rfl (Nat.le_of_ble_eq_true rfl) dX8_restart_2 (fun H locs en_847 hen_847 hh => ?_)
  have es846_847 : en_847 10 = .inl (cy 2, 36, .inl f10) := by rw [hen_847, va_up_ne _ _ (by decide)]; exact es846
  have es845_847 : en_847 1 = .inr (7, [.ref (ad 2), .ref (ad 3), .ref (ad 10), .ref (ad 11), .int (nI cnt), .int (nI nd), .int (nI mm)]) := by rw [hen_847]; exact va_up_self _ _ _
  have hI_847 : SX cy cs ad en_847 := by rw [hen_847]; exact up_T hI ⟨cnt, nd, mm, rfl, hcnt, (by omega), (by omega), hmm⟩
  have hf_847 : ∀ c, (c ≠ 1 ∧ c ≠ 10) → en_847 c = en c := fun c hc => Eq.trans (show en_847 c = en c from by rw [hen_847, va_up_ne _ _ (by omega)]) (hf0 c hc)
  refine lv_aload_n hx hb dX8_restart_5 rfl (lv_at hl 0 rfl) ?_
  refine lv_iload_n hx hb dX8_restart_6 rfl (lv_at hl 2 rfl) ?_
  refine hp_put hx hb hts ix8 tyX8 tyX8_ok nmX8 hown hK hh (q := 1) rfl (hI.1 _ (by decide)) es845_847 rfl 6 (by decide) (hts _ tw_45) (fun _ h9 => h9) rfl (ty := .int) (by decide +kernel) rfl rfl (Nat.le_of_ble_eq_true rfl) dX8_restart_7 (fun H locs en_848 hen_848 hh => ?_)
  have es846_848 : en_848 10 = .inl (cy 2, 36, .inl f10) := by rw [hen_848, va_up_ne _ _ (by decide)]; exact es846_847
  have es845_848 : en_848 1 = .inr (7, [.ref (ad 2), .ref (ad 3), .ref (ad 10), .ref (ad 11), .int (nI cnt), .int (nI nd), .int (nI nm)]) := by rw [hen_848]; exact va_up_self _ _ _
  have hI_848 : SX cy cs ad en_848 := by rw [hen_848]; exact up_T hI_847 ⟨cnt, nd, nm, rfl, hcnt, (by omega), (by omega), (by omega)⟩
  have hf_848 : ∀ c, (c ≠ 1 ∧ c ≠ 10) → en_848 c = en c := fun c hc => Eq.trans (show en_848 c = en_847 c from by rw [hen_848, va_up_ne _ _ (by omega)]) (hf_847 c hc)
  refine lv_aload_n hx hb dX8_restart_10 rfl (lv_at hl 0 rfl) ?_
  refine lv_iconst (v := 0) hx hb dX8_restart_11 (by decide) ?_
  refine hp_put hx hb hts ix8 tyX8 tyX8_ok nmX8 hown hK hh (q := 1) rfl (hI.1 _ (by decide)) es845_848 rfl 4 (by decide) (hts _ tw_43) (fun _ h9 => h9) rfl (ty := .int) (by decide +kernel) rfl rfl (Nat.le_of_ble_eq_true rfl) dX8_restart_12 (fun H locs en_849 hen_849 hh => ?_)
  have es846_849 : en_849 10 = .inl (cy 2, 36, .inl f10) := by rw [hen_849, va_up_ne _ _ (by decide)]; exact es846_848
  have es845_849 : en_849 1 = .inr (7, [.ref (ad 2), .ref (ad 3), .ref (ad 10), .ref (ad 11), .int 0, .int (nI nd), .int (nI nm)]) := by rw [hen_849]; exact va_up_self _ _ _
  have hI_849 : SX cy cs ad en_849 := by rw [hen_849]; exact up_T hI_848 ⟨0, nd, nm, rfl, (by omega), (by omega), (by omega), (by omega)⟩
  have hf_849 : ∀ c, (c ≠ 1 ∧ c ≠ 10) → en_849 c = en c := fun c hc => Eq.trans (show en_849 c = en_848 c from by rw [hen_849, va_up_ne _ _ (by omega)]) (hf_848 c hc)
  refine lv_aload_n hx hb dX8_restart_15 rfl (lv_at hl 0 rfl) ?_
  refine hp_callMv (va_runV (As := []) (rest := []) ⟨hx, hb, hml, hown, hts⟩ (c_X8_allowAll l D cy _ cs ad en_849 (hI.1 _ (by decide)) (hI.1 _ (by decide)) 0 (nI nd) (nI nm) f10 es845_849 es846_849) (kw_X8_allowAll hts tw_35 ⟨by decide, by decide⟩) (preV_of hh hK (hI.1 _ (by decide)) es845_849 rfl) rfl rfl hl.1 rfl (lv_room (Nat.le_of_ble_eq_true rfl)) dX8_restart_16 ⟨Nat.le_of_ble_eq_true rfl, Nat.le_of_ble_eq_true rfl⟩) hh hA (fun H locs en_850 hw_850 hh => ?_)
  obtain ⟨f_850, hen_850, hf9_850⟩ := hw_850
  have es845_850 : en_850 1 = .inr (7, [.ref (ad 2), .ref (ad 3), .ref (ad 10), .ref (ad 11), .int 0, .int (nI nd), .int (nI nm)]) := by rw [hen_850, va_up_ne _ _ (by decide)]; exact es845_849
  have es846_850 : en_850 10 = .inl (cy 2, 36, .inl f_850) := by rw [hen_850]; exact va_up_self _ _ _
  have hI_850 : SX cy cs ad en_850 := by rw [hen_850]; exact up_alw hI_849 ⟨f_850, rfl, (fun i hi => Or.inr (hf9_850 i hi))⟩
  have hf_850 : ∀ c, (c ≠ 1 ∧ c ≠ 10) → en_850 c = en c := fun c hc => Eq.trans (show en_850 c = en_849 c from by rw [hen_850, va_up_ne _ _ (by omega)]) (hf_849 c hc)
  exact hp_vretM hx hb hr hlocks hh (⟨hI_850, hf_850, (by rw [es845_850]; rfl), (by rw [es845_850]; rfl), (by rw [es845_850]; rfl), (fun i hi => by rw [es846_850]; exact hf9_850 i hi)⟩) dX8_restart_19
theorem kw_X8_restart {R : Room} {s : State} {args : Array Value} {own : String} {idx : Nat} (hts : ∀ w ∈ TB, w.before args s = true) (hl : Cond.methodLink own idx yX8_restart ∈ TB) (hR : 1 + 1 ≤ R.frames ∧ 8 + (3 + 11) + 40 * 1 ≤ R.locals) : CallW R s args own RX8 idx yX8_restart cX8_restart 3 none (Cond.code yX8_restart cX8_restart 3 none :: TB) (rmN 1) 0 0 2 := cwV 2 hts (TB_V hl tw_278 tw_279 tw_2 tw_280) rfl rfl rfl (by decide +kernel) hR
set_option maxHeartbeats 4000000 in
set_option maxRecDepth 100000 in
/-- begin -/
theorem c_X11_begin (l : Launch) (D : va_G) (cy : Nat → ClassId) (sz : Nat) (cs : List Nat) (ad : Nat → Nat) (en : Nat → va_E) (hI : SX cy cs ad en) (d0 m0 : Int32)   : Met l yX11_begin (Cond.code yX11_begin cX11_begin 3 (some .int) :: TB) (rmN 2) (va_Pc [.ref (ad 0), .int d0, .int m0] (Pre D cy cs ad en sz)) (va_Qi (S := Nat → va_E) (fun r en1 => SX cy cs ad en1 ∧ (∀ c, ((2 ≤ c ∧ c < 10) ∨ c = 11 ∨ 71 ≤ c) → en1 c = en c) ∧ r = spBegin d0 m0 ∧ ((r = -2 ∧ en1 = en) ∨ (r = 1 ∧ rdI (en1 0) 6 = nI 0 ∧ rdI (en1 1) 4 = nI 0 ∧ (∃ (ea eb ec : Option Nat) (st0 cc0 ct0 un0 ow0 hn0 : Int32), en 70 = .inr (0, [.ref (ad 1), .ref (ad 71), .ref (ad 72), .ref (ad 73), va_rf ea, va_rf eb, va_rf ec, .int st0, .int cc0, .int ct0, .int un0, .int ow0, .int hn0]) ∧ en1 70 = .inr (0, [.ref (ad 1), .ref (ad 71), .ref (ad 72), .ref (ad 73), va_rf ea, va_rf eb, va_rf ec, .int 0, .int cc0, .int ct0, .int un0, .int ow0, .int hn0])) ∧ rdI (en1 1) 5 = d0 ∧ rdI (en1 1) 6 = m0 ∧ ∀ i, i < 36 → rdF (en1 10) i = 1)) ∧ (en1 = en ∨ LNX en1)) (PostM D cs ad) (Af cs ad sz)) 0 0 (Af cs ad sz) := by
  refine Met.ofW (cc := cX11_begin) (maxL := 3) (ret := (some .int)) (by decide) rfl ?_
  intro p e s m args below meth c s₁ B hml hv
  obtain ⟨rfl, hsz, hP, hK, hD0⟩ := hv
  have hx := B.exec
  have hb := B.bytes
  have hr := B.returns
  have hts : ∀ w ∈ TB, w.before _ s = true := fun w h => atoms_spec (ws := _ :: TB) B.pre w (List.mem_cons_of_mem _ h)
  have hown : s.vm.findClass RX11 = some m.cls := findClass_of_methodNamed B.named
  have hlocks := B.notSynchronized
  have hh : Hp D (Af cs ad sz) (Af cs ad sz) s.heap s.heap [] cs ad en := ⟨hP, Af_self hD0, va_S.rf⟩
  have hA : ∀ q : Nat, s.heap.size ≤ q → Af cs ad sz q := fun q h => Or.inr (by rw [hsz] at h; exact h)
  have hl := lv_entry ([.ref (ad 0), .int d0, .int m0]) (n := 3) (Nat.le_of_ble_eq_true rfl)
  rw [lg_entry_eq]
  generalize (lg_sl ([.ref (ad 0), .int d0, .int m0]) ++ List.replicate (3 - (lg_sl ([.ref (ad 0), .int d0, .int m0])).length) Slot.unset).toArray = ls at hl ⊢
  have hl : lv_has ls 3 [(0, .ref (ad 0)), (1, .int d0), (2, .int m0)] := hl
  have hf0 : ∀ c, ((2 ≤ c ∧ c < 10) ∨ c = 11 ∨ 71 ≤ c) → en c = en c := fun _ _ => rfl
  obtain ⟨wc_851, lf_851, es851, p0_851⟩ := get_A hI
  refine lv_iload_n hx hb dX11_begin_0 rfl (lv_at hl 1 rfl) ?_
  refine lv_iconst (v := 2) hx hb dX11_begin_1 (by decide) ?_
  refine lv_iconst (v := 3) hx hb dX11_begin_2 (by decide) ?_
  refine hp_callRi (va_runS (As := [.int d0, .int 2, .int 3]) (rest := []) ⟨hx, hb, hml, hown, hts⟩ (c_X11_isWithin l D cy _ cs ad en d0 2 3) (kw_X11_isWithin hts tw_274 ⟨by decide, by decide⟩) (preS_of hh hK) rfl rfl hl.1 rfl (lv_room (Nat.le_of_ble_eq_true rfl)) dX11_begin_3 ⟨Nat.le_of_ble_eq_true rfl, Nat.le_of_ble_eq_true rfl⟩) hh hA (fun r_852 H locs hw_852 hh => ?_)
  rcases Decidable.em (wi d0 2 3) with hp_852 | hp_852
  · obtain rfl : r_852 = 1 := Eq.trans hw_852 (if_pos hp_852)
    obtain ⟨N_852, rfl, hA_852, hB_852⟩ := wi_natB hp_852 2 3 (by decide) (by decide)
    refine lv_if_eq (tgt := 23) hx hb dX11_begin_6 (by decide) (fun c_0 => absurd c_0 (by decide)) (fun _ => ?_)
    refine lv_iload_n hx hb dX11_begin_9 rfl (lv_at hl 2 rfl) ?_
    refine lv_if_eq (tgt := 26) hx hb dX11_begin_10 (by decide) (fun c_853 => ?_) (fun c_853 => ?_)
    · obtain rfl : m0 = nI 0 := c_853
      refine lv_aload_n hx hb dX11_begin_26 rfl (lv_at hl 0 rfl) ?_
      refine hp_get hx hb hts ix11 hown hK hh (q := 0) rfl (hI.1 _ (by decide)) es851 rfl 0 (by decide) (hts _ tw_245) (fun _ h9 => h9) rfl dX11_begin_27 ?_
      refine lv_iload_n hx hb dX11_begin_30 rfl (lv_at hl 1 rfl) ?_
      refine lv_iload_n hx hb dX11_begin_31 rfl (lv_at hl 2 rfl) ?_
      obtain ⟨cnt, d, mm, es854, hcnt, hd2, hd3, hmm⟩ := get_T hI
      refine hp_callMv (va_runV (As := [.int (nI N_852), .int (nI 0)]) (rest := []) ⟨hx, hb, hml, hown, hts⟩ (c_X8_restart l D cy _ cs ad en hI N_852 0 (by omega) (by omega) (by omega)) (kw_X8_restart hts tw_277 ⟨by decide, by decide⟩) (preV_of hh hK (hI.1 _ (by decide)) es854 rfl) rfl rfl hl.1 rfl (lv_room (Nat.le_of_ble_eq_true rfl)) dX11_begin_32 ⟨Nat.le_of_ble_eq_true rfl, Nat.le_of_ble_eq_true rfl⟩) hh hA (fun H locs en_855 hw_855 hh => ?_)
      obtain ⟨hI_855, hu_855, hx_855⟩ := hw_855
      have hf_855 : ∀ c, ((2 ≤ c ∧ c < 10) ∨ c = 11 ∨ 71 ≤ c) → en_855 c = en c := fun c hc => (hu_855 c (by omega)).trans (hf0 c hc)
      refine lv_aload_n hx hb dX11_begin_35 rfl (lv_at hl 0 rfl) ?_
      obtain ⟨wc_856, lf_856, es856, p0_856⟩ := get_A hI_855
      refine hp_get hx hb hts ix11 hown hK hh (q := 0) rfl (hI.1 _ (by decide)) es856 rfl 1 (by decide) (hts _ tw_246) (fun _ h9 => h9) rfl dX11_begin_36 ?_
      obtain ⟨hw_857, es857, p0_857⟩ := get_L hI_855
      refine hp_callMv (va_runV (As := []) (rest := []) ⟨hx, hb, hml, hown, hts⟩ (c_X2_forget l D cy _ cs ad en_855 hI_855  ) (kw_X2_forget hts tw_281 ⟨by decide, by decide⟩) (preV_of hh hK (hI.1 _ (by decide)) es857 rfl) rfl rfl hl.1 rfl (lv_room (Nat.le_of_ble_eq_true rfl)) dX11_begin_39 ⟨Nat.le_of_ble_eq_true rfl, Nat.le_of_ble_eq_true rfl⟩) hh hA (fun H locs en_858 hw_858 hh => ?_)
      obtain ⟨hI_858, hu_858, hx_858⟩ := hw_858
      have hf_858 : ∀ c, ((2 ≤ c ∧ c < 10) ∨ c = 11 ∨ 71 ≤ c) → en_858 c = en c := fun c hc => (hu_858 c (by omega)).trans (hf_855 c hc)
      refine lv_aload_n hx hb dX11_begin_42 rfl (lv_at hl 0 rfl) ?_
      obtain ⟨wc_859, lf_859, es859, p0_859⟩ := get_A hI_858
      refine hp_get hx hb hts ix11 hown hK hh (q := 0) rfl (hI.1 _ (by decide)) es859 rfl 2 (by decide) (hts _ tw_247) (fun _ h9 => h9) rfl dX11_begin_43 ?_
      obtain ⟨ea_860, eb_860, ec_860, st0_860, cc0_860, ct0_860, un0_860, ow0_860, hn0_860, es860⟩ := get_C hI_858
      refine hp_callMv (va_runV (As := []) (rest := []) ⟨hx, hb, hml, hown, hts⟩ (c_X0_forget l D cy _ cs ad en_858 hI_858) (kw_X0_forget hts tw_285 ⟨by decide, by decide⟩) (preV_of hh hK (hI.1 _ (by decide)) es860 rfl) rfl rfl hl.1 rfl (lv_room (Nat.le_of_ble_eq_true rfl)) dX11_begin_46 ⟨Nat.le_of_ble_eq_true rfl, Nat.le_of_ble_eq_true rfl⟩) hh hA (fun H locs en_861 hw_861 hh => ?_)
      obtain ⟨hI_861, hu_861, hx_861⟩ := hw_861
      have hf_861 : ∀ c, ((2 ≤ c ∧ c < 10) ∨ c = 11 ∨ 71 ≤ c) → en_861 c = en c := fun c hc => (hu_861 c (by omega)).trans (hf_858 c hc)
      refine lv_aload_n hx hb dX11_begin_49 rfl (lv_at hl 0 rfl) ?_
      refine lv_iconst (v := 0) hx hb dX11_begin_50 (by decide) ?_
      obtain ⟨wc_862, lf_862, es862, p0_862⟩ := get_A hI_861
      refine hp_put hx hb hts ix11 tyX11 tyX11_ok nmX11 hown hK hh (q := 0) rfl (hI.1 _ (by decide)) es862 rfl 6 (by decide) (hts _ tw_251) (fun _ h9 => h9) rfl (ty := .int) (by decide +kernel) rfl rfl (Nat.le_of_ble_eq_true rfl) dX11_begin_51 (fun H locs en_863 hen_863 hh => ?_)
      have es862_863 : en_863 0 = .inr (10, [.ref (ad 1), .ref (ad 12), .ref (ad 70), .ref (ad 74), .ref (ad 75), .ref (ad 76), .int 0, .int lf_862]) := by rw [hen_863]; exact va_up_self _ _ _
      have hI_863 : SX cy cs ad en_863 := by rw [hen_863]; exact up_A hI_861 ⟨0, lf_862, rfl, (by omega)⟩
      have hf_863 : ∀ c, ((2 ≤ c ∧ c < 10) ∨ c = 11 ∨ 71 ≤ c) → en_863 c = en c := fun c hc => Eq.trans (show en_863 c = en_861 c from by rw [hen_863, va_up_ne _ _ (by omega)]) (hf_861 c hc)
      refine lv_iconst (v := 1) hx hb dX11_begin_54 (by decide) ?_
      exact hp_iretM hx hb hr rfl hlocks hh (⟨hI_863, hf_863, (by unfold spBegin; rw [if_pos ⟨hp_852, Or.inl rfl⟩]), Or.inr ⟨rfl, (by rw [es862_863]; rfl), (by rw [hen_863, va_up_ne _ _ (by omega), hu_861 _ (by omega), hu_858 _ (by omega)]; exact hx_855.1), (by rw [hen_863, va_up_ne _ _ (by omega), ← hu_855 70 (by omega), ← hu_858 70 (by omega)]; exact hx_861), (by rw [hen_863, va_up_ne _ _ (by omega), hu_861 _ (by omega), hu_858 _ (by omega)]; exact hx_855.2.1), (by rw [hen_863, va_up_ne _ _ (by omega), hu_861 _ (by omega), hu_858 _ (by omega)]; exact hx_855.2.2.1), (by rw [hen_863, va_up_ne _ _ (by omega), hu_861 _ (by omega), hu_858 _ (by omega)]; exact hx_855.2.2.2)⟩, Or.inr (LNX_0 (by rw [hen_863, va_up_ne _ _ (by omega), hu_861 _ (by omega)]; exact hx_858.1) (fun m hm => by rw [hen_863, va_up_ne _ _ (by omega), hu_861 _ (by omega)]; exact hx_858.2 m hm))⟩) dX11_begin_55
    · refine lv_iload_n hx hb dX11_begin_13 rfl (lv_at hl 2 rfl) ?_
      refine lv_iconst (v := 2) hx hb dX11_begin_14 (by decide) ?_
      refine lv_bipush (v := 97) hx hb dX11_begin_15 (by decide) ?_
      refine hp_callRi (va_runS (As := [.int m0, .int 2, .int 97]) (rest := []) ⟨hx, hb, hml, hown, hts⟩ (c_X11_isWithin l D cy _ cs ad en m0 2 97) (kw_X11_isWithin hts tw_274 ⟨by decide, by decide⟩) (preS_of hh hK) rfl rfl hl.1 rfl (lv_room (Nat.le_of_ble_eq_true rfl)) dX11_begin_17 ⟨Nat.le_of_ble_eq_true rfl, Nat.le_of_ble_eq_true rfl⟩) hh hA (fun r_864 H locs hw_864 hh => ?_)
      rcases Decidable.em (wi m0 2 97) with hp_864 | hp_864
      · obtain rfl : r_864 = 1 := Eq.trans hw_864 (if_pos hp_864)
        obtain ⟨N_864, rfl, hA_864, hB_864⟩ := wi_natB hp_864 2 97 (by decide) (by decide)
        refine lv_if_ne (tgt := 26) hx hb dX11_begin_20 (by decide) (fun _ => ?_) (fun c_0 => absurd c_0 (by decide))
        refine lv_aload_n hx hb dX11_begin_26 rfl (lv_at hl 0 rfl) ?_
        refine hp_get hx hb hts ix11 hown hK hh (q := 0) rfl (hI.1 _ (by decide)) es851 rfl 0 (by decide) (hts _ tw_245) (fun _ h9 => h9) rfl dX11_begin_27 ?_
        refine lv_iload_n hx hb dX11_begin_30 rfl (lv_at hl 1 rfl) ?_
        refine lv_iload_n hx hb dX11_begin_31 rfl (lv_at hl 2 rfl) ?_
        obtain ⟨cnt, d, mm, es865, hcnt, hd2, hd3, hmm⟩ := get_T hI
        refine hp_callMv (va_runV (As := [.int (nI N_852), .int (nI N_864)]) (rest := []) ⟨hx, hb, hml, hown, hts⟩ (c_X8_restart l D cy _ cs ad en hI N_852 N_864 (by omega) (by omega) (by omega)) (kw_X8_restart hts tw_277 ⟨by decide, by decide⟩) (preV_of hh hK (hI.1 _ (by decide)) es865 rfl) rfl rfl hl.1 rfl (lv_room (Nat.le_of_ble_eq_true rfl)) dX11_begin_32 ⟨Nat.le_of_ble_eq_true rfl, Nat.le_of_ble_eq_true rfl⟩) hh hA (fun H locs en_866 hw_866 hh => ?_)
        obtain ⟨hI_866, hu_866, hx_866⟩ := hw_866
        have hf_866 : ∀ c, ((2 ≤ c ∧ c < 10) ∨ c = 11 ∨ 71 ≤ c) → en_866 c = en c := fun c hc => (hu_866 c (by omega)).trans (hf0 c hc)
        refine lv_aload_n hx hb dX11_begin_35 rfl (lv_at hl 0 rfl) ?_
        obtain ⟨wc_867, lf_867, es867, p0_867⟩ := get_A hI_866
        refine hp_get hx hb hts ix11 hown hK hh (q := 0) rfl (hI.1 _ (by decide)) es867 rfl 1 (by decide) (hts _ tw_246) (fun _ h9 => h9) rfl dX11_begin_36 ?_
        obtain ⟨hw_868, es868, p0_868⟩ := get_L hI_866
        refine hp_callMv (va_runV (As := []) (rest := []) ⟨hx, hb, hml, hown, hts⟩ (c_X2_forget l D cy _ cs ad en_866 hI_866  ) (kw_X2_forget hts tw_281 ⟨by decide, by decide⟩) (preV_of hh hK (hI.1 _ (by decide)) es868 rfl) rfl rfl hl.1 rfl (lv_room (Nat.le_of_ble_eq_true rfl)) dX11_begin_39 ⟨Nat.le_of_ble_eq_true rfl, Nat.le_of_ble_eq_true rfl⟩) hh hA (fun H locs en_869 hw_869 hh => ?_)
        obtain ⟨hI_869, hu_869, hx_869⟩ := hw_869
        have hf_869 : ∀ c, ((2 ≤ c ∧ c < 10) ∨ c = 11 ∨ 71 ≤ c) → en_869 c = en c := fun c hc => (hu_869 c (by omega)).trans (hf_866 c hc)
        refine lv_aload_n hx hb dX11_begin_42 rfl (lv_at hl 0 rfl) ?_
        obtain ⟨wc_870, lf_870, es870, p0_870⟩ := get_A hI_869
        refine hp_get hx hb hts ix11 hown hK hh (q := 0) rfl (hI.1 _ (by decide)) es870 rfl 2 (by decide) (hts _ tw_247) (fun _ h9 => h9) rfl dX11_begin_43 ?_
        obtain ⟨ea_871, eb_871, ec_871, st0_871, cc0_871, ct0_871, un0_871, ow0_871, hn0_871, es871⟩ := get_C hI_869
        refine hp_callMv (va_runV (As := []) (rest := []) ⟨hx, hb, hml, hown, hts⟩ (c_X0_forget l D cy _ cs ad en_869 hI_869) (kw_X0_forget hts tw_285 ⟨by decide, by decide⟩) (preV_of hh hK (hI.1 _ (by decide)) es871 rfl) rfl rfl hl.1 rfl (lv_room (Nat.le_of_ble_eq_true rfl)) dX11_begin_46 ⟨Nat.le_of_ble_eq_true rfl, Nat.le_of_ble_eq_true rfl⟩) hh hA (fun H locs en_872 hw_872 hh => ?_)
        obtain ⟨hI_872, hu_872, hx_872⟩ := hw_872
        have hf_872 : ∀ c, ((2 ≤ c ∧ c < 10) ∨ c = 11 ∨ 71 ≤ c) → en_872 c = en c := fun c hc => (hu_872 c (by omega)).trans (hf_869 c hc)
        refine lv_aload_n hx hb dX11_begin_49 rfl (lv_at hl 0 rfl) ?_
        refine lv_iconst (v := 0) hx hb dX11_begin_50 (by decide) ?_
        obtain ⟨wc_873, lf_873, es873, p0_873⟩ := get_A hI_872
        refine hp_put hx hb hts ix11 tyX11 tyX11_ok nmX11 hown hK hh (q := 0) rfl (hI.1 _ (by decide)) es873 rfl 6 (by decide) (hts _ tw_251) (fun _ h9 => h9) rfl (ty := .int) (by decide +kernel) rfl rfl (Nat.le_of_ble_eq_true rfl) dX11_begin_51 (fun H locs en_874 hen_874 hh => ?_)
        have es873_874 : en_874 0 = .inr (10, [.ref (ad 1), .ref (ad 12), .ref (ad 70), .ref (ad 74), .ref (ad 75), .ref (ad 76), .int 0, .int lf_873]) := by rw [hen_874]; exact va_up_self _ _ _
        have hI_874 : SX cy cs ad en_874 := by rw [hen_874]; exact up_A hI_872 ⟨0, lf_873, rfl, (by omega)⟩
        have hf_874 : ∀ c, ((2 ≤ c ∧ c < 10) ∨ c = 11 ∨ 71 ≤ c) → en_874 c = en c := fun c hc => Eq.trans (show en_874 c = en_872 c from by rw [hen_874, va_up_ne _ _ (by omega)]) (hf_872 c hc)
        refine lv_iconst (v := 1) hx hb dX11_begin_54 (by decide) ?_
        exact hp_iretM hx hb hr rfl hlocks hh (⟨hI_874, hf_874, (by unfold spBegin; rw [if_pos ⟨hp_852, Or.inr hp_864⟩]), Or.inr ⟨rfl, (by rw [es873_874]; rfl), (by rw [hen_874, va_up_ne _ _ (by omega), hu_872 _ (by omega), hu_869 _ (by omega)]; exact hx_866.1), (by rw [hen_874, va_up_ne _ _ (by omega), ← hu_866 70 (by omega), ← hu_869 70 (by omega)]; exact hx_872), (by rw [hen_874, va_up_ne _ _ (by omega), hu_872 _ (by omega), hu_869 _ (by omega)]; exact hx_866.2.1), (by rw [hen_874, va_up_ne _ _ (by omega), hu_872 _ (by omega), hu_869 _ (by omega)]; exact hx_866.2.2.1), (by rw [hen_874, va_up_ne _ _ (by omega), hu_872 _ (by omega), hu_869 _ (by omega)]; exact hx_866.2.2.2)⟩, Or.inr (LNX_0 (by rw [hen_874, va_up_ne _ _ (by omega), hu_872 _ (by omega)]; exact hx_869.1) (fun m hm => by rw [hen_874, va_up_ne _ _ (by omega), hu_872 _ (by omega)]; exact hx_869.2 m hm))⟩) dX11_begin_55
      · obtain rfl : r_864 = 0 := Eq.trans hw_864 (if_neg hp_864)
        refine lv_if_ne (tgt := 26) hx hb dX11_begin_20 (by decide) (fun c_0 => absurd c_0 (by decide)) (fun _ => ?_)
        refine lv_bipush (v := (-2)) hx hb dX11_begin_23 (by decide) ?_
        exact hp_iretM hx hb hr rfl hlocks hh (⟨hI, hf0, (by unfold spBegin; rw [if_neg (fun q => q.2.elim c_853 hp_864)]), Or.inl ⟨rfl, rfl⟩, Or.inl rfl⟩) dX11_begin_25
  · obtain rfl : r_852 = 0 := Eq.trans hw_852 (if_neg hp_852)
    refine lv_if_eq (tgt := 23) hx hb dX11_begin_6 (by decide) (fun _ => ?_) (fun c_0 => absurd c_0 (by decide))
    refine lv_bipush (v := (-2)) hx hb dX11_begin_23 (by decide) ?_
    exact hp_iretM hx hb hr rfl hlocks hh (⟨hI, hf0, (by unfold spBegin; rw [if_neg (fun q => hp_852 q.1)]), Or.inl ⟨rfl, rfl⟩, Or.inl rfl⟩) dX11_begin_25
theorem kw_X11_begin {R : Room} {s : State} {args : Array Value} {own : String} {idx : Nat} (hts : ∀ w ∈ TB, w.before args s = true) (hl : Cond.methodLink own idx yX11_begin ∈ TB) (hR : 2 + 1 ≤ R.frames ∧ 8 + (3 + 11) + 40 * 2 ≤ R.locals) : CallW R s args own RX11 idx yX11_begin cX11_begin 3 (some .int) (Cond.code yX11_begin cX11_begin 3 (some .int) :: TB) (rmN 2) 0 0 2 := cwV 2 hts (TB_V hl tw_271 tw_272 tw_1 tw_273) rfl rfl rfl (by decide +kernel) hR
set_option maxHeartbeats 4000000 in
set_option maxRecDepth 100000 in
/-- entry -/
theorem c_X11_entry (l : Launch) (D : va_G) (cy : Nat → ClassId) (sz : Nat) (cs : List Nat) (ad : Nat → Nat) (en : Nat → va_E) (hI : SX cy cs ad en) (t a b : Int32) (F : Nat → Nat → Int32) (hTX : TXF cy cs ad en F)   : Met l yX11_entry (Cond.code yX11_entry cX11_entry 4 (some .long) :: TB) (rmN 2) (va_Pc [.ref (ad 0), .int t, .int a, .int b] (Pre D cy cs ad en sz)) (va_Ql (S := Unit) (fun r _ => XEN F t a b (rdI (en 1) 4) (rdI (en 1) 5) r) (fun _ _ => True) (Nf sz)) 0 0 (Nf sz) := by
  refine Met.ofW (cc := cX11_entry) (maxL := 4) (ret := (some .long)) (by decide) rfl ?_
  intro p e s m args below meth c s₁ B hml hv
  obtain ⟨rfl, hsz, hP, hK, hD0⟩ := hv
  have hx := B.exec
  have hb := B.bytes
  have hr := B.returns
  have hts : ∀ w ∈ TB, w.before _ s = true := fun w h => atoms_spec (ws := _ :: TB) B.pre w (List.mem_cons_of_mem _ h)
  have hown : s.vm.findClass RX11 = some m.cls := findClass_of_methodNamed B.named
  have hlocks := B.notSynchronized
  have hh : Hp D (Nf sz) (fun _ => True) s.heap s.heap [] cs ad en := ⟨hP, hD0, va_S.rf⟩
  have hA : ∀ q : Nat, s.heap.size ≤ q → Nf sz q := fun q h => by rw [hsz] at h; exact h
  have hl := lv_entry ([.ref (ad 0), .int t, .int a, .int b]) (n := 4) (Nat.le_of_ble_eq_true rfl)
  rw [lg_entry_eq]
  generalize (lg_sl ([.ref (ad 0), .int t, .int a, .int b]) ++ List.replicate (4 - (lg_sl ([.ref (ad 0), .int t, .int a, .int b])).length) Slot.unset).toArray = ls at hl ⊢
  have hl : lv_has ls 4 [(0, .ref (ad 0)), (1, .int t), (2, .int a), (3, .int b)] := hl
  obtain ⟨wc_875, lf_875, es875, p0_875⟩ := get_A hI
  obtain ⟨cnt, d, mm, es876, hcnt, hd2, hd3, hmm⟩ := get_T hI
  refine lv_aload_n hx hb dX11_entry_0 rfl (lv_at hl 0 rfl) ?_
  refine hp_get hx hb hts ix11 hown hK hh (q := 0) rfl (hI.1 _ (by decide)) es875 rfl 0 (by decide) (hts _ tw_245) (fun _ h9 => h9) rfl dX11_entry_1 ?_
  refine lv_iload_n hx hb dX11_entry_4 rfl (lv_at hl 1 rfl) ?_
  refine hp_callRi (va_runV (As := [.int t]) (rest := []) ⟨hx, hb, hml, hown, hts⟩ (c_X8_has l D cy _ cs ad en (hI.1 _ (by decide)) cnt d mm hcnt hd2 hd3 hmm t es876) (kw_X8_has hts tw_412 ⟨by decide, by decide⟩) (preV_of hh hK (hI.1 _ (by decide)) es876 rfl) rfl rfl hl.1 rfl (lv_room (Nat.le_of_ble_eq_true rfl)) dX11_entry_5 ⟨Nat.le_of_ble_eq_true rfl, Nat.le_of_ble_eq_true rfl⟩) hh hA (fun r_877 H locs hw_877 hh => ?_)
  rcases Decidable.em (0 ≤ t.toInt ∧ t.toInt < (cnt : Int)) with hp_877 | hp_877
  · obtain rfl : r_877 = 1 := Eq.trans hw_877 (if_pos hp_877)
    obtain ⟨T_877, rfl, hT_877⟩ := has_nat hp_877
    refine lv_if_eq (tgt := 23) hx hb dX11_entry_8 (by decide) (fun c_0 => absurd c_0 (by decide)) (fun _ => ?_)
    refine lv_aload_n hx hb dX11_entry_11 rfl (lv_at hl 0 rfl) ?_
    refine hp_get hx hb hts ix11 hown hK hh (q := 0) rfl (hI.1 _ (by decide)) es875 rfl 0 (by decide) (hts _ tw_245) (fun _ h9 => h9) rfl dX11_entry_12 ?_
    refine lv_iload_n hx hb dX11_entry_15 rfl (lv_at hl 2 rfl) ?_
    refine lv_iload_n hx hb dX11_entry_16 rfl (lv_at hl 3 rfl) ?_
    refine hp_callRi (va_runV (As := [.int a, .int b]) (rest := []) ⟨hx, hb, hml, hown, hts⟩ (c_X8_isPlace l D cy _ cs ad en (hI.1 _ (by decide)) cnt d mm hcnt hd2 hd3 hmm a b es876) (kw_X8_isPlace hts tw_416 ⟨by decide, by decide⟩) (preV_of hh hK (hI.1 _ (by decide)) es876 rfl) rfl rfl hl.1 rfl (lv_room (Nat.le_of_ble_eq_true rfl)) dX11_entry_17 ⟨Nat.le_of_ble_eq_true rfl, Nat.le_of_ble_eq_true rfl⟩) hh hA (fun r_878 H locs hw_878 hh => ?_)
    rcases Decidable.em ((0 ≤ a.toInt ∧ a.toInt < (d : Int)) ∧ 0 ≤ b.toInt ∧ b.toInt < (d : Int)) with hp_878 | hp_878
    · obtain rfl : r_878 = 1 := Eq.trans hw_878 (if_pos hp_878)
      obtain ⟨A_878, rfl, hA_878⟩ := has_nat hp_878.1
      obtain ⟨B_878, rfl, hB_878⟩ := has_nat hp_878.2
      refine lv_if_ne (tgt := 27) hx hb dX11_entry_20 (by decide) (fun _ => ?_) (fun c_0 => absurd c_0 (by decide))
      obtain ⟨f_879, es879⟩ := get_all hI
      have hdd : d * d ≤ 9 := Nat.mul_le_mul hd3 hd3
      obtain ⟨⟨q9, k9, ci9, hq9, hk9, hq115, hk115, hal9, eq9, hci9, ek9, hkd9⟩, hF9⟩ := hTX T_877 d hd3 (by rw [es876]; rfl) (by rw [show rdI (en 1) 4 = nI cnt from by rw [es876]; rfl, nI_toInt (by omega)]; omega)
      rw [show rdR (en 2) = f_879 from by rw [es879]; rfl] at hal9
      refine lv_aload_n hx hb dX11_entry_27 rfl (lv_at hl 0 rfl) ?_
      refine hp_get hx hb hts ix11 hown hK hh (q := 0) rfl (hI.1 _ (by decide)) es875 rfl 0 (by decide) (hts _ tw_245) (fun _ h9 => h9) rfl dX11_entry_28 ?_
      refine lv_iload_n hx hb dX11_entry_31 rfl (lv_at hl 1 rfl) ?_
      refine hp_callRq (va_runV (As := [.int (nI T_877)]) (rest := []) ⟨hx, hb, hml, hown, hts⟩ (c_X8_tableOf l D cy _ cs ad en (hI.1 _ (by decide)) (hI.1 _ (by decide)) cnt d mm hcnt hd2 hd3 hmm f_879 T_877 (ad q9) (by omega) hal9 es876 es879) (kw_X8_tableOf hts tw_421 ⟨by decide, by decide⟩) (preV_of hh hK (hI.1 _ (by decide)) es876 rfl) rfl rfl hl.1 rfl (lv_room (Nat.le_of_ble_eq_true rfl)) dX11_entry_32 ⟨Nat.le_of_ble_eq_true rfl, Nat.le_of_ble_eq_true rfl⟩) hh hA (fun r_880 H locs hw_880 hh => ?_)
      obtain rfl : r_880 = some (ad q9) := hw_880
      refine W.eq (g2 := F0 m 35 ls [.ref (ad q9)]) rfl ?_
      rcases hci9 with rfl | rfl | rfl
      · refine hp_get hx hb hts ix7 hown hK hh (q := q9) rfl hq9 eq9 rfl 2 (by decide) (hts _ tw_383) (fun _ h9 => h9) rfl dX11_entry_35 ?_
        refine lv_aload_n hx hb dX11_entry_38 rfl (lv_at hl 0 rfl) ?_
        refine hp_get hx hb hts ix11 hown hK hh (q := 0) rfl (hI.1 _ (by decide)) es875 rfl 0 (by decide) (hts _ tw_245) (fun _ h9 => h9) rfl dX11_entry_39 ?_
        refine lv_iload_n hx hb dX11_entry_42 rfl (lv_at hl 2 rfl) ?_
        refine lv_iload_n hx hb dX11_entry_43 rfl (lv_at hl 3 rfl) ?_
        refine hp_callRi (va_runV (As := [.int (nI A_878), .int (nI B_878)]) (rest := [.ref (ad k9)]) ⟨hx, hb, hml, hown, hts⟩ (c_X8_cellOf l D cy _ cs ad en (hI.1 _ (by decide)) cnt d mm hcnt hd2 hd3 hmm A_878 B_878 es876) (kw_X8_cellOf hts tw_425 ⟨by decide, by decide⟩) (preV_of hh hK (hI.1 _ (by decide)) es876 rfl) rfl rfl hl.1 rfl (lv_room (Nat.le_of_ble_eq_true rfl)) dX11_entry_44 ⟨Nat.le_of_ble_eq_true rfl, Nat.le_of_ble_eq_true rfl⟩) hh hA (fun r_881 H locs hw_881 hh => ?_)
        obtain rfl : r_881 = nI (A_878 * d + B_878) := hw_881
        have hi_882 : (A_878 * d + B_878) < d * d := md3' (by omega) (by omega) hd3
        refine hp_iald hx hb hK hh (q := k9) rfl hk9 ek9 (vp_in_nI (n := (A_878 * d + B_878)) (by omega) (by omega)) dX11_entry_47 ?_
        rw [nI_clamp (n := (A_878 * d + B_878)) (by omega)]
        refine lv_i2l hx hb dX11_entry_48 rfl ?_
        have hr4 : (rdI (en 1) 4).toInt = (cnt : Int) := by rw [show rdI (en 1) 4 = nI cnt from by rw [es876]; rfl]; exact nI_toInt (by omega)
        have hr5 : rdI (en 1) 5 = nI d := by rw [es876]; rfl
        have hr5i : (rdI (en 1) 5).toInt = (d : Int) := by rw [hr5]; exact nI_toInt (by omega)
        exact hp_lretR hx hb hr hlocks hsz hh (Or.inl ⟨⟨by rw [hr4]; exact hp_877, by rw [hr5i]; exact hp_878⟩, by rw [hr5, nI_clamp (n := T_877) (by omega), nI_clamp (n := A_878) (by omega), nI_clamp (n := B_878) (by omega), nI_clamp (n := d) (by omega)]⟩) dX11_entry_49
      · refine hp_get hx hb hts ix1 hown hK hh (q := q9) rfl hq9 eq9 rfl 2 (by decide) (hts _ tw_383) (fun _ h9 => h9) rfl dX11_entry_35 ?_
        refine lv_aload_n hx hb dX11_entry_38 rfl (lv_at hl 0 rfl) ?_
        refine hp_get hx hb hts ix11 hown hK hh (q := 0) rfl (hI.1 _ (by decide)) es875 rfl 0 (by decide) (hts _ tw_245) (fun _ h9 => h9) rfl dX11_entry_39 ?_
        refine lv_iload_n hx hb dX11_entry_42 rfl (lv_at hl 2 rfl) ?_
        refine lv_iload_n hx hb dX11_entry_43 rfl (lv_at hl 3 rfl) ?_
        refine hp_callRi (va_runV (As := [.int (nI A_878), .int (nI B_878)]) (rest := [.ref (ad k9)]) ⟨hx, hb, hml, hown, hts⟩ (c_X8_cellOf l D cy _ cs ad en (hI.1 _ (by decide)) cnt d mm hcnt hd2 hd3 hmm A_878 B_878 es876) (kw_X8_cellOf hts tw_425 ⟨by decide, by decide⟩) (preV_of hh hK (hI.1 _ (by decide)) es876 rfl) rfl rfl hl.1 rfl (lv_room (Nat.le_of_ble_eq_true rfl)) dX11_entry_44 ⟨Nat.le_of_ble_eq_true rfl, Nat.le_of_ble_eq_true rfl⟩) hh hA (fun r_883 H locs hw_883 hh => ?_)
        obtain rfl : r_883 = nI (A_878 * d + B_878) := hw_883
        have hi_884 : (A_878 * d + B_878) < d * d := md3' (by omega) (by omega) hd3
        refine hp_iald hx hb hK hh (q := k9) rfl hk9 ek9 (vp_in_nI (n := (A_878 * d + B_878)) (by omega) (by omega)) dX11_entry_47 ?_
        rw [nI_clamp (n := (A_878 * d + B_878)) (by omega)]
        refine lv_i2l hx hb dX11_entry_48 rfl ?_
        have hr4 : (rdI (en 1) 4).toInt = (cnt : Int) := by rw [show rdI (en 1) 4 = nI cnt from by rw [es876]; rfl]; exact nI_toInt (by omega)
        have hr5 : rdI (en 1) 5 = nI d := by rw [es876]; rfl
        have hr5i : (rdI (en 1) 5).toInt = (d : Int) := by rw [hr5]; exact nI_toInt (by omega)
        exact hp_lretR hx hb hr hlocks hsz hh (Or.inl ⟨⟨by rw [hr4]; exact hp_877, by rw [hr5i]; exact hp_878⟩, by rw [hr5, nI_clamp (n := T_877) (by omega), nI_clamp (n := A_878) (by omega), nI_clamp (n := B_878) (by omega), nI_clamp (n := d) (by omega)]⟩) dX11_entry_49
      · refine hp_get hx hb hts ix4 hown hK hh (q := q9) rfl hq9 eq9 rfl 2 (by decide) (hts _ tw_383) (fun _ h9 => h9) rfl dX11_entry_35 ?_
        refine lv_aload_n hx hb dX11_entry_38 rfl (lv_at hl 0 rfl) ?_
        refine hp_get hx hb hts ix11 hown hK hh (q := 0) rfl (hI.1 _ (by decide)) es875 rfl 0 (by decide) (hts _ tw_245) (fun _ h9 => h9) rfl dX11_entry_39 ?_
        refine lv_iload_n hx hb dX11_entry_42 rfl (lv_at hl 2 rfl) ?_
        refine lv_iload_n hx hb dX11_entry_43 rfl (lv_at hl 3 rfl) ?_
        refine hp_callRi (va_runV (As := [.int (nI A_878), .int (nI B_878)]) (rest := [.ref (ad k9)]) ⟨hx, hb, hml, hown, hts⟩ (c_X8_cellOf l D cy _ cs ad en (hI.1 _ (by decide)) cnt d mm hcnt hd2 hd3 hmm A_878 B_878 es876) (kw_X8_cellOf hts tw_425 ⟨by decide, by decide⟩) (preV_of hh hK (hI.1 _ (by decide)) es876 rfl) rfl rfl hl.1 rfl (lv_room (Nat.le_of_ble_eq_true rfl)) dX11_entry_44 ⟨Nat.le_of_ble_eq_true rfl, Nat.le_of_ble_eq_true rfl⟩) hh hA (fun r_885 H locs hw_885 hh => ?_)
        obtain rfl : r_885 = nI (A_878 * d + B_878) := hw_885
        have hi_886 : (A_878 * d + B_878) < d * d := md3' (by omega) (by omega) hd3
        refine hp_iald hx hb hK hh (q := k9) rfl hk9 ek9 (vp_in_nI (n := (A_878 * d + B_878)) (by omega) (by omega)) dX11_entry_47 ?_
        rw [nI_clamp (n := (A_878 * d + B_878)) (by omega)]
        refine lv_i2l hx hb dX11_entry_48 rfl ?_
        have hr4 : (rdI (en 1) 4).toInt = (cnt : Int) := by rw [show rdI (en 1) 4 = nI cnt from by rw [es876]; rfl]; exact nI_toInt (by omega)
        have hr5 : rdI (en 1) 5 = nI d := by rw [es876]; rfl
        have hr5i : (rdI (en 1) 5).toInt = (d : Int) := by rw [hr5]; exact nI_toInt (by omega)
        exact hp_lretR hx hb hr hlocks hsz hh (Or.inl ⟨⟨by rw [hr4]; exact hp_877, by rw [hr5i]; exact hp_878⟩, by rw [hr5, nI_clamp (n := T_877) (by omega), nI_clamp (n := A_878) (by omega), nI_clamp (n := B_878) (by omega), nI_clamp (n := d) (by omega)]⟩) dX11_entry_49
    · obtain rfl : r_878 = 0 := Eq.trans hw_878 (if_neg hp_878)
      refine lv_if_ne (tgt := 27) hx hb dX11_entry_20 (by decide) (fun c_0 => absurd c_0 (by decide)) (fun _ => ?_)
      refine lv_ldc2 hx hb hown (hts _ tw_420) dX11_entry_23 ?_
      have hr4 : (rdI (en 1) 4).toInt = (cnt : Int) := by rw [show rdI (en 1) 4 = nI cnt from by rw [es876]; rfl]; exact nI_toInt (by omega)
      have hr5 : rdI (en 1) 5 = nI d := by rw [es876]; rfl
      have hr5i : (rdI (en 1) 5).toInt = (d : Int) := by rw [hr5]; exact nI_toInt (by omega)
      exact hp_lretR hx hb hr hlocks hsz hh (Or.inr ⟨fun q => hp_878 (by have h9 := q.2; rw [hr5i] at h9; exact h9), rfl⟩) dX11_entry_26
  · obtain rfl : r_877 = 0 := Eq.trans hw_877 (if_neg hp_877)
    refine lv_if_eq (tgt := 23) hx hb dX11_entry_8 (by decide) (fun _ => ?_) (fun c_0 => absurd c_0 (by decide))
    refine lv_ldc2 hx hb hown (hts _ tw_420) dX11_entry_23 ?_
    have hr4 : (rdI (en 1) 4).toInt = (cnt : Int) := by rw [show rdI (en 1) 4 = nI cnt from by rw [es876]; rfl]; exact nI_toInt (by omega)
    have hr5 : rdI (en 1) 5 = nI d := by rw [es876]; rfl
    have hr5i : (rdI (en 1) 5).toInt = (d : Int) := by rw [hr5]; exact nI_toInt (by omega)
    exact hp_lretR hx hb hr hlocks hsz hh (Or.inr ⟨fun q => hp_877 (by have h9 := q.1; rw [hr4] at h9; exact h9), rfl⟩) dX11_entry_26
theorem kw_X11_entry {R : Room} {s : State} {args : Array Value} {own : String} {idx : Nat} (hts : ∀ w ∈ TB, w.before args s = true) (hl : Cond.methodLink own idx yX11_entry ∈ TB) (hR : 2 + 1 ≤ R.frames ∧ 8 + (4 + 11) + 40 * 2 ≤ R.locals) : CallW R s args own RX11 idx yX11_entry cX11_entry 4 (some .long) (Cond.code yX11_entry cX11_entry 4 (some .long) :: TB) (rmN 2) 0 0 3 := cwV 3 hts (TB_V hl tw_409 tw_410 tw_1 tw_411) rfl rfl rfl (by decide +kernel) hR
set_option maxHeartbeats 4000000 in
set_option maxRecDepth 100000 in
/-- tell -/
theorem c_X11_tell (l : Launch) (D : va_G) (cy : Nat → ClassId) (sz : Nat) (cs : List Nat) (ad : Nat → Nat) (en : Nat → va_E) (hI : SX cy cs ad en) (t : Int32) (F : Nat → Nat → Int32) (hTX : TXF cy cs ad en F)   : Met l yX11_tell (Cond.code yX11_tell cX11_tell 2 (some .int) :: TB) (rmN 5) (va_Pc [.ref (ad 0), .int t] (Pre D cy cs ad en sz)) (va_Qi (S := Nat → va_E) (fun r en1 => SX cy cs ad en1 ∧ (∀ c, (c ≠ 76) → en1 c = en c) ∧ XTE F t r en en1) (PostM D cs ad) (Af cs ad sz)) 0 0 (Af cs ad sz) := by
  refine Met.ofW (cc := cX11_tell) (maxL := 2) (ret := (some .int)) (by decide) rfl ?_
  intro p e s m args below meth c s₁ B hml hv
  obtain ⟨rfl, hsz, hP, hK, hD0⟩ := hv
  have hx := B.exec
  have hb := B.bytes
  have hr := B.returns
  have hts : ∀ w ∈ TB, w.before _ s = true := fun w h => atoms_spec (ws := _ :: TB) B.pre w (List.mem_cons_of_mem _ h)
  have hown : s.vm.findClass RX11 = some m.cls := findClass_of_methodNamed B.named
  have hlocks := B.notSynchronized
  have hh : Hp D (Af cs ad sz) (Af cs ad sz) s.heap s.heap [] cs ad en := ⟨hP, Af_self hD0, va_S.rf⟩
  have hA : ∀ q : Nat, s.heap.size ≤ q → Af cs ad sz q := fun q h => Or.inr (by rw [hsz] at h; exact h)
  have hl := lv_entry ([.ref (ad 0), .int t]) (n := 2) (Nat.le_of_ble_eq_true rfl)
  rw [lg_entry_eq]
  generalize (lg_sl ([.ref (ad 0), .int t]) ++ List.replicate (2 - (lg_sl ([.ref (ad 0), .int t])).length) Slot.unset).toArray = ls at hl ⊢
  have hl : lv_has ls 2 [(0, .ref (ad 0)), (1, .int t)] := hl
  have hf0 : ∀ c, (c ≠ 76) → en c = en c := fun _ _ => rfl
  obtain ⟨wc_887, lf_887, es887, p0_887⟩ := get_A hI
  obtain ⟨cnt, d, mm, es888, hcnt, hd2, hd3, hmm⟩ := get_T hI
  obtain ⟨hi_889, es889⟩ := get_tr hI
  refine lv_aload_n hx hb dX11_tell_0 rfl (lv_at hl 0 rfl) ?_
  refine hp_get hx hb hts ix11 hown hK hh (q := 0) rfl (hI.1 _ (by decide)) es887 rfl 0 (by decide) (hts _ tw_245) (fun _ h9 => h9) rfl dX11_tell_1 ?_
  refine lv_iload_n hx hb dX11_tell_4 rfl (lv_at hl 1 rfl) ?_
  refine hp_callRi (va_runV (As := [.int t]) (rest := []) ⟨hx, hb, hml, hown, hts⟩ (c_X8_has l D cy _ cs ad en (hI.1 _ (by decide)) cnt d mm hcnt hd2 hd3 hmm t es888) (kw_X8_has hts tw_412 ⟨by decide, by decide⟩) (preV_of hh hK (hI.1 _ (by decide)) es888 rfl) rfl rfl hl.1 rfl (lv_room (Nat.le_of_ble_eq_true rfl)) dX11_tell_5 ⟨Nat.le_of_ble_eq_true rfl, Nat.le_of_ble_eq_true rfl⟩) hh hA (fun r_890 H locs hw_890 hh => ?_)
  rcases Decidable.em (0 ≤ t.toInt ∧ t.toInt < (cnt : Int)) with hp_890 | hp_890
  · obtain rfl : r_890 = 1 := Eq.trans hw_890 (if_pos hp_890)
    obtain ⟨T_890, rfl, hT_890⟩ := has_nat hp_890
    refine lv_if_eq (tgt := 29) hx hb dX11_tell_8 (by decide) (fun c_0 => absurd c_0 (by decide)) (fun _ => ?_)
    obtain ⟨f_891, es891⟩ := get_all hI
    have hdd : d * d ≤ 9 := Nat.mul_le_mul hd3 hd3
    obtain ⟨⟨q9, k9, ci9, hq9, hk9, hq115, hk115, hal9, eq9, hci9, ek9, hkd9⟩, hF9⟩ := hTX T_890 d hd3 (by rw [es888]; rfl) (by rw [show rdI (en 1) 4 = nI cnt from by rw [es888]; rfl, nI_toInt (by omega)]; omega)
    rw [show rdR (en 2) = f_891 from by rw [es891]; rfl] at hal9
    refine lv_aload_n hx hb dX11_tell_11 rfl (lv_at hl 0 rfl) ?_
    refine hp_get hx hb hts ix11 hown hK hh (q := 0) rfl (hI.1 _ (by decide)) es887 rfl 0 (by decide) (hts _ tw_245) (fun _ h9 => h9) rfl dX11_tell_12 ?_
    refine lv_iload_n hx hb dX11_tell_15 rfl (lv_at hl 1 rfl) ?_
    refine hp_callRq (va_runV (As := [.int (nI T_890)]) (rest := []) ⟨hx, hb, hml, hown, hts⟩ (c_X8_tableOf l D cy _ cs ad en (hI.1 _ (by decide)) (hI.1 _ (by decide)) cnt d mm hcnt hd2 hd3 hmm f_891 T_890 (ad q9) (by omega) hal9 es888 es891) (kw_X8_tableOf hts tw_421 ⟨by decide, by decide⟩) (preV_of hh hK (hI.1 _ (by decide)) es888 rfl) rfl rfl hl.1 rfl (lv_room (Nat.le_of_ble_eq_true rfl)) dX11_tell_16 ⟨Nat.le_of_ble_eq_true rfl, Nat.le_of_ble_eq_true rfl⟩) hh hA (fun r_892 H locs hw_892 hh => ?_)
    obtain rfl : r_892 = some (ad q9) := hw_892
    refine W.eq (g2 := F0 m 19 ls [.ref (ad q9)]) rfl ?_
    refine lv_aload_n hx hb dX11_tell_19 rfl (lv_at hl 0 rfl) ?_
    refine hp_get hx hb hts ix11 hown hK hh (q := 0) rfl (hI.1 _ (by decide)) es887 rfl 5 (by decide) (hts _ tw_250) (fun _ h9 => h9) rfl dX11_tell_20 ?_
    rcases hci9 with rfl | rfl | rfl
    · refine hp_callMi (va_runU (As := [.ref (ad 76)]) (rest := []) ⟨hx, hb, hml, hown, hts⟩ (c_X7_telling_6 l D cy _ cs ad en q9 k9 T_890 d hq9 hk9 (by omega) (by omega) (by omega) (by omega) (by omega) (F T_890) (hI.1 _ (by decide)) hi_889 eq9 ek9 es889) (va_cwU 1 hts (TB_U tw_787 tw_790 tw_789 tw_788 tw_13 tw_820) rfl rfl rfl rfl (by decide +kernel) ⟨by decide, by decide⟩) (preV_of hh hK hq9 eq9 rfl) rfl rfl hl.1 rfl (lv_room (Nat.le_of_ble_eq_true rfl)) dX11_tell_23 ⟨Nat.le_of_ble_eq_true rfl, Nat.le_of_ble_eq_true rfl⟩) hh hA (fun r_893 H locs en_893 hw_893 hh => ?_)
      obtain ⟨hr_893, hen_893⟩ := hw_893
      have es887_893 : en_893 0 = .inr (10, [.ref (ad 1), .ref (ad 12), .ref (ad 70), .ref (ad 74), .ref (ad 75), .ref (ad 76), .int (nI wc_887), .int lf_887]) := by rw [hen_893, va_up_ne _ _ (by decide)]; exact es887
      have es888_893 : en_893 1 = .inr (7, [.ref (ad 2), .ref (ad 3), .ref (ad 10), .ref (ad 11), .int (nI cnt), .int (nI d), .int (nI mm)]) := by rw [hen_893, va_up_ne _ _ (by decide)]; exact es888
      have es891_893 : en_893 2 = .inl (cy 3, 6, .inr (.inr (.inr (.inr f_891)))) := by rw [hen_893, va_up_ne _ _ (by decide)]; exact es891
      have eq9_893 : en_893 q9 = .inr (6, [.int (nI T_890), .int (nI d), .ref (ad k9)]) := by rw [hen_893, va_up_ne _ _ (by omega)]; exact eq9
      have ek9_893 : en_893 k9 = .inl (cy 0, (d * d), .inl (F T_890)) := by rw [hen_893, va_up_ne _ _ (by omega)]; exact ek9
      have es889_893 : en_893 76 = .inr (8, [.int (31 * hi_889 + 1)]) := by rw [hen_893]; exact va_up_self _ _ _
      have hI_893 : SX cy cs ad en_893 := by rw [hen_893]; exact up_tr hI ⟨(31 * hi_889 + 1), rfl⟩
      have hf_893 : ∀ c, (c ≠ 76) → en_893 c = en c := fun c hc => Eq.trans (show en_893 c = en c from by rw [hen_893, va_up_ne _ _ (by omega)]) (hf0 c hc)
      rw [hr_893]
      refine lv_goto (tgt := 30) hx hb dX11_tell_26 (by decide) ?_
      have hr4 : (rdI (en 1) 4).toInt = (cnt : Int) := by rw [show rdI (en 1) 4 = nI cnt from by rw [es888]; rfl]; exact nI_toInt (by omega)
      have hr5 : rdI (en 1) 5 = nI d := by rw [es888]; rfl
      have hr5i : (rdI (en 1) 5).toInt = (d : Int) := by rw [hr5]; exact nI_toInt (by omega)
      exact hp_iretM hx hb hr rfl hlocks hh (⟨hI_893, hf_893, Or.inr ⟨T_890, d, 6, rfl, by unfold hasP; rw [hr4]; exact hp_890, hr5, hd3, by omega, hkd9, Or.inl ⟨rfl, rfl, (by rw [es889_893, es889]; rfl)⟩⟩⟩) dX11_tell_30
    · refine hp_callMi (va_runU (As := [.ref (ad 76)]) (rest := []) ⟨hx, hb, hml, hown, hts⟩ (c_X1_telling_1 l D cy _ cs ad en q9 k9 T_890 d hq9 hk9 (by omega) (by omega) (by omega) (by omega) (by omega) (F T_890) (hI.1 _ (by decide)) hi_889 eq9 ek9 es889) (va_cwO 1 hts (TB_O tw_787 tw_790 tw_788 tw_791 tw_792 tw_14 tw_793) rfl rfl rfl (b0 := cX7_telling) (m0 := 2) (r0 := (some .int)) tw_820 (by decide +kernel) ⟨by decide, by decide⟩) (preV_of hh hK hq9 eq9 rfl) rfl rfl hl.1 rfl (lv_room (Nat.le_of_ble_eq_true rfl)) dX11_tell_23 ⟨Nat.le_of_ble_eq_true rfl, Nat.le_of_ble_eq_true rfl⟩) hh hA (fun r_894 H locs en_894 hw_894 hh => ?_)
      obtain ⟨hr_894, hen_894⟩ := hw_894
      have es887_894 : en_894 0 = .inr (10, [.ref (ad 1), .ref (ad 12), .ref (ad 70), .ref (ad 74), .ref (ad 75), .ref (ad 76), .int (nI wc_887), .int lf_887]) := by rw [hen_894, va_up_ne _ _ (by decide)]; exact es887
      have es888_894 : en_894 1 = .inr (7, [.ref (ad 2), .ref (ad 3), .ref (ad 10), .ref (ad 11), .int (nI cnt), .int (nI d), .int (nI mm)]) := by rw [hen_894, va_up_ne _ _ (by decide)]; exact es888
      have es891_894 : en_894 2 = .inl (cy 3, 6, .inr (.inr (.inr (.inr f_891)))) := by rw [hen_894, va_up_ne _ _ (by decide)]; exact es891
      have eq9_894 : en_894 q9 = .inr (1, [.int (nI T_890), .int (nI d), .ref (ad k9)]) := by rw [hen_894, va_up_ne _ _ (by omega)]; exact eq9
      have ek9_894 : en_894 k9 = .inl (cy 0, (d * d), .inl (F T_890)) := by rw [hen_894, va_up_ne _ _ (by omega)]; exact ek9
      have es889_894 : en_894 76 = .inr (8, [.int (31 * (31 * hi_889 + 2) + 1)]) := by rw [hen_894]; exact va_up_self _ _ _
      have hI_894 : SX cy cs ad en_894 := by rw [hen_894]; exact up_tr hI ⟨(31 * (31 * hi_889 + 2) + 1), rfl⟩
      have hf_894 : ∀ c, (c ≠ 76) → en_894 c = en c := fun c hc => Eq.trans (show en_894 c = en c from by rw [hen_894, va_up_ne _ _ (by omega)]) (hf0 c hc)
      rw [hr_894]
      refine lv_goto (tgt := 30) hx hb dX11_tell_26 (by decide) ?_
      have hr4 : (rdI (en 1) 4).toInt = (cnt : Int) := by rw [show rdI (en 1) 4 = nI cnt from by rw [es888]; rfl]; exact nI_toInt (by omega)
      have hr5 : rdI (en 1) 5 = nI d := by rw [es888]; rfl
      have hr5i : (rdI (en 1) 5).toInt = (d : Int) := by rw [hr5]; exact nI_toInt (by omega)
      exact hp_iretM hx hb hr rfl hlocks hh (⟨hI_894, hf_894, Or.inr ⟨T_890, d, 1, rfl, by unfold hasP; rw [hr4]; exact hp_890, hr5, hd3, by omega, hkd9, Or.inr (Or.inl ⟨rfl, rfl, (by rw [es889_894, es889]; rfl)⟩)⟩⟩) dX11_tell_30
    · refine hp_callMi (va_runU (As := [.ref (ad 76)]) (rest := []) ⟨hx, hb, hml, hown, hts⟩ (c_X4_telling_4 l D cy _ cs ad en q9 k9 T_890 d hq9 hk9 (by omega) (by omega) (by omega) (by omega) (by omega) (F T_890) (hI.1 _ (by decide)) hi_889 eq9 ek9 es889) (va_cwO 1 hts (TB_O tw_787 tw_790 tw_788 tw_808 tw_809 tw_15 tw_810) rfl rfl rfl (b0 := cX7_telling) (m0 := 2) (r0 := (some .int)) tw_820 (by decide +kernel) ⟨by decide, by decide⟩) (preV_of hh hK hq9 eq9 rfl) rfl rfl hl.1 rfl (lv_room (Nat.le_of_ble_eq_true rfl)) dX11_tell_23 ⟨Nat.le_of_ble_eq_true rfl, Nat.le_of_ble_eq_true rfl⟩) hh hA (fun r_895 H locs en_895 hw_895 hh => ?_)
      obtain ⟨hr_895, hen_895⟩ := hw_895
      have es887_895 : en_895 0 = .inr (10, [.ref (ad 1), .ref (ad 12), .ref (ad 70), .ref (ad 74), .ref (ad 75), .ref (ad 76), .int (nI wc_887), .int lf_887]) := by rw [hen_895, va_up_ne _ _ (by decide)]; exact es887
      have es888_895 : en_895 1 = .inr (7, [.ref (ad 2), .ref (ad 3), .ref (ad 10), .ref (ad 11), .int (nI cnt), .int (nI d), .int (nI mm)]) := by rw [hen_895, va_up_ne _ _ (by decide)]; exact es888
      have es891_895 : en_895 2 = .inl (cy 3, 6, .inr (.inr (.inr (.inr f_891)))) := by rw [hen_895, va_up_ne _ _ (by decide)]; exact es891
      have eq9_895 : en_895 q9 = .inr (4, [.int (nI T_890), .int (nI d), .ref (ad k9)]) := by rw [hen_895, va_up_ne _ _ (by omega)]; exact eq9
      have ek9_895 : en_895 k9 = .inl (cy 0, (d * d), .inl (F T_890)) := by rw [hen_895, va_up_ne _ _ (by omega)]; exact ek9
      have es889_895 : en_895 76 = .inr (8, [.int (31 * (31 * (31 * (31 * hi_889 + 3) + 2) + 1) + 1)]) := by rw [hen_895]; exact va_up_self _ _ _
      have hI_895 : SX cy cs ad en_895 := by rw [hen_895]; exact up_tr hI ⟨(31 * (31 * (31 * (31 * hi_889 + 3) + 2) + 1) + 1), rfl⟩
      have hf_895 : ∀ c, (c ≠ 76) → en_895 c = en c := fun c hc => Eq.trans (show en_895 c = en c from by rw [hen_895, va_up_ne _ _ (by omega)]) (hf0 c hc)
      rw [hr_895]
      refine lv_goto (tgt := 30) hx hb dX11_tell_26 (by decide) ?_
      have hr4 : (rdI (en 1) 4).toInt = (cnt : Int) := by rw [show rdI (en 1) 4 = nI cnt from by rw [es888]; rfl]; exact nI_toInt (by omega)
      have hr5 : rdI (en 1) 5 = nI d := by rw [es888]; rfl
      have hr5i : (rdI (en 1) 5).toInt = (d : Int) := by rw [hr5]; exact nI_toInt (by omega)
      exact hp_iretM hx hb hr rfl hlocks hh (⟨hI_895, hf_895, Or.inr ⟨T_890, d, 4, rfl, by unfold hasP; rw [hr4]; exact hp_890, hr5, hd3, by omega, hkd9, Or.inr (Or.inr ⟨rfl, rfl, (by rw [es889_895, es889]; rfl)⟩)⟩⟩) dX11_tell_30
  · obtain rfl : r_890 = 0 := Eq.trans hw_890 (if_neg hp_890)
    refine lv_if_eq (tgt := 29) hx hb dX11_tell_8 (by decide) (fun _ => ?_) (fun c_0 => absurd c_0 (by decide))
    refine lv_iconst (v := (-1)) hx hb dX11_tell_29 (by decide) ?_
    have hr4 : (rdI (en 1) 4).toInt = (cnt : Int) := by rw [show rdI (en 1) 4 = nI cnt from by rw [es888]; rfl]; exact nI_toInt (by omega)
    have hr5 : rdI (en 1) 5 = nI d := by rw [es888]; rfl
    have hr5i : (rdI (en 1) 5).toInt = (d : Int) := by rw [hr5]; exact nI_toInt (by omega)
    exact hp_iretM hx hb hr rfl hlocks hh (⟨hI, hf0, Or.inl ⟨fun q => hp_890 (by have h9 := q; unfold hasP at h9; rw [hr4] at h9; exact h9), rfl, rfl⟩⟩) dX11_tell_30
theorem kw_X11_tell {R : Room} {s : State} {args : Array Value} {own : String} {idx : Nat} (hts : ∀ w ∈ TB, w.before args s = true) (hl : Cond.methodLink own idx yX11_tell ∈ TB) (hR : 5 + 1 ≤ R.frames ∧ 8 + (2 + 11) + 40 * 5 ≤ R.locals) : CallW R s args own RX11 idx yX11_tell cX11_tell 2 (some .int) (Cond.code yX11_tell cX11_tell 2 (some .int) :: TB) (rmN 5) 0 0 1 := cwV 1 hts (TB_V hl tw_784 tw_785 tw_1 tw_786) rfl rfl rfl (by decide +kernel) hR
set_option maxHeartbeats 4000000 in
set_option maxRecDepth 100000 in
/-- weigh -/
theorem c_X11_weigh (l : Launch) (D : va_G) (cy : Nat → ClassId) (sz : Nat) (cs : List Nat) (ad : Nat → Nat) (en : Nat → va_E) (hI : SX cy cs ad en) (t : Int32) (F : Nat → Nat → Int32) (hTX : TXF cy cs ad en F)   : Met l yX11_weigh (Cond.code yX11_weigh cX11_weigh 2 (some .int) :: TB) (rmN 2) (va_Pc [.ref (ad 0), .int t] (Pre D cy cs ad en sz)) (va_Qi (S := Nat → va_E) (fun r en1 => SX cy cs ad en1 ∧ (∀ c, (c ≠ 76) → en1 c = en c) ∧ XWE F t r en en1) (PostM D cs ad) (Af cs ad sz)) 0 0 (Af cs ad sz) := by
  refine Met.ofW (cc := cX11_weigh) (maxL := 2) (ret := (some .int)) (by decide) rfl ?_
  intro p e s m args below meth c s₁ B hml hv
  obtain ⟨rfl, hsz, hP, hK, hD0⟩ := hv
  have hx := B.exec
  have hb := B.bytes
  have hr := B.returns
  have hts : ∀ w ∈ TB, w.before _ s = true := fun w h => atoms_spec (ws := _ :: TB) B.pre w (List.mem_cons_of_mem _ h)
  have hown : s.vm.findClass RX11 = some m.cls := findClass_of_methodNamed B.named
  have hlocks := B.notSynchronized
  have hh : Hp D (Af cs ad sz) (Af cs ad sz) s.heap s.heap [] cs ad en := ⟨hP, Af_self hD0, va_S.rf⟩
  have hA : ∀ q : Nat, s.heap.size ≤ q → Af cs ad sz q := fun q h => Or.inr (by rw [hsz] at h; exact h)
  have hl := lv_entry ([.ref (ad 0), .int t]) (n := 2) (Nat.le_of_ble_eq_true rfl)
  rw [lg_entry_eq]
  generalize (lg_sl ([.ref (ad 0), .int t]) ++ List.replicate (2 - (lg_sl ([.ref (ad 0), .int t])).length) Slot.unset).toArray = ls at hl ⊢
  have hl : lv_has ls 2 [(0, .ref (ad 0)), (1, .int t)] := hl
  have hf0 : ∀ c, (c ≠ 76) → en c = en c := fun _ _ => rfl
  obtain ⟨wc_896, lf_896, es896, p0_896⟩ := get_A hI
  obtain ⟨cnt, d, mm, es897, hcnt, hd2, hd3, hmm⟩ := get_T hI
  obtain ⟨hi_898, es898⟩ := get_tr hI
  refine lv_aload_n hx hb dX11_weigh_0 rfl (lv_at hl 0 rfl) ?_
  refine hp_get hx hb hts ix11 hown hK hh (q := 0) rfl (hI.1 _ (by decide)) es896 rfl 0 (by decide) (hts _ tw_245) (fun _ h9 => h9) rfl dX11_weigh_1 ?_
  refine lv_iload_n hx hb dX11_weigh_4 rfl (lv_at hl 1 rfl) ?_
  refine hp_callRi (va_runV (As := [.int t]) (rest := []) ⟨hx, hb, hml, hown, hts⟩ (c_X8_has l D cy _ cs ad en (hI.1 _ (by decide)) cnt d mm hcnt hd2 hd3 hmm t es897) (kw_X8_has hts tw_412 ⟨by decide, by decide⟩) (preV_of hh hK (hI.1 _ (by decide)) es897 rfl) rfl rfl hl.1 rfl (lv_room (Nat.le_of_ble_eq_true rfl)) dX11_weigh_5 ⟨Nat.le_of_ble_eq_true rfl, Nat.le_of_ble_eq_true rfl⟩) hh hA (fun r_899 H locs hw_899 hh => ?_)
  rcases Decidable.em (0 ≤ t.toInt ∧ t.toInt < (cnt : Int)) with hp_899 | hp_899
  · obtain rfl : r_899 = 1 := Eq.trans hw_899 (if_pos hp_899)
    obtain ⟨T_899, rfl, hT_899⟩ := has_nat hp_899
    refine lv_if_eq (tgt := 29) hx hb dX11_weigh_8 (by decide) (fun c_0 => absurd c_0 (by decide)) (fun _ => ?_)
    obtain ⟨f_900, es900⟩ := get_all hI
    have hdd : d * d ≤ 9 := Nat.mul_le_mul hd3 hd3
    obtain ⟨⟨q9, k9, ci9, hq9, hk9, hq115, hk115, hal9, eq9, hci9, ek9, hkd9⟩, hF9⟩ := hTX T_899 d hd3 (by rw [es897]; rfl) (by rw [show rdI (en 1) 4 = nI cnt from by rw [es897]; rfl, nI_toInt (by omega)]; omega)
    rw [show rdR (en 2) = f_900 from by rw [es900]; rfl] at hal9
    refine lv_aload_n hx hb dX11_weigh_11 rfl (lv_at hl 0 rfl) ?_
    refine hp_get hx hb hts ix11 hown hK hh (q := 0) rfl (hI.1 _ (by decide)) es896 rfl 0 (by decide) (hts _ tw_245) (fun _ h9 => h9) rfl dX11_weigh_12 ?_
    refine lv_iload_n hx hb dX11_weigh_15 rfl (lv_at hl 1 rfl) ?_
    refine hp_callRq (va_runV (As := [.int (nI T_899)]) (rest := []) ⟨hx, hb, hml, hown, hts⟩ (c_X8_tableOf l D cy _ cs ad en (hI.1 _ (by decide)) (hI.1 _ (by decide)) cnt d mm hcnt hd2 hd3 hmm f_900 T_899 (ad q9) (by omega) hal9 es897 es900) (kw_X8_tableOf hts tw_421 ⟨by decide, by decide⟩) (preV_of hh hK (hI.1 _ (by decide)) es897 rfl) rfl rfl hl.1 rfl (lv_room (Nat.le_of_ble_eq_true rfl)) dX11_weigh_16 ⟨Nat.le_of_ble_eq_true rfl, Nat.le_of_ble_eq_true rfl⟩) hh hA (fun r_901 H locs hw_901 hh => ?_)
    obtain rfl : r_901 = some (ad q9) := hw_901
    refine W.eq (g2 := F0 m 19 ls [.ref (ad q9)]) rfl ?_
    refine lv_aload_n hx hb dX11_weigh_19 rfl (lv_at hl 0 rfl) ?_
    refine hp_get hx hb hts ix11 hown hK hh (q := 0) rfl (hI.1 _ (by decide)) es896 rfl 5 (by decide) (hts _ tw_250) (fun _ h9 => h9) rfl dX11_weigh_20 ?_
    rcases hci9 with rfl | rfl | rfl
    · refine hp_callMi (va_runU (As := [.ref (ad 76)]) (rest := []) ⟨hx, hb, hml, hown, hts⟩ (c_X7_weight_6 l D cy _ cs ad en q9 k9 T_899 d hq9 hk9 (by omega) (by omega) (by omega) (by omega) (by omega) (F T_899) (hI.1 _ (by decide)) hi_898 eq9 ek9 es898) (va_cwU 1 hts (TB_U tw_826 tw_829 tw_828 tw_827 tw_13 tw_834) rfl rfl rfl rfl (by decide +kernel) ⟨by decide, by decide⟩) (preV_of hh hK hq9 eq9 rfl) rfl rfl hl.1 rfl (lv_room (Nat.le_of_ble_eq_true rfl)) dX11_weigh_23 ⟨Nat.le_of_ble_eq_true rfl, Nat.le_of_ble_eq_true rfl⟩) hh hA (fun r_902 H locs en_902 hw_902 hh => ?_)
      obtain ⟨hr_902, hen_902⟩ := hw_902
      have es896_902 : en_902 0 = .inr (10, [.ref (ad 1), .ref (ad 12), .ref (ad 70), .ref (ad 74), .ref (ad 75), .ref (ad 76), .int (nI wc_896), .int lf_896]) := by rw [hen_902, va_up_ne _ _ (by decide)]; exact es896
      have es897_902 : en_902 1 = .inr (7, [.ref (ad 2), .ref (ad 3), .ref (ad 10), .ref (ad 11), .int (nI cnt), .int (nI d), .int (nI mm)]) := by rw [hen_902, va_up_ne _ _ (by decide)]; exact es897
      have es900_902 : en_902 2 = .inl (cy 3, 6, .inr (.inr (.inr (.inr f_900)))) := by rw [hen_902, va_up_ne _ _ (by decide)]; exact es900
      have eq9_902 : en_902 q9 = .inr (6, [.int (nI T_899), .int (nI d), .ref (ad k9)]) := by rw [hen_902, va_up_ne _ _ (by omega)]; exact eq9
      have ek9_902 : en_902 k9 = .inl (cy 0, (d * d), .inl (F T_899)) := by rw [hen_902, va_up_ne _ _ (by omega)]; exact ek9
      have es898_902 : en_902 76 = .inr (8, [.int (31 * hi_898 + 4)]) := by rw [hen_902]; exact va_up_self _ _ _
      have hI_902 : SX cy cs ad en_902 := by rw [hen_902]; exact up_tr hI ⟨(31 * hi_898 + 4), rfl⟩
      have hf_902 : ∀ c, (c ≠ 76) → en_902 c = en c := fun c hc => Eq.trans (show en_902 c = en c from by rw [hen_902, va_up_ne _ _ (by omega)]) (hf0 c hc)
      rw [hr_902]
      refine lv_goto (tgt := 30) hx hb dX11_weigh_26 (by decide) ?_
      have hr4 : (rdI (en 1) 4).toInt = (cnt : Int) := by rw [show rdI (en 1) 4 = nI cnt from by rw [es897]; rfl]; exact nI_toInt (by omega)
      have hr5 : rdI (en 1) 5 = nI d := by rw [es897]; rfl
      have hr5i : (rdI (en 1) 5).toInt = (d : Int) := by rw [hr5]; exact nI_toInt (by omega)
      exact hp_iretM hx hb hr rfl hlocks hh (⟨hI_902, hf_902, Or.inr ⟨T_899, d, 6, rfl, by unfold hasP; rw [hr4]; exact hp_899, hr5, hd3, by omega, hkd9, Or.inl ⟨by decide, rfl, (by rw [es898_902, es898]; rfl)⟩⟩⟩) dX11_weigh_30
    · refine hp_callMi (va_runU (As := [.ref (ad 76)]) (rest := []) ⟨hx, hb, hml, hown, hts⟩ (c_X7_weight_1 l D cy _ cs ad en q9 k9 T_899 d hq9 hk9 (by omega) (by omega) (by omega) (by omega) (by omega) (F T_899) (hI.1 _ (by decide)) hi_898 eq9 ek9 es898) (va_cwU 1 hts (TB_U tw_826 tw_829 tw_830 tw_827 tw_13 tw_834) rfl rfl rfl rfl (by decide +kernel) ⟨by decide, by decide⟩) (preV_of hh hK hq9 eq9 rfl) rfl rfl hl.1 rfl (lv_room (Nat.le_of_ble_eq_true rfl)) dX11_weigh_23 ⟨Nat.le_of_ble_eq_true rfl, Nat.le_of_ble_eq_true rfl⟩) hh hA (fun r_903 H locs en_903 hw_903 hh => ?_)
      obtain ⟨hr_903, hen_903⟩ := hw_903
      have es896_903 : en_903 0 = .inr (10, [.ref (ad 1), .ref (ad 12), .ref (ad 70), .ref (ad 74), .ref (ad 75), .ref (ad 76), .int (nI wc_896), .int lf_896]) := by rw [hen_903, va_up_ne _ _ (by decide)]; exact es896
      have es897_903 : en_903 1 = .inr (7, [.ref (ad 2), .ref (ad 3), .ref (ad 10), .ref (ad 11), .int (nI cnt), .int (nI d), .int (nI mm)]) := by rw [hen_903, va_up_ne _ _ (by decide)]; exact es897
      have es900_903 : en_903 2 = .inl (cy 3, 6, .inr (.inr (.inr (.inr f_900)))) := by rw [hen_903, va_up_ne _ _ (by decide)]; exact es900
      have eq9_903 : en_903 q9 = .inr (1, [.int (nI T_899), .int (nI d), .ref (ad k9)]) := by rw [hen_903, va_up_ne _ _ (by omega)]; exact eq9
      have ek9_903 : en_903 k9 = .inl (cy 0, (d * d), .inl (F T_899)) := by rw [hen_903, va_up_ne _ _ (by omega)]; exact ek9
      have es898_903 : en_903 76 = .inr (8, [.int (31 * hi_898 + 4)]) := by rw [hen_903]; exact va_up_self _ _ _
      have hI_903 : SX cy cs ad en_903 := by rw [hen_903]; exact up_tr hI ⟨(31 * hi_898 + 4), rfl⟩
      have hf_903 : ∀ c, (c ≠ 76) → en_903 c = en c := fun c hc => Eq.trans (show en_903 c = en c from by rw [hen_903, va_up_ne _ _ (by omega)]) (hf0 c hc)
      rw [hr_903]
      refine lv_goto (tgt := 30) hx hb dX11_weigh_26 (by decide) ?_
      have hr4 : (rdI (en 1) 4).toInt = (cnt : Int) := by rw [show rdI (en 1) 4 = nI cnt from by rw [es897]; rfl]; exact nI_toInt (by omega)
      have hr5 : rdI (en 1) 5 = nI d := by rw [es897]; rfl
      have hr5i : (rdI (en 1) 5).toInt = (d : Int) := by rw [hr5]; exact nI_toInt (by omega)
      exact hp_iretM hx hb hr rfl hlocks hh (⟨hI_903, hf_903, Or.inr ⟨T_899, d, 1, rfl, by unfold hasP; rw [hr4]; exact hp_899, hr5, hd3, by omega, hkd9, Or.inl ⟨by decide, rfl, (by rw [es898_903, es898]; rfl)⟩⟩⟩) dX11_weigh_30
    · refine hp_callMi (va_runU (As := [.ref (ad 76)]) (rest := []) ⟨hx, hb, hml, hown, hts⟩ (c_X4_weight_4 l D cy _ cs ad en q9 k9 T_899 d hq9 hk9 (by omega) (by omega) (by omega) (by omega) (by omega) (F T_899) (hI.1 _ (by decide)) hi_898 eq9 ek9 es898) (va_cwO 1 hts (TB_O tw_826 tw_829 tw_827 tw_831 tw_832 tw_15 tw_833) rfl rfl rfl (b0 := cX7_weight) (m0 := 2) (r0 := (some .int)) tw_834 (by decide +kernel) ⟨by decide, by decide⟩) (preV_of hh hK hq9 eq9 rfl) rfl rfl hl.1 rfl (lv_room (Nat.le_of_ble_eq_true rfl)) dX11_weigh_23 ⟨Nat.le_of_ble_eq_true rfl, Nat.le_of_ble_eq_true rfl⟩) hh hA (fun r_904 H locs en_904 hw_904 hh => ?_)
      obtain ⟨hr_904, hen_904⟩ := hw_904
      have es896_904 : en_904 0 = .inr (10, [.ref (ad 1), .ref (ad 12), .ref (ad 70), .ref (ad 74), .ref (ad 75), .ref (ad 76), .int (nI wc_896), .int lf_896]) := by rw [hen_904, va_up_ne _ _ (by decide)]; exact es896
      have es897_904 : en_904 1 = .inr (7, [.ref (ad 2), .ref (ad 3), .ref (ad 10), .ref (ad 11), .int (nI cnt), .int (nI d), .int (nI mm)]) := by rw [hen_904, va_up_ne _ _ (by decide)]; exact es897
      have es900_904 : en_904 2 = .inl (cy 3, 6, .inr (.inr (.inr (.inr f_900)))) := by rw [hen_904, va_up_ne _ _ (by decide)]; exact es900
      have eq9_904 : en_904 q9 = .inr (4, [.int (nI T_899), .int (nI d), .ref (ad k9)]) := by rw [hen_904, va_up_ne _ _ (by omega)]; exact eq9
      have ek9_904 : en_904 k9 = .inl (cy 0, (d * d), .inl (F T_899)) := by rw [hen_904, va_up_ne _ _ (by omega)]; exact ek9
      have es898_904 : en_904 76 = .inr (8, [.int (31 * hi_898 + 5)]) := by rw [hen_904]; exact va_up_self _ _ _
      have hI_904 : SX cy cs ad en_904 := by rw [hen_904]; exact up_tr hI ⟨(31 * hi_898 + 5), rfl⟩
      have hf_904 : ∀ c, (c ≠ 76) → en_904 c = en c := fun c hc => Eq.trans (show en_904 c = en c from by rw [hen_904, va_up_ne _ _ (by omega)]) (hf0 c hc)
      rw [hr_904]
      refine lv_goto (tgt := 30) hx hb dX11_weigh_26 (by decide) ?_
      have hr4 : (rdI (en 1) 4).toInt = (cnt : Int) := by rw [show rdI (en 1) 4 = nI cnt from by rw [es897]; rfl]; exact nI_toInt (by omega)
      have hr5 : rdI (en 1) 5 = nI d := by rw [es897]; rfl
      have hr5i : (rdI (en 1) 5).toInt = (d : Int) := by rw [hr5]; exact nI_toInt (by omega)
      exact hp_iretM hx hb hr rfl hlocks hh (⟨hI_904, hf_904, Or.inr ⟨T_899, d, 4, rfl, by unfold hasP; rw [hr4]; exact hp_899, hr5, hd3, by omega, hkd9, Or.inr ⟨rfl, rfl, (by rw [es898_904, es898]; rfl)⟩⟩⟩) dX11_weigh_30
  · obtain rfl : r_899 = 0 := Eq.trans hw_899 (if_neg hp_899)
    refine lv_if_eq (tgt := 29) hx hb dX11_weigh_8 (by decide) (fun _ => ?_) (fun c_0 => absurd c_0 (by decide))
    refine lv_iconst (v := (-1)) hx hb dX11_weigh_29 (by decide) ?_
    have hr4 : (rdI (en 1) 4).toInt = (cnt : Int) := by rw [show rdI (en 1) 4 = nI cnt from by rw [es897]; rfl]; exact nI_toInt (by omega)
    have hr5 : rdI (en 1) 5 = nI d := by rw [es897]; rfl
    have hr5i : (rdI (en 1) 5).toInt = (d : Int) := by rw [hr5]; exact nI_toInt (by omega)
    exact hp_iretM hx hb hr rfl hlocks hh (⟨hI, hf0, Or.inl ⟨fun q => hp_899 (by have h9 := q; unfold hasP at h9; rw [hr4] at h9; exact h9), rfl, rfl⟩⟩) dX11_weigh_30
theorem kw_X11_weigh {R : Room} {s : State} {args : Array Value} {own : String} {idx : Nat} (hts : ∀ w ∈ TB, w.before args s = true) (hl : Cond.methodLink own idx yX11_weigh ∈ TB) (hR : 2 + 1 ≤ R.frames ∧ 8 + (2 + 11) + 40 * 2 ≤ R.locals) : CallW R s args own RX11 idx yX11_weigh cX11_weigh 2 (some .int) (Cond.code yX11_weigh cX11_weigh 2 (some .int) :: TB) (rmN 2) 0 0 1 := cwV 1 hts (TB_V hl tw_823 tw_824 tw_1 tw_825) rfl rfl rfl (by decide +kernel) hR
set_option maxHeartbeats 4000000 in
set_option maxRecDepth 100000 in
/-- takeAs -/
theorem c_X11_takeAs (l : Launch) (D : va_G) (cy : Nat → ClassId) (sz : Nat) (cs : List Nat) (ad : Nat → Nat) (en : Nat → va_E) (hI : SX cy cs ad en) (t z : Int32) (F : Nat → Nat → Int32) (hTX : TXF cy cs ad en F)   : Met l yX11_takeAs (Cond.code yX11_takeAs cX11_takeAs 3 (some .int) :: TB) (rmN 3) (va_Pc [.ref (ad 0), .int t, .int z] (Pre D cy cs ad en sz)) (va_Qi (S := Unit) (fun r _ => XAS F t z r en) (fun _ _ => True) (Nf sz)) 0 0 (Nf sz) := by
  refine Met.ofW (cc := cX11_takeAs) (maxL := 3) (ret := (some .int)) (by decide) rfl ?_
  intro p e s m args below meth c s₁ B hml hv
  obtain ⟨rfl, hsz, hP, hK, hD0⟩ := hv
  have hx := B.exec
  have hb := B.bytes
  have hr := B.returns
  have hts : ∀ w ∈ TB, w.before _ s = true := fun w h => atoms_spec (ws := _ :: TB) B.pre w (List.mem_cons_of_mem _ h)
  have hown : s.vm.findClass RX11 = some m.cls := findClass_of_methodNamed B.named
  have hlocks := B.notSynchronized
  have hh : Hp D (Nf sz) (fun _ => True) s.heap s.heap [] cs ad en := ⟨hP, hD0, va_S.rf⟩
  have hA : ∀ q : Nat, s.heap.size ≤ q → Nf sz q := fun q h => by rw [hsz] at h; exact h
  have hl := lv_entry ([.ref (ad 0), .int t, .int z]) (n := 3) (Nat.le_of_ble_eq_true rfl)
  rw [lg_entry_eq]
  generalize (lg_sl ([.ref (ad 0), .int t, .int z]) ++ List.replicate (3 - (lg_sl ([.ref (ad 0), .int t, .int z])).length) Slot.unset).toArray = ls at hl ⊢
  have hl : lv_has ls 3 [(0, .ref (ad 0)), (1, .int t), (2, .int z)] := hl
  obtain ⟨wc_905, lf_905, es905, p0_905⟩ := get_A hI
  obtain ⟨cnt, d, mm, es906, hcnt, hd2, hd3, hmm⟩ := get_T hI
  refine lv_aload_n hx hb dX11_takeAs_0 rfl (lv_at hl 0 rfl) ?_
  refine hp_get hx hb hts ix11 hown hK hh (q := 0) rfl (hI.1 _ (by decide)) es905 rfl 0 (by decide) (hts _ tw_245) (fun _ h9 => h9) rfl dX11_takeAs_1 ?_
  refine lv_iload_n hx hb dX11_takeAs_4 rfl (lv_at hl 1 rfl) ?_
  refine hp_callRi (va_runV (As := [.int t]) (rest := []) ⟨hx, hb, hml, hown, hts⟩ (c_X8_has l D cy _ cs ad en (hI.1 _ (by decide)) cnt d mm hcnt hd2 hd3 hmm t es906) (kw_X8_has hts tw_412 ⟨by decide, by decide⟩) (preV_of hh hK (hI.1 _ (by decide)) es906 rfl) rfl rfl hl.1 rfl (lv_room (Nat.le_of_ble_eq_true rfl)) dX11_takeAs_5 ⟨Nat.le_of_ble_eq_true rfl, Nat.le_of_ble_eq_true rfl⟩) hh hA (fun r_907 H locs hw_907 hh => ?_)
  rcases Decidable.em (0 ≤ t.toInt ∧ t.toInt < (cnt : Int)) with hp_907 | hp_907
  · obtain rfl : r_907 = 1 := Eq.trans hw_907 (if_pos hp_907)
    obtain ⟨T_907, rfl, hT_907⟩ := has_nat hp_907
    refine lv_if_ne (tgt := 13) hx hb dX11_takeAs_8 (by decide) (fun _ => ?_) (fun c_0 => absurd c_0 (by decide))
    refine lv_iload_n hx hb dX11_takeAs_13 rfl (lv_at hl 2 rfl) ?_
    refine lv_iconst (v := 0) hx hb dX11_takeAs_14 (by decide) ?_
    refine lv_iconst (v := 2) hx hb dX11_takeAs_15 (by decide) ?_
    refine hp_callRi (va_runS (As := [.int z, .int 0, .int 2]) (rest := []) ⟨hx, hb, hml, hown, hts⟩ (c_X11_isWithin l D cy _ cs ad en z 0 2) (kw_X11_isWithin hts tw_274 ⟨by decide, by decide⟩) (preS_of hh hK) rfl rfl hl.1 rfl (lv_room (Nat.le_of_ble_eq_true rfl)) dX11_takeAs_16 ⟨Nat.le_of_ble_eq_true rfl, Nat.le_of_ble_eq_true rfl⟩) hh hA (fun r_908 H locs hw_908 hh => ?_)
    rcases Decidable.em (wi z 0 2) with hp_908 | hp_908
    · obtain rfl : r_908 = 1 := Eq.trans hw_908 (if_pos hp_908)
      obtain ⟨N_908, rfl, hA_908, hB_908⟩ := wi_natB hp_908 0 2 (by decide) (by decide)
      refine lv_if_ne (tgt := 25) hx hb dX11_takeAs_19 (by decide) (fun _ => ?_) (fun c_0 => absurd c_0 (by decide))
      obtain ⟨f_909, es909⟩ := get_all hI
      have hdd : d * d ≤ 9 := Nat.mul_le_mul hd3 hd3
      obtain ⟨⟨q9, k9, ci9, hq9, hk9, hq115, hk115, hal9, eq9, hci9, ek9, hkd9⟩, hF9⟩ := hTX T_907 d hd3 (by rw [es906]; rfl) (by rw [show rdI (en 1) 4 = nI cnt from by rw [es906]; rfl, nI_toInt (by omega)]; omega)
      rw [show rdR (en 2) = f_909 from by rw [es909]; rfl] at hal9
      refine lv_aload_n hx hb dX11_takeAs_25 rfl (lv_at hl 0 rfl) ?_
      refine hp_get hx hb hts ix11 hown hK hh (q := 0) rfl (hI.1 _ (by decide)) es905 rfl 0 (by decide) (hts _ tw_245) (fun _ h9 => h9) rfl dX11_takeAs_26 ?_
      refine lv_iload_n hx hb dX11_takeAs_29 rfl (lv_at hl 1 rfl) ?_
      refine hp_callRq (va_runV (As := [.int (nI T_907)]) (rest := []) ⟨hx, hb, hml, hown, hts⟩ (c_X8_tableOf l D cy _ cs ad en (hI.1 _ (by decide)) (hI.1 _ (by decide)) cnt d mm hcnt hd2 hd3 hmm f_909 T_907 (ad q9) (by omega) hal9 es906 es909) (kw_X8_tableOf hts tw_421 ⟨by decide, by decide⟩) (preV_of hh hK (hI.1 _ (by decide)) es906 rfl) rfl rfl hl.1 rfl (lv_room (Nat.le_of_ble_eq_true rfl)) dX11_takeAs_30 ⟨Nat.le_of_ble_eq_true rfl, Nat.le_of_ble_eq_true rfl⟩) hh hA (fun r_910 H locs hw_910 hh => ?_)
      obtain rfl : r_910 = some (ad q9) := hw_910
      refine W.eq (g2 := F0 m 33 ls [.ref (ad q9)]) rfl ?_
      refine lv_iload_n hx hb dX11_takeAs_33 rfl (lv_at hl 2 rfl) ?_
      rcases hci9 with rfl | rfl | rfl
      · refine hp_callRi (va_runU (As := [.int (nI N_908)]) (rest := []) ⟨hx, hb, hml, hown, hts⟩ (c_X7_isOfKind_6 l D cy _ cs ad en q9 k9 T_907 d hq9 hk9 (by omega) (by omega) (by omega) (by omega) (by omega) (F T_907) (nI N_908) eq9 ek9) (va_cwU 1 hts (TB_U tw_843 tw_846 tw_845 tw_844 tw_13 tw_855) rfl rfl rfl rfl (by decide +kernel) ⟨by decide, by decide⟩) (preV_of hh hK hq9 eq9 rfl) rfl rfl hl.1 rfl (lv_room (Nat.le_of_ble_eq_true rfl)) dX11_takeAs_34 ⟨Nat.le_of_ble_eq_true rfl, Nat.le_of_ble_eq_true rfl⟩) hh hA (fun r_911 H locs hw_911 hh => ?_)
        rcases hw_911 with ⟨hb_911, ht_911⟩ | ⟨hb_911, ht_911⟩
        · obtain rfl : r_911 = 1 := hb_911
          refine lv_if_eq (tgt := 44) hx hb dX11_takeAs_37 (by decide) (fun c_0 => absurd c_0 (by decide)) (fun _ => ?_)
          refine lv_iconst (v := 1) hx hb dX11_takeAs_40 (by decide) ?_
          refine lv_goto (tgt := 48) hx hb dX11_takeAs_41 (by decide) ?_
          have hr4 : (rdI (en 1) 4).toInt = (cnt : Int) := by rw [show rdI (en 1) 4 = nI cnt from by rw [es906]; rfl]; exact nI_toInt (by omega)
          have hr5 : rdI (en 1) 5 = nI d := by rw [es906]; rfl
          have hr5i : (rdI (en 1) 5).toInt = (d : Int) := by rw [hr5]; exact nI_toInt (by omega)
          exact hp_iretR hx hb hr rfl hlocks hsz hh (Or.inr (Or.inr ⟨T_907, d, 6, rfl, (by unfold hasP; rw [hr4]; exact hp_907), hp_908, hr5, hd3, by omega, hkd9, Or.inl ⟨Or.inl ht_911, rfl⟩⟩)) dX11_takeAs_48
        · obtain rfl : r_911 = 0 := hb_911
          refine lv_if_eq (tgt := 44) hx hb dX11_takeAs_37 (by decide) (fun _ => ?_) (fun c_0 => absurd c_0 (by decide))
          refine lv_iconst (v := 2) hx hb dX11_takeAs_44 (by decide) ?_
          refine hp_callRi (va_runS (As := [.int 2]) (rest := []) ⟨hx, hb, hml, hown, hts⟩ (c_X11_faultAnswer l D cy _ cs ad en 2) (kw_X11_faultAnswer hts tw_311 ⟨by decide, by decide⟩) (preS_of hh hK) rfl rfl hl.1 rfl (lv_room (Nat.le_of_ble_eq_true rfl)) dX11_takeAs_45 ⟨Nat.le_of_ble_eq_true rfl, Nat.le_of_ble_eq_true rfl⟩) hh hA (fun r_912 H locs hw_912 hh => ?_)
          obtain rfl : r_912 = (-12) := Eq.trans hw_912 (by decide)
          have hr4 : (rdI (en 1) 4).toInt = (cnt : Int) := by rw [show rdI (en 1) 4 = nI cnt from by rw [es906]; rfl]; exact nI_toInt (by omega)
          have hr5 : rdI (en 1) 5 = nI d := by rw [es906]; rfl
          have hr5i : (rdI (en 1) 5).toInt = (d : Int) := by rw [hr5]; exact nI_toInt (by omega)
          exact hp_iretR hx hb hr rfl hlocks hsz hh (Or.inr (Or.inr ⟨T_907, d, 6, rfl, (by unfold hasP; rw [hr4]; exact hp_907), hp_908, hr5, hd3, by omega, hkd9, Or.inr ⟨fun q => q.elim ht_911 (fun q => q.elim (fun w => w.1 rfl) (fun w => absurd w.1 (by decide))), rfl⟩⟩)) dX11_takeAs_48
      · refine hp_callRi (va_runU (As := [.int (nI N_908)]) (rest := []) ⟨hx, hb, hml, hown, hts⟩ (c_X1_isOfKind_1 l D cy _ cs ad en q9 k9 T_907 d hq9 hk9 (by omega) (by omega) (by omega) (by omega) (by omega) (F T_907) (nI N_908) eq9 ek9) (va_cwO 1 hts (TB_O tw_843 tw_846 tw_844 tw_847 tw_848 tw_14 tw_849) rfl rfl rfl (b0 := cX7_isOfKind) (m0 := 2) (r0 := (some .boolean)) tw_855 (by decide +kernel) ⟨by decide, by decide⟩) (preV_of hh hK hq9 eq9 rfl) rfl rfl hl.1 rfl (lv_room (Nat.le_of_ble_eq_true rfl)) dX11_takeAs_34 ⟨Nat.le_of_ble_eq_true rfl, Nat.le_of_ble_eq_true rfl⟩) hh hA (fun r_913 H locs hw_913 hh => ?_)
        rcases hw_913 with ⟨hb_913, ht_913⟩ | ⟨hb_913, ht_913⟩
        · obtain rfl : r_913 = 1 := hb_913
          refine lv_if_eq (tgt := 44) hx hb dX11_takeAs_37 (by decide) (fun c_0 => absurd c_0 (by decide)) (fun _ => ?_)
          refine lv_iconst (v := 1) hx hb dX11_takeAs_40 (by decide) ?_
          refine lv_goto (tgt := 48) hx hb dX11_takeAs_41 (by decide) ?_
          have hr4 : (rdI (en 1) 4).toInt = (cnt : Int) := by rw [show rdI (en 1) 4 = nI cnt from by rw [es906]; rfl]; exact nI_toInt (by omega)
          have hr5 : rdI (en 1) 5 = nI d := by rw [es906]; rfl
          have hr5i : (rdI (en 1) 5).toInt = (d : Int) := by rw [hr5]; exact nI_toInt (by omega)
          exact hp_iretR hx hb hr rfl hlocks hsz hh (Or.inr (Or.inr ⟨T_907, d, 1, rfl, (by unfold hasP; rw [hr4]; exact hp_907), hp_908, hr5, hd3, by omega, hkd9, Or.inl ⟨ht_913.elim (fun q => Or.inr (Or.inl ⟨by decide, q⟩)) Or.inl, rfl⟩⟩)) dX11_takeAs_48
        · obtain rfl : r_913 = 0 := hb_913
          refine lv_if_eq (tgt := 44) hx hb dX11_takeAs_37 (by decide) (fun _ => ?_) (fun c_0 => absurd c_0 (by decide))
          refine lv_iconst (v := 2) hx hb dX11_takeAs_44 (by decide) ?_
          refine hp_callRi (va_runS (As := [.int 2]) (rest := []) ⟨hx, hb, hml, hown, hts⟩ (c_X11_faultAnswer l D cy _ cs ad en 2) (kw_X11_faultAnswer hts tw_311 ⟨by decide, by decide⟩) (preS_of hh hK) rfl rfl hl.1 rfl (lv_room (Nat.le_of_ble_eq_true rfl)) dX11_takeAs_45 ⟨Nat.le_of_ble_eq_true rfl, Nat.le_of_ble_eq_true rfl⟩) hh hA (fun r_914 H locs hw_914 hh => ?_)
          obtain rfl : r_914 = (-12) := Eq.trans hw_914 (by decide)
          have hr4 : (rdI (en 1) 4).toInt = (cnt : Int) := by rw [show rdI (en 1) 4 = nI cnt from by rw [es906]; rfl]; exact nI_toInt (by omega)
          have hr5 : rdI (en 1) 5 = nI d := by rw [es906]; rfl
          have hr5i : (rdI (en 1) 5).toInt = (d : Int) := by rw [hr5]; exact nI_toInt (by omega)
          exact hp_iretR hx hb hr rfl hlocks hsz hh (Or.inr (Or.inr ⟨T_907, d, 1, rfl, (by unfold hasP; rw [hr4]; exact hp_907), hp_908, hr5, hd3, by omega, hkd9, Or.inr ⟨fun q => q.elim (fun w => ht_913 (Or.inr w)) (fun q => q.elim (fun w => ht_913 (Or.inl w.2)) (fun w => absurd w.1 (by decide))), rfl⟩⟩)) dX11_takeAs_48
      · refine hp_callRi (va_runU (As := [.int (nI N_908)]) (rest := []) ⟨hx, hb, hml, hown, hts⟩ (c_X4_isOfKind_4 l D cy _ cs ad en q9 k9 T_907 d hq9 hk9 (by omega) (by omega) (by omega) (by omega) (by omega) (F T_907) (nI N_908) eq9 ek9) (va_cwO 1 hts (TB_O tw_843 tw_846 tw_844 tw_851 tw_852 tw_15 tw_853) rfl rfl rfl (b0 := cX7_isOfKind) (m0 := 2) (r0 := (some .boolean)) tw_855 (by decide +kernel) ⟨by decide, by decide⟩) (preV_of hh hK hq9 eq9 rfl) rfl rfl hl.1 rfl (lv_room (Nat.le_of_ble_eq_true rfl)) dX11_takeAs_34 ⟨Nat.le_of_ble_eq_true rfl, Nat.le_of_ble_eq_true rfl⟩) hh hA (fun r_915 H locs hw_915 hh => ?_)
        rcases hw_915 with ⟨hb_915, ht_915⟩ | ⟨hb_915, ht_915⟩
        · obtain rfl : r_915 = 1 := hb_915
          refine lv_if_eq (tgt := 44) hx hb dX11_takeAs_37 (by decide) (fun c_0 => absurd c_0 (by decide)) (fun _ => ?_)
          refine lv_iconst (v := 1) hx hb dX11_takeAs_40 (by decide) ?_
          refine lv_goto (tgt := 48) hx hb dX11_takeAs_41 (by decide) ?_
          have hr4 : (rdI (en 1) 4).toInt = (cnt : Int) := by rw [show rdI (en 1) 4 = nI cnt from by rw [es906]; rfl]; exact nI_toInt (by omega)
          have hr5 : rdI (en 1) 5 = nI d := by rw [es906]; rfl
          have hr5i : (rdI (en 1) 5).toInt = (d : Int) := by rw [hr5]; exact nI_toInt (by omega)
          exact hp_iretR hx hb hr rfl hlocks hsz hh (Or.inr (Or.inr ⟨T_907, d, 4, rfl, (by unfold hasP; rw [hr4]; exact hp_907), hp_908, hr5, hd3, by omega, hkd9, Or.inl ⟨ht_915.elim (fun q => Or.inr (Or.inr ⟨rfl, q⟩)) (fun q => q.elim (fun w => Or.inr (Or.inl ⟨by decide, w⟩)) Or.inl), rfl⟩⟩)) dX11_takeAs_48
        · obtain rfl : r_915 = 0 := hb_915
          refine lv_if_eq (tgt := 44) hx hb dX11_takeAs_37 (by decide) (fun _ => ?_) (fun c_0 => absurd c_0 (by decide))
          refine lv_iconst (v := 2) hx hb dX11_takeAs_44 (by decide) ?_
          refine hp_callRi (va_runS (As := [.int 2]) (rest := []) ⟨hx, hb, hml, hown, hts⟩ (c_X11_faultAnswer l D cy _ cs ad en 2) (kw_X11_faultAnswer hts tw_311 ⟨by decide, by decide⟩) (preS_of hh hK) rfl rfl hl.1 rfl (lv_room (Nat.le_of_ble_eq_true rfl)) dX11_takeAs_45 ⟨Nat.le_of_ble_eq_true rfl, Nat.le_of_ble_eq_true rfl⟩) hh hA (fun r_916 H locs hw_916 hh => ?_)
          obtain rfl : r_916 = (-12) := Eq.trans hw_916 (by decide)
          have hr4 : (rdI (en 1) 4).toInt = (cnt : Int) := by rw [show rdI (en 1) 4 = nI cnt from by rw [es906]; rfl]; exact nI_toInt (by omega)
          have hr5 : rdI (en 1) 5 = nI d := by rw [es906]; rfl
          have hr5i : (rdI (en 1) 5).toInt = (d : Int) := by rw [hr5]; exact nI_toInt (by omega)
          exact hp_iretR hx hb hr rfl hlocks hsz hh (Or.inr (Or.inr ⟨T_907, d, 4, rfl, (by unfold hasP; rw [hr4]; exact hp_907), hp_908, hr5, hd3, by omega, hkd9, Or.inr ⟨fun q => q.elim (fun w => ht_915 (Or.inr (Or.inr w))) (fun q => q.elim (fun w => ht_915 (Or.inr (Or.inl w.2))) (fun w => ht_915 (Or.inl w.2))), rfl⟩⟩)) dX11_takeAs_48
    · obtain rfl : r_908 = 0 := Eq.trans hw_908 (if_neg hp_908)
      refine lv_if_ne (tgt := 25) hx hb dX11_takeAs_19 (by decide) (fun c_0 => absurd c_0 (by decide)) (fun _ => ?_)
      refine lv_bipush (v := (-2)) hx hb dX11_takeAs_22 (by decide) ?_
      have hr4 : (rdI (en 1) 4).toInt = (cnt : Int) := by rw [show rdI (en 1) 4 = nI cnt from by rw [es906]; rfl]; exact nI_toInt (by omega)
      have hr5 : rdI (en 1) 5 = nI d := by rw [es906]; rfl
      have hr5i : (rdI (en 1) 5).toInt = (d : Int) := by rw [hr5]; exact nI_toInt (by omega)
      exact hp_iretR hx hb hr rfl hlocks hsz hh (Or.inr (Or.inl ⟨(by unfold hasP; rw [hr4]; exact hp_907), hp_908, rfl⟩)) dX11_takeAs_24
  · obtain rfl : r_907 = 0 := Eq.trans hw_907 (if_neg hp_907)
    refine lv_if_ne (tgt := 13) hx hb dX11_takeAs_8 (by decide) (fun c_0 => absurd c_0 (by decide)) (fun _ => ?_)
    refine lv_iconst (v := (-1)) hx hb dX11_takeAs_11 (by decide) ?_
    have hr4 : (rdI (en 1) 4).toInt = (cnt : Int) := by rw [show rdI (en 1) 4 = nI cnt from by rw [es906]; rfl]; exact nI_toInt (by omega)
    have hr5 : rdI (en 1) 5 = nI d := by rw [es906]; rfl
    have hr5i : (rdI (en 1) 5).toInt = (d : Int) := by rw [hr5]; exact nI_toInt (by omega)
    exact hp_iretR hx hb hr rfl hlocks hsz hh (Or.inl ⟨fun q => hp_907 (by have h9 := q; unfold hasP at h9; rw [hr4] at h9; exact h9), rfl⟩) dX11_takeAs_12
theorem kw_X11_takeAs {R : Room} {s : State} {args : Array Value} {own : String} {idx : Nat} (hts : ∀ w ∈ TB, w.before args s = true) (hl : Cond.methodLink own idx yX11_takeAs ∈ TB) (hR : 3 + 1 ≤ R.frames ∧ 8 + (3 + 11) + 40 * 3 ≤ R.locals) : CallW R s args own RX11 idx yX11_takeAs cX11_takeAs 3 (some .int) (Cond.code yX11_takeAs cX11_takeAs 3 (some .int) :: TB) (rmN 3) 0 0 2 := cwV 2 hts (TB_V hl tw_841 ts_30 tw_1 tw_842) rfl rfl rfl (by decide +kernel) hR
set_option maxHeartbeats 4000000 in
set_option maxRecDepth 100000 in
/-- as -/
theorem c_X11_as (l : Launch) (D : va_G) (cy : Nat → ClassId) (sz : Nat) (cs : List Nat) (ad : Nat → Nat) (en : Nat → va_E) (hI : SX cy cs ad en) (t z : Int32) (F : Nat → Nat → Int32) (hTX : TXF cy cs ad en F)   : Met l yX11_as (Cond.code yX11_as cX11_as 3 (some .int) :: TB) (rmN 4) (va_Pc [.ref (ad 0), .int t, .int z] (Pre D cy cs ad en sz)) (va_Qi (S := Nat → va_E) (fun r en1 => SX cy cs ad en1 ∧ (∀ c, (c ≠ 0) → en1 c = en c) ∧ XAS F t z r en ∧ rdI (en1 0) 6 = rdI (en 0) 6) (PostM D cs ad) (Af cs ad sz)) 0 0 (Af cs ad sz) := by
  refine Met.ofW (cc := cX11_as) (maxL := 3) (ret := (some .int)) (by decide) rfl ?_
  intro p e s m args below meth c s₁ B hml hv
  obtain ⟨rfl, hsz, hP, hK, hD0⟩ := hv
  have hx := B.exec
  have hb := B.bytes
  have hr := B.returns
  have hts : ∀ w ∈ TB, w.before _ s = true := fun w h => atoms_spec (ws := _ :: TB) B.pre w (List.mem_cons_of_mem _ h)
  have hown : s.vm.findClass RX11 = some m.cls := findClass_of_methodNamed B.named
  have hlocks := B.notSynchronized
  have hh : Hp D (Af cs ad sz) (Af cs ad sz) s.heap s.heap [] cs ad en := ⟨hP, Af_self hD0, va_S.rf⟩
  have hA : ∀ q : Nat, s.heap.size ≤ q → Af cs ad sz q := fun q h => Or.inr (by rw [hsz] at h; exact h)
  have hl := lv_entry ([.ref (ad 0), .int t, .int z]) (n := 3) (Nat.le_of_ble_eq_true rfl)
  rw [lg_entry_eq]
  generalize (lg_sl ([.ref (ad 0), .int t, .int z]) ++ List.replicate (3 - (lg_sl ([.ref (ad 0), .int t, .int z])).length) Slot.unset).toArray = ls at hl ⊢
  have hl : lv_has ls 3 [(0, .ref (ad 0)), (1, .int t), (2, .int z)] := hl
  have hf0 : ∀ c, (c ≠ 0) → en c = en c := fun _ _ => rfl
  obtain ⟨wc_917, lf_917, es917, p0_917⟩ := get_A hI
  refine lv_aload_n hx hb dX11_as_0 rfl (lv_at hl 0 rfl) ?_
  refine lv_aload_n hx hb dX11_as_1 rfl (lv_at hl 0 rfl) ?_
  refine lv_iload_n hx hb dX11_as_2 rfl (lv_at hl 1 rfl) ?_
  refine lv_iload_n hx hb dX11_as_3 rfl (lv_at hl 2 rfl) ?_
  refine hp_callRi (va_runV (As := [.int t, .int z]) (rest := [.ref (ad 0)]) ⟨hx, hb, hml, hown, hts⟩ (c_X11_takeAs l D cy _ cs ad en hI t z F hTX) (kw_X11_takeAs hts tw_839 ⟨by decide, by decide⟩) (preV_of hh hK (hI.1 _ (by decide)) es917 rfl) rfl rfl hl.1 rfl (lv_room (Nat.le_of_ble_eq_true rfl)) dX11_as_4 ⟨Nat.le_of_ble_eq_true rfl, Nat.le_of_ble_eq_true rfl⟩) hh hA (fun r_918 H locs hw_918 hh => ?_)
  refine hp_callMi (va_runV (As := [.int r_918]) (rest := []) ⟨hx, hb, hml, hown, hts⟩ (c_X11_settle l D cy _ cs ad en hI r_918) (kw_X11_settle hts tw_404 ⟨by decide, by decide⟩) (preV_of hh hK (hI.1 _ (by decide)) es917 rfl) rfl rfl hl.1 rfl (lv_room (Nat.le_of_ble_eq_true rfl)) dX11_as_7 ⟨Nat.le_of_ble_eq_true rfl, Nat.le_of_ble_eq_true rfl⟩) hh hA (fun r_919 H locs en_919 hw_919 hh => ?_)
  obtain ⟨hI_919, hu_919, hr_919, hwc_919⟩ := hw_919
  have hf_919 : ∀ c, (c ≠ 0) → en_919 c = en c := fun c hc => (hu_919 c (by omega)).trans (hf0 c hc)
  rw [hr_919]
  exact hp_iretM hx hb hr rfl hlocks hh (⟨hI_919, hf_919, hw_918, hwc_919⟩) dX11_as_10
theorem kw_X11_as {R : Room} {s : State} {args : Array Value} {own : String} {idx : Nat} (hts : ∀ w ∈ TB, w.before args s = true) (hl : Cond.methodLink own idx yX11_as ∈ TB) (hR : 4 + 1 ≤ R.frames ∧ 8 + (3 + 11) + 40 * 4 ≤ R.locals) : CallW R s args own RX11 idx yX11_as cX11_as 3 (some .int) (Cond.code yX11_as cX11_as 3 (some .int) :: TB) (rmN 4) 0 0 2 := cwV 2 hts (TB_V hl tw_836 tw_837 tw_1 tw_838) rfl rfl rfl (by decide +kernel) hR
