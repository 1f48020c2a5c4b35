set_option maxHeartbeats 4000000 in
set_option maxRecDepth 100000 in
/-- restart -/
theorem c_X8_restart (l : Launch) (D : va_G) (cy : Nat → ClassId) (sz : Nat) (cs : List Nat) (ad : Nat → Nat) (en : Nat → va_E) (hcs : ∀ c, c < 115 → c ∈ cs) (cnt dd mm : Int32) (f0 : Nat → Int32) (d m0 : Int32) (e1 : en 1 = .inr (7, [.ref (ad 2), .ref (ad 3), .ref (ad 10), .ref (ad 11), .int cnt, .int dd, .int mm])) (e10 : en 10 = .inl (cy 2, 36, .inl f0))  : Met l yX8_restart (Cond.code yX8_restart cX8_restart 3 none :: TB) (rmN 1) (va_Pc [.ref (ad 1), .int d, .int m0] (Pre D cy cs ad en sz)) (va_Qv (S := Nat → va_E) (fun en1 => ∃ f : Nat → Int32, en1 1 = .inr (7, [.ref (ad 2), .ref (ad 3), .ref (ad 10), .ref (ad 11), .int 0, .int d, .int m0]) ∧ en1 10 = .inl (cy 2, 36, .inl f) ∧ (∀ i, i < 36 → f i = 1) ∧ ∀ c, c ≠ 1 → c ≠ 10 → en1 c = en c) (PostM D cs ad) (Af cs ad sz)) 0 0 (Af cs ad sz) := by
  refine Met.ofW (cc := cX8_restart) (maxL := 3) (ret := none) (by decide) rfl ?_
  intro p e s m args below meth c s₁ B hml hv
  obtain ⟨rfl, hsz, hP, hK, hD0⟩ := hv
  have hx := B.exec
  have hb := B.bytes
  have hr := B.returns
  have hts : ∀ w ∈ TB, w.before _ s = true := fun w h => atoms_spec (ws := _ :: TB) B.pre w (List.mem_cons_of_mem _ h)
  have hown : s.vm.findClass RX8 = some m.cls := findClass_of_methodNamed B.named
  have hlocks := B.notSynchronized
  have hh : Hp D (Af cs ad sz) (Af cs ad sz) s.heap s.heap [] cs ad en := ⟨hP, Af_self hD0, va_S.rf⟩
  have hA : ∀ q : Nat, s.heap.size ≤ q → Af cs ad sz q := fun q h => Or.inr (by rw [hsz] at h; exact h)
  have hl := lv_entry ([.ref (ad 1), .int d, .int m0]) (n := 3) (Nat.le_of_ble_eq_true rfl)
  rw [lg_entry_eq]
  generalize (lg_sl ([.ref (ad 1), .int d, .int m0]) ++ List.replicate (3 - (lg_sl ([.ref (ad 1), .int d, .int m0])).length) Slot.unset).toArray = ls at hl ⊢
  have hl : lv_has ls 3 [(0, .ref (ad 1)), (1, .int d), (2, .int m0)] := hl
  refine lv_aload_n hx hb dX8_restart_0 rfl (lv_at hl 0 rfl) ?_
  refine lv_iload_n hx hb dX8_restart_1 rfl (lv_at hl 1 rfl) ?_
  refine hp_put hx hb hts ix8 tyX8 tyX8_ok nmX8 hown hK hh (q := 1) rfl (hcs _ (by decide)) e1 rfl 5 (by decide) (hts _ tw_44) (fun _ h9 => h9) rfl (ty := .int) (by decide +kernel) rfl rfl (Nat.le_of_ble_eq_true rfl) dX8_restart_2 (fun H locs en_71 hen_71 hh => ?_)
  have e10_71 : en_71 10 = .inl (cy 2, 36, .inl f0) := by rw [hen_71, va_up_ne _ _ (by decide)]; exact e10
  have e1_71 : en_71 1 = .inr (7, [.ref (ad 2), .ref (ad 3), .ref (ad 10), .ref (ad 11), .int cnt, .int d, .int mm]) := by rw [hen_71]; exact va_up_self _ _ _
  refine lv_aload_n hx hb dX8_restart_5 rfl (lv_at hl 0 rfl) ?_
  refine lv_iload_n hx hb dX8_restart_6 rfl (lv_at hl 2 rfl) ?_
  refine hp_put hx hb hts ix8 tyX8 tyX8_ok nmX8 hown hK hh (q := 1) rfl (hcs _ (by decide)) e1_71 rfl 6 (by decide) (hts _ tw_45) (fun _ h9 => h9) rfl (ty := .int) (by decide +kernel) rfl rfl (Nat.le_of_ble_eq_true rfl) dX8_restart_7 (fun H locs en_72 hen_72 hh => ?_)
  have e10_72 : en_72 10 = .inl (cy 2, 36, .inl f0) := by rw [hen_72, va_up_ne _ _ (by decide)]; exact e10_71
  have e1_72 : en_72 1 = .inr (7, [.ref (ad 2), .ref (ad 3), .ref (ad 10), .ref (ad 11), .int cnt, .int d, .int m0]) := by rw [hen_72]; exact va_up_self _ _ _
  refine lv_aload_n hx hb dX8_restart_10 rfl (lv_at hl 0 rfl) ?_
  refine lv_iconst (v := 0) hx hb dX8_restart_11 (by decide) ?_
  refine hp_put hx hb hts ix8 tyX8 tyX8_ok nmX8 hown hK hh (q := 1) rfl (hcs _ (by decide)) e1_72 rfl 4 (by decide) (hts _ tw_43) (fun _ h9 => h9) rfl (ty := .int) (by decide +kernel) rfl rfl (Nat.le_of_ble_eq_true rfl) dX8_restart_12 (fun H locs en_73 hen_73 hh => ?_)
  have e10_73 : en_73 10 = .inl (cy 2, 36, .inl f0) := by rw [hen_73, va_up_ne _ _ (by decide)]; exact e10_72
  have e1_73 : en_73 1 = .inr (7, [.ref (ad 2), .ref (ad 3), .ref (ad 10), .ref (ad 11), .int 0, .int d, .int m0]) := by rw [hen_73]; exact va_up_self _ _ _
  refine lv_aload_n hx hb dX8_restart_15 rfl (lv_at hl 0 rfl) ?_
  refine hp_callMv (va_runV (As := []) (rest := []) ⟨hx, hb, hml, hown, hts⟩ (c_X8_allowAll l D cy _ cs ad en_73 (hcs _ (by decide)) (hcs _ (by decide)) 0 d m0 f0 e1_73 e10_73) (kw_X8_allowAll hts tw_35 ⟨by decide, by decide⟩) (preV_of hh hK (hcs _ (by decide)) e1_73 rfl) rfl rfl hl.1 rfl (lv_room (Nat.le_of_ble_eq_true rfl)) dX8_restart_16 ⟨Nat.le_of_ble_eq_true rfl, Nat.le_of_ble_eq_true rfl⟩) hh hA (fun H locs en_74 hw_74 hh => ?_)
  obtain ⟨f_74, hen_74, hf_74⟩ := hw_74
  have e1_74 : en_74 1 = .inr (7, [.ref (ad 2), .ref (ad 3), .ref (ad 10), .ref (ad 11), .int 0, .int d, .int m0]) := by rw [hen_74, va_up_ne _ _ (by decide)]; exact e1_73
  have e10_74 : en_74 10 = .inl (cy 2, 36, .inl f_74) := by rw [hen_74]; exact va_up_self _ _ _
  exact hp_vretM hx hb hr hlocks hh (⟨f_74, e1_74, e10_74, hf_74, (fun c h0 h1 => by rw [hen_74, va_up_ne _ _ h1, hen_73, va_up_ne _ _ h0, hen_72, va_up_ne _ _ h0, hen_71, va_up_ne _ _ h0])⟩) dX8_restart_19
theorem kw_X8_restart {R : Room} {s : State} {args : Array Value} {own : String} {idx : Nat} (hts : ∀ w ∈ TB, w.before args s = true) (hl : Cond.methodLink own idx yX8_restart ∈ TB) (hR : 1 + 1 ≤ R.frames ∧ 8 + (3 + 11) + 40 * 1 ≤ R.locals) : CallW R s args own RX8 idx yX8_restart cX8_restart 3 none (Cond.code yX8_restart cX8_restart 3 none :: TB) (rmN 1) 0 0 2 := cwV 2 hts (TB_V hl tw_278 tw_279 tw_2 tw_280) rfl rfl rfl (by decide +kernel) hR
set_option maxHeartbeats 4000000 in
set_option maxRecDepth 100000 in
/-- Lengths.forget, new object -/
theorem c_X2_forget (l : Launch) (D : va_G) (cy : Nat → ClassId) (sz : Nat) (cs : List Nat) (ad : Nat → Nat) (en : Nat → va_E) (hcs : ∀ c, c < 115 → c ∈ cs) (e12 : en 12 = .inr (2, [.ref (ad 1), .ref (ad 13), .ref (ad 14), .ref (ad 24), .ref (ad 33), .int 0])) (e13 : en 13 = .inl (cy 4, 9, .inr (.inr (.inr (.inr (fun j => some (ad (34 + 4 * j)))))))) (hv : ∀ j, j < 9 → en (34 + 4 * j) = .inr (5, [.ref (ad (35 + 4 * j)), .ref (ad (36 + 4 * j)), .ref (ad (37 + 4 * j)), .int 0, .int 0, .int 0, .long 0, .long 0, .long 0, .long 0])) : Met l yX2_forget (Cond.code yX2_forget cX2_forget 2 none :: TB) (rmN 0) (va_Pc [.ref (ad 12)] (Pre D cy cs ad en sz)) (va_Qv (S := Nat → va_E) (fun en1 => en1 = en) (PostM D cs ad) (Af cs ad sz)) 0 0 (Af cs ad sz) := by
  refine Met.ofW (cc := cX2_forget) (maxL := 2) (ret := none) (by decide) rfl ?_
  intro p e s m args below meth c s₁ B hml hv
  obtain ⟨rfl, hsz, hP, hK, hD0⟩ := hv
  have hx := B.exec
  have hb := B.bytes
  have hr := B.returns
  have hts : ∀ w ∈ TB, w.before _ s = true := fun w h => atoms_spec (ws := _ :: TB) B.pre w (List.mem_cons_of_mem _ h)
  have hown : s.vm.findClass RX2 = some m.cls := findClass_of_methodNamed B.named
  have hlocks := B.notSynchronized
  have hh : Hp D (Af cs ad sz) (Af cs ad sz) s.heap s.heap [] cs ad en := ⟨hP, Af_self hD0, va_S.rf⟩
  have hA : ∀ q : Nat, s.heap.size ≤ q → Af cs ad sz q := fun q h => Or.inr (by rw [hsz] at h; exact h)
  have hl := lv_entry ([.ref (ad 12)]) (n := 2) (Nat.le_of_ble_eq_true rfl)
  rw [lg_entry_eq]
  generalize (lg_sl ([.ref (ad 12)]) ++ List.replicate (2 - (lg_sl ([.ref (ad 12)])).length) Slot.unset).toArray = ls at hl ⊢
  have hl : lv_has ls 2 [(0, .ref (ad 12))] := hl
  refine lv_aload_n hx hb dX2_forget_0 rfl (lv_at hl 0 rfl) ?_
  refine lv_iconst (v := 0) hx hb dX2_forget_1 (by decide) ?_
  refine hp_put hx hb hts ix2 tyX2 tyX2_ok nmX2 hown hK hh (q := 12) rfl (hcs _ (by decide)) e12 rfl 5 (by decide) (hts _ tw_127) (fun _ h9 => h9) rfl (ty := .boolean) (by decide +kernel) rfl rfl (Nat.le_of_ble_eq_true rfl) dX2_forget_2 (fun H locs en_75 hen_75 hh => ?_)
  have hid_75 : en_75 = en := hen_75.trans (va_up_id e12)
  rw [hid_75] at hh
  refine lv_iconst (v := 0) hx hb dX2_forget_5 (by decide) ?_
  refine lv_istore_n (lv' := [(1, .int 0), (0, .ref (ad 12))]) hx hb dX2_forget_6 rfl hl (by decide) rfl (fun ls hl => ?_)
  have loop_76 : ∀ (fu j : Nat) (ls : Array Slot) (H : Heap) (locs : List Loc), j ≤ 9 → 9 < j + fu → lv_has ls 2 [(1, .int (nI j)), (0, .ref (ad 12))] → Hp D (Af cs ad sz) (Af cs ad sz) s.heap H locs cs ad en → W p l e (headSpec (Cond.code yX2_forget cX2_forget 2 none :: TB) (rmN 0)).room s m ([.ref (ad 12)] : List Value).toArray below meth c H locs 0 0 (MQ below (va_Qv (S := Nat → va_E) (fun en1 => en1 = en) (PostM D cs ad) (Af cs ad sz)) ([.ref (ad 12)] : List Value).toArray s 0 0 (Af cs ad sz)) (F0 m 7 ls []) := by
    intro fu
    induction fu with
    | zero => intro j ls H locs h1 h2; exact absurd h2 (by omega)
    | succ fu ih =>
      intro j ls H locs hj hn hl hh
      rcases Nat.lt_or_ge j 9 with hjN | hjN
      · refine lv_iload_n hx hb dX2_forget_7 rfl (lv_at hl 0 rfl) ?_
        refine lv_bipush (v := 8) hx hb dX2_forget_8 (by decide) ?_
        refine lv_icmp_gt (tgt := 29) hx hb dX2_forget_10 (by decide) (fun c_0 => absurd c_0 (nI_nlt (b := j) (a := 8) (by omega) (by decide))) (fun _ => ?_)
        refine lv_aload_n hx hb dX2_forget_13 rfl (lv_at hl 1 rfl) ?_
        refine hp_get hx hb hts ix2 hown hK hh (q := 12) rfl (hcs _ (by decide)) e12 rfl 1 (by decide) (hts _ tw_123) (fun _ h9 => h9) rfl dX2_forget_14 ?_
        refine lv_iload_n hx hb dX2_forget_17 rfl (lv_at hl 0 rfl) ?_
        have hj_77 : j < 9 := hjN
        have es77 : en (34 + 4 * j) = .inr (5, [.ref (ad (35 + 4 * j)), .ref (ad (36 + 4 * j)), .ref (ad (37 + 4 * j)), .int 0, .int 0, .int 0, .long 0, .long 0, .long 0, .long 0]) := hv _ hj_77
        refine hp_aald hx hb hK hh (q := 13) rfl (hcs _ (by decide)) 4 e13 rfl rfl (vp_in_nI hjN (by decide)) (v := .ref (ad (34 + 4 * j))) (by rw [nI_clamp (by omega)]; rfl) dX2_forget_18 ?_
        refine lv_iconst (v := 0) hx hb dX2_forget_19 (by decide) ?_
        refine hp_put hx hb hts ix6 tyX6 tyX6_ok nmX6 hown hK hh (q := (34 + 4 * j)) rfl (hcs _ (by omega)) es77 rfl 3 (by decide) (hts _ tw_86) (fun _ h9 => h9) rfl (ty := .boolean) (by decide +kernel) rfl rfl (Nat.le_of_ble_eq_true rfl) dX2_forget_20 (fun H locs en_78 hen_78 hh => ?_)
        have hid_78 : en_78 = en := hen_78.trans (va_up_id es77)
        rw [hid_78] at hh
        refine lv_iinc (v := nI (j + 1)) (lv' := [(1, .int (nI (j + 1))), (0, .ref (ad 12))]) hx hb dX2_forget_23 hl (k := 0) rfl (nI_1 _) (by decide) rfl (fun ls hl => ?_)
        refine lv_goto (tgt := 7) hx hb dX2_forget_26 (by decide) ?_
        exact ih (j + 1) ls H locs (by omega) (by omega) (lv_sub hl [0, 1] rfl) hh
      · refine lv_iload_n hx hb dX2_forget_7 rfl (lv_at hl 0 rfl) ?_
        refine lv_bipush (v := 8) hx hb dX2_forget_8 (by decide) ?_
        refine lv_icmp_gt (tgt := 29) hx hb dX2_forget_10 (by decide) (fun _ => ?_) (fun c_0 => absurd (nI_lt (a := 8) (by omega) (by omega)) c_0)
        exact hp_vretM hx hb hr hlocks hh (rfl) dX2_forget_29
  exact loop_76 (9 + 1) 0 ls _ _ (by omega) (by omega) (lv_sub hl [0, 1] rfl) hh
theorem kw_X2_forget {R : Room} {s : State} {args : Array Value} {own : String} {idx : Nat} (hts : ∀ w ∈ TB, w.before args s = true) (hl : Cond.methodLink own idx yX2_forget ∈ TB) (hR : 0 + 1 ≤ R.frames ∧ 8 + (2 + 11) + 40 * 0 ≤ R.locals) : CallW R s args own RX2 idx yX2_forget cX2_forget 2 none (Cond.code yX2_forget cX2_forget 2 none :: TB) (rmN 0) 0 0 0 := cwV 0 hts (TB_V hl tw_282 tw_283 tw_3 tw_284) rfl rfl rfl (by decide +kernel) hR
set_option maxHeartbeats 4000000 in
set_option maxRecDepth 100000 in
/-- Closure.forget, new object -/
theorem c_X0_forget (l : Launch) (D : va_G) (cy : Nat → ClassId) (sz : Nat) (cs : List Nat) (ad : Nat → Nat) (en : Nat → va_E) (hcs : ∀ c, c < 115 → c ∈ cs) (e70 : en 70 = .inr (0, [.ref (ad 1), .ref (ad 71), .ref (ad 72), .ref (ad 73), .null, .null, .null, .int 0, .int 0, .int 0, .int 0, .int 0, .int 0]))  : Met l yX0_forget (Cond.code yX0_forget cX0_forget 1 none :: TB) (rmN 0) (va_Pc [.ref (ad 70)] (Pre D cy cs ad en sz)) (va_Qv (S := Nat → va_E) (fun en1 => en1 = en) (PostM D cs ad) (Af cs ad sz)) 0 0 (Af cs ad sz) := by
  refine Met.ofW (cc := cX0_forget) (maxL := 1) (ret := none) (by decide) rfl ?_
  intro p e s m args below meth c s₁ B hml hv
  obtain ⟨rfl, hsz, hP, hK, hD0⟩ := hv
  have hx := B.exec
  have hb := B.bytes
  have hr := B.returns
  have hts : ∀ w ∈ TB, w.before _ s = true := fun w h => atoms_spec (ws := _ :: TB) B.pre w (List.mem_cons_of_mem _ h)
  have hown : s.vm.findClass RX0 = some m.cls := findClass_of_methodNamed B.named
  have hlocks := B.notSynchronized
  have hh : Hp D (Af cs ad sz) (Af cs ad sz) s.heap s.heap [] cs ad en := ⟨hP, Af_self hD0, va_S.rf⟩
  have hA : ∀ q : Nat, s.heap.size ≤ q → Af cs ad sz q := fun q h => Or.inr (by rw [hsz] at h; exact h)
  have hl := lv_entry ([.ref (ad 70)]) (n := 1) (Nat.le_of_ble_eq_true rfl)
  rw [lg_entry_eq]
  generalize (lg_sl ([.ref (ad 70)]) ++ List.replicate (1 - (lg_sl ([.ref (ad 70)])).length) Slot.unset).toArray = ls at hl ⊢
  have hl : lv_has ls 1 [(0, .ref (ad 70))] := hl
  refine lv_aload_n hx hb dX0_forget_0 rfl (lv_at hl 0 rfl) ?_
  refine lv_iconst (v := 0) hx hb dX0_forget_1 (by decide) ?_
  refine hp_put hx hb hts ix0 tyX0 tyX0_ok nmX0 hown hK hh (q := 70) rfl (hcs _ (by decide)) e70 rfl 7 (by decide) (hts _ tw_154) (fun _ h9 => h9) rfl (ty := .int) (by decide +kernel) rfl rfl (Nat.le_of_ble_eq_true rfl) dX0_forget_2 (fun H locs en_79 hen_79 hh => ?_)
  have hid_79 : en_79 = en := hen_79.trans (va_up_id e70)
  rw [hid_79] at hh
  exact hp_vretM hx hb hr hlocks hh (rfl) dX0_forget_5
theorem kw_X0_forget {R : Room} {s : State} {args : Array Value} {own : String} {idx : Nat} (hts : ∀ w ∈ TB, w.before args s = true) (hl : Cond.methodLink own idx yX0_forget ∈ TB) (hR : 0 + 1 ≤ R.frames ∧ 8 + (1 + 11) + 40 * 0 ≤ R.locals) : CallW R s args own RX0 idx yX0_forget cX0_forget 1 none (Cond.code yX0_forget cX0_forget 1 none :: TB) (rmN 0) 0 0 0 := cwV 0 hts (TB_V hl tw_286 tw_287 tw_5 tw_288) rfl rfl rfl (by decide +kernel) hR
set_option maxHeartbeats 4000000 in
set_option maxRecDepth 100000 in
/-- begin, new object -/
theorem c_X11_begin (l : Launch) (D : va_G) (cy : Nat → ClassId) (sz : Nat) (cs : List Nat) (ad : Nat → Nat) (en : Nat → va_E) (hcs : ∀ c, c < 115 → c ∈ cs) (lf : Int32) (f0 : Nat → Int32) (d m0 : Int32) (e0 : en 0 = .inr (10, [.ref (ad 1), .ref (ad 12), .ref (ad 70), .ref (ad 74), .ref (ad 75), .ref (ad 76), .int 0, .int lf])) (e1 : en 1 = .inr (7, [.ref (ad 2), .ref (ad 3), .ref (ad 10), .ref (ad 11), .int 0, .int 2, .int 0])) (e10 : en 10 = .inl (cy 2, 36, .inl f0)) (e12 : en 12 = .inr (2, [.ref (ad 1), .ref (ad 13), .ref (ad 14), .ref (ad 24), .ref (ad 33), .int 0])) (e13 : en 13 = .inl (cy 4, 9, .inr (.inr (.inr (.inr (fun j => some (ad (34 + 4 * j)))))))) (e70 : en 70 = .inr (0, [.ref (ad 1), .ref (ad 71), .ref (ad 72), .ref (ad 73), .null, .null, .null, .int 0, .int 0, .int 0, .int 0, .int 0, .int 0])) (hv : ∀ j, j < 9 → en (34 + 4 * j) = .inr (5, [.ref (ad (35 + 4 * j)), .ref (ad (36 + 4 * j)), .ref (ad (37 + 4 * j)), .int 0, .int 0, .int 0, .long 0, .long 0, .long 0, .long 0])) : Met l yX11_begin (Cond.code yX11_begin cX11_begin 3 (some .int) :: TB) (rmN 2) (va_Pc [.ref (ad 0), .int d, .int m0] (Pre D cy cs ad en sz)) (va_Qi (S := Nat → va_E) (fun r _ => r = spBegin d m0) (PostM D cs ad) (Af cs ad sz)) 0 0 (Af cs ad sz) := by
  refine Met.ofW (cc := cX11_begin) (maxL := 3) (ret := (some .int)) (by decide) rfl ?_
  intro p e s m args below meth c s₁ B hml hv
  obtain ⟨rfl, hsz, hP, hK, hD0⟩ := hv
  have hx := B.exec
  have hb := B.bytes
  have hr := B.returns
  have hts : ∀ w ∈ TB, w.before _ s = true := fun w h => atoms_spec (ws := _ :: TB) B.pre w (List.mem_cons_of_mem _ h)
  have hown : s.vm.findClass RX11 = some m.cls := findClass_of_methodNamed B.named
  have hlocks := B.notSynchronized
  have hh : Hp D (Af cs ad sz) (Af cs ad sz) s.heap s.heap [] cs ad en := ⟨hP, Af_self hD0, va_S.rf⟩
  have hA : ∀ q : Nat, s.heap.size ≤ q → Af cs ad sz q := fun q h => Or.inr (by rw [hsz] at h; exact h)
  have hl := lv_entry ([.ref (ad 0), .int d, .int m0]) (n := 3) (Nat.le_of_ble_eq_true rfl)
  rw [lg_entry_eq]
  generalize (lg_sl ([.ref (ad 0), .int d, .int m0]) ++ List.replicate (3 - (lg_sl ([.ref (ad 0), .int d, .int m0])).length) Slot.unset).toArray = ls at hl ⊢
  have hl : lv_has ls 3 [(0, .ref (ad 0)), (1, .int d), (2, .int m0)] := hl
  refine lv_iload_n hx hb dX11_begin_0 rfl (lv_at hl 1 rfl) ?_
  refine lv_iconst (v := 2) hx hb dX11_begin_1 (by decide) ?_
  refine lv_iconst (v := 3) hx hb dX11_begin_2 (by decide) ?_
  refine hp_callRi (va_runS (As := [.int d, .int 2, .int 3]) (rest := []) ⟨hx, hb, hml, hown, hts⟩ (c_X11_isWithin l D cy _ cs ad en d 2 3 ) (kw_X11_isWithin hts tw_274 ⟨by decide, by decide⟩) (preS_of hh hK) rfl rfl hl.1 rfl (lv_room (Nat.le_of_ble_eq_true rfl)) dX11_begin_3 ⟨Nat.le_of_ble_eq_true rfl, Nat.le_of_ble_eq_true rfl⟩) hh hA (fun r_80 H locs hw_80 hh => ?_)
  rcases Decidable.em (wi d 2 3) with hp_80 | hp_80
  · obtain rfl : r_80 = 1 := Eq.trans hw_80 (if_pos hp_80)
    refine lv_if_eq (tgt := 23) hx hb dX11_begin_6 (by decide) (fun c_0 => absurd c_0 (by decide)) (fun _ => ?_)
    refine lv_iload_n hx hb dX11_begin_9 rfl (lv_at hl 2 rfl) ?_
    refine lv_if_eq (tgt := 26) hx hb dX11_begin_10 (by decide) (fun c_81 => ?_) (fun c_81 => ?_)
    · refine lv_aload_n hx hb dX11_begin_26 rfl (lv_at hl 0 rfl) ?_
      refine hp_get hx hb hts ix11 hown hK hh (q := 0) rfl (hcs _ (by decide)) e0 rfl 0 (by decide) (hts _ tw_245) (fun _ h9 => h9) rfl dX11_begin_27 ?_
      refine lv_iload_n hx hb dX11_begin_30 rfl (lv_at hl 1 rfl) ?_
      refine lv_iload_n hx hb dX11_begin_31 rfl (lv_at hl 2 rfl) ?_
      refine hp_callMv (va_runV (As := [.int d, .int m0]) (rest := []) ⟨hx, hb, hml, hown, hts⟩ (c_X8_restart l D cy _ cs ad en hcs 0 2 0 f0 d m0 e1 e10 ) (kw_X8_restart hts tw_277 ⟨by decide, by decide⟩) (preV_of hh hK (hcs _ (by decide)) e1 rfl) rfl rfl hl.1 rfl (lv_room (Nat.le_of_ble_eq_true rfl)) dX11_begin_32 ⟨Nat.le_of_ble_eq_true rfl, Nat.le_of_ble_eq_true rfl⟩) hh hA (fun H locs en_82 hw_82 hh => ?_)
      obtain ⟨f_82, e1_82, e10_82, hf_82, hu_82⟩ := hw_82
      have e0_82 : en_82 0 = .inr (10, [.ref (ad 1), .ref (ad 12), .ref (ad 70), .ref (ad 74), .ref (ad 75), .ref (ad 76), .int 0, .int lf]) := by rw [hu_82 _ (by decide) (by decide)]; exact e0
      have e12_82 : en_82 12 = .inr (2, [.ref (ad 1), .ref (ad 13), .ref (ad 14), .ref (ad 24), .ref (ad 33), .int 0]) := by rw [hu_82 _ (by decide) (by decide)]; exact e12
      have e13_82 : en_82 13 = .inl (cy 4, 9, .inr (.inr (.inr (.inr (fun j => some (ad (34 + 4 * j))))))) := by rw [hu_82 _ (by decide) (by decide)]; exact e13
      have e70_82 : en_82 70 = .inr (0, [.ref (ad 1), .ref (ad 71), .ref (ad 72), .ref (ad 73), .null, .null, .null, .int 0, .int 0, .int 0, .int 0, .int 0, .int 0]) := by rw [hu_82 _ (by decide) (by decide)]; exact e70
      have hv_82 : ∀ j, j < 9 → en_82 (34 + 4 * j) = .inr (5, [.ref (ad (35 + 4 * j)), .ref (ad (36 + 4 * j)), .ref (ad (37 + 4 * j)), .int 0, .int 0, .int 0, .long 0, .long 0, .long 0, .long 0]) := fun j hj => by rw [hu_82 _ (by omega) (by omega)]; exact hv j hj
      refine lv_aload_n hx hb dX11_begin_35 rfl (lv_at hl 0 rfl) ?_
      refine hp_get hx hb hts ix11 hown hK hh (q := 0) rfl (hcs _ (by decide)) e0_82 rfl 1 (by decide) (hts _ tw_246) (fun _ h9 => h9) rfl dX11_begin_36 ?_
      refine hp_callMv (va_runV (As := []) (rest := []) ⟨hx, hb, hml, hown, hts⟩ (c_X2_forget l D cy _ cs ad en_82 hcs  e12_82 e13_82 hv_82) (kw_X2_forget hts tw_281 ⟨by decide, by decide⟩) (preV_of hh hK (hcs _ (by decide)) e12_82 rfl) rfl rfl hl.1 rfl (lv_room (Nat.le_of_ble_eq_true rfl)) dX11_begin_39 ⟨Nat.le_of_ble_eq_true rfl, Nat.le_of_ble_eq_true rfl⟩) hh hA (fun H locs en_83 hw_83 hh => ?_)
      have hid_83 : en_83 = en_82 := hw_83
      rw [hid_83] at hh
      refine lv_aload_n hx hb dX11_begin_42 rfl (lv_at hl 0 rfl) ?_
      refine hp_get hx hb hts ix11 hown hK hh (q := 0) rfl (hcs _ (by decide)) e0_82 rfl 2 (by decide) (hts _ tw_247) (fun _ h9 => h9) rfl dX11_begin_43 ?_
      refine hp_callMv (va_runV (As := []) (rest := []) ⟨hx, hb, hml, hown, hts⟩ (c_X0_forget l D cy _ cs ad en_82 hcs  e70_82 ) (kw_X0_forget hts tw_285 ⟨by decide, by decide⟩) (preV_of hh hK (hcs _ (by decide)) e70_82 rfl) rfl rfl hl.1 rfl (lv_room (Nat.le_of_ble_eq_true rfl)) dX11_begin_46 ⟨Nat.le_of_ble_eq_true rfl, Nat.le_of_ble_eq_true rfl⟩) hh hA (fun H locs en_84 hw_84 hh => ?_)
      have hid_84 : en_84 = en_82 := hw_84
      rw [hid_84] at hh
      refine lv_aload_n hx hb dX11_begin_49 rfl (lv_at hl 0 rfl) ?_
      refine lv_iconst (v := 0) hx hb dX11_begin_50 (by decide) ?_
      refine hp_put hx hb hts ix11 tyX11 tyX11_ok nmX11 hown hK hh (q := 0) rfl (hcs _ (by decide)) e0_82 rfl 6 (by decide) (hts _ tw_251) (fun _ h9 => h9) rfl (ty := .int) (by decide +kernel) rfl rfl (Nat.le_of_ble_eq_true rfl) dX11_begin_51 (fun H locs en_85 hen_85 hh => ?_)
      have hid_85 : en_85 = en_82 := hen_85.trans (va_up_id e0_82)
      rw [hid_85] at hh
      refine lv_iconst (v := 1) hx hb dX11_begin_54 (by decide) ?_
      exact hp_iretM hx hb hr rfl hlocks hh ((if_pos ⟨hp_80, Or.inl c_81⟩).symm) dX11_begin_55
    · refine lv_iload_n hx hb dX11_begin_13 rfl (lv_at hl 2 rfl) ?_
      refine lv_iconst (v := 2) hx hb dX11_begin_14 (by decide) ?_
      refine lv_bipush (v := 97) hx hb dX11_begin_15 (by decide) ?_
      refine hp_callRi (va_runS (As := [.int m0, .int 2, .int 97]) (rest := []) ⟨hx, hb, hml, hown, hts⟩ (c_X11_isWithin l D cy _ cs ad en m0 2 97 ) (kw_X11_isWithin hts tw_274 ⟨by decide, by decide⟩) (preS_of hh hK) rfl rfl hl.1 rfl (lv_room (Nat.le_of_ble_eq_true rfl)) dX11_begin_17 ⟨Nat.le_of_ble_eq_true rfl, Nat.le_of_ble_eq_true rfl⟩) hh hA (fun r_86 H locs hw_86 hh => ?_)
      rcases Decidable.em (wi m0 2 97) with hp_86 | hp_86
      · obtain rfl : r_86 = 1 := Eq.trans hw_86 (if_pos hp_86)
        refine lv_if_ne (tgt := 26) hx hb dX11_begin_20 (by decide) (fun _ => ?_) (fun c_0 => absurd c_0 (by decide))
        refine lv_aload_n hx hb dX11_begin_26 rfl (lv_at hl 0 rfl) ?_
        refine hp_get hx hb hts ix11 hown hK hh (q := 0) rfl (hcs _ (by decide)) e0 rfl 0 (by decide) (hts _ tw_245) (fun _ h9 => h9) rfl dX11_begin_27 ?_
        refine lv_iload_n hx hb dX11_begin_30 rfl (lv_at hl 1 rfl) ?_
        refine lv_iload_n hx hb dX11_begin_31 rfl (lv_at hl 2 rfl) ?_
        refine hp_callMv (va_runV (As := [.int d, .int m0]) (rest := []) ⟨hx, hb, hml, hown, hts⟩ (c_X8_restart l D cy _ cs ad en hcs 0 2 0 f0 d m0 e1 e10 ) (kw_X8_restart hts tw_277 ⟨by decide, by decide⟩) (preV_of hh hK (hcs _ (by decide)) e1 rfl) rfl rfl hl.1 rfl (lv_room (Nat.le_of_ble_eq_true rfl)) dX11_begin_32 ⟨Nat.le_of_ble_eq_true rfl, Nat.le_of_ble_eq_true rfl⟩) hh hA (fun H locs en_87 hw_87 hh => ?_)
        obtain ⟨f_87, e1_87, e10_87, hf_87, hu_87⟩ := hw_87
        have e0_87 : en_87 0 = .inr (10, [.ref (ad 1), .ref (ad 12), .ref (ad 70), .ref (ad 74), .ref (ad 75), .ref (ad 76), .int 0, .int lf]) := by rw [hu_87 _ (by decide) (by decide)]; exact e0
        have e12_87 : en_87 12 = .inr (2, [.ref (ad 1), .ref (ad 13), .ref (ad 14), .ref (ad 24), .ref (ad 33), .int 0]) := by rw [hu_87 _ (by decide) (by decide)]; exact e12
        have e13_87 : en_87 13 = .inl (cy 4, 9, .inr (.inr (.inr (.inr (fun j => some (ad (34 + 4 * j))))))) := by rw [hu_87 _ (by decide) (by decide)]; exact e13
        have e70_87 : en_87 70 = .inr (0, [.ref (ad 1), .ref (ad 71), .ref (ad 72), .ref (ad 73), .null, .null, .null, .int 0, .int 0, .int 0, .int 0, .int 0, .int 0]) := by rw [hu_87 _ (by decide) (by decide)]; exact e70
        have hv_87 : ∀ j, j < 9 → en_87 (34 + 4 * j) = .inr (5, [.ref (ad (35 + 4 * j)), .ref (ad (36 + 4 * j)), .ref (ad (37 + 4 * j)), .int 0, .int 0, .int 0, .long 0, .long 0, .long 0, .long 0]) := fun j hj => by rw [hu_87 _ (by omega) (by omega)]; exact hv j hj
        refine lv_aload_n hx hb dX11_begin_35 rfl (lv_at hl 0 rfl) ?_
        refine hp_get hx hb hts ix11 hown hK hh (q := 0) rfl (hcs _ (by decide)) e0_87 rfl 1 (by decide) (hts _ tw_246) (fun _ h9 => h9) rfl dX11_begin_36 ?_
        refine hp_callMv (va_runV (As := []) (rest := []) ⟨hx, hb, hml, hown, hts⟩ (c_X2_forget l D cy _ cs ad en_87 hcs  e12_87 e13_87 hv_87) (kw_X2_forget hts tw_281 ⟨by decide, by decide⟩) (preV_of hh hK (hcs _ (by decide)) e12_87 rfl) rfl rfl hl.1 rfl (lv_room (Nat.le_of_ble_eq_true rfl)) dX11_begin_39 ⟨Nat.le_of_ble_eq_true rfl, Nat.le_of_ble_eq_true rfl⟩) hh hA (fun H locs en_88 hw_88 hh => ?_)
        have hid_88 : en_88 = en_87 := hw_88
        rw [hid_88] at hh
        refine lv_aload_n hx hb dX11_begin_42 rfl (lv_at hl 0 rfl) ?_
        refine hp_get hx hb hts ix11 hown hK hh (q := 0) rfl (hcs _ (by decide)) e0_87 rfl 2 (by decide) (hts _ tw_247) (fun _ h9 => h9) rfl dX11_begin_43 ?_
        refine hp_callMv (va_runV (As := []) (rest := []) ⟨hx, hb, hml, hown, hts⟩ (c_X0_forget l D cy _ cs ad en_87 hcs  e70_87 ) (kw_X0_forget hts tw_285 ⟨by decide, by decide⟩) (preV_of hh hK (hcs _ (by decide)) e70_87 rfl) rfl rfl hl.1 rfl (lv_room (Nat.le_of_ble_eq_true rfl)) dX11_begin_46 ⟨Nat.le_of_ble_eq_true rfl, Nat.le_of_ble_eq_true rfl⟩) hh hA (fun H locs en_89 hw_89 hh => ?_)
        have hid_89 : en_89 = en_87 := hw_89
        rw [hid_89] at hh
        refine lv_aload_n hx hb dX11_begin_49 rfl (lv_at hl 0 rfl) ?_
        refine lv_iconst (v := 0) hx hb dX11_begin_50 (by decide) ?_
        refine hp_put hx hb hts ix11 tyX11 tyX11_ok nmX11 hown hK hh (q := 0) rfl (hcs _ (by decide)) e0_87 rfl 6 (by decide) (hts _ tw_251) (fun _ h9 => h9) rfl (ty := .int) (by decide +kernel) rfl rfl (Nat.le_of_ble_eq_true rfl) dX11_begin_51 (fun H locs en_90 hen_90 hh => ?_)
        have hid_90 : en_90 = en_87 := hen_90.trans (va_up_id e0_87)
        rw [hid_90] at hh
        refine lv_iconst (v := 1) hx hb dX11_begin_54 (by decide) ?_
        exact hp_iretM hx hb hr rfl hlocks hh ((if_pos ⟨hp_80, Or.inr hp_86⟩).symm) dX11_begin_55
      · obtain rfl : r_86 = 0 := Eq.trans hw_86 (if_neg hp_86)
        refine lv_if_ne (tgt := 26) hx hb dX11_begin_20 (by decide) (fun c_0 => absurd c_0 (by decide)) (fun _ => ?_)
        refine lv_bipush (v := (-2)) hx hb dX11_begin_23 (by decide) ?_
        exact hp_iretM hx hb hr rfl hlocks hh ((if_neg (fun h => h.2.elim c_81 hp_86)).symm) dX11_begin_25
  · obtain rfl : r_80 = 0 := Eq.trans hw_80 (if_neg hp_80)
    refine lv_if_eq (tgt := 23) hx hb dX11_begin_6 (by decide) (fun _ => ?_) (fun c_0 => absurd c_0 (by decide))
    refine lv_bipush (v := (-2)) hx hb dX11_begin_23 (by decide) ?_
    exact hp_iretM hx hb hr rfl hlocks hh ((if_neg (fun h => hp_80 h.1)).symm) dX11_begin_25
theorem kw_X11_begin {R : Room} {s : State} {args : Array Value} {own : String} {idx : Nat} (hts : ∀ w ∈ TB, w.before args s = true) (hl : Cond.methodLink own idx yX11_begin ∈ TB) (hR : 2 + 1 ≤ R.frames ∧ 8 + (3 + 11) + 40 * 2 ≤ R.locals) : CallW R s args own RX11 idx yX11_begin cX11_begin 3 (some .int) (Cond.code yX11_begin cX11_begin 3 (some .int) :: TB) (rmN 2) 0 0 2 := cwV 2 hts (TB_V hl tw_271 tw_272 tw_1 tw_273) rfl rfl rfl (by decide +kernel) hR
set_option maxHeartbeats 4000000 in
set_option maxRecDepth 100000 in
/-- findWays, no TABLES -/
theorem c_X2_findWays (l : Launch) (D : va_G) (cy : Nat → ClassId) (sz : Nat) (cs : List Nat) (ad : Nat → Nat) (en : Nat → va_E) (hcs : ∀ c, c < 115 → c ∈ cs) (hw : Int32) (f0 : Nat → Int32) (e12 : en 12 = .inr (2, [.ref (ad 1), .ref (ad 13), .ref (ad 14), .ref (ad 24), .ref (ad 33), .int hw])) (e16 : en 16 = .inl (cy 0, 6, .inl f0)) (e14 : en 14 = .inl (cy 7, 9, .inr (.inr (.inr (.inr (fun j => some (ad (15 + j)))))))) (e1 : en 1 = .inr (7, [.ref (ad 2), .ref (ad 3), .ref (ad 10), .ref (ad 11), .int 0, .int 2, .int 0]))  : Met l yX2_findWays (Cond.code yX2_findWays cX2_findWays 3 none :: TB) (rmN 1) (va_Pc [.ref (ad 12)] (Pre D cy cs ad en sz)) (va_Qv (S := Nat → va_E) (fun en1 => (∃ (hw : Int32) (f : Nat → Int32), en1 12 = .inr (2, [.ref (ad 1), .ref (ad 13), .ref (ad 14), .ref (ad 24), .ref (ad 33), .int hw]) ∧ en1 16 = .inl (cy 0, 6, .inl f) ∧ ∀ c, c ≠ 12 → c ≠ 16 → en1 c = en c)) (PostM D cs ad) (Af cs ad sz)) 0 0 (Af cs ad sz) := by
  refine Met.ofW (cc := cX2_findWays) (maxL := 3) (ret := none) (by decide) rfl ?_
  intro p e s m args below meth c s₁ B hml hv
  obtain ⟨rfl, hsz, hP, hK, hD0⟩ := hv
  have hx := B.exec
  have hb := B.bytes
  have hr := B.returns
  have hts : ∀ w ∈ TB, w.before _ s = true := fun w h => atoms_spec (ws := _ :: TB) B.pre w (List.mem_cons_of_mem _ h)
  have hown : s.vm.findClass RX2 = some m.cls := findClass_of_methodNamed B.named
  have hlocks := B.notSynchronized
  have hh : Hp D (Af cs ad sz) (Af cs ad sz) s.heap s.heap [] cs ad en := ⟨hP, Af_self hD0, va_S.rf⟩
  have hA : ∀ q : Nat, s.heap.size ≤ q → Af cs ad sz q := fun q h => Or.inr (by rw [hsz] at h; exact h)
  have hl := lv_entry ([.ref (ad 12)]) (n := 3) (Nat.le_of_ble_eq_true rfl)
  rw [lg_entry_eq]
  generalize (lg_sl ([.ref (ad 12)]) ++ List.replicate (3 - (lg_sl ([.ref (ad 12)])).length) Slot.unset).toArray = ls at hl ⊢
  have hl : lv_has ls 3 [(0, .ref (ad 12))] := hl
  refine lv_aload_n hx hb dX2_findWays_0 rfl (lv_at hl 0 rfl) ?_
  refine hp_get hx hb hts ix2 hown hK hh (q := 12) rfl (hcs _ (by decide)) e12 rfl 5 (by decide) (hts _ tw_127) (fun _ h9 => h9) rfl dX2_findWays_1 ?_
  refine lv_if_eq (tgt := 8) hx hb dX2_findWays_4 (by decide) (fun c_91 => ?_) (fun c_91 => ?_)
  · refine lv_aload_n hx hb dX2_findWays_8 rfl (lv_at hl 0 rfl) ?_
    refine hp_get hx hb hts ix2 hown hK hh (q := 12) rfl (hcs _ (by decide)) e12 rfl 2 (by decide) (hts _ tw_124) (fun _ h9 => h9) rfl dX2_findWays_9 ?_
    refine lv_iconst (v := 1) hx hb dX2_findWays_12 (by decide) ?_
    refine hp_aald hx hb hK hh (q := 14) rfl (hcs _ (by decide)) 7 e14 rfl rfl (vp_in_iff.mpr (by decide)) (v := .ref (ad 16)) (rfl) dX2_findWays_13 ?_
    refine lv_iconst (v := 1) hx hb dX2_findWays_14 (by decide) ?_
    refine hp_callMv (va_runS (As := [.ref (ad 16), .int 1]) (rest := []) ⟨hx, hb, hml, hown, hts⟩ (c_J7_fill_53178 l D cy _ cs ad en 16 6 (hcs _ (by decide)) (by decide) f0 1 e16) (kw_J7_fill_53178 hts tw_457 ⟨by decide, by decide⟩) (preS_of hh hK) rfl rfl hl.1 rfl (lv_room (Nat.le_of_ble_eq_true rfl)) dX2_findWays_15 ⟨Nat.le_of_ble_eq_true rfl, Nat.le_of_ble_eq_true rfl⟩) hh hA (fun H locs en_92 hw_92 hh => ?_)
    obtain ⟨f_92, hen_92, hf_92⟩ := hw_92
    have e12_92 : en_92 12 = .inr (2, [.ref (ad 1), .ref (ad 13), .ref (ad 14), .ref (ad 24), .ref (ad 33), .int hw]) := by rw [hen_92, va_up_ne _ _ (by decide)]; exact e12
    have e14_92 : en_92 14 = .inl (cy 7, 9, .inr (.inr (.inr (.inr (fun j => some (ad (15 + j))))))) := by rw [hen_92, va_up_ne _ _ (by decide)]; exact e14
    have e1_92 : en_92 1 = .inr (7, [.ref (ad 2), .ref (ad 3), .ref (ad 10), .ref (ad 11), .int 0, .int 2, .int 0]) := by rw [hen_92, va_up_ne _ _ (by decide)]; exact e1
    have e16_92 : en_92 16 = .inl (cy 0, 6, .inl f_92) := by rw [hen_92]; exact va_up_self _ _ _
    refine lv_iconst (v := 2) hx hb dX2_findWays_18 (by decide) ?_
    refine lv_istore_n (lv' := [(1, .int 2), (0, .ref (ad 12))]) hx hb dX2_findWays_19 rfl hl (by decide) rfl (fun ls hl => ?_)
    refine lv_iload_n hx hb dX2_findWays_20 rfl (lv_at hl 0 rfl) ?_
    refine lv_bipush (v := 8) hx hb dX2_findWays_21 (by decide) ?_
    refine lv_icmp_gt (tgt := 65) hx hb dX2_findWays_23 (by decide) (fun c_0 => absurd c_0 (by decide)) (fun _ => ?_)
    refine lv_iconst (v := 0) hx hb dX2_findWays_26 (by decide) ?_
    refine lv_istore_n (lv' := [(2, .int 0), (1, .int 2), (0, .ref (ad 12))]) hx hb dX2_findWays_27 rfl hl (by decide) rfl (fun ls hl => ?_)
    refine lv_iload_n hx hb dX2_findWays_28 rfl (lv_at hl 0 rfl) ?_
    refine lv_aload_n hx hb dX2_findWays_29 rfl (lv_at hl 2 rfl) ?_
    refine hp_get hx hb hts ix2 hown hK hh (q := 12) rfl (hcs _ (by decide)) e12_92 rfl 0 (by decide) (hts _ tw_122) (fun _ h9 => h9) rfl dX2_findWays_30 ?_
    refine hp_callRi (va_runV (As := []) (rest := [.int 0]) ⟨hx, hb, hml, hown, hts⟩ (c_X8_count l D cy _ cs ad en_92 hcs 0 2 0 e1_92) (kw_X8_count hts tw_460 ⟨by decide, by decide⟩) (preV_of hh hK (hcs _ (by decide)) e1_92 rfl) rfl rfl hl.1 rfl (lv_room (Nat.le_of_ble_eq_true rfl)) dX2_findWays_33 ⟨Nat.le_of_ble_eq_true rfl, Nat.le_of_ble_eq_true rfl⟩) hh hA (fun r_93 H locs hw_93 hh => ?_)
    obtain rfl : r_93 = 0 := hw_93
    refine lv_icmp_ge (tgt := 59) hx hb dX2_findWays_36 (by decide) (fun _ => ?_) (fun c_0 => absurd c_0 (by decide))
    refine lv_iinc (v := 3) (lv' := [(1, .int 3), (2, .int 0), (0, .ref (ad 12))]) hx hb dX2_findWays_59 hl (k := 1) rfl (by decide) (by decide) rfl (fun ls hl => ?_)
    refine lv_goto (tgt := 20) hx hb dX2_findWays_62 (by decide) ?_
    refine lv_iload_n hx hb dX2_findWays_20 rfl (lv_at hl 0 rfl) ?_
    refine lv_bipush (v := 8) hx hb dX2_findWays_21 (by decide) ?_
    refine lv_icmp_gt (tgt := 65) hx hb dX2_findWays_23 (by decide) (fun c_0 => absurd c_0 (by decide)) (fun _ => ?_)
    refine lv_iconst (v := 0) hx hb dX2_findWays_26 (by decide) ?_
    refine lv_istore_n (lv' := [(2, .int 0), (1, .int 3), (0, .ref (ad 12))]) hx hb dX2_findWays_27 rfl hl (by decide) rfl (fun ls hl => ?_)
    refine lv_iload_n hx hb dX2_findWays_28 rfl (lv_at hl 0 rfl) ?_
    refine lv_aload_n hx hb dX2_findWays_29 rfl (lv_at hl 2 rfl) ?_
    refine hp_get hx hb hts ix2 hown hK hh (q := 12) rfl (hcs _ (by decide)) e12_92 rfl 0 (by decide) (hts _ tw_122) (fun _ h9 => h9) rfl dX2_findWays_30 ?_
    refine hp_callRi (va_runV (As := []) (rest := [.int 0]) ⟨hx, hb, hml, hown, hts⟩ (c_X8_count l D cy _ cs ad en_92 hcs 0 2 0 e1_92) (kw_X8_count hts tw_460 ⟨by decide, by decide⟩) (preV_of hh hK (hcs _ (by decide)) e1_92 rfl) rfl rfl hl.1 rfl (lv_room (Nat.le_of_ble_eq_true rfl)) dX2_findWays_33 ⟨Nat.le_of_ble_eq_true rfl, Nat.le_of_ble_eq_true rfl⟩) hh hA (fun r_94 H locs hw_94 hh => ?_)
    obtain rfl : r_94 = 0 := hw_94
    refine lv_icmp_ge (tgt := 59) hx hb dX2_findWays_36 (by decide) (fun _ => ?_) (fun c_0 => absurd c_0 (by decide))
    refine lv_iinc (v := 4) (lv' := [(1, .int 4), (2, .int 0), (0, .ref (ad 12))]) hx hb dX2_findWays_59 hl (k := 1) rfl (by decide) (by decide) rfl (fun ls hl => ?_)
    refine lv_goto (tgt := 20) hx hb dX2_findWays_62 (by decide) ?_
    refine lv_iload_n hx hb dX2_findWays_20 rfl (lv_at hl 0 rfl) ?_
    refine lv_bipush (v := 8) hx hb dX2_findWays_21 (by decide) ?_
    refine lv_icmp_gt (tgt := 65) hx hb dX2_findWays_23 (by decide) (fun c_0 => absurd c_0 (by decide)) (fun _ => ?_)
    refine lv_iconst (v := 0) hx hb dX2_findWays_26 (by decide) ?_
    refine lv_istore_n (lv' := [(2, .int 0), (1, .int 4), (0, .ref (ad 12))]) hx hb dX2_findWays_27 rfl hl (by decide) rfl (fun ls hl => ?_)
    refine lv_iload_n hx hb dX2_findWays_28 rfl (lv_at hl 0 rfl) ?_
    refine lv_aload_n hx hb dX2_findWays_29 rfl (lv_at hl 2 rfl) ?_
    refine hp_get hx hb hts ix2 hown hK hh (q := 12) rfl (hcs _ (by decide)) e12_92 rfl 0 (by decide) (hts _ tw_122) (fun _ h9 => h9) rfl dX2_findWays_30 ?_
    refine hp_callRi (va_runV (As := []) (rest := [.int 0]) ⟨hx, hb, hml, hown, hts⟩ (c_X8_count l D cy _ cs ad en_92 hcs 0 2 0 e1_92) (kw_X8_count hts tw_460 ⟨by decide, by decide⟩) (preV_of hh hK (hcs _ (by decide)) e1_92 rfl) rfl rfl hl.1 rfl (lv_room (Nat.le_of_ble_eq_true rfl)) dX2_findWays_33 ⟨Nat.le_of_ble_eq_true rfl, Nat.le_of_ble_eq_true rfl⟩) hh hA (fun r_95 H locs hw_95 hh => ?_)
    obtain rfl : r_95 = 0 := hw_95
    refine lv_icmp_ge (tgt := 59) hx hb dX2_findWays_36 (by decide) (fun _ => ?_) (fun c_0 => absurd c_0 (by decide))
    refine lv_iinc (v := 5) (lv' := [(1, .int 5), (2, .int 0), (0, .ref (ad 12))]) hx hb dX2_findWays_59 hl (k := 1) rfl (by decide) (by decide) rfl (fun ls hl => ?_)
    refine lv_goto (tgt := 20) hx hb dX2_findWays_62 (by decide) ?_
    refine lv_iload_n hx hb dX2_findWays_20 rfl (lv_at hl 0 rfl) ?_
    refine lv_bipush (v := 8) hx hb dX2_findWays_21 (by decide) ?_
    refine lv_icmp_gt (tgt := 65) hx hb dX2_findWays_23 (by decide) (fun c_0 => absurd c_0 (by decide)) (fun _ => ?_)
    refine lv_iconst (v := 0) hx hb dX2_findWays_26 (by decide) ?_
    refine lv_istore_n (lv' := [(2, .int 0), (1, .int 5), (0, .ref (ad 12))]) hx hb dX2_findWays_27 rfl hl (by decide) rfl (fun ls hl => ?_)
    refine lv_iload_n hx hb dX2_findWays_28 rfl (lv_at hl 0 rfl) ?_
    refine lv_aload_n hx hb dX2_findWays_29 rfl (lv_at hl 2 rfl) ?_
    refine hp_get hx hb hts ix2 hown hK hh (q := 12) rfl (hcs _ (by decide)) e12_92 rfl 0 (by decide) (hts _ tw_122) (fun _ h9 => h9) rfl dX2_findWays_30 ?_
    refine hp_callRi (va_runV (As := []) (rest := [.int 0]) ⟨hx, hb, hml, hown, hts⟩ (c_X8_count l D cy _ cs ad en_92 hcs 0 2 0 e1_92) (kw_X8_count hts tw_460 ⟨by decide, by decide⟩) (preV_of hh hK (hcs _ (by decide)) e1_92 rfl) rfl rfl hl.1 rfl (lv_room (Nat.le_of_ble_eq_true rfl)) dX2_findWays_33 ⟨Nat.le_of_ble_eq_true rfl, Nat.le_of_ble_eq_true rfl⟩) hh hA (fun r_96 H locs hw_96 hh => ?_)
    obtain rfl : r_96 = 0 := hw_96
    refine lv_icmp_ge (tgt := 59) hx hb dX2_findWays_36 (by decide) (fun _ => ?_) (fun c_0 => absurd c_0 (by decide))
    refine lv_iinc (v := 6) (lv' := [(1, .int 6), (2, .int 0), (0, .ref (ad 12))]) hx hb dX2_findWays_59 hl (k := 1) rfl (by decide) (by decide) rfl (fun ls hl => ?_)
    refine lv_goto (tgt := 20) hx hb dX2_findWays_62 (by decide) ?_
    refine lv_iload_n hx hb dX2_findWays_20 rfl (lv_at hl 0 rfl) ?_
    refine lv_bipush (v := 8) hx hb dX2_findWays_21 (by decide) ?_
    refine lv_icmp_gt (tgt := 65) hx hb dX2_findWays_23 (by decide) (fun c_0 => absurd c_0 (by decide)) (fun _ => ?_)
    refine lv_iconst (v := 0) hx hb dX2_findWays_26 (by decide) ?_
    refine lv_istore_n (lv' := [(2, .int 0), (1, .int 6), (0, .ref (ad 12))]) hx hb dX2_findWays_27 rfl hl (by decide) rfl (fun ls hl => ?_)
    refine lv_iload_n hx hb dX2_findWays_28 rfl (lv_at hl 0 rfl) ?_
    refine lv_aload_n hx hb dX2_findWays_29 rfl (lv_at hl 2 rfl) ?_
    refine hp_get hx hb hts ix2 hown hK hh (q := 12) rfl (hcs _ (by decide)) e12_92 rfl 0 (by decide) (hts _ tw_122) (fun _ h9 => h9) rfl dX2_findWays_30 ?_
    refine hp_callRi (va_runV (As := []) (rest := [.int 0]) ⟨hx, hb, hml, hown, hts⟩ (c_X8_count l D cy _ cs ad en_92 hcs 0 2 0 e1_92) (kw_X8_count hts tw_460 ⟨by decide, by decide⟩) (preV_of hh hK (hcs _ (by decide)) e1_92 rfl) rfl rfl hl.1 rfl (lv_room (Nat.le_of_ble_eq_true rfl)) dX2_findWays_33 ⟨Nat.le_of_ble_eq_true rfl, Nat.le_of_ble_eq_true rfl⟩) hh hA (fun r_97 H locs hw_97 hh => ?_)
    obtain rfl : r_97 = 0 := hw_97
    refine lv_icmp_ge (tgt := 59) hx hb dX2_findWays_36 (by decide) (fun _ => ?_) (fun c_0 => absurd c_0 (by decide))
    refine lv_iinc (v := 7) (lv' := [(1, .int 7), (2, .int 0), (0, .ref (ad 12))]) hx hb dX2_findWays_59 hl (k := 1) rfl (by decide) (by decide) rfl (fun ls hl => ?_)
    refine lv_goto (tgt := 20) hx hb dX2_findWays_62 (by decide) ?_
    refine lv_iload_n hx hb dX2_findWays_20 rfl (lv_at hl 0 rfl) ?_
    refine lv_bipush (v := 8) hx hb dX2_findWays_21 (by decide) ?_
    refine lv_icmp_gt (tgt := 65) hx hb dX2_findWays_23 (by decide) (fun c_0 => absurd c_0 (by decide)) (fun _ => ?_)
    refine lv_iconst (v := 0) hx hb dX2_findWays_26 (by decide) ?_
    refine lv_istore_n (lv' := [(2, .int 0), (1, .int 7), (0, .ref (ad 12))]) hx hb dX2_findWays_27 rfl hl (by decide) rfl (fun ls hl => ?_)
    refine lv_iload_n hx hb dX2_findWays_28 rfl (lv_at hl 0 rfl) ?_
    refine lv_aload_n hx hb dX2_findWays_29 rfl (lv_at hl 2 rfl) ?_
    refine hp_get hx hb hts ix2 hown hK hh (q := 12) rfl (hcs _ (by decide)) e12_92 rfl 0 (by decide) (hts _ tw_122) (fun _ h9 => h9) rfl dX2_findWays_30 ?_
    refine hp_callRi (va_runV (As := []) (rest := [.int 0]) ⟨hx, hb, hml, hown, hts⟩ (c_X8_count l D cy _ cs ad en_92 hcs 0 2 0 e1_92) (kw_X8_count hts tw_460 ⟨by decide, by decide⟩) (preV_of hh hK (hcs _ (by decide)) e1_92 rfl) rfl rfl hl.1 rfl (lv_room (Nat.le_of_ble_eq_true rfl)) dX2_findWays_33 ⟨Nat.le_of_ble_eq_true rfl, Nat.le_of_ble_eq_true rfl⟩) hh hA (fun r_98 H locs hw_98 hh => ?_)
    obtain rfl : r_98 = 0 := hw_98
    refine lv_icmp_ge (tgt := 59) hx hb dX2_findWays_36 (by decide) (fun _ => ?_) (fun c_0 => absurd c_0 (by decide))
    refine lv_iinc (v := 8) (lv' := [(1, .int 8), (2, .int 0), (0, .ref (ad 12))]) hx hb dX2_findWays_59 hl (k := 1) rfl (by decide) (by decide) rfl (fun ls hl => ?_)
    refine lv_goto (tgt := 20) hx hb dX2_findWays_62 (by decide) ?_
    refine lv_iload_n hx hb dX2_findWays_20 rfl (lv_at hl 0 rfl) ?_
    refine lv_bipush (v := 8) hx hb dX2_findWays_21 (by decide) ?_
    refine lv_icmp_gt (tgt := 65) hx hb dX2_findWays_23 (by decide) (fun c_0 => absurd c_0 (by decide)) (fun _ => ?_)
    refine lv_iconst (v := 0) hx hb dX2_findWays_26 (by decide) ?_
    refine lv_istore_n (lv' := [(2, .int 0), (1, .int 8), (0, .ref (ad 12))]) hx hb dX2_findWays_27 rfl hl (by decide) rfl (fun ls hl => ?_)
    refine lv_iload_n hx hb dX2_findWays_28 rfl (lv_at hl 0 rfl) ?_
    refine lv_aload_n hx hb dX2_findWays_29 rfl (lv_at hl 2 rfl) ?_
    refine hp_get hx hb hts ix2 hown hK hh (q := 12) rfl (hcs _ (by decide)) e12_92 rfl 0 (by decide) (hts _ tw_122) (fun _ h9 => h9) rfl dX2_findWays_30 ?_
    refine hp_callRi (va_runV (As := []) (rest := [.int 0]) ⟨hx, hb, hml, hown, hts⟩ (c_X8_count l D cy _ cs ad en_92 hcs 0 2 0 e1_92) (kw_X8_count hts tw_460 ⟨by decide, by decide⟩) (preV_of hh hK (hcs _ (by decide)) e1_92 rfl) rfl rfl hl.1 rfl (lv_room (Nat.le_of_ble_eq_true rfl)) dX2_findWays_33 ⟨Nat.le_of_ble_eq_true rfl, Nat.le_of_ble_eq_true rfl⟩) hh hA (fun r_99 H locs hw_99 hh => ?_)
    obtain rfl : r_99 = 0 := hw_99
    refine lv_icmp_ge (tgt := 59) hx hb dX2_findWays_36 (by decide) (fun _ => ?_) (fun c_0 => absurd c_0 (by decide))
    refine lv_iinc (v := 9) (lv' := [(1, .int 9), (2, .int 0), (0, .ref (ad 12))]) hx hb dX2_findWays_59 hl (k := 1) rfl (by decide) (by decide) rfl (fun ls hl => ?_)
    refine lv_goto (tgt := 20) hx hb dX2_findWays_62 (by decide) ?_
    refine lv_iload_n hx hb dX2_findWays_20 rfl (lv_at hl 0 rfl) ?_
    refine lv_bipush (v := 8) hx hb dX2_findWays_21 (by decide) ?_
    refine lv_icmp_gt (tgt := 65) hx hb dX2_findWays_23 (by decide) (fun _ => ?_) (fun c_0 => absurd c_0 (by decide))
    refine lv_aload_n hx hb dX2_findWays_65 rfl (lv_at hl 2 rfl) ?_
    refine lv_iconst (v := 1) hx hb dX2_findWays_66 (by decide) ?_
    refine hp_put hx hb hts ix2 tyX2 tyX2_ok nmX2 hown hK hh (q := 12) rfl (hcs _ (by decide)) e12_92 rfl 5 (by decide) (hts _ tw_127) (fun _ h9 => h9) rfl (ty := .boolean) (by decide +kernel) rfl rfl (Nat.le_of_ble_eq_true rfl) dX2_findWays_67 (fun H locs en_100 hen_100 hh => ?_)
    have e14_100 : en_100 14 = .inl (cy 7, 9, .inr (.inr (.inr (.inr (fun j => some (ad (15 + j))))))) := by rw [hen_100, va_up_ne _ _ (by decide)]; exact e14_92
    have e1_100 : en_100 1 = .inr (7, [.ref (ad 2), .ref (ad 3), .ref (ad 10), .ref (ad 11), .int 0, .int 2, .int 0]) := by rw [hen_100, va_up_ne _ _ (by decide)]; exact e1_92
    have e16_100 : en_100 16 = .inl (cy 0, 6, .inl f_92) := by rw [hen_100, va_up_ne _ _ (by decide)]; exact e16_92
    have e12_100 : en_100 12 = .inr (2, [.ref (ad 1), .ref (ad 13), .ref (ad 14), .ref (ad 24), .ref (ad 33), .int 1]) := by rw [hen_100]; exact va_up_self _ _ _
    exact hp_vretM hx hb hr hlocks hh (⟨1, f_92, e12_100, e16_100, (fun c h0 h1 => by rw [hen_100, va_up_ne _ _ h0, hen_92, va_up_ne _ _ h1])⟩) dX2_findWays_70
  · exact hp_vretM hx hb hr hlocks hh (⟨hw, f0, e12, e16, (fun c h0 h1 => by rfl)⟩) dX2_findWays_7
theorem kw_X2_findWays {R : Room} {s : State} {args : Array Value} {own : String} {idx : Nat} (hts : ∀ w ∈ TB, w.before args s = true) (hl : Cond.methodLink own idx yX2_findWays ∈ TB) (hR : 1 + 1 ≤ R.frames ∧ 8 + (3 + 11) + 40 * 1 ≤ R.locals) : CallW R s args own RX2 idx yX2_findWays cX2_findWays 3 none (Cond.code yX2_findWays cX2_findWays 3 none :: TB) (rmN 1) 0 0 0 := cwV 0 hts (TB_V hl tw_455 ts_8 tw_3 tw_456) rfl rfl rfl (by decide +kernel) hR
set_option maxHeartbeats 4000000 in
set_option maxRecDepth 100000 in
/-- countOf, no TABLES -/
theorem c_X2_countOf (l : Launch) (D : va_G) (cy : Nat → ClassId) (sz : Nat) (cs : List Nat) (ad : Nat → Nat) (en : Nat → va_E) (hcs : ∀ c, c < 115 → c ∈ cs) (hw : Int32) (f0 : Nat → Int32) (n : Int32) (e12 : en 12 = .inr (2, [.ref (ad 1), .ref (ad 13), .ref (ad 14), .ref (ad 24), .ref (ad 33), .int hw])) (e16 : en 16 = .inl (cy 0, 6, .inl f0)) (e14 : en 14 = .inl (cy 7, 9, .inr (.inr (.inr (.inr (fun j => some (ad (15 + j)))))))) (e1 : en 1 = .inr (7, [.ref (ad 2), .ref (ad 3), .ref (ad 10), .ref (ad 11), .int 0, .int 2, .int 0]))  : Met l yX2_countOf (Cond.code yX2_countOf cX2_countOf 4 (some .int) :: TB) (rmN 2) (va_Pc [.ref (ad 12), .int n] (Pre D cy cs ad en sz)) (va_Qi (S := Nat → va_E) (fun r en1 => r = 0 ∧ (∃ (hw : Int32) (f : Nat → Int32), en1 12 = .inr (2, [.ref (ad 1), .ref (ad 13), .ref (ad 14), .ref (ad 24), .ref (ad 33), .int hw]) ∧ en1 16 = .inl (cy 0, 6, .inl f) ∧ ∀ c, c ≠ 12 → c ≠ 16 → en1 c = en c)) (PostM D cs ad) (Af cs ad sz)) 0 0 (Af cs ad sz) := by
  refine Met.ofW (cc := cX2_countOf) (maxL := 4) (ret := (some .int)) (by decide) rfl ?_
  intro p e s m args below meth c s₁ B hml hv
  obtain ⟨rfl, hsz, hP, hK, hD0⟩ := hv
  have hx := B.exec
  have hb := B.bytes
  have hr := B.returns
  have hts : ∀ w ∈ TB, w.before _ s = true := fun w h => atoms_spec (ws := _ :: TB) B.pre w (List.mem_cons_of_mem _ h)
  have hown : s.vm.findClass RX2 = some m.cls := findClass_of_methodNamed B.named
  have hlocks := B.notSynchronized
  have hh : Hp D (Af cs ad sz) (Af cs ad sz) s.heap s.heap [] cs ad en := ⟨hP, Af_self hD0, va_S.rf⟩
  have hA : ∀ q : Nat, s.heap.size ≤ q → Af cs ad sz q := fun q h => Or.inr (by rw [hsz] at h; exact h)
  have hl := lv_entry ([.ref (ad 12), .int n]) (n := 4) (Nat.le_of_ble_eq_true rfl)
  rw [lg_entry_eq]
  generalize (lg_sl ([.ref (ad 12), .int n]) ++ List.replicate (4 - (lg_sl ([.ref (ad 12), .int n])).length) Slot.unset).toArray = ls at hl ⊢
  have hl : lv_has ls 4 [(0, .ref (ad 12)), (1, .int n)] := hl
  refine lv_aload_n hx hb dX2_countOf_0 rfl (lv_at hl 0 rfl) ?_
  refine hp_callMv (va_runV (As := []) (rest := []) ⟨hx, hb, hml, hown, hts⟩ (c_X2_findWays l D cy _ cs ad en hcs hw f0 e12 e16 e14 e1 ) (kw_X2_findWays hts tw_453 ⟨by decide, by decide⟩) (preV_of hh hK (hcs _ (by decide)) e12 rfl) rfl rfl hl.1 rfl (lv_room (Nat.le_of_ble_eq_true rfl)) dX2_countOf_1 ⟨Nat.le_of_ble_eq_true rfl, Nat.le_of_ble_eq_true rfl⟩) hh hA (fun H locs en_101 hw_101 hh => ?_)
  obtain ⟨w_101, f_101, e12_101, e16_101, hu_101⟩ := hw_101
  have e14_101 : en_101 14 = .inl (cy 7, 9, .inr (.inr (.inr (.inr (fun j => some (ad (15 + j))))))) := by rw [hu_101 _ (by decide) (by decide)]; exact e14
  have e1_101 : en_101 1 = .inr (7, [.ref (ad 2), .ref (ad 3), .ref (ad 10), .ref (ad 11), .int 0, .int 2, .int 0]) := by rw [hu_101 _ (by decide) (by decide)]; exact e1
  refine lv_iconst (v := 0) hx hb dX2_countOf_4 (by decide) ?_
  refine lv_istore_n (lv' := [(2, .int 0), (0, .ref (ad 12)), (1, .int n)]) hx hb dX2_countOf_5 rfl hl (by decide) rfl (fun ls hl => ?_)
  refine lv_iconst (v := 0) hx hb dX2_countOf_6 (by decide) ?_
  refine lv_istore_n (lv' := [(3, .int 0), (2, .int 0), (0, .ref (ad 12)), (1, .int n)]) hx hb dX2_countOf_7 rfl hl (by decide) rfl (fun ls hl => ?_)
  refine lv_iload_n hx hb dX2_countOf_8 rfl (lv_at hl 0 rfl) ?_
  refine lv_aload_n hx hb dX2_countOf_9 rfl (lv_at hl 2 rfl) ?_
  refine hp_get hx hb hts ix2 hown hK hh (q := 12) rfl (hcs _ (by decide)) e12_101 rfl 0 (by decide) (hts _ tw_122) (fun _ h9 => h9) rfl dX2_countOf_10 ?_
  refine hp_callRi (va_runV (As := []) (rest := [.int 0]) ⟨hx, hb, hml, hown, hts⟩ (c_X8_count l D cy _ cs ad en_101 hcs 0 2 0 e1_101) (kw_X8_count hts tw_460 ⟨by decide, by decide⟩) (preV_of hh hK (hcs _ (by decide)) e1_101 rfl) rfl rfl hl.1 rfl (lv_room (Nat.le_of_ble_eq_true rfl)) dX2_countOf_13 ⟨Nat.le_of_ble_eq_true rfl, Nat.le_of_ble_eq_true rfl⟩) hh hA (fun r_102 H locs hw_102 hh => ?_)
  obtain rfl : r_102 = 0 := hw_102
  refine lv_icmp_ge (tgt := 36) hx hb dX2_countOf_16 (by decide) (fun _ => ?_) (fun c_0 => absurd c_0 (by decide))
  refine lv_iload_n hx hb dX2_countOf_36 rfl (lv_at hl 1 rfl) ?_
  exact hp_iretM hx hb hr rfl hlocks hh (⟨rfl, ⟨w_101, f_101, e12_101, e16_101, (fun c h0 h1 => by rw [hu_101 c h0 h1])⟩⟩) dX2_countOf_37
theorem kw_X2_countOf {R : Room} {s : State} {args : Array Value} {own : String} {idx : Nat} (hts : ∀ w ∈ TB, w.before args s = true) (hl : Cond.methodLink own idx yX2_countOf ∈ TB) (hR : 2 + 1 ≤ R.frames ∧ 8 + (4 + 11) + 40 * 2 ≤ R.locals) : CallW R s args own RX2 idx yX2_countOf cX2_countOf 4 (some .int) (Cond.code yX2_countOf cX2_countOf 4 (some .int) :: TB) (rmN 2) 0 0 1 := cwV 1 hts (TB_V hl tw_450 tw_451 tw_3 tw_452) rfl rfl rfl (by decide +kernel) hR
set_option maxHeartbeats 4000000 in
set_option maxRecDepth 100000 in
/-- isSpent, no TABLES -/
theorem c_X2_isSpent (l : Launch) (D : va_G) (cy : Nat → ClassId) (sz : Nat) (cs : List Nat) (ad : Nat → Nat) (en : Nat → va_E) (hcs : ∀ c, c < 115 → c ∈ cs) (hw : Int32) (f0 : Nat → Int32) (n : Int32) (e12 : en 12 = .inr (2, [.ref (ad 1), .ref (ad 13), .ref (ad 14), .ref (ad 24), .ref (ad 33), .int hw])) (e16 : en 16 = .inl (cy 0, 6, .inl f0)) (e14 : en 14 = .inl (cy 7, 9, .inr (.inr (.inr (.inr (fun j => some (ad (15 + j)))))))) (e1 : en 1 = .inr (7, [.ref (ad 2), .ref (ad 3), .ref (ad 10), .ref (ad 11), .int 0, .int 2, .int 0]))  : Met l yX2_isSpent (Cond.code yX2_isSpent cX2_isSpent 2 (some .boolean) :: TB) (rmN 3) (va_Pc [.ref (ad 12), .int n] (Pre D cy cs ad en sz)) (va_Qi (S := Nat → va_E) (fun r en1 => r = 0 ∧ (∃ (hw : Int32) (f : Nat → Int32), en1 12 = .inr (2, [.ref (ad 1), .ref (ad 13), .ref (ad 14), .ref (ad 24), .ref (ad 33), .int hw]) ∧ en1 16 = .inl (cy 0, 6, .inl f) ∧ ∀ c, c ≠ 12 → c ≠ 16 → en1 c = en c)) (PostM D cs ad) (Af cs ad sz)) 0 0 (Af cs ad sz) := by
  refine Met.ofW (cc := cX2_isSpent) (maxL := 2) (ret := (some .boolean)) (by decide) rfl ?_
  intro p e s m args below meth c s₁ B hml hv
  obtain ⟨rfl, hsz, hP, hK, hD0⟩ := hv
  have hx := B.exec
  have hb := B.bytes
  have hr := B.returns
  have hts : ∀ w ∈ TB, w.before _ s = true := fun w h => atoms_spec (ws := _ :: TB) B.pre w (List.mem_cons_of_mem _ h)
  have hown : s.vm.findClass RX2 = some m.cls := findClass_of_methodNamed B.named
  have hlocks := B.notSynchronized
  have hh : Hp D (Af cs ad sz) (Af cs ad sz) s.heap s.heap [] cs ad en := ⟨hP, Af_self hD0, va_S.rf⟩
  have hA : ∀ q : Nat, s.heap.size ≤ q → Af cs ad sz q := fun q h => Or.inr (by rw [hsz] at h; exact h)
  have hl := lv_entry ([.ref (ad 12), .int n]) (n := 2) (Nat.le_of_ble_eq_true rfl)
  rw [lg_entry_eq]
  generalize (lg_sl ([.ref (ad 12), .int n]) ++ List.replicate (2 - (lg_sl ([.ref (ad 12), .int n])).length) Slot.unset).toArray = ls at hl ⊢
  have hl : lv_has ls 2 [(0, .ref (ad 12)), (1, .int n)] := hl
  refine lv_aload_n hx hb dX2_isSpent_0 rfl (lv_at hl 0 rfl) ?_
  refine lv_iload_n hx hb dX2_isSpent_1 rfl (lv_at hl 1 rfl) ?_
  refine hp_callMi (va_runV (As := [.int n]) (rest := []) ⟨hx, hb, hml, hown, hts⟩ (c_X2_countOf l D cy _ cs ad en hcs hw f0 n e12 e16 e14 e1 ) (kw_X2_countOf hts tw_449 ⟨by decide, by decide⟩) (preV_of hh hK (hcs _ (by decide)) e12 rfl) rfl rfl hl.1 rfl (lv_room (Nat.le_of_ble_eq_true rfl)) dX2_isSpent_2 ⟨Nat.le_of_ble_eq_true rfl, Nat.le_of_ble_eq_true rfl⟩) hh hA (fun r_103 H locs en_103 hw_103 hh => ?_)
  obtain ⟨rfl, w_103, f_103, e12_103, e16_103, hu_103⟩ := hw_103
  have e14_103 : en_103 14 = .inl (cy 7, 9, .inr (.inr (.inr (.inr (fun j => some (ad (15 + j))))))) := by rw [hu_103 _ (by decide) (by decide)]; exact e14
  have e1_103 : en_103 1 = .inr (7, [.ref (ad 2), .ref (ad 3), .ref (ad 10), .ref (ad 11), .int 0, .int 2, .int 0]) := by rw [hu_103 _ (by decide) (by decide)]; exact e1
  refine lv_sipush (v := 20000) hx hb dX2_isSpent_5 (by decide) ?_
  refine lv_icmp_le (tgt := 15) hx hb dX2_isSpent_8 (by decide) (fun _ => ?_) (fun c_0 => absurd c_0 (by decide))
  refine lv_iconst (v := 0) hx hb dX2_isSpent_15 (by decide) ?_
  exact hp_iretM hx hb hr rfl hlocks hh (⟨rfl, ⟨w_103, f_103, e12_103, e16_103, (fun c h0 h1 => by rw [hu_103 c h0 h1])⟩⟩) dX2_isSpent_16
theorem kw_X2_isSpent {R : Room} {s : State} {args : Array Value} {own : String} {idx : Nat} (hts : ∀ w ∈ TB, w.before args s = true) (hl : Cond.methodLink own idx yX2_isSpent ∈ TB) (hR : 3 + 1 ≤ R.frames ∧ 8 + (2 + 11) + 40 * 3 ≤ R.locals) : CallW R s args own RX2 idx yX2_isSpent cX2_isSpent 2 (some .boolean) (Cond.code yX2_isSpent cX2_isSpent 2 (some .boolean) :: TB) (rmN 3) 0 0 1 := cwV 1 hts (TB_V hl tw_446 tw_447 tw_3 tw_448) rfl rfl rfl (by decide +kernel) hR
set_option maxHeartbeats 4000000 in
set_option maxRecDepth 100000 in
/-- Survey.restart -/
theorem c_X6_restart (l : Launch) (D : va_G) (cy : Nat → ClassId) (sz : Nat) (cs : List Nat) (ad : Nat → Nat) (en : Nat → va_E) (q : Nat) (hq : q ∈ cs) (a1 a2 a3 : Nat) (i1 i2 i3 : Int32) (l1 l2 l3 l4 : Int64) (eq : en q = .inr (5, [.ref a1, .ref a2, .ref a3, .int i1, .int i2, .int i3, .long l1, .long l2, .long l3, .long l4]))  : Met l yX6_restart (Cond.code yX6_restart cX6_restart 1 none :: TB) (rmN 0) (va_Pc [.ref (ad q)] (Pre D cy cs ad en sz)) (va_Qv (S := Nat → va_E) (fun en1 => en1 = va_up en q (.inr (5, [.ref a1, .ref a2, .ref a3, .int 0, .int 0, .int 0, .long (-1), .long 9223372036854775807, .long 0, .long (-1)]))) (PostM D cs ad) (Af cs ad sz)) 0 0 (Af cs ad sz) := by
  refine Met.ofW (cc := cX6_restart) (maxL := 1) (ret := none) (by decide) rfl ?_
  intro p e s m args below meth c s₁ B hml hv
  obtain ⟨rfl, hsz, hP, hK, hD0⟩ := hv
  have hx := B.exec
  have hb := B.bytes
  have hr := B.returns
  have hts : ∀ w ∈ TB, w.before _ s = true := fun w h => atoms_spec (ws := _ :: TB) B.pre w (List.mem_cons_of_mem _ h)
  have hown : s.vm.findClass RX6 = some m.cls := findClass_of_methodNamed B.named
  have hlocks := B.notSynchronized
  have hh : Hp D (Af cs ad sz) (Af cs ad sz) s.heap s.heap [] cs ad en := ⟨hP, Af_self hD0, va_S.rf⟩
  have hA : ∀ q : Nat, s.heap.size ≤ q → Af cs ad sz q := fun q h => Or.inr (by rw [hsz] at h; exact h)
  have hl := lv_entry ([.ref (ad q)]) (n := 1) (Nat.le_of_ble_eq_true rfl)
  rw [lg_entry_eq]
  generalize (lg_sl ([.ref (ad q)]) ++ List.replicate (1 - (lg_sl ([.ref (ad q)])).length) Slot.unset).toArray = ls at hl ⊢
  have hl : lv_has ls 1 [(0, .ref (ad q))] := hl
  refine lv_aload_n hx hb dX6_restart_0 rfl (lv_at hl 0 rfl) ?_
  refine lv_iconst (v := 0) hx hb dX6_restart_1 (by decide) ?_
  refine hp_put hx hb hts ix6 tyX6 tyX6_ok nmX6 hown hK hh (q := q) rfl hq eq rfl 3 (by decide) (hts _ tw_85) (fun _ h9 => h9) rfl (ty := .boolean) (by decide +kernel) rfl rfl (Nat.le_of_ble_eq_true rfl) dX6_restart_2 (fun H locs en_104 hen_104 hh => ?_)
  have eq_104 : en_104 q = .inr (5, [.ref a1, .ref a2, .ref a3, .int 0, .int i2, .int i3, .long l1, .long l2, .long l3, .long l4]) := by rw [hen_104]; exact va_up_self _ _ _
  refine lv_aload_n hx hb dX6_restart_5 rfl (lv_at hl 0 rfl) ?_
  refine lv_iconst (v := 0) hx hb dX6_restart_6 (by decide) ?_
  refine hp_put hx hb hts ix6 tyX6 tyX6_ok nmX6 hown hK hh (q := q) rfl hq eq_104 rfl 4 (by decide) (hts _ tw_87) (fun _ h9 => h9) rfl (ty := .int) (by decide +kernel) rfl rfl (Nat.le_of_ble_eq_true rfl) dX6_restart_7 (fun H locs en_105 hen_105 hh => ?_)
  have eq_105 : en_105 q = .inr (5, [.ref a1, .ref a2, .ref a3, .int 0, .int 0, .int i3, .long l1, .long l2, .long l3, .long l4]) := by rw [hen_105]; exact va_up_self _ _ _
  refine lv_aload_n hx hb dX6_restart_10 rfl (lv_at hl 0 rfl) ?_
  refine lv_iconst (v := 0) hx hb dX6_restart_11 (by decide) ?_
  refine hp_put hx hb hts ix6 tyX6 tyX6_ok nmX6 hown hK hh (q := q) rfl hq eq_105 rfl 5 (by decide) (hts _ tw_89) (fun _ h9 => h9) rfl (ty := .int) (by decide +kernel) rfl rfl (Nat.le_of_ble_eq_true rfl) dX6_restart_12 (fun H locs en_106 hen_106 hh => ?_)
  have eq_106 : en_106 q = .inr (5, [.ref a1, .ref a2, .ref a3, .int 0, .int 0, .int 0, .long l1, .long l2, .long l3, .long l4]) := by rw [hen_106]; exact va_up_self _ _ _
  refine lv_aload_n hx hb dX6_restart_15 rfl (lv_at hl 0 rfl) ?_
  refine lv_ldc2 hx hb hown (hts _ tw_475) dX6_restart_16 ?_
  refine hp_put hx hb hts ix6 tyX6 tyX6_ok nmX6 hown hK hh (q := q) rfl hq eq_106 rfl 6 (by decide) (hts _ tw_91) (fun _ h9 => h9) rfl (ty := .long) (by decide +kernel) rfl rfl (Nat.le_of_ble_eq_true rfl) dX6_restart_19 (fun H locs en_107 hen_107 hh => ?_)
  have eq_107 : en_107 q = .inr (5, [.ref a1, .ref a2, .ref a3, .int 0, .int 0, .int 0, .long (-1), .long l2, .long l3, .long l4]) := by rw [hen_107]; exact va_up_self _ _ _
  refine lv_aload_n hx hb dX6_restart_22 rfl (lv_at hl 0 rfl) ?_
  refine lv_ldc2 hx hb hown (hts _ tw_476) dX6_restart_23 ?_
  refine hp_put hx hb hts ix6 tyX6 tyX6_ok nmX6 hown hK hh (q := q) rfl hq eq_107 rfl 7 (by decide) (hts _ tw_94) (fun _ h9 => h9) rfl (ty := .long) (by decide +kernel) rfl rfl (Nat.le_of_ble_eq_true rfl) dX6_restart_26 (fun H locs en_108 hen_108 hh => ?_)
  have eq_108 : en_108 q = .inr (5, [.ref a1, .ref a2, .ref a3, .int 0, .int 0, .int 0, .long (-1), .long 9223372036854775807, .long l3, .long l4]) := by rw [hen_108]; exact va_up_self _ _ _
  refine lv_aload_n hx hb dX6_restart_29 rfl (lv_at hl 0 rfl) ?_
  refine lv_lconst (v := 0) hx hb dX6_restart_30 (by decide) ?_
  refine hp_put hx hb hts ix6 tyX6 tyX6_ok nmX6 hown hK hh (q := q) rfl hq eq_108 rfl 8 (by decide) (hts _ tw_96) (fun _ h9 => h9) rfl (ty := .long) (by decide +kernel) rfl rfl (Nat.le_of_ble_eq_true rfl) dX6_restart_31 (fun H locs en_109 hen_109 hh => ?_)
  have eq_109 : en_109 q = .inr (5, [.ref a1, .ref a2, .ref a3, .int 0, .int 0, .int 0, .long (-1), .long 9223372036854775807, .long 0, .long l4]) := by rw [hen_109]; exact va_up_self _ _ _
  refine lv_aload_n hx hb dX6_restart_34 rfl (lv_at hl 0 rfl) ?_
  refine lv_ldc2 hx hb hown (hts _ tw_475) dX6_restart_35 ?_
  refine hp_put hx hb hts ix6 tyX6 tyX6_ok nmX6 hown hK hh (q := q) rfl hq eq_109 rfl 9 (by decide) (hts _ tw_98) (fun _ h9 => h9) rfl (ty := .long) (by decide +kernel) rfl rfl (Nat.le_of_ble_eq_true rfl) dX6_restart_38 (fun H locs en_110 hen_110 hh => ?_)
  have eq_110 : en_110 q = .inr (5, [.ref a1, .ref a2, .ref a3, .int 0, .int 0, .int 0, .long (-1), .long 9223372036854775807, .long 0, .long (-1)]) := by rw [hen_110]; exact va_up_self _ _ _
  exact hp_vretM hx hb hr hlocks hh (by rw [hen_110, hen_109, hen_108, hen_107, hen_106, hen_105, hen_104, bx_uu, bx_uu, bx_uu, bx_uu, bx_uu, bx_uu]; try rfl) dX6_restart_41
theorem kw_X6_restart {R : Room} {s : State} {args : Array Value} {own : String} {idx : Nat} (hts : ∀ w ∈ TB, w.before args s = true) (hl : Cond.methodLink own idx yX6_restart ∈ TB) (hR : 0 + 1 ≤ R.frames ∧ 8 + (1 + 11) + 40 * 0 ≤ R.locals) : CallW R s args own RX6 idx yX6_restart cX6_restart 1 none (Cond.code yX6_restart cX6_restart 1 none :: TB) (rmN 0) 0 0 0 := cwV 0 hts (TB_V hl tw_472 tw_473 tw_4 tw_474) rfl rfl rfl (by decide +kernel) hR
