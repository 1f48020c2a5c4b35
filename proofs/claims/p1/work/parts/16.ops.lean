set_option maxHeartbeats 4000000 in
set_option maxRecDepth 100000 in
/-- walk, no TABLES -/
theorem c_X2_walk (l : Launch) (D : va_G) (cy : Nat → ClassId) (sz : Nat) (cs : List Nat) (ad : Nat → Nat) (en : Nat → va_E) (hcs : ∀ c, c < 115 → c ∈ cs) (hw : Int32) (av : Nat) (n : Int32) (hn : (0 : Int32) < n) (e12 : en 12 = .inr (2, [.ref (ad 1), .ref (ad 13), .ref (ad 14), .ref (ad 24), .ref (ad 33), .int hw])) (e1 : en 1 = .inr (7, [.ref (ad 2), .ref (ad 3), .ref (ad 10), .ref (ad 11), .int 0, .int 2, .int 0]))  : Met l yX2_walk (Cond.code yX2_walk cX2_walk 5 none :: TB) (rmN 1) (va_Pc [.ref (ad 12), .ref av, .int n, .int 0] (Pre D cy cs ad en sz)) (va_Qv (S := Nat → va_E) (fun en1 => en1 = en) (PostM D cs ad) (Af cs ad sz)) 0 0 (Af cs ad sz) := by
  refine Met.ofW (cc := cX2_walk) (maxL := 5) (ret := none) (by decide) rfl ?_
  intro p e s m args below meth c s₁ B hml hv
  obtain ⟨rfl, hsz, hP, hK, hD0⟩ := hv
  have hx := B.exec
  have hb := B.bytes
  have hr := B.returns
  have hts : ∀ w ∈ TB, w.before _ s = true := fun w h => atoms_spec (ws := _ :: TB) B.pre w (List.mem_cons_of_mem _ h)
  have hown : s.vm.findClass RX2 = some m.cls := findClass_of_methodNamed B.named
  have hlocks := B.notSynchronized
  have hh : Hp D (Af cs ad sz) (Af cs ad sz) s.heap s.heap [] cs ad en := ⟨hP, Af_self hD0, va_S.rf⟩
  have hA : ∀ q : Nat, s.heap.size ≤ q → Af cs ad sz q := fun q h => Or.inr (by rw [hsz] at h; exact h)
  have hl := lv_entry ([.ref (ad 12), .ref av, .int n, .int 0]) (n := 5) (Nat.le_of_ble_eq_true rfl)
  rw [lg_entry_eq]
  generalize (lg_sl ([.ref (ad 12), .ref av, .int n, .int 0]) ++ List.replicate (5 - (lg_sl ([.ref (ad 12), .ref av, .int n, .int 0])).length) Slot.unset).toArray = ls at hl ⊢
  have hl : lv_has ls 5 [(0, .ref (ad 12)), (1, .ref av), (2, .int n), (3, .int 0)] := hl
  refine lv_iload_n hx hb dX2_walk_0 rfl (lv_at hl 3 rfl) ?_
  refine lv_iload_n hx hb dX2_walk_1 rfl (lv_at hl 2 rfl) ?_
  refine lv_icmp_lt (tgt := 12) hx hb dX2_walk_2 (by decide) (fun _ => ?_) (fun c_0 => absurd (hn) c_0)
  refine lv_iconst (v := 0) hx hb dX2_walk_12 (by decide) ?_
  refine lv_istore (lv' := [(4, .int 0), (0, .ref (ad 12)), (1, .ref av), (2, .int n), (3, .int 0)]) hx hb dX2_walk_13 hl (by decide) rfl (fun ls hl => ?_)
  refine lv_iload hx hb dX2_walk_15 (lv_at hl 0 rfl) ?_
  refine lv_aload_n hx hb dX2_walk_17 rfl (lv_at hl 1 rfl) ?_
  refine hp_get hx hb hts ix2 hown hK hh (q := 12) rfl (hcs _ (by decide)) e12 rfl 0 (by decide) (hts _ tw_122) (fun _ h9 => h9) rfl dX2_walk_18 ?_
  refine hp_callRi (va_runV (As := []) (rest := [.int 0]) ⟨hx, hb, hml, hown, hts⟩ (c_X8_count l D cy _ cs ad en hcs 0 2 0 e1) (kw_X8_count hts tw_460 ⟨by decide, by decide⟩) (preV_of hh hK (hcs _ (by decide)) e1 rfl) rfl rfl hl.1 rfl (lv_room (Nat.le_of_ble_eq_true rfl)) dX2_walk_21 ⟨Nat.le_of_ble_eq_true rfl, Nat.le_of_ble_eq_true rfl⟩) hh hA (fun r_111 H locs hw_111 hh => ?_)
  obtain rfl : r_111 = 0 := hw_111
  refine lv_icmp_ge (tgt := 60) hx hb dX2_walk_24 (by decide) (fun _ => ?_) (fun c_0 => absurd c_0 (by decide))
  exact hp_vretM hx hb hr hlocks hh (rfl) dX2_walk_60
theorem kw_X2_walk {R : Room} {s : State} {args : Array Value} {idx : Nat} (hts : ∀ w ∈ TB, w.before args s = true) (hl : Cond.methodLink RX2 idx yX2_walk ∈ TB) (hR : 1 + 1 ≤ R.frames ∧ 8 + (5 + 11) + 40 * 1 ≤ R.locals) : CallB R s args RX2 idx yX2_walk cX2_walk 5 none (Cond.code yX2_walk cX2_walk 5 none :: TB) (rmN 1) 0 0 4 ∧ (Cond.static yX2_walk).before args s = true := cwS 4 hts (TB_S hl tw_478 tw_3 tw_479) rfl rfl rfl (by decide +kernel) hR
set_option maxHeartbeats 4000000 in
set_option maxRecDepth 100000 in
/-- surveyOf, no TABLES -/
theorem c_X2_surveyOf (l : Launch) (D : va_G) (cy : Nat → ClassId) (sz : Nat) (cs : List Nat) (ad : Nat → Nat) (en : Nat → va_E) (hcs : ∀ c, c < 115 → c ∈ cs) (hw : Int32) (f0 : Nat → Int32) (n : Int32) (hn : wi n 1 8) (e12 : en 12 = .inr (2, [.ref (ad 1), .ref (ad 13), .ref (ad 14), .ref (ad 24), .ref (ad 33), .int hw])) (e16 : en 16 = .inl (cy 0, 6, .inl f0)) (e14 : en 14 = .inl (cy 7, 9, .inr (.inr (.inr (.inr (fun j => some (ad (15 + j)))))))) (e1 : en 1 = .inr (7, [.ref (ad 2), .ref (ad 3), .ref (ad 10), .ref (ad 11), .int 0, .int 2, .int 0])) (e13 : en 13 = .inl (cy 4, 9, .inr (.inr (.inr (.inr (fun j => some (ad (34 + 4 * j)))))))) (hv : ∀ j, j < 9 → en (34 + 4 * j) = .inr (5, [.ref (ad (35 + 4 * j)), .ref (ad (36 + 4 * j)), .ref (ad (37 + 4 * j)), .int 0, .int 0, .int 0, .long 0, .long 0, .long 0, .long 0])) : Met l yX2_surveyOf (Cond.code yX2_surveyOf cX2_surveyOf 3 (some (.object "AnyOrder$Survey")) :: TB) (rmN 2) (va_Pc [.ref (ad 12), .int n] (Pre D cy cs ad en sz)) (va_Qq (S := Nat → va_E) (fun r en1 => r = some (ad (34 + 4 * n.toNatClampNeg)) ∧ en1 (34 + 4 * n.toNatClampNeg) = .inr (5, [.ref (ad (35 + 4 * n.toNatClampNeg)), .ref (ad (36 + 4 * n.toNatClampNeg)), .ref (ad (37 + 4 * n.toNatClampNeg)), .int 1, .int 0, .int 0, .long (-1), .long 9223372036854775807, .long 0, .long (-1)])) (PostM D cs ad) (Af cs ad sz)) 0 0 (Af cs ad sz) := by
  refine Met.ofW (cc := cX2_surveyOf) (maxL := 3) (ret := (some (.object "AnyOrder$Survey"))) (by decide) rfl ?_
  intro p e s m args below meth c s₁ B hml hv
  obtain ⟨rfl, hsz, hP, hK, hD0⟩ := hv
  have hx := B.exec
  have hb := B.bytes
  have hr := B.returns
  have hts : ∀ w ∈ TB, w.before _ s = true := fun w h => atoms_spec (ws := _ :: TB) B.pre w (List.mem_cons_of_mem _ h)
  have hown : s.vm.findClass RX2 = some m.cls := findClass_of_methodNamed B.named
  have hlocks := B.notSynchronized
  have hh : Hp D (Af cs ad sz) (Af cs ad sz) s.heap s.heap [] cs ad en := ⟨hP, Af_self hD0, va_S.rf⟩
  have hA : ∀ q : Nat, s.heap.size ≤ q → Af cs ad sz q := fun q h => Or.inr (by rw [hsz] at h; exact h)
  have hl := lv_entry ([.ref (ad 12), .int n]) (n := 3) (Nat.le_of_ble_eq_true rfl)
  rw [lg_entry_eq]
  generalize (lg_sl ([.ref (ad 12), .int n]) ++ List.replicate (3 - (lg_sl ([.ref (ad 12), .int n])).length) Slot.unset).toArray = ls at hl ⊢
  have hl : lv_has ls 3 [(0, .ref (ad 12)), (1, .int n)] := hl
  refine lv_aload_n hx hb dX2_surveyOf_0 rfl (lv_at hl 0 rfl) ?_
  refine hp_get hx hb hts ix2 hown hK hh (q := 12) rfl (hcs _ (by decide)) e12 rfl 1 (by decide) (hts _ tw_123) (fun _ h9 => h9) rfl dX2_surveyOf_1 ?_
  refine lv_iload_n hx hb dX2_surveyOf_4 rfl (lv_at hl 1 rfl) ?_
  have hj_112 : n.toNatClampNeg < 9 := wi_lt1 9 hn (by decide) (by decide)
  have es112 : en (34 + 4 * n.toNatClampNeg) = .inr (5, [.ref (ad (35 + 4 * n.toNatClampNeg)), .ref (ad (36 + 4 * n.toNatClampNeg)), .ref (ad (37 + 4 * n.toNatClampNeg)), .int 0, .int 0, .int 0, .long 0, .long 0, .long 0, .long 0]) := hv _ hj_112
  refine hp_aald hx hb hK hh (q := 13) rfl (hcs _ (by decide)) 4 e13 rfl rfl (wi_in1 9 hn (by decide) (by decide)) (v := .ref (ad (34 + 4 * n.toNatClampNeg))) (rfl) dX2_surveyOf_5 ?_
  refine lv_astore_n (lv' := [(2, .ref (ad (34 + 4 * n.toNatClampNeg))), (0, .ref (ad 12)), (1, .int n)]) hx hb dX2_surveyOf_6 rfl hl (by decide) rfl (fun ls hl => ?_)
  refine lv_aload_n hx hb dX2_surveyOf_7 rfl (lv_at hl 0 rfl) ?_
  refine hp_get hx hb hts ix6 hown hK hh (q := (34 + 4 * n.toNatClampNeg)) rfl (hcs _ (by omega)) es112 rfl 3 (by decide) (hts _ tw_86) (fun _ h9 => h9) rfl dX2_surveyOf_8 ?_
  refine lv_if_ne (tgt := 34) hx hb dX2_surveyOf_11 (by decide) (fun c_0 => absurd c_0 (by decide)) (fun _ => ?_)
  refine lv_aload_n hx hb dX2_surveyOf_14 rfl (lv_at hl 1 rfl) ?_
  refine hp_callMv (va_runV (As := []) (rest := []) ⟨hx, hb, hml, hown, hts⟩ (c_X2_findWays l D cy _ cs ad en hcs hw f0 e12 e16 e14 e1 ) (kw_X2_findWays hts tw_453 ⟨by decide, by decide⟩) (preV_of hh hK (hcs _ (by decide)) e12 rfl) rfl rfl hl.1 rfl (lv_room (Nat.le_of_ble_eq_true rfl)) dX2_surveyOf_15 ⟨Nat.le_of_ble_eq_true rfl, Nat.le_of_ble_eq_true rfl⟩) hh hA (fun H locs en_113 hw_113 hh => ?_)
  obtain ⟨w_113, f_113, e12_113, e16_113, hu_113⟩ := hw_113
  have e14_113 : en_113 14 = .inl (cy 7, 9, .inr (.inr (.inr (.inr (fun j => some (ad (15 + j))))))) := by rw [hu_113 _ (by decide) (by decide)]; exact e14
  have e1_113 : en_113 1 = .inr (7, [.ref (ad 2), .ref (ad 3), .ref (ad 10), .ref (ad 11), .int 0, .int 2, .int 0]) := by rw [hu_113 _ (by decide) (by decide)]; exact e1
  have e13_113 : en_113 13 = .inl (cy 4, 9, .inr (.inr (.inr (.inr (fun j => some (ad (34 + 4 * j))))))) := by rw [hu_113 _ (by decide) (by decide)]; exact e13
  have es112_113 : en_113 (34 + 4 * n.toNatClampNeg) = .inr (5, [.ref (ad (35 + 4 * n.toNatClampNeg)), .ref (ad (36 + 4 * n.toNatClampNeg)), .ref (ad (37 + 4 * n.toNatClampNeg)), .int 0, .int 0, .int 0, .long 0, .long 0, .long 0, .long 0]) := by rw [hu_113 _ (by omega) (by omega)]; exact es112
  have hv_113 : ∀ j, j < 9 → en_113 (34 + 4 * j) = .inr (5, [.ref (ad (35 + 4 * j)), .ref (ad (36 + 4 * j)), .ref (ad (37 + 4 * j)), .int 0, .int 0, .int 0, .long 0, .long 0, .long 0, .long 0]) := fun j hj => by rw [hu_113 _ (by omega) (by omega)]; exact hv j hj
  refine lv_aload_n hx hb dX2_surveyOf_18 rfl (lv_at hl 0 rfl) ?_
  refine hp_callMv (va_runV (As := []) (rest := []) ⟨hx, hb, hml, hown, hts⟩ (c_X6_restart l D cy _ cs ad en_113 (34 + 4 * n.toNatClampNeg) (hcs _ (by omega)) (ad (35 + 4 * n.toNatClampNeg)) (ad (36 + 4 * n.toNatClampNeg)) (ad (37 + 4 * n.toNatClampNeg)) 0 0 0 0 0 0 0 es112_113) (kw_X6_restart hts tw_471 ⟨by decide, by decide⟩) (preV_of hh hK (hcs _ (by omega)) es112_113 rfl) rfl rfl hl.1 rfl (lv_room (Nat.le_of_ble_eq_true rfl)) dX2_surveyOf_19 ⟨Nat.le_of_ble_eq_true rfl, Nat.le_of_ble_eq_true rfl⟩) hh hA (fun H locs en_114 hw_114 hh => ?_)
  have hen_114 : en_114 = va_up en_113 (34 + 4 * n.toNatClampNeg) (.inr (5, [.ref (ad (35 + 4 * n.toNatClampNeg)), .ref (ad (36 + 4 * n.toNatClampNeg)), .ref (ad (37 + 4 * n.toNatClampNeg)), .int 0, .int 0, .int 0, .long (-1), .long 9223372036854775807, .long 0, .long (-1)])) := hw_114
  have e14_114 : en_114 14 = .inl (cy 7, 9, .inr (.inr (.inr (.inr (fun j => some (ad (15 + j))))))) := by rw [hen_114, va_up_ne _ _ (by omega)]; exact e14_113
  have e1_114 : en_114 1 = .inr (7, [.ref (ad 2), .ref (ad 3), .ref (ad 10), .ref (ad 11), .int 0, .int 2, .int 0]) := by rw [hen_114, va_up_ne _ _ (by omega)]; exact e1_113
  have e13_114 : en_114 13 = .inl (cy 4, 9, .inr (.inr (.inr (.inr (fun j => some (ad (34 + 4 * j))))))) := by rw [hen_114, va_up_ne _ _ (by omega)]; exact e13_113
  have e12_114 : en_114 12 = .inr (2, [.ref (ad 1), .ref (ad 13), .ref (ad 14), .ref (ad 24), .ref (ad 33), .int w_113]) := by rw [hen_114, va_up_ne _ _ (by omega)]; exact e12_113
  have e16_114 : en_114 16 = .inl (cy 0, 6, .inl f_113) := by rw [hen_114, va_up_ne _ _ (by omega)]; exact e16_113
  have es112_114 : en_114 (34 + 4 * n.toNatClampNeg) = .inr (5, [.ref (ad (35 + 4 * n.toNatClampNeg)), .ref (ad (36 + 4 * n.toNatClampNeg)), .ref (ad (37 + 4 * n.toNatClampNeg)), .int 0, .int 0, .int 0, .long (-1), .long 9223372036854775807, .long 0, .long (-1)]) := by rw [hen_114]; exact va_up_self _ _ _
  refine lv_aload_n hx hb dX2_surveyOf_22 rfl (lv_at hl 1 rfl) ?_
  refine lv_aload_n hx hb dX2_surveyOf_23 rfl (lv_at hl 0 rfl) ?_
  refine lv_iload_n hx hb dX2_surveyOf_24 rfl (lv_at hl 2 rfl) ?_
  refine lv_iconst (v := 0) hx hb dX2_surveyOf_25 (by decide) ?_
  refine hp_callMv (va_runS (As := [.ref (ad 12), .ref (ad (34 + 4 * n.toNatClampNeg)), .int n, .int 0]) (rest := []) ⟨hx, hb, hml, hown, hts⟩ (c_X2_walk l D cy _ cs ad en_114 hcs w_113 (ad (34 + 4 * n.toNatClampNeg)) n (wi_pos hn) e12_114 e1_114) (kw_X2_walk hts tw_477 ⟨by decide, by decide⟩) (preS_of hh hK) rfl rfl hl.1 rfl (lv_room (Nat.le_of_ble_eq_true rfl)) dX2_surveyOf_26 ⟨Nat.le_of_ble_eq_true rfl, Nat.le_of_ble_eq_true rfl⟩) hh hA (fun H locs en_115 hw_115 hh => ?_)
  have hid_115 : en_115 = en_114 := hw_115
  rw [hid_115] at hh
  refine lv_aload_n hx hb dX2_surveyOf_29 rfl (lv_at hl 0 rfl) ?_
  refine lv_iconst (v := 1) hx hb dX2_surveyOf_30 (by decide) ?_
  refine hp_put hx hb hts ix6 tyX6 tyX6_ok nmX6 hown hK hh (q := (34 + 4 * n.toNatClampNeg)) rfl (hcs _ (by omega)) es112_114 rfl 3 (by decide) (hts _ tw_86) (fun _ h9 => h9) rfl (ty := .boolean) (by decide +kernel) rfl rfl (Nat.le_of_ble_eq_true rfl) dX2_surveyOf_31 (fun H locs en_116 hen_116 hh => ?_)
  have e14_116 : en_116 14 = .inl (cy 7, 9, .inr (.inr (.inr (.inr (fun j => some (ad (15 + j))))))) := by rw [hen_116, va_up_ne _ _ (by omega)]; exact e14_114
  have e1_116 : en_116 1 = .inr (7, [.ref (ad 2), .ref (ad 3), .ref (ad 10), .ref (ad 11), .int 0, .int 2, .int 0]) := by rw [hen_116, va_up_ne _ _ (by omega)]; exact e1_114
  have e13_116 : en_116 13 = .inl (cy 4, 9, .inr (.inr (.inr (.inr (fun j => some (ad (34 + 4 * j))))))) := by rw [hen_116, va_up_ne _ _ (by omega)]; exact e13_114
  have e12_116 : en_116 12 = .inr (2, [.ref (ad 1), .ref (ad 13), .ref (ad 14), .ref (ad 24), .ref (ad 33), .int w_113]) := by rw [hen_116, va_up_ne _ _ (by omega)]; exact e12_114
  have e16_116 : en_116 16 = .inl (cy 0, 6, .inl f_113) := by rw [hen_116, va_up_ne _ _ (by omega)]; exact e16_114
  have es112_116 : en_116 (34 + 4 * n.toNatClampNeg) = .inr (5, [.ref (ad (35 + 4 * n.toNatClampNeg)), .ref (ad (36 + 4 * n.toNatClampNeg)), .ref (ad (37 + 4 * n.toNatClampNeg)), .int 1, .int 0, .int 0, .long (-1), .long 9223372036854775807, .long 0, .long (-1)]) := by rw [hen_116]; exact va_up_self _ _ _
  refine lv_aload_n hx hb dX2_surveyOf_34 rfl (lv_at hl 0 rfl) ?_
  exact hp_aretM (v := some (ad (34 + 4 * n.toNatClampNeg))) rfl hx hb hr (Or.inl ⟨_, rfl⟩) hlocks hh (⟨rfl, es112_116⟩) dX2_surveyOf_35
theorem kw_X2_surveyOf {R : Room} {s : State} {args : Array Value} {own : String} {idx : Nat} (hts : ∀ w ∈ TB, w.before args s = true) (hl : Cond.methodLink own idx yX2_surveyOf ∈ TB) (hR : 2 + 1 ≤ R.frames ∧ 8 + (3 + 11) + 40 * 2 ≤ R.locals) : CallW R s args own RX2 idx yX2_surveyOf cX2_surveyOf 3 (some (.object "AnyOrder$Survey")) (Cond.code yX2_surveyOf cX2_surveyOf 3 (some (.object "AnyOrder$Survey")) :: TB) (rmN 2) 0 0 1 := cwV 1 hts (TB_V hl tw_468 tw_469 tw_3 tw_470) rfl rfl rfl (by decide +kernel) hR
theorem w_3 {w : Int32} (h : wi w 0 3) (h0 : ¬ w = 0) (h1 : ¬ w = 1) (h2 : ¬ w = 2) : w = 3 := by
  apply Int32.toInt_inj.mp
  have := h.1
  have := h.2
  have := i_neq h0
  have := i_neq h1
  have := i_neq h2
  have : (0 : Int32).toInt = 0 := by decide
  have : (1 : Int32).toInt = 1 := by decide
  have : (2 : Int32).toInt = 2 := by decide
  have : (3 : Int32).toInt = 3 := by decide
  omega
set_option maxHeartbeats 4000000 in
set_option maxRecDepth 100000 in
/-- length, new object -/
theorem c_X11_length (l : Launch) (D : va_G) (cy : Nat → ClassId) (sz : Nat) (cs : List Nat) (ad : Nat → Nat) (en : Nat → va_E) (hcs : ∀ c, c < 115 → c ∈ cs) (lf : Int32) (hw : Int32) (f0 : Nat → Int32) (n w : Int32) (e0 : en 0 = .inr (10, [.ref (ad 1), .ref (ad 12), .ref (ad 70), .ref (ad 74), .ref (ad 75), .ref (ad 76), .int 0, .int lf])) (e12 : en 12 = .inr (2, [.ref (ad 1), .ref (ad 13), .ref (ad 14), .ref (ad 24), .ref (ad 33), .int hw])) (e16 : en 16 = .inl (cy 0, 6, .inl f0)) (e14 : en 14 = .inl (cy 7, 9, .inr (.inr (.inr (.inr (fun j => some (ad (15 + j)))))))) (e1 : en 1 = .inr (7, [.ref (ad 2), .ref (ad 3), .ref (ad 10), .ref (ad 11), .int 0, .int 2, .int 0])) (e13 : en 13 = .inl (cy 4, 9, .inr (.inr (.inr (.inr (fun j => some (ad (34 + 4 * j)))))))) (hv : ∀ j, j < 9 → en (34 + 4 * j) = .inr (5, [.ref (ad (35 + 4 * j)), .ref (ad (36 + 4 * j)), .ref (ad (37 + 4 * j)), .int 0, .int 0, .int 0, .long 0, .long 0, .long 0, .long 0])) : Met l yX11_length (Cond.code yX11_length cX11_length 4 (some .long) :: TB) (rmN 4) (va_Pc [.ref (ad 0), .int n, .int w] (Pre D cy cs ad en sz)) (va_Ql (S := Nat → va_E) (fun r _ => r = spLen n w) (PostM D cs ad) (Af cs ad sz)) 0 0 (Af cs ad sz) := by
  refine Met.ofW (cc := cX11_length) (maxL := 4) (ret := (some .long)) (by decide) rfl ?_
  intro p e s m args below meth c s₁ B hml hv
  obtain ⟨rfl, hsz, hP, hK, hD0⟩ := hv
  have hx := B.exec
  have hb := B.bytes
  have hr := B.returns
  have hts : ∀ w ∈ TB, w.before _ s = true := fun w h => atoms_spec (ws := _ :: TB) B.pre w (List.mem_cons_of_mem _ h)
  have hown : s.vm.findClass RX11 = some m.cls := findClass_of_methodNamed B.named
  have hlocks := B.notSynchronized
  have hh : Hp D (Af cs ad sz) (Af cs ad sz) s.heap s.heap [] cs ad en := ⟨hP, Af_self hD0, va_S.rf⟩
  have hA : ∀ q : Nat, s.heap.size ≤ q → Af cs ad sz q := fun q h => Or.inr (by rw [hsz] at h; exact h)
  have hl := lv_entry ([.ref (ad 0), .int n, .int w]) (n := 4) (Nat.le_of_ble_eq_true rfl)
  rw [lg_entry_eq]
  generalize (lg_sl ([.ref (ad 0), .int n, .int w]) ++ List.replicate (4 - (lg_sl ([.ref (ad 0), .int n, .int w])).length) Slot.unset).toArray = ls at hl ⊢
  have hl : lv_has ls 4 [(0, .ref (ad 0)), (1, .int n), (2, .int w)] := hl
  refine lv_iload_n hx hb dX11_length_0 rfl (lv_at hl 1 rfl) ?_
  refine lv_iconst (v := 1) hx hb dX11_length_1 (by decide) ?_
  refine lv_bipush (v := 8) hx hb dX11_length_2 (by decide) ?_
  refine hp_callRi (va_runS (As := [.int n, .int 1, .int 8]) (rest := []) ⟨hx, hb, hml, hown, hts⟩ (c_X11_isWithin l D cy _ cs ad en n 1 8 ) (kw_X11_isWithin hts tw_274 ⟨by decide, by decide⟩) (preS_of hh hK) rfl rfl hl.1 rfl (lv_room (Nat.le_of_ble_eq_true rfl)) dX11_length_4 ⟨Nat.le_of_ble_eq_true rfl, Nat.le_of_ble_eq_true rfl⟩) hh hA (fun r_117 H locs hw_117 hh => ?_)
  rcases Decidable.em (wi n 1 8) with hp_117 | hp_117
  · obtain rfl : r_117 = 1 := Eq.trans hw_117 (if_pos hp_117)
    refine lv_if_eq (tgt := 19) hx hb dX11_length_7 (by decide) (fun c_0 => absurd c_0 (by decide)) (fun _ => ?_)
    refine lv_iload_n hx hb dX11_length_10 rfl (lv_at hl 2 rfl) ?_
    refine lv_iconst (v := 0) hx hb dX11_length_11 (by decide) ?_
    refine lv_iconst (v := 3) hx hb dX11_length_12 (by decide) ?_
    refine hp_callRi (va_runS (As := [.int w, .int 0, .int 3]) (rest := []) ⟨hx, hb, hml, hown, hts⟩ (c_X11_isWithin l D cy _ cs ad en w 0 3 ) (kw_X11_isWithin hts tw_274 ⟨by decide, by decide⟩) (preS_of hh hK) rfl rfl hl.1 rfl (lv_room (Nat.le_of_ble_eq_true rfl)) dX11_length_13 ⟨Nat.le_of_ble_eq_true rfl, Nat.le_of_ble_eq_true rfl⟩) hh hA (fun r_118 H locs hw_118 hh => ?_)
    rcases Decidable.em (wi w 0 3) with hp_118 | hp_118
    · obtain rfl : r_118 = 1 := Eq.trans hw_118 (if_pos hp_118)
      refine lv_if_ne (tgt := 23) hx hb dX11_length_16 (by decide) (fun _ => ?_) (fun c_0 => absurd c_0 (by decide))
      refine lv_aload_n hx hb dX11_length_23 rfl (lv_at hl 0 rfl) ?_
      refine hp_get hx hb hts ix11 hown hK hh (q := 0) rfl (hcs _ (by decide)) e0 rfl 1 (by decide) (hts _ tw_246) (fun _ h9 => h9) rfl dX11_length_24 ?_
      refine lv_iload_n hx hb dX11_length_27 rfl (lv_at hl 1 rfl) ?_
      refine hp_callMi (va_runV (As := [.int n]) (rest := []) ⟨hx, hb, hml, hown, hts⟩ (c_X2_isSpent l D cy _ cs ad en hcs hw f0 n e12 e16 e14 e1 ) (kw_X2_isSpent hts tw_445 ⟨by decide, by decide⟩) (preV_of hh hK (hcs _ (by decide)) e12 rfl) rfl rfl hl.1 rfl (lv_room (Nat.le_of_ble_eq_true rfl)) dX11_length_28 ⟨Nat.le_of_ble_eq_true rfl, Nat.le_of_ble_eq_true rfl⟩) hh hA (fun r_119 H locs en_119 hw_119 hh => ?_)
      obtain ⟨rfl, w_119, f_119, e12_119, e16_119, hu_119⟩ := hw_119
      have e0_119 : en_119 0 = .inr (10, [.ref (ad 1), .ref (ad 12), .ref (ad 70), .ref (ad 74), .ref (ad 75), .ref (ad 76), .int 0, .int lf]) := by rw [hu_119 _ (by decide) (by decide)]; exact e0
      have e14_119 : en_119 14 = .inl (cy 7, 9, .inr (.inr (.inr (.inr (fun j => some (ad (15 + j))))))) := by rw [hu_119 _ (by decide) (by decide)]; exact e14
      have e1_119 : en_119 1 = .inr (7, [.ref (ad 2), .ref (ad 3), .ref (ad 10), .ref (ad 11), .int 0, .int 2, .int 0]) := by rw [hu_119 _ (by decide) (by decide)]; exact e1
      have e13_119 : en_119 13 = .inl (cy 4, 9, .inr (.inr (.inr (.inr (fun j => some (ad (34 + 4 * j))))))) := by rw [hu_119 _ (by decide) (by decide)]; exact e13
      have hv_119 : ∀ j, j < 9 → en_119 (34 + 4 * j) = .inr (5, [.ref (ad (35 + 4 * j)), .ref (ad (36 + 4 * j)), .ref (ad (37 + 4 * j)), .int 0, .int 0, .int 0, .long 0, .long 0, .long 0, .long 0]) := fun j hj => by rw [hu_119 _ (by omega) (by omega)]; exact hv j hj
      refine lv_if_eq (tgt := 38) hx hb dX11_length_31 (by decide) (fun _ => ?_) (fun c_0 => absurd c_0 (by decide))
      refine lv_aload_n hx hb dX11_length_38 rfl (lv_at hl 0 rfl) ?_
      refine hp_get hx hb hts ix11 hown hK hh (q := 0) rfl (hcs _ (by decide)) e0_119 rfl 1 (by decide) (hts _ tw_246) (fun _ h9 => h9) rfl dX11_length_39 ?_
      refine lv_iload_n hx hb dX11_length_42 rfl (lv_at hl 1 rfl) ?_
      refine hp_callMi (va_runV (As := [.int n]) (rest := []) ⟨hx, hb, hml, hown, hts⟩ (c_X2_countOf l D cy _ cs ad en_119 hcs w_119 f_119 n e12_119 e16_119 e14_119 e1_119 ) (kw_X2_countOf hts tw_466 ⟨by decide, by decide⟩) (preV_of hh hK (hcs _ (by decide)) e12_119 rfl) rfl rfl hl.1 rfl (lv_room (Nat.le_of_ble_eq_true rfl)) dX11_length_43 ⟨Nat.le_of_ble_eq_true rfl, Nat.le_of_ble_eq_true rfl⟩) hh hA (fun r_120 H locs en_120 hw_120 hh => ?_)
      obtain ⟨rfl, w_120, f_120, e12_120, e16_120, hu_120⟩ := hw_120
      have e0_120 : en_120 0 = .inr (10, [.ref (ad 1), .ref (ad 12), .ref (ad 70), .ref (ad 74), .ref (ad 75), .ref (ad 76), .int 0, .int lf]) := by rw [hu_120 _ (by decide) (by decide)]; exact e0_119
      have e14_120 : en_120 14 = .inl (cy 7, 9, .inr (.inr (.inr (.inr (fun j => some (ad (15 + j))))))) := by rw [hu_120 _ (by decide) (by decide)]; exact e14_119
      have e1_120 : en_120 1 = .inr (7, [.ref (ad 2), .ref (ad 3), .ref (ad 10), .ref (ad 11), .int 0, .int 2, .int 0]) := by rw [hu_120 _ (by decide) (by decide)]; exact e1_119
      have e13_120 : en_120 13 = .inl (cy 4, 9, .inr (.inr (.inr (.inr (fun j => some (ad (34 + 4 * j))))))) := by rw [hu_120 _ (by decide) (by decide)]; exact e13_119
      have hv_120 : ∀ j, j < 9 → en_120 (34 + 4 * j) = .inr (5, [.ref (ad (35 + 4 * j)), .ref (ad (36 + 4 * j)), .ref (ad (37 + 4 * j)), .int 0, .int 0, .int 0, .long 0, .long 0, .long 0, .long 0]) := fun j hj => by rw [hu_120 _ (by omega) (by omega)]; exact hv_119 j hj
      refine lv_if_ne (tgt := 53) hx hb dX11_length_46 (by decide) (fun c_0 => absurd c_0 (by decide)) (fun _ => ?_)
      refine lv_iconst (v := 1) hx hb dX11_length_49 (by decide) ?_
      refine lv_goto (tgt := 54) hx hb dX11_length_50 (by decide) ?_
      refine lv_istore_n (lv' := [(3, .int 1), (0, .ref (ad 0)), (1, .int n), (2, .int w)]) hx hb dX11_length_54 rfl hl (by decide) rfl (fun ls hl => ?_)
      refine lv_iload_n hx hb dX11_length_55 rfl (lv_at hl 3 rfl) ?_
      by_cases q_121_0 : w = 0
      · refine lv_tableIn (off := 28) (tgt := 84) hx hb dX11_length_56 (by rw [q_121_0]; decide) (by rw [q_121_0]; decide) (by rw [q_121_0]; decide) (by decide) ?_
        refine lv_aload_n hx hb dX11_length_84 rfl (lv_at hl 1 rfl) ?_
        refine hp_get hx hb hts ix11 hown hK hh (q := 0) rfl (hcs _ (by decide)) e0_120 rfl 1 (by decide) (hts _ tw_246) (fun _ h9 => h9) rfl dX11_length_85 ?_
        refine lv_iload_n hx hb dX11_length_88 rfl (lv_at hl 2 rfl) ?_
        refine hp_callMi (va_runV (As := [.int n]) (rest := []) ⟨hx, hb, hml, hown, hts⟩ (c_X2_countOf l D cy _ cs ad en_120 hcs w_120 f_120 n e12_120 e16_120 e14_120 e1_120 ) (kw_X2_countOf hts tw_466 ⟨by decide, by decide⟩) (preV_of hh hK (hcs _ (by decide)) e12_120 rfl) rfl rfl hl.1 rfl (lv_room (Nat.le_of_ble_eq_true rfl)) dX11_length_89 ⟨Nat.le_of_ble_eq_true rfl, Nat.le_of_ble_eq_true rfl⟩) hh hA (fun r_122 H locs en_122 hw_122 hh => ?_)
        obtain ⟨rfl, w_122, f_122, e12_122, e16_122, hu_122⟩ := hw_122
        have e0_122 : en_122 0 = .inr (10, [.ref (ad 1), .ref (ad 12), .ref (ad 70), .ref (ad 74), .ref (ad 75), .ref (ad 76), .int 0, .int lf]) := by rw [hu_122 _ (by decide) (by decide)]; exact e0_120
        have e14_122 : en_122 14 = .inl (cy 7, 9, .inr (.inr (.inr (.inr (fun j => some (ad (15 + j))))))) := by rw [hu_122 _ (by decide) (by decide)]; exact e14_120
        have e1_122 : en_122 1 = .inr (7, [.ref (ad 2), .ref (ad 3), .ref (ad 10), .ref (ad 11), .int 0, .int 2, .int 0]) := by rw [hu_122 _ (by decide) (by decide)]; exact e1_120
        have e13_122 : en_122 13 = .inl (cy 4, 9, .inr (.inr (.inr (.inr (fun j => some (ad (34 + 4 * j))))))) := by rw [hu_122 _ (by decide) (by decide)]; exact e13_120
        have hv_122 : ∀ j, j < 9 → en_122 (34 + 4 * j) = .inr (5, [.ref (ad (35 + 4 * j)), .ref (ad (36 + 4 * j)), .ref (ad (37 + 4 * j)), .int 0, .int 0, .int 0, .long 0, .long 0, .long 0, .long 0]) := fun j hj => by rw [hu_122 _ (by omega) (by omega)]; exact hv_120 j hj
        refine lv_i2l (v := 0) hx hb dX11_length_92 (by decide) ?_
        exact hp_lretM hx hb hr hlocks hh ((if_pos ⟨hp_117, hp_118, Or.inl q_121_0⟩).symm) dX11_length_93
      by_cases q_121_1 : w = 1
      · refine lv_tableIn (off := 38) (tgt := 94) hx hb dX11_length_56 (by rw [q_121_1]; decide) (by rw [q_121_1]; decide) (by rw [q_121_1]; decide) (by decide) ?_
        refine lv_iload_n hx hb dX11_length_94 rfl (lv_at hl 0 rfl) ?_
        refine lv_if_eq (tgt := 104) hx hb dX11_length_95 (by decide) (fun c_0 => absurd c_0 (by decide)) (fun _ => ?_)
        refine lv_ldc2 hx hb hown (hts _ tw_420) dX11_length_98 ?_
        refine lv_goto (tgt := 115) hx hb dX11_length_101 (by decide) ?_
        exact hp_lretM hx hb hr hlocks hh ((if_neg (fun h => by rw [q_121_1] at h; exact absurd h.2.2 (by decide))).symm) dX11_length_115
      by_cases q_121_2 : w = 2
      · refine lv_tableIn (off := 60) (tgt := 116) hx hb dX11_length_56 (by rw [q_121_2]; decide) (by rw [q_121_2]; decide) (by rw [q_121_2]; decide) (by decide) ?_
        refine lv_iload_n hx hb dX11_length_116 rfl (lv_at hl 0 rfl) ?_
        refine lv_if_eq (tgt := 126) hx hb dX11_length_117 (by decide) (fun c_0 => absurd c_0 (by decide)) (fun _ => ?_)
        refine lv_ldc2 hx hb hown (hts _ tw_420) dX11_length_120 ?_
        refine lv_goto (tgt := 137) hx hb dX11_length_123 (by decide) ?_
        exact hp_lretM hx hb hr hlocks hh ((if_neg (fun h => by rw [q_121_2] at h; exact absurd h.2.2 (by decide))).symm) dX11_length_137
      refine lv_tableOut (tgt := 138) hx hb dX11_length_56 (tb_out 3 (by decide) (by decide) (fun j hj => by rcases (show j = 0 ∨ j = 1 ∨ j = 2 by omega) with rfl | rfl | rfl <;> first | exact lv_neT q_121_0 (by decide) | exact lv_neT q_121_1 (by decide) | exact lv_neT q_121_2 (by decide))) (by decide) ?_
      refine lv_aload_n hx hb dX11_length_138 rfl (lv_at hl 1 rfl) ?_
      refine hp_get hx hb hts ix11 hown hK hh (q := 0) rfl (hcs _ (by decide)) e0_120 rfl 1 (by decide) (hts _ tw_246) (fun _ h9 => h9) rfl dX11_length_139 ?_
      refine lv_iload_n hx hb dX11_length_142 rfl (lv_at hl 2 rfl) ?_
      refine hp_callMq (va_runV (As := [.int n]) (rest := []) ⟨hx, hb, hml, hown, hts⟩ (c_X2_surveyOf l D cy _ cs ad en_120 hcs w_120 f_120 n hp_117 e12_120 e16_120 e14_120 e1_120 e13_120 hv_120) (kw_X2_surveyOf hts tw_467 ⟨by decide, by decide⟩) (preV_of hh hK (hcs _ (by decide)) e12_120 rfl) rfl rfl hl.1 rfl (lv_room (Nat.le_of_ble_eq_true rfl)) dX11_length_143 ⟨Nat.le_of_ble_eq_true rfl, Nat.le_of_ble_eq_true rfl⟩) hh hA (fun r_123 H locs en_123 hw_123 hh => ?_)
      obtain ⟨rfl, es123⟩ := hw_123
      have hj_123 : n.toNatClampNeg < 9 := wi_lt1 9 hp_117 (by decide) (by decide)
      refine W.eq (g2 := F0 m 146 ls [.ref (ad (34 + 4 * n.toNatClampNeg))]) rfl ?_
      refine hp_get hx hb hts ix6 hown hK hh (q := (34 + 4 * n.toNatClampNeg)) rfl (hcs _ (by omega)) es123 rfl 4 (by decide) (hts _ tw_88) (fun _ h9 => h9) rfl dX11_length_146 ?_
      refine lv_i2l (v := 0) hx hb dX11_length_149 (by decide) ?_
      exact hp_lretM hx hb hr hlocks hh ((if_pos ⟨hp_117, hp_118, Or.inr (w_3 hp_118 q_121_0 q_121_1 q_121_2)⟩).symm) dX11_length_150
    · obtain rfl : r_118 = 0 := Eq.trans hw_118 (if_neg hp_118)
      refine lv_if_ne (tgt := 23) hx hb dX11_length_16 (by decide) (fun c_0 => absurd c_0 (by decide)) (fun _ => ?_)
      refine lv_ldc2 hx hb hown (hts _ tw_420) dX11_length_19 ?_
      exact hp_lretM hx hb hr hlocks hh ((if_neg (fun h => hp_118 h.2.1)).symm) dX11_length_22
  · obtain rfl : r_117 = 0 := Eq.trans hw_117 (if_neg hp_117)
    refine lv_if_eq (tgt := 19) hx hb dX11_length_7 (by decide) (fun _ => ?_) (fun c_0 => absurd c_0 (by decide))
    refine lv_ldc2 hx hb hown (hts _ tw_420) dX11_length_19 ?_
    exact hp_lretM hx hb hr hlocks hh ((if_neg (fun h => hp_117 h.1)).symm) dX11_length_22
theorem kw_X11_length {R : Room} {s : State} {args : Array Value} {own : String} {idx : Nat} (hts : ∀ w ∈ TB, w.before args s = true) (hl : Cond.methodLink own idx yX11_length ∈ TB) (hR : 4 + 1 ≤ R.frames ∧ 8 + (4 + 11) + 40 * 4 ≤ R.locals) : CallW R s args own RX11 idx yX11_length cX11_length 4 (some .long) (Cond.code yX11_length cX11_length 4 (some .long) :: TB) (rmN 4) 0 0 2 := cwV 2 hts (TB_V hl tw_442 tw_443 tw_1 tw_444) rfl rfl rfl (by decide +kernel) hR
set_option maxHeartbeats 4000000 in
set_option maxRecDepth 100000 in
/-- extreme, new object -/
theorem c_X11_extreme (l : Launch) (D : va_G) (cy : Nat → ClassId) (sz : Nat) (cs : List Nat) (ad : Nat → Nat) (en : Nat → va_E) (hcs : ∀ c, c < 115 → c ∈ cs) (lf : Int32) (hw : Int32) (f0 : Nat → Int32) (n z i : Int32) (e0 : en 0 = .inr (10, [.ref (ad 1), .ref (ad 12), .ref (ad 70), .ref (ad 74), .ref (ad 75), .ref (ad 76), .int 0, .int lf])) (e12 : en 12 = .inr (2, [.ref (ad 1), .ref (ad 13), .ref (ad 14), .ref (ad 24), .ref (ad 33), .int hw])) (e16 : en 16 = .inl (cy 0, 6, .inl f0)) (e14 : en 14 = .inl (cy 7, 9, .inr (.inr (.inr (.inr (fun j => some (ad (15 + j)))))))) (e1 : en 1 = .inr (7, [.ref (ad 2), .ref (ad 3), .ref (ad 10), .ref (ad 11), .int 0, .int 2, .int 0])) (e13 : en 13 = .inl (cy 4, 9, .inr (.inr (.inr (.inr (fun j => some (ad (34 + 4 * j)))))))) (hv : ∀ j, j < 9 → en (34 + 4 * j) = .inr (5, [.ref (ad (35 + 4 * j)), .ref (ad (36 + 4 * j)), .ref (ad (37 + 4 * j)), .int 0, .int 0, .int 0, .long 0, .long 0, .long 0, .long 0])) : Met l yX11_extreme (Cond.code yX11_extreme cX11_extreme 5 (some .int) :: TB) (rmN 4) (va_Pc [.ref (ad 0), .int n, .int z, .int i] (Pre D cy cs ad en sz)) (va_Qi (S := Nat → va_E) (fun r _ => r = spExt n z i) (PostM D cs ad) (Af cs ad sz)) 0 0 (Af cs ad sz) := by
  refine Met.ofW (cc := cX11_extreme) (maxL := 5) (ret := (some .int)) (by decide) rfl ?_
  intro p e s m args below meth c s₁ B hml hv
  obtain ⟨rfl, hsz, hP, hK, hD0⟩ := hv
  have hx := B.exec
  have hb := B.bytes
  have hr := B.returns
  have hts : ∀ w ∈ TB, w.before _ s = true := fun w h => atoms_spec (ws := _ :: TB) B.pre w (List.mem_cons_of_mem _ h)
  have hown : s.vm.findClass RX11 = some m.cls := findClass_of_methodNamed B.named
  have hlocks := B.notSynchronized
  have hh : Hp D (Af cs ad sz) (Af cs ad sz) s.heap s.heap [] cs ad en := ⟨hP, Af_self hD0, va_S.rf⟩
  have hA : ∀ q : Nat, s.heap.size ≤ q → Af cs ad sz q := fun q h => Or.inr (by rw [hsz] at h; exact h)
  have hl := lv_entry ([.ref (ad 0), .int n, .int z, .int i]) (n := 5) (Nat.le_of_ble_eq_true rfl)
  rw [lg_entry_eq]
  generalize (lg_sl ([.ref (ad 0), .int n, .int z, .int i]) ++ List.replicate (5 - (lg_sl ([.ref (ad 0), .int n, .int z, .int i])).length) Slot.unset).toArray = ls at hl ⊢
  have hl : lv_has ls 5 [(0, .ref (ad 0)), (1, .int n), (2, .int z), (3, .int i)] := hl
  refine lv_iload_n hx hb dX11_extreme_0 rfl (lv_at hl 1 rfl) ?_
  refine lv_iconst (v := 1) hx hb dX11_extreme_1 (by decide) ?_
  refine lv_bipush (v := 8) hx hb dX11_extreme_2 (by decide) ?_
  refine hp_callRi (va_runS (As := [.int n, .int 1, .int 8]) (rest := []) ⟨hx, hb, hml, hown, hts⟩ (c_X11_isWithin l D cy _ cs ad en n 1 8 ) (kw_X11_isWithin hts tw_274 ⟨by decide, by decide⟩) (preS_of hh hK) rfl rfl hl.1 rfl (lv_room (Nat.le_of_ble_eq_true rfl)) dX11_extreme_4 ⟨Nat.le_of_ble_eq_true rfl, Nat.le_of_ble_eq_true rfl⟩) hh hA (fun r_124 H locs hw_124 hh => ?_)
  rcases Decidable.em (wi n 1 8) with hp_124 | hp_124
  · obtain rfl : r_124 = 1 := Eq.trans hw_124 (if_pos hp_124)
    refine lv_if_eq (tgt := 30) hx hb dX11_extreme_7 (by decide) (fun c_0 => absurd c_0 (by decide)) (fun _ => ?_)
    refine lv_iload_n hx hb dX11_extreme_10 rfl (lv_at hl 2 rfl) ?_
    refine lv_iconst (v := 0) hx hb dX11_extreme_11 (by decide) ?_
    refine lv_iconst (v := 1) hx hb dX11_extreme_12 (by decide) ?_
    refine hp_callRi (va_runS (As := [.int z, .int 0, .int 1]) (rest := []) ⟨hx, hb, hml, hown, hts⟩ (c_X11_isWithin l D cy _ cs ad en z 0 1 ) (kw_X11_isWithin hts tw_274 ⟨by decide, by decide⟩) (preS_of hh hK) rfl rfl hl.1 rfl (lv_room (Nat.le_of_ble_eq_true rfl)) dX11_extreme_13 ⟨Nat.le_of_ble_eq_true rfl, Nat.le_of_ble_eq_true rfl⟩) hh hA (fun r_125 H locs hw_125 hh => ?_)
    rcases Decidable.em (wi z 0 1) with hp_125 | hp_125
    · obtain rfl : r_125 = 1 := Eq.trans hw_125 (if_pos hp_125)
      refine lv_if_eq (tgt := 30) hx hb dX11_extreme_16 (by decide) (fun c_0 => absurd c_0 (by decide)) (fun _ => ?_)
      refine lv_iload_n hx hb dX11_extreme_19 rfl (lv_at hl 3 rfl) ?_
      refine lv_iconst (v := 0) hx hb dX11_extreme_20 (by decide) ?_
      refine lv_iload_n hx hb dX11_extreme_21 rfl (lv_at hl 1 rfl) ?_
      refine lv_iconst (v := 1) hx hb dX11_extreme_22 (by decide) ?_
      refine lv_isub hx hb dX11_extreme_23 ?_
      refine hp_callRi (va_runS (As := [.int i, .int 0, .int (n - 1)]) (rest := []) ⟨hx, hb, hml, hown, hts⟩ (c_X11_isWithin l D cy _ cs ad en i 0 (n - 1) ) (kw_X11_isWithin hts tw_274 ⟨by decide, by decide⟩) (preS_of hh hK) rfl rfl hl.1 rfl (lv_room (Nat.le_of_ble_eq_true rfl)) dX11_extreme_24 ⟨Nat.le_of_ble_eq_true rfl, Nat.le_of_ble_eq_true rfl⟩) hh hA (fun r_126 H locs hw_126 hh => ?_)
      rcases Decidable.em (wi i 0 (n - 1)) with hp_126 | hp_126
      · obtain rfl : r_126 = 1 := Eq.trans hw_126 (if_pos hp_126)
        refine lv_if_ne (tgt := 33) hx hb dX11_extreme_27 (by decide) (fun _ => ?_) (fun c_0 => absurd c_0 (by decide))
        refine lv_aload_n hx hb dX11_extreme_33 rfl (lv_at hl 0 rfl) ?_
        refine hp_get hx hb hts ix11 hown hK hh (q := 0) rfl (hcs _ (by decide)) e0 rfl 1 (by decide) (hts _ tw_246) (fun _ h9 => h9) rfl dX11_extreme_34 ?_
        refine lv_iload_n hx hb dX11_extreme_37 rfl (lv_at hl 1 rfl) ?_
        refine hp_callMi (va_runV (As := [.int n]) (rest := []) ⟨hx, hb, hml, hown, hts⟩ (c_X2_isSpent l D cy _ cs ad en hcs hw f0 n e12 e16 e14 e1 ) (kw_X2_isSpent hts tw_445 ⟨by decide, by decide⟩) (preV_of hh hK (hcs _ (by decide)) e12 rfl) rfl rfl hl.1 rfl (lv_room (Nat.le_of_ble_eq_true rfl)) dX11_extreme_38 ⟨Nat.le_of_ble_eq_true rfl, Nat.le_of_ble_eq_true rfl⟩) hh hA (fun r_127 H locs en_127 hw_127 hh => ?_)
        obtain ⟨rfl, w_127, f_127, e12_127, e16_127, hu_127⟩ := hw_127
        have e0_127 : en_127 0 = .inr (10, [.ref (ad 1), .ref (ad 12), .ref (ad 70), .ref (ad 74), .ref (ad 75), .ref (ad 76), .int 0, .int lf]) := by rw [hu_127 _ (by decide) (by decide)]; exact e0
        have e14_127 : en_127 14 = .inl (cy 7, 9, .inr (.inr (.inr (.inr (fun j => some (ad (15 + j))))))) := by rw [hu_127 _ (by decide) (by decide)]; exact e14
        have e1_127 : en_127 1 = .inr (7, [.ref (ad 2), .ref (ad 3), .ref (ad 10), .ref (ad 11), .int 0, .int 2, .int 0]) := by rw [hu_127 _ (by decide) (by decide)]; exact e1
        have e13_127 : en_127 13 = .inl (cy 4, 9, .inr (.inr (.inr (.inr (fun j => some (ad (34 + 4 * j))))))) := by rw [hu_127 _ (by decide) (by decide)]; exact e13
        have hv_127 : ∀ j, j < 9 → en_127 (34 + 4 * j) = .inr (5, [.ref (ad (35 + 4 * j)), .ref (ad (36 + 4 * j)), .ref (ad (37 + 4 * j)), .int 0, .int 0, .int 0, .long 0, .long 0, .long 0, .long 0]) := fun j hj => by rw [hu_127 _ (by omega) (by omega)]; exact hv j hj
        refine lv_if_eq (tgt := 47) hx hb dX11_extreme_41 (by decide) (fun _ => ?_) (fun c_0 => absurd c_0 (by decide))
        refine lv_aload_n hx hb dX11_extreme_47 rfl (lv_at hl 0 rfl) ?_
        refine hp_get hx hb hts ix11 hown hK hh (q := 0) rfl (hcs _ (by decide)) e0_127 rfl 1 (by decide) (hts _ tw_246) (fun _ h9 => h9) rfl dX11_extreme_48 ?_
        refine lv_iload_n hx hb dX11_extreme_51 rfl (lv_at hl 1 rfl) ?_
        refine hp_callMi (va_runV (As := [.int n]) (rest := []) ⟨hx, hb, hml, hown, hts⟩ (c_X2_countOf l D cy _ cs ad en_127 hcs w_127 f_127 n e12_127 e16_127 e14_127 e1_127 ) (kw_X2_countOf hts tw_466 ⟨by decide, by decide⟩) (preV_of hh hK (hcs _ (by decide)) e12_127 rfl) rfl rfl hl.1 rfl (lv_room (Nat.le_of_ble_eq_true rfl)) dX11_extreme_52 ⟨Nat.le_of_ble_eq_true rfl, Nat.le_of_ble_eq_true rfl⟩) hh hA (fun r_128 H locs en_128 hw_128 hh => ?_)
        obtain ⟨rfl, w_128, f_128, e12_128, e16_128, hu_128⟩ := hw_128
        have e0_128 : en_128 0 = .inr (10, [.ref (ad 1), .ref (ad 12), .ref (ad 70), .ref (ad 74), .ref (ad 75), .ref (ad 76), .int 0, .int lf]) := by rw [hu_128 _ (by decide) (by decide)]; exact e0_127
        have e14_128 : en_128 14 = .inl (cy 7, 9, .inr (.inr (.inr (.inr (fun j => some (ad (15 + j))))))) := by rw [hu_128 _ (by decide) (by decide)]; exact e14_127
        have e1_128 : en_128 1 = .inr (7, [.ref (ad 2), .ref (ad 3), .ref (ad 10), .ref (ad 11), .int 0, .int 2, .int 0]) := by rw [hu_128 _ (by decide) (by decide)]; exact e1_127
        have e13_128 : en_128 13 = .inl (cy 4, 9, .inr (.inr (.inr (.inr (fun j => some (ad (34 + 4 * j))))))) := by rw [hu_128 _ (by decide) (by decide)]; exact e13_127
        have hv_128 : ∀ j, j < 9 → en_128 (34 + 4 * j) = .inr (5, [.ref (ad (35 + 4 * j)), .ref (ad (36 + 4 * j)), .ref (ad (37 + 4 * j)), .int 0, .int 0, .int 0, .long 0, .long 0, .long 0, .long 0]) := fun j hj => by rw [hu_128 _ (by omega) (by omega)]; exact hv_127 j hj
        refine lv_if_ne (tgt := 61) hx hb dX11_extreme_55 (by decide) (fun c_0 => absurd c_0 (by decide)) (fun _ => ?_)
        refine lv_bipush (v := (-9)) hx hb dX11_extreme_58 (by decide) ?_
        exact hp_iretM hx hb hr rfl hlocks hh ((if_pos ⟨hp_124, hp_125, hp_126⟩).symm) dX11_extreme_60
      · obtain rfl : r_126 = 0 := Eq.trans hw_126 (if_neg hp_126)
        refine lv_if_ne (tgt := 33) hx hb dX11_extreme_27 (by decide) (fun c_0 => absurd c_0 (by decide)) (fun _ => ?_)
        refine lv_bipush (v := (-2)) hx hb dX11_extreme_30 (by decide) ?_
        exact hp_iretM hx hb hr rfl hlocks hh ((if_neg (fun h => hp_126 h.2.2)).symm) dX11_extreme_32
    · obtain rfl : r_125 = 0 := Eq.trans hw_125 (if_neg hp_125)
      refine lv_if_eq (tgt := 30) hx hb dX11_extreme_16 (by decide) (fun _ => ?_) (fun c_0 => absurd c_0 (by decide))
      refine lv_bipush (v := (-2)) hx hb dX11_extreme_30 (by decide) ?_
      exact hp_iretM hx hb hr rfl hlocks hh ((if_neg (fun h => hp_125 h.2.1)).symm) dX11_extreme_32
  · obtain rfl : r_124 = 0 := Eq.trans hw_124 (if_neg hp_124)
    refine lv_if_eq (tgt := 30) hx hb dX11_extreme_7 (by decide) (fun _ => ?_) (fun c_0 => absurd c_0 (by decide))
    refine lv_bipush (v := (-2)) hx hb dX11_extreme_30 (by decide) ?_
    exact hp_iretM hx hb hr rfl hlocks hh ((if_neg (fun h => hp_124 h.1)).symm) dX11_extreme_32
theorem kw_X11_extreme {R : Room} {s : State} {args : Array Value} {own : String} {idx : Nat} (hts : ∀ w ∈ TB, w.before args s = true) (hl : Cond.methodLink own idx yX11_extreme ∈ TB) (hR : 4 + 1 ≤ R.frames ∧ 8 + (5 + 11) + 40 * 4 ≤ R.locals) : CallW R s args own RX11 idx yX11_extreme cX11_extreme 5 (some .int) (Cond.code yX11_extreme cX11_extreme 5 (some .int) :: TB) (rmN 4) 0 0 3 := cwV 3 hts (TB_V hl tw_542 tw_543 tw_1 tw_544) rfl rfl rfl (by decide +kernel) hR
set_option maxHeartbeats 4000000 in
set_option maxRecDepth 100000 in
/-- rings, new object -/
theorem c_X11_rings (l : Launch) (D : va_G) (cy : Nat → ClassId) (sz : Nat) (cs : List Nat) (ad : Nat → Nat) (en : Nat → va_E) (hcs : ∀ c, c < 115 → c ∈ cs) (lf : Int32) (hw : Int32) (f0 : Nat → Int32) (n : Int32) (e0 : en 0 = .inr (10, [.ref (ad 1), .ref (ad 12), .ref (ad 70), .ref (ad 74), .ref (ad 75), .ref (ad 76), .int 0, .int lf])) (e12 : en 12 = .inr (2, [.ref (ad 1), .ref (ad 13), .ref (ad 14), .ref (ad 24), .ref (ad 33), .int hw])) (e16 : en 16 = .inl (cy 0, 6, .inl f0)) (e14 : en 14 = .inl (cy 7, 9, .inr (.inr (.inr (.inr (fun j => some (ad (15 + j)))))))) (e1 : en 1 = .inr (7, [.ref (ad 2), .ref (ad 3), .ref (ad 10), .ref (ad 11), .int 0, .int 2, .int 0])) (e13 : en 13 = .inl (cy 4, 9, .inr (.inr (.inr (.inr (fun j => some (ad (34 + 4 * j)))))))) (hv : ∀ j, j < 9 → en (34 + 4 * j) = .inr (5, [.ref (ad (35 + 4 * j)), .ref (ad (36 + 4 * j)), .ref (ad (37 + 4 * j)), .int 0, .int 0, .int 0, .long 0, .long 0, .long 0, .long 0])) : Met l yX11_rings (Cond.code yX11_rings cX11_rings 2 (some .int) :: TB) (rmN 4) (va_Pc [.ref (ad 0), .int n] (Pre D cy cs ad en sz)) (va_Qi (S := Nat → va_E) (fun r _ => r = if wi n 1 8 then 0 else (-2)) (PostM D cs ad) (Af cs ad sz)) 0 0 (Af cs ad sz) := by
  refine Met.ofW (cc := cX11_rings) (maxL := 2) (ret := (some .int)) (by decide) rfl ?_
  intro p e s m args below meth c s₁ B hml hv
  obtain ⟨rfl, hsz, hP, hK, hD0⟩ := hv
  have hx := B.exec
  have hb := B.bytes
  have hr := B.returns
  have hts : ∀ w ∈ TB, w.before _ s = true := fun w h => atoms_spec (ws := _ :: TB) B.pre w (List.mem_cons_of_mem _ h)
  have hown : s.vm.findClass RX11 = some m.cls := findClass_of_methodNamed B.named
  have hlocks := B.notSynchronized
  have hh : Hp D (Af cs ad sz) (Af cs ad sz) s.heap s.heap [] cs ad en := ⟨hP, Af_self hD0, va_S.rf⟩
  have hA : ∀ q : Nat, s.heap.size ≤ q → Af cs ad sz q := fun q h => Or.inr (by rw [hsz] at h; exact h)
  have hl := lv_entry ([.ref (ad 0), .int n]) (n := 2) (Nat.le_of_ble_eq_true rfl)
  rw [lg_entry_eq]
  generalize (lg_sl ([.ref (ad 0), .int n]) ++ List.replicate (2 - (lg_sl ([.ref (ad 0), .int n])).length) Slot.unset).toArray = ls at hl ⊢
  have hl : lv_has ls 2 [(0, .ref (ad 0)), (1, .int n)] := hl
  refine lv_iload_n hx hb dX11_rings_0 rfl (lv_at hl 1 rfl) ?_
  refine lv_iconst (v := 1) hx hb dX11_rings_1 (by decide) ?_
  refine lv_bipush (v := 8) hx hb dX11_rings_2 (by decide) ?_
  refine hp_callRi (va_runS (As := [.int n, .int 1, .int 8]) (rest := []) ⟨hx, hb, hml, hown, hts⟩ (c_X11_isWithin l D cy _ cs ad en n 1 8 ) (kw_X11_isWithin hts tw_274 ⟨by decide, by decide⟩) (preS_of hh hK) rfl rfl hl.1 rfl (lv_room (Nat.le_of_ble_eq_true rfl)) dX11_rings_4 ⟨Nat.le_of_ble_eq_true rfl, Nat.le_of_ble_eq_true rfl⟩) hh hA (fun r_129 H locs hw_129 hh => ?_)
  rcases Decidable.em (wi n 1 8) with hp_129 | hp_129
  · obtain rfl : r_129 = 1 := Eq.trans hw_129 (if_pos hp_129)
    refine lv_if_ne (tgt := 13) hx hb dX11_rings_7 (by decide) (fun _ => ?_) (fun c_0 => absurd c_0 (by decide))
    refine lv_aload_n hx hb dX11_rings_13 rfl (lv_at hl 0 rfl) ?_
    refine hp_get hx hb hts ix11 hown hK hh (q := 0) rfl (hcs _ (by decide)) e0 rfl 1 (by decide) (hts _ tw_246) (fun _ h9 => h9) rfl dX11_rings_14 ?_
    refine lv_iload_n hx hb dX11_rings_17 rfl (lv_at hl 1 rfl) ?_
    refine hp_callMi (va_runV (As := [.int n]) (rest := []) ⟨hx, hb, hml, hown, hts⟩ (c_X2_isSpent l D cy _ cs ad en hcs hw f0 n e12 e16 e14 e1 ) (kw_X2_isSpent hts tw_445 ⟨by decide, by decide⟩) (preV_of hh hK (hcs _ (by decide)) e12 rfl) rfl rfl hl.1 rfl (lv_room (Nat.le_of_ble_eq_true rfl)) dX11_rings_18 ⟨Nat.le_of_ble_eq_true rfl, Nat.le_of_ble_eq_true rfl⟩) hh hA (fun r_130 H locs en_130 hw_130 hh => ?_)
    obtain ⟨rfl, w_130, f_130, e12_130, e16_130, hu_130⟩ := hw_130
    have e0_130 : en_130 0 = .inr (10, [.ref (ad 1), .ref (ad 12), .ref (ad 70), .ref (ad 74), .ref (ad 75), .ref (ad 76), .int 0, .int lf]) := by rw [hu_130 _ (by decide) (by decide)]; exact e0
    have e14_130 : en_130 14 = .inl (cy 7, 9, .inr (.inr (.inr (.inr (fun j => some (ad (15 + j))))))) := by rw [hu_130 _ (by decide) (by decide)]; exact e14
    have e1_130 : en_130 1 = .inr (7, [.ref (ad 2), .ref (ad 3), .ref (ad 10), .ref (ad 11), .int 0, .int 2, .int 0]) := by rw [hu_130 _ (by decide) (by decide)]; exact e1
    have e13_130 : en_130 13 = .inl (cy 4, 9, .inr (.inr (.inr (.inr (fun j => some (ad (34 + 4 * j))))))) := by rw [hu_130 _ (by decide) (by decide)]; exact e13
    have hv_130 : ∀ j, j < 9 → en_130 (34 + 4 * j) = .inr (5, [.ref (ad (35 + 4 * j)), .ref (ad (36 + 4 * j)), .ref (ad (37 + 4 * j)), .int 0, .int 0, .int 0, .long 0, .long 0, .long 0, .long 0]) := fun j hj => by rw [hu_130 _ (by omega) (by omega)]; exact hv j hj
    refine lv_if_eq (tgt := 29) hx hb dX11_rings_21 (by decide) (fun _ => ?_) (fun c_0 => absurd c_0 (by decide))
    refine lv_aload_n hx hb dX11_rings_29 rfl (lv_at hl 0 rfl) ?_
    refine hp_get hx hb hts ix11 hown hK hh (q := 0) rfl (hcs _ (by decide)) e0_130 rfl 1 (by decide) (hts _ tw_246) (fun _ h9 => h9) rfl dX11_rings_30 ?_
    refine lv_iload_n hx hb dX11_rings_33 rfl (lv_at hl 1 rfl) ?_
    refine hp_callMq (va_runV (As := [.int n]) (rest := []) ⟨hx, hb, hml, hown, hts⟩ (c_X2_surveyOf l D cy _ cs ad en_130 hcs w_130 f_130 n hp_129 e12_130 e16_130 e14_130 e1_130 e13_130 hv_130) (kw_X2_surveyOf hts tw_467 ⟨by decide, by decide⟩) (preV_of hh hK (hcs _ (by decide)) e12_130 rfl) rfl rfl hl.1 rfl (lv_room (Nat.le_of_ble_eq_true rfl)) dX11_rings_34 ⟨Nat.le_of_ble_eq_true rfl, Nat.le_of_ble_eq_true rfl⟩) hh hA (fun r_131 H locs en_131 hw_131 hh => ?_)
    obtain ⟨rfl, es131⟩ := hw_131
    have hj_131 : n.toNatClampNeg < 9 := wi_lt1 9 hp_129 (by decide) (by decide)
    refine W.eq (g2 := F0 m 37 ls [.ref (ad (34 + 4 * n.toNatClampNeg))]) rfl ?_
    refine hp_get hx hb hts ix6 hown hK hh (q := (34 + 4 * n.toNatClampNeg)) rfl (hcs _ (by omega)) es131 rfl 5 (by decide) (hts _ tw_90) (fun _ h9 => h9) rfl dX11_rings_37 ?_
    exact hp_iretM hx hb hr rfl hlocks hh ((if_pos hp_129).symm) dX11_rings_40
  · obtain rfl : r_129 = 0 := Eq.trans hw_129 (if_neg hp_129)
    refine lv_if_ne (tgt := 13) hx hb dX11_rings_7 (by decide) (fun c_0 => absurd c_0 (by decide)) (fun _ => ?_)
    refine lv_bipush (v := (-2)) hx hb dX11_rings_10 (by decide) ?_
    exact hp_iretM hx hb hr rfl hlocks hh ((if_neg (fun h => hp_129 h)).symm) dX11_rings_12
theorem kw_X11_rings {R : Room} {s : State} {args : Array Value} {own : String} {idx : Nat} (hts : ∀ w ∈ TB, w.before args s = true) (hl : Cond.methodLink own idx yX11_rings ∈ TB) (hR : 4 + 1 ≤ R.frames ∧ 8 + (2 + 11) + 40 * 4 ≤ R.locals) : CallW R s args own RX11 idx yX11_rings cX11_rings 2 (some .int) (Cond.code yX11_rings cX11_rings 2 (some .int) :: TB) (rmN 4) 0 0 1 := cwV 1 hts (TB_V hl tw_546 tw_547 tw_1 tw_548) rfl rfl rfl (by decide +kernel) hR
set_option maxHeartbeats 4000000 in
set_option maxRecDepth 100000 in
/-- ringTrack, new object -/
theorem c_X11_ringTrack (l : Launch) (D : va_G) (cy : Nat → ClassId) (sz : Nat) (cs : List Nat) (ad : Nat → Nat) (en : Nat → va_E) (hcs : ∀ c, c < 115 → c ∈ cs) (lf : Int32) (hw : Int32) (f0 : Nat → Int32) (n : Int32) (e0 : en 0 = .inr (10, [.ref (ad 1), .ref (ad 12), .ref (ad 70), .ref (ad 74), .ref (ad 75), .ref (ad 76), .int 0, .int lf])) (e12 : en 12 = .inr (2, [.ref (ad 1), .ref (ad 13), .ref (ad 14), .ref (ad 24), .ref (ad 33), .int hw])) (e16 : en 16 = .inl (cy 0, 6, .inl f0)) (e14 : en 14 = .inl (cy 7, 9, .inr (.inr (.inr (.inr (fun j => some (ad (15 + j)))))))) (e1 : en 1 = .inr (7, [.ref (ad 2), .ref (ad 3), .ref (ad 10), .ref (ad 11), .int 0, .int 2, .int 0])) (e13 : en 13 = .inl (cy 4, 9, .inr (.inr (.inr (.inr (fun j => some (ad (34 + 4 * j)))))))) (hv : ∀ j, j < 9 → en (34 + 4 * j) = .inr (5, [.ref (ad (35 + 4 * j)), .ref (ad (36 + 4 * j)), .ref (ad (37 + 4 * j)), .int 0, .int 0, .int 0, .long 0, .long 0, .long 0, .long 0])) : Met l yX11_ringTrack (Cond.code yX11_ringTrack cX11_ringTrack 3 (some .long) :: TB) (rmN 4) (va_Pc [.ref (ad 0), .int n] (Pre D cy cs ad en sz)) (va_Ql (S := Nat → va_E) (fun r _ => r = (-9223372036854775808)) (PostM D cs ad) (Af cs ad sz)) 0 0 (Af cs ad sz) := by
  refine Met.ofW (cc := cX11_ringTrack) (maxL := 3) (ret := (some .long)) (by decide) rfl ?_
  intro p e s m args below meth c s₁ B hml hv
  obtain ⟨rfl, hsz, hP, hK, hD0⟩ := hv
  have hx := B.exec
  have hb := B.bytes
  have hr := B.returns
  have hts : ∀ w ∈ TB, w.before _ s = true := fun w h => atoms_spec (ws := _ :: TB) B.pre w (List.mem_cons_of_mem _ h)
  have hown : s.vm.findClass RX11 = some m.cls := findClass_of_methodNamed B.named
  have hlocks := B.notSynchronized
  have hh : Hp D (Af cs ad sz) (Af cs ad sz) s.heap s.heap [] cs ad en := ⟨hP, Af_self hD0, va_S.rf⟩
  have hA : ∀ q : Nat, s.heap.size ≤ q → Af cs ad sz q := fun q h => Or.inr (by rw [hsz] at h; exact h)
  have hl := lv_entry ([.ref (ad 0), .int n]) (n := 3) (Nat.le_of_ble_eq_true rfl)
  rw [lg_entry_eq]
  generalize (lg_sl ([.ref (ad 0), .int n]) ++ List.replicate (3 - (lg_sl ([.ref (ad 0), .int n])).length) Slot.unset).toArray = ls at hl ⊢
  have hl : lv_has ls 3 [(0, .ref (ad 0)), (1, .int n)] := hl
  refine lv_iload_n hx hb dX11_ringTrack_0 rfl (lv_at hl 1 rfl) ?_
  refine lv_iconst (v := 1) hx hb dX11_ringTrack_1 (by decide) ?_
  refine lv_bipush (v := 8) hx hb dX11_ringTrack_2 (by decide) ?_
  refine hp_callRi (va_runS (As := [.int n, .int 1, .int 8]) (rest := []) ⟨hx, hb, hml, hown, hts⟩ (c_X11_isWithin l D cy _ cs ad en n 1 8 ) (kw_X11_isWithin hts tw_274 ⟨by decide, by decide⟩) (preS_of hh hK) rfl rfl hl.1 rfl (lv_room (Nat.le_of_ble_eq_true rfl)) dX11_ringTrack_4 ⟨Nat.le_of_ble_eq_true rfl, Nat.le_of_ble_eq_true rfl⟩) hh hA (fun r_132 H locs hw_132 hh => ?_)
  rcases Decidable.em (wi n 1 8) with hp_132 | hp_132
  · obtain rfl : r_132 = 1 := Eq.trans hw_132 (if_pos hp_132)
    refine lv_if_eq (tgt := 21) hx hb dX11_ringTrack_7 (by decide) (fun c_0 => absurd c_0 (by decide)) (fun _ => ?_)
    refine lv_aload_n hx hb dX11_ringTrack_10 rfl (lv_at hl 0 rfl) ?_
    refine hp_get hx hb hts ix11 hown hK hh (q := 0) rfl (hcs _ (by decide)) e0 rfl 1 (by decide) (hts _ tw_246) (fun _ h9 => h9) rfl dX11_ringTrack_11 ?_
    refine lv_iload_n hx hb dX11_ringTrack_14 rfl (lv_at hl 1 rfl) ?_
    refine hp_callMi (va_runV (As := [.int n]) (rest := []) ⟨hx, hb, hml, hown, hts⟩ (c_X2_isSpent l D cy _ cs ad en hcs hw f0 n e12 e16 e14 e1 ) (kw_X2_isSpent hts tw_445 ⟨by decide, by decide⟩) (preV_of hh hK (hcs _ (by decide)) e12 rfl) rfl rfl hl.1 rfl (lv_room (Nat.le_of_ble_eq_true rfl)) dX11_ringTrack_15 ⟨Nat.le_of_ble_eq_true rfl, Nat.le_of_ble_eq_true rfl⟩) hh hA (fun r_133 H locs en_133 hw_133 hh => ?_)
    obtain ⟨rfl, w_133, f_133, e12_133, e16_133, hu_133⟩ := hw_133
    have e0_133 : en_133 0 = .inr (10, [.ref (ad 1), .ref (ad 12), .ref (ad 70), .ref (ad 74), .ref (ad 75), .ref (ad 76), .int 0, .int lf]) := by rw [hu_133 _ (by decide) (by decide)]; exact e0
    have e14_133 : en_133 14 = .inl (cy 7, 9, .inr (.inr (.inr (.inr (fun j => some (ad (15 + j))))))) := by rw [hu_133 _ (by decide) (by decide)]; exact e14
    have e1_133 : en_133 1 = .inr (7, [.ref (ad 2), .ref (ad 3), .ref (ad 10), .ref (ad 11), .int 0, .int 2, .int 0]) := by rw [hu_133 _ (by decide) (by decide)]; exact e1
    have e13_133 : en_133 13 = .inl (cy 4, 9, .inr (.inr (.inr (.inr (fun j => some (ad (34 + 4 * j))))))) := by rw [hu_133 _ (by decide) (by decide)]; exact e13
    have hv_133 : ∀ j, j < 9 → en_133 (34 + 4 * j) = .inr (5, [.ref (ad (35 + 4 * j)), .ref (ad (36 + 4 * j)), .ref (ad (37 + 4 * j)), .int 0, .int 0, .int 0, .long 0, .long 0, .long 0, .long 0]) := fun j hj => by rw [hu_133 _ (by omega) (by omega)]; exact hv j hj
    refine lv_if_eq (tgt := 25) hx hb dX11_ringTrack_18 (by decide) (fun _ => ?_) (fun c_0 => absurd c_0 (by decide))
    refine lv_aload_n hx hb dX11_ringTrack_25 rfl (lv_at hl 0 rfl) ?_
    refine hp_get hx hb hts ix11 hown hK hh (q := 0) rfl (hcs _ (by decide)) e0_133 rfl 1 (by decide) (hts _ tw_246) (fun _ h9 => h9) rfl dX11_ringTrack_26 ?_
    refine lv_iload_n hx hb dX11_ringTrack_29 rfl (lv_at hl 1 rfl) ?_
    refine hp_callMq (va_runV (As := [.int n]) (rest := []) ⟨hx, hb, hml, hown, hts⟩ (c_X2_surveyOf l D cy _ cs ad en_133 hcs w_133 f_133 n hp_132 e12_133 e16_133 e14_133 e1_133 e13_133 hv_133) (kw_X2_surveyOf hts tw_467 ⟨by decide, by decide⟩) (preV_of hh hK (hcs _ (by decide)) e12_133 rfl) rfl rfl hl.1 rfl (lv_room (Nat.le_of_ble_eq_true rfl)) dX11_ringTrack_30 ⟨Nat.le_of_ble_eq_true rfl, Nat.le_of_ble_eq_true rfl⟩) hh hA (fun r_134 H locs en_134 hw_134 hh => ?_)
    obtain ⟨rfl, es134⟩ := hw_134
    have hj_134 : n.toNatClampNeg < 9 := wi_lt1 9 hp_132 (by decide) (by decide)
    refine W.eq (g2 := F0 m 33 ls [.ref (ad (34 + 4 * n.toNatClampNeg))]) rfl ?_
    refine lv_astore_n (lv' := [(2, .ref (ad (34 + 4 * n.toNatClampNeg))), (0, .ref (ad 0)), (1, .int n)]) hx hb dX11_ringTrack_33 rfl hl (by decide) rfl (fun ls hl => ?_)
    refine lv_aload_n hx hb dX11_ringTrack_34 rfl (lv_at hl 0 rfl) ?_
    refine hp_get hx hb hts ix6 hown hK hh (q := (34 + 4 * n.toNatClampNeg)) rfl (hcs _ (by omega)) es134 rfl 5 (by decide) (hts _ tw_90) (fun _ h9 => h9) rfl dX11_ringTrack_35 ?_
    refine lv_if_ne (tgt := 47) hx hb dX11_ringTrack_38 (by decide) (fun c_0 => absurd c_0 (by decide)) (fun _ => ?_)
    refine lv_ldc2 hx hb hown (hts _ tw_420) dX11_ringTrack_41 ?_
    refine lv_goto (tgt := 51) hx hb dX11_ringTrack_44 (by decide) ?_
    exact hp_lretM hx hb hr hlocks hh (rfl) dX11_ringTrack_51
  · obtain rfl : r_132 = 0 := Eq.trans hw_132 (if_neg hp_132)
    refine lv_if_eq (tgt := 21) hx hb dX11_ringTrack_7 (by decide) (fun _ => ?_) (fun c_0 => absurd c_0 (by decide))
    refine lv_ldc2 hx hb hown (hts _ tw_420) dX11_ringTrack_21 ?_
    exact hp_lretM hx hb hr hlocks hh (rfl) dX11_ringTrack_24
theorem kw_X11_ringTrack {R : Room} {s : State} {args : Array Value} {own : String} {idx : Nat} (hts : ∀ w ∈ TB, w.before args s = true) (hl : Cond.methodLink own idx yX11_ringTrack ∈ TB) (hR : 4 + 1 ≤ R.frames ∧ 8 + (3 + 11) + 40 * 4 ≤ R.locals) : CallW R s args own RX11 idx yX11_ringTrack cX11_ringTrack 3 (some .long) (Cond.code yX11_ringTrack cX11_ringTrack 3 (some .long) :: TB) (rmN 4) 0 0 1 := cwV 1 hts (TB_V hl tw_550 tw_551 tw_1 tw_552) rfl rfl rfl (by decide +kernel) hR
set_option maxHeartbeats 4000000 in
set_option maxRecDepth 100000 in
/-- ring, new object -/
theorem c_X11_ring (l : Launch) (D : va_G) (cy : Nat → ClassId) (sz : Nat) (cs : List Nat) (ad : Nat → Nat) (en : Nat → va_E) (hcs : ∀ c, c < 115 → c ∈ cs) (lf : Int32) (hw : Int32) (f0 : Nat → Int32) (n i : Int32) (e0 : en 0 = .inr (10, [.ref (ad 1), .ref (ad 12), .ref (ad 70), .ref (ad 74), .ref (ad 75), .ref (ad 76), .int 0, .int lf])) (e12 : en 12 = .inr (2, [.ref (ad 1), .ref (ad 13), .ref (ad 14), .ref (ad 24), .ref (ad 33), .int hw])) (e16 : en 16 = .inl (cy 0, 6, .inl f0)) (e14 : en 14 = .inl (cy 7, 9, .inr (.inr (.inr (.inr (fun j => some (ad (15 + j)))))))) (e1 : en 1 = .inr (7, [.ref (ad 2), .ref (ad 3), .ref (ad 10), .ref (ad 11), .int 0, .int 2, .int 0])) (e13 : en 13 = .inl (cy 4, 9, .inr (.inr (.inr (.inr (fun j => some (ad (34 + 4 * j)))))))) (hv : ∀ j, j < 9 → en (34 + 4 * j) = .inr (5, [.ref (ad (35 + 4 * j)), .ref (ad (36 + 4 * j)), .ref (ad (37 + 4 * j)), .int 0, .int 0, .int 0, .long 0, .long 0, .long 0, .long 0])) : Met l yX11_ring (Cond.code yX11_ring cX11_ring 4 (some .int) :: TB) (rmN 4) (va_Pc [.ref (ad 0), .int n, .int i] (Pre D cy cs ad en sz)) (va_Qi (S := Nat → va_E) (fun r _ => r = spRing n i) (PostM D cs ad) (Af cs ad sz)) 0 0 (Af cs ad sz) := by
  refine Met.ofW (cc := cX11_ring) (maxL := 4) (ret := (some .int)) (by decide) rfl ?_
  intro p e s m args below meth c s₁ B hml hv
  obtain ⟨rfl, hsz, hP, hK, hD0⟩ := hv
  have hx := B.exec
  have hb := B.bytes
  have hr := B.returns
  have hts : ∀ w ∈ TB, w.before _ s = true := fun w h => atoms_spec (ws := _ :: TB) B.pre w (List.mem_cons_of_mem _ h)
  have hown : s.vm.findClass RX11 = some m.cls := findClass_of_methodNamed B.named
  have hlocks := B.notSynchronized
  have hh : Hp D (Af cs ad sz) (Af cs ad sz) s.heap s.heap [] cs ad en := ⟨hP, Af_self hD0, va_S.rf⟩
  have hA : ∀ q : Nat, s.heap.size ≤ q → Af cs ad sz q := fun q h => Or.inr (by rw [hsz] at h; exact h)
  have hl := lv_entry ([.ref (ad 0), .int n, .int i]) (n := 4) (Nat.le_of_ble_eq_true rfl)
  rw [lg_entry_eq]
  generalize (lg_sl ([.ref (ad 0), .int n, .int i]) ++ List.replicate (4 - (lg_sl ([.ref (ad 0), .int n, .int i])).length) Slot.unset).toArray = ls at hl ⊢
  have hl : lv_has ls 4 [(0, .ref (ad 0)), (1, .int n), (2, .int i)] := hl
  refine lv_iload_n hx hb dX11_ring_0 rfl (lv_at hl 1 rfl) ?_
  refine lv_iconst (v := 1) hx hb dX11_ring_1 (by decide) ?_
  refine lv_bipush (v := 8) hx hb dX11_ring_2 (by decide) ?_
  refine hp_callRi (va_runS (As := [.int n, .int 1, .int 8]) (rest := []) ⟨hx, hb, hml, hown, hts⟩ (c_X11_isWithin l D cy _ cs ad en n 1 8 ) (kw_X11_isWithin hts tw_274 ⟨by decide, by decide⟩) (preS_of hh hK) rfl rfl hl.1 rfl (lv_room (Nat.le_of_ble_eq_true rfl)) dX11_ring_4 ⟨Nat.le_of_ble_eq_true rfl, Nat.le_of_ble_eq_true rfl⟩) hh hA (fun r_135 H locs hw_135 hh => ?_)
  rcases Decidable.em (wi n 1 8) with hp_135 | hp_135
  · obtain rfl : r_135 = 1 := Eq.trans hw_135 (if_pos hp_135)
    refine lv_if_eq (tgt := 21) hx hb dX11_ring_7 (by decide) (fun c_0 => absurd c_0 (by decide)) (fun _ => ?_)
    refine lv_iload_n hx hb dX11_ring_10 rfl (lv_at hl 2 rfl) ?_
    refine lv_iconst (v := 0) hx hb dX11_ring_11 (by decide) ?_
    refine lv_iload_n hx hb dX11_ring_12 rfl (lv_at hl 1 rfl) ?_
    refine lv_iconst (v := 1) hx hb dX11_ring_13 (by decide) ?_
    refine lv_isub hx hb dX11_ring_14 ?_
    refine hp_callRi (va_runS (As := [.int i, .int 0, .int (n - 1)]) (rest := []) ⟨hx, hb, hml, hown, hts⟩ (c_X11_isWithin l D cy _ cs ad en i 0 (n - 1) ) (kw_X11_isWithin hts tw_274 ⟨by decide, by decide⟩) (preS_of hh hK) rfl rfl hl.1 rfl (lv_room (Nat.le_of_ble_eq_true rfl)) dX11_ring_15 ⟨Nat.le_of_ble_eq_true rfl, Nat.le_of_ble_eq_true rfl⟩) hh hA (fun r_136 H locs hw_136 hh => ?_)
    rcases Decidable.em (wi i 0 (n - 1)) with hp_136 | hp_136
    · obtain rfl : r_136 = 1 := Eq.trans hw_136 (if_pos hp_136)
      refine lv_if_ne (tgt := 24) hx hb dX11_ring_18 (by decide) (fun _ => ?_) (fun c_0 => absurd c_0 (by decide))
      refine lv_aload_n hx hb dX11_ring_24 rfl (lv_at hl 0 rfl) ?_
      refine hp_get hx hb hts ix11 hown hK hh (q := 0) rfl (hcs _ (by decide)) e0 rfl 1 (by decide) (hts _ tw_246) (fun _ h9 => h9) rfl dX11_ring_25 ?_
      refine lv_iload_n hx hb dX11_ring_28 rfl (lv_at hl 1 rfl) ?_
      refine hp_callMi (va_runV (As := [.int n]) (rest := []) ⟨hx, hb, hml, hown, hts⟩ (c_X2_isSpent l D cy _ cs ad en hcs hw f0 n e12 e16 e14 e1 ) (kw_X2_isSpent hts tw_445 ⟨by decide, by decide⟩) (preV_of hh hK (hcs _ (by decide)) e12 rfl) rfl rfl hl.1 rfl (lv_room (Nat.le_of_ble_eq_true rfl)) dX11_ring_29 ⟨Nat.le_of_ble_eq_true rfl, Nat.le_of_ble_eq_true rfl⟩) hh hA (fun r_137 H locs en_137 hw_137 hh => ?_)
      obtain ⟨rfl, w_137, f_137, e12_137, e16_137, hu_137⟩ := hw_137
      have e0_137 : en_137 0 = .inr (10, [.ref (ad 1), .ref (ad 12), .ref (ad 70), .ref (ad 74), .ref (ad 75), .ref (ad 76), .int 0, .int lf]) := by rw [hu_137 _ (by decide) (by decide)]; exact e0
      have e14_137 : en_137 14 = .inl (cy 7, 9, .inr (.inr (.inr (.inr (fun j => some (ad (15 + j))))))) := by rw [hu_137 _ (by decide) (by decide)]; exact e14
      have e1_137 : en_137 1 = .inr (7, [.ref (ad 2), .ref (ad 3), .ref (ad 10), .ref (ad 11), .int 0, .int 2, .int 0]) := by rw [hu_137 _ (by decide) (by decide)]; exact e1
      have e13_137 : en_137 13 = .inl (cy 4, 9, .inr (.inr (.inr (.inr (fun j => some (ad (34 + 4 * j))))))) := by rw [hu_137 _ (by decide) (by decide)]; exact e13
      have hv_137 : ∀ j, j < 9 → en_137 (34 + 4 * j) = .inr (5, [.ref (ad (35 + 4 * j)), .ref (ad (36 + 4 * j)), .ref (ad (37 + 4 * j)), .int 0, .int 0, .int 0, .long 0, .long 0, .long 0, .long 0]) := fun j hj => by rw [hu_137 _ (by omega) (by omega)]; exact hv j hj
      refine lv_if_eq (tgt := 38) hx hb dX11_ring_32 (by decide) (fun _ => ?_) (fun c_0 => absurd c_0 (by decide))
      refine lv_aload_n hx hb dX11_ring_38 rfl (lv_at hl 0 rfl) ?_
      refine hp_get hx hb hts ix11 hown hK hh (q := 0) rfl (hcs _ (by decide)) e0_137 rfl 1 (by decide) (hts _ tw_246) (fun _ h9 => h9) rfl dX11_ring_39 ?_
      refine lv_iload_n hx hb dX11_ring_42 rfl (lv_at hl 1 rfl) ?_
      refine hp_callMq (va_runV (As := [.int n]) (rest := []) ⟨hx, hb, hml, hown, hts⟩ (c_X2_surveyOf l D cy _ cs ad en_137 hcs w_137 f_137 n hp_135 e12_137 e16_137 e14_137 e1_137 e13_137 hv_137) (kw_X2_surveyOf hts tw_467 ⟨by decide, by decide⟩) (preV_of hh hK (hcs _ (by decide)) e12_137 rfl) rfl rfl hl.1 rfl (lv_room (Nat.le_of_ble_eq_true rfl)) dX11_ring_43 ⟨Nat.le_of_ble_eq_true rfl, Nat.le_of_ble_eq_true rfl⟩) hh hA (fun r_138 H locs en_138 hw_138 hh => ?_)
      obtain ⟨rfl, es138⟩ := hw_138
      have hj_138 : n.toNatClampNeg < 9 := wi_lt1 9 hp_135 (by decide) (by decide)
      refine W.eq (g2 := F0 m 46 ls [.ref (ad (34 + 4 * n.toNatClampNeg))]) rfl ?_
      refine lv_astore_n (lv' := [(3, .ref (ad (34 + 4 * n.toNatClampNeg))), (0, .ref (ad 0)), (1, .int n), (2, .int i)]) hx hb dX11_ring_46 rfl hl (by decide) rfl (fun ls hl => ?_)
      refine lv_aload_n hx hb dX11_ring_47 rfl (lv_at hl 0 rfl) ?_
      refine hp_get hx hb hts ix6 hown hK hh (q := (34 + 4 * n.toNatClampNeg)) rfl (hcs _ (by omega)) es138 rfl 5 (by decide) (hts _ tw_90) (fun _ h9 => h9) rfl dX11_ring_48 ?_
      refine lv_if_ne (tgt := 59) hx hb dX11_ring_51 (by decide) (fun c_0 => absurd c_0 (by decide)) (fun _ => ?_)
      refine lv_bipush (v := (-9)) hx hb dX11_ring_54 (by decide) ?_
      refine lv_goto (tgt := 65) hx hb dX11_ring_56 (by decide) ?_
      exact hp_iretM hx hb hr rfl hlocks hh ((if_pos ⟨hp_135, hp_136⟩).symm) dX11_ring_65
    · obtain rfl : r_136 = 0 := Eq.trans hw_136 (if_neg hp_136)
      refine lv_if_ne (tgt := 24) hx hb dX11_ring_18 (by decide) (fun c_0 => absurd c_0 (by decide)) (fun _ => ?_)
      refine lv_bipush (v := (-2)) hx hb dX11_ring_21 (by decide) ?_
      exact hp_iretM hx hb hr rfl hlocks hh ((if_neg (fun h => hp_136 h.2)).symm) dX11_ring_23
  · obtain rfl : r_135 = 0 := Eq.trans hw_135 (if_neg hp_135)
    refine lv_if_eq (tgt := 21) hx hb dX11_ring_7 (by decide) (fun _ => ?_) (fun c_0 => absurd c_0 (by decide))
    refine lv_bipush (v := (-2)) hx hb dX11_ring_21 (by decide) ?_
    exact hp_iretM hx hb hr rfl hlocks hh ((if_neg (fun h => hp_135 h.1)).symm) dX11_ring_23
theorem kw_X11_ring {R : Room} {s : State} {args : Array Value} {own : String} {idx : Nat} (hts : ∀ w ∈ TB, w.before args s = true) (hl : Cond.methodLink own idx yX11_ring ∈ TB) (hR : 4 + 1 ≤ R.frames ∧ 8 + (4 + 11) + 40 * 4 ≤ R.locals) : CallW R s args own RX11 idx yX11_ring cX11_ring 4 (some .int) (Cond.code yX11_ring cX11_ring 4 (some .int) :: TB) (rmN 4) 0 0 2 := cwV 2 hts (TB_V hl tw_554 tw_555 tw_1 tw_556) rfl rfl rfl (by decide +kernel) hR
set_option maxHeartbeats 4000000 in
set_option maxRecDepth 100000 in
/-- drop of nothing -/
theorem c_X3_drop (l : Launch) (D : va_G) (cy : Nat → ClassId) (sz : Nat) (cs : List Nat) (ad : Nat → Nat) (en : Nat → va_E) (q : Nat) (hq : q ∈ cs) (a1 : Nat) (cc ln : Int32) (eq : en q = .inr (3, [.ref a1, .int cc, .int ln, .int 0]))  : Met l yX3_drop (Cond.code yX3_drop cX3_drop 2 (some .boolean) :: TB) (rmN 0) (va_Pc [.ref (ad q)] (Pre D cy cs ad en sz)) (va_Qi (S := Nat → va_E) (fun r en1 => r = 0 ∧ en1 = en) (PostM D cs ad) (Af cs ad sz)) 0 0 (Af cs ad sz) := by
  refine Met.ofW (cc := cX3_drop) (maxL := 2) (ret := (some .boolean)) (by decide) rfl ?_
  intro p e s m args below meth c s₁ B hml hv
  obtain ⟨rfl, hsz, hP, hK, hD0⟩ := hv
  have hx := B.exec
  have hb := B.bytes
  have hr := B.returns
  have hts : ∀ w ∈ TB, w.before _ s = true := fun w h => atoms_spec (ws := _ :: TB) B.pre w (List.mem_cons_of_mem _ h)
  have hown : s.vm.findClass RX3 = some m.cls := findClass_of_methodNamed B.named
  have hlocks := B.notSynchronized
  have hh : Hp D (Af cs ad sz) (Af cs ad sz) s.heap s.heap [] cs ad en := ⟨hP, Af_self hD0, va_S.rf⟩
  have hA : ∀ q : Nat, s.heap.size ≤ q → Af cs ad sz q := fun q h => Or.inr (by rw [hsz] at h; exact h)
  have hl := lv_entry ([.ref (ad q)]) (n := 2) (Nat.le_of_ble_eq_true rfl)
  rw [lg_entry_eq]
  generalize (lg_sl ([.ref (ad q)]) ++ List.replicate (2 - (lg_sl ([.ref (ad q)])).length) Slot.unset).toArray = ls at hl ⊢
  have hl : lv_has ls 2 [(0, .ref (ad q))] := hl
  refine lv_aload_n hx hb dX3_drop_0 rfl (lv_at hl 0 rfl) ?_
  refine hp_get hx hb hts ix3 hown hK hh (q := q) rfl hq eq rfl 3 (by decide) (hts _ tw_234) (fun _ h9 => h9) rfl dX3_drop_1 ?_
  refine lv_istore_n (lv' := [(1, .int 0), (0, .ref (ad q))]) hx hb dX3_drop_4 rfl hl (by decide) rfl (fun ls hl => ?_)
  refine lv_aload_n hx hb dX3_drop_5 rfl (lv_at hl 1 rfl) ?_
  refine lv_iconst (v := 0) hx hb dX3_drop_6 (by decide) ?_
  refine hp_put hx hb hts ix3 tyX3 tyX3_ok nmX3 hown hK hh (q := q) rfl hq eq rfl 3 (by decide) (hts _ tw_234) (fun _ h9 => h9) rfl (ty := .boolean) (by decide +kernel) rfl rfl (Nat.le_of_ble_eq_true rfl) dX3_drop_7 (fun H locs en_139 hen_139 hh => ?_)
  have hid_139 : en_139 = en := hen_139.trans (va_up_id eq)
  rw [hid_139] at hh
  refine lv_iload_n hx hb dX3_drop_10 rfl (lv_at hl 0 rfl) ?_
  exact hp_iretM hx hb hr rfl hlocks hh (⟨rfl, rfl⟩) dX3_drop_11
theorem kw_X3_drop {R : Room} {s : State} {args : Array Value} {own : String} {idx : Nat} (hts : ∀ w ∈ TB, w.before args s = true) (hl : Cond.methodLink own idx yX3_drop ∈ TB) (hR : 0 + 1 ≤ R.frames ∧ 8 + (2 + 11) + 40 * 0 ≤ R.locals) : CallW R s args own RX3 idx yX3_drop cX3_drop 2 (some .boolean) (Cond.code yX3_drop cX3_drop 2 (some .boolean) :: TB) (rmN 0) 0 0 0 := cwV 0 hts (TB_V hl tw_764 tw_765 tw_8 tw_766) rfl rfl rfl (by decide +kernel) hR
set_option maxHeartbeats 4000000 in
set_option maxRecDepth 100000 in
/-- lose, new object -/
theorem c_X11_lose (l : Launch) (D : va_G) (cy : Nat → ClassId) (sz : Nat) (cs : List Nat) (ad : Nat → Nat) (en : Nat → va_E) (hcs : ∀ c, c < 115 → c ∈ cs) (lf k : Int32) (e0 : en 0 = .inr (10, [.ref (ad 1), .ref (ad 12), .ref (ad 70), .ref (ad 74), .ref (ad 75), .ref (ad 76), .int 0, .int lf])) (e75 : en 75 = .inl (cy 6, 4, .inr (.inr (.inr (.inr (fun j => some (ad (107 + 2 * j)))))))) (hs : ∀ j, j < 4 → en (107 + 2 * j) = .inr (3, [.ref (ad (108 + 2 * j)), .int 0, .int 0, .int 0])) : Met l yX11_lose (Cond.code yX11_lose cX11_lose 2 (some .int) :: TB) (rmN 2) (va_Pc [.ref (ad 0), .int k] (Pre D cy cs ad en sz)) (va_Qi (S := Nat → va_E) (fun r _ => r = if wi k 0 3 then 0 else (-1)) (PostM D cs ad) (Af cs ad sz)) 0 0 (Af cs ad sz) := by
  refine Met.ofW (cc := cX11_lose) (maxL := 2) (ret := (some .int)) (by decide) rfl ?_
  intro p e s m args below meth c s₁ B hml hv
  obtain ⟨rfl, hsz, hP, hK, hD0⟩ := hv
  have hx := B.exec
  have hb := B.bytes
  have hr := B.returns
  have hts : ∀ w ∈ TB, w.before _ s = true := fun w h => atoms_spec (ws := _ :: TB) B.pre w (List.mem_cons_of_mem _ h)
  have hown : s.vm.findClass RX11 = some m.cls := findClass_of_methodNamed B.named
  have hlocks := B.notSynchronized
  have hh : Hp D (Af cs ad sz) (Af cs ad sz) s.heap s.heap [] cs ad en := ⟨hP, Af_self hD0, va_S.rf⟩
  have hA : ∀ q : Nat, s.heap.size ≤ q → Af cs ad sz q := fun q h => Or.inr (by rw [hsz] at h; exact h)
  have hl := lv_entry ([.ref (ad 0), .int k]) (n := 2) (Nat.le_of_ble_eq_true rfl)
  rw [lg_entry_eq]
  generalize (lg_sl ([.ref (ad 0), .int k]) ++ List.replicate (2 - (lg_sl ([.ref (ad 0), .int k])).length) Slot.unset).toArray = ls at hl ⊢
  have hl : lv_has ls 2 [(0, .ref (ad 0)), (1, .int k)] := hl
  refine lv_iload_n hx hb dX11_lose_0 rfl (lv_at hl 1 rfl) ?_
  refine hp_callRi (va_runS (As := [.int k]) (rest := []) ⟨hx, hb, hml, hown, hts⟩ (c_X11_isSheet l D cy _ cs ad en k ) (kw_X11_isSheet hts tw_305 ⟨by decide, by decide⟩) (preS_of hh hK) rfl rfl hl.1 rfl (lv_room (Nat.le_of_ble_eq_true rfl)) dX11_lose_1 ⟨Nat.le_of_ble_eq_true rfl, Nat.le_of_ble_eq_true rfl⟩) hh hA (fun r_140 H locs hw_140 hh => ?_)
  rcases Decidable.em (wi k 0 3) with hp_140 | hp_140
  · obtain rfl : r_140 = 1 := Eq.trans hw_140 (if_pos hp_140)
    refine lv_if_ne (tgt := 9) hx hb dX11_lose_4 (by decide) (fun _ => ?_) (fun c_0 => absurd c_0 (by decide))
    refine lv_aload_n hx hb dX11_lose_9 rfl (lv_at hl 0 rfl) ?_
    refine hp_get hx hb hts ix11 hown hK hh (q := 0) rfl (hcs _ (by decide)) e0 rfl 4 (by decide) (hts _ tw_249) (fun _ h9 => h9) rfl dX11_lose_10 ?_
    refine lv_iload_n hx hb dX11_lose_13 rfl (lv_at hl 1 rfl) ?_
    have hj_141 := wi_lt 4 hp_140 (by decide)
    have es141 : en (107 + 2 * k.toNatClampNeg) = .inr (3, [.ref (ad (108 + 2 * k.toNatClampNeg)), .int 0, .int 0, .int 0]) := hs _ hj_141
    refine hp_aald hx hb hK hh (q := 75) rfl (hcs _ (by decide)) 6 e75 rfl rfl (wi_in 4 hp_140 (by decide)) (v := .ref (ad (107 + 2 * k.toNatClampNeg))) (rfl) dX11_lose_14 ?_
    refine hp_callMi (va_runV (As := []) (rest := []) ⟨hx, hb, hml, hown, hts⟩ (c_X3_drop l D cy _ cs ad en (107 + 2 * k.toNatClampNeg) (hcs _ (by omega)) (ad (108 + 2 * k.toNatClampNeg)) 0 0 es141) (kw_X3_drop hts tw_763 ⟨by decide, by decide⟩) (preV_of hh hK (hcs _ (by omega)) es141 rfl) rfl rfl hl.1 rfl (lv_room (Nat.le_of_ble_eq_true rfl)) dX11_lose_15 ⟨Nat.le_of_ble_eq_true rfl, Nat.le_of_ble_eq_true rfl⟩) hh hA (fun r_142 H locs en_142 hw_142 hh => ?_)
    obtain ⟨rfl, _⟩ := hw_142
    refine lv_if_eq (tgt := 25) hx hb dX11_lose_18 (by decide) (fun _ => ?_) (fun c_0 => absurd c_0 (by decide))
    refine lv_iconst (v := 0) hx hb dX11_lose_25 (by decide) ?_
    exact hp_iretM hx hb hr rfl hlocks hh ((if_pos hp_140).symm) dX11_lose_26
  · obtain rfl : r_140 = 0 := Eq.trans hw_140 (if_neg hp_140)
    refine lv_if_ne (tgt := 9) hx hb dX11_lose_4 (by decide) (fun c_0 => absurd c_0 (by decide)) (fun _ => ?_)
    refine lv_iconst (v := (-1)) hx hb dX11_lose_7 (by decide) ?_
    exact hp_iretM hx hb hr rfl hlocks hh ((if_neg hp_140).symm) dX11_lose_8
theorem kw_X11_lose {R : Room} {s : State} {args : Array Value} {own : String} {idx : Nat} (hts : ∀ w ∈ TB, w.before args s = true) (hl : Cond.methodLink own idx yX11_lose ∈ TB) (hR : 2 + 1 ≤ R.frames ∧ 8 + (2 + 11) + 40 * 2 ≤ R.locals) : CallW R s args own RX11 idx yX11_lose cX11_lose 2 (some .int) (Cond.code yX11_lose cX11_lose 2 (some .int) :: TB) (rmN 2) 0 0 1 := cwV 1 hts (TB_V hl tw_760 tw_761 tw_1 tw_762) rfl rfl rfl (by decide +kernel) hR
set_option maxHeartbeats 4000000 in
set_option maxRecDepth 100000 in
/-- renew -/
theorem c_X3_renew (l : Launch) (D : va_G) (cy : Nat → ClassId) (sz : Nat) (cs : List Nat) (ad : Nat → Nat) (en : Nat → va_E) (q q2 : Nat) (hq : q ∈ cs) (hq2 : q2 ∈ cs) (hne : q2 ≠ q) (f0 : Nat → Int32) (cc ln hr0 la n : Int32) (eq : en q = .inr (3, [.ref (ad q2), .int cc, .int ln, .int hr0])) (eqb : en q2 = .inl (cy 0, 40, .inl f0))  : Met l yX3_renew (Cond.code yX3_renew cX3_renew 3 none :: TB) (rmN 1) (va_Pc [.ref (ad q), .int la, .int n] (Pre D cy cs ad en sz)) (va_Qv (S := Nat → va_E) (fun en1 => (∃ f : Nat → Int32, en1 q2 = .inl (cy 0, 40, .inl f) ∧ ∀ i, i < 40 → f i = 0) ∧ en1 q = .inr (3, [.ref (ad q2), .int n, .int la, .int 1]) ∧ ∀ c, c ≠ q → c ≠ q2 → en1 c = en c) (PostM D cs ad) (Af cs ad sz)) 0 0 (Af cs ad sz) := by
  refine Met.ofW (cc := cX3_renew) (maxL := 3) (ret := none) (by decide) rfl ?_
  intro p e s m args below meth c s₁ B hml hv
  obtain ⟨rfl, hsz, hP, hK, hD0⟩ := hv
  have hx := B.exec
  have hb := B.bytes
  have hr := B.returns
  have hts : ∀ w ∈ TB, w.before _ s = true := fun w h => atoms_spec (ws := _ :: TB) B.pre w (List.mem_cons_of_mem _ h)
  have hown : s.vm.findClass RX3 = some m.cls := findClass_of_methodNamed B.named
  have hlocks := B.notSynchronized
  have hh : Hp D (Af cs ad sz) (Af cs ad sz) s.heap s.heap [] cs ad en := ⟨hP, Af_self hD0, va_S.rf⟩
  have hA : ∀ q : Nat, s.heap.size ≤ q → Af cs ad sz q := fun q h => Or.inr (by rw [hsz] at h; exact h)
  have hl := lv_entry ([.ref (ad q), .int la, .int n]) (n := 3) (Nat.le_of_ble_eq_true rfl)
  rw [lg_entry_eq]
  generalize (lg_sl ([.ref (ad q), .int la, .int n]) ++ List.replicate (3 - (lg_sl ([.ref (ad q), .int la, .int n])).length) Slot.unset).toArray = ls at hl ⊢
  have hl : lv_has ls 3 [(0, .ref (ad q)), (1, .int la), (2, .int n)] := hl
  refine lv_aload_n hx hb dX3_renew_0 rfl (lv_at hl 0 rfl) ?_
  refine hp_get hx hb hts ix3 hown hK hh (q := q) rfl hq eq rfl 0 (by decide) (hts _ tw_229) (fun _ h9 => h9) rfl dX3_renew_1 ?_
  refine lv_iconst (v := 0) hx hb dX3_renew_4 (by decide) ?_
  refine hp_callMv (va_runS (As := [.ref (ad q2), .int 0]) (rest := []) ⟨hx, hb, hml, hown, hts⟩ (c_J7_fill_53178 l D cy _ cs ad en q2 40 hq2 (by decide) f0 0 eqb) (kw_J7_fill_53178 hts tw_758 ⟨by decide, by decide⟩) (preS_of hh hK) rfl rfl hl.1 rfl (lv_room (Nat.le_of_ble_eq_true rfl)) dX3_renew_5 ⟨Nat.le_of_ble_eq_true rfl, Nat.le_of_ble_eq_true rfl⟩) hh hA (fun H locs en_143 hw_143 hh => ?_)
  obtain ⟨f_143, hen_143, hf_143⟩ := hw_143
  have eq_143 : en_143 q = .inr (3, [.ref (ad q2), .int cc, .int ln, .int hr0]) := by rw [hen_143, va_up_ne _ _ (by omega)]; exact eq
  have eqb_143 : en_143 q2 = .inl (cy 0, 40, .inl f_143) := by rw [hen_143]; exact va_up_self _ _ _
  refine lv_aload_n hx hb dX3_renew_8 rfl (lv_at hl 0 rfl) ?_
  refine lv_iload_n hx hb dX3_renew_9 rfl (lv_at hl 1 rfl) ?_
  refine hp_put hx hb hts ix3 tyX3 tyX3_ok nmX3 hown hK hh (q := q) rfl hq eq_143 rfl 2 (by decide) (hts _ tw_232) (fun _ h9 => h9) rfl (ty := .int) (by decide +kernel) rfl rfl (Nat.le_of_ble_eq_true rfl) dX3_renew_10 (fun H locs en_144 hen_144 hh => ?_)
  have eqb_144 : en_144 q2 = .inl (cy 0, 40, .inl f_143) := by rw [hen_144, va_up_ne _ _ (by omega)]; exact eqb_143
  have eq_144 : en_144 q = .inr (3, [.ref (ad q2), .int cc, .int la, .int hr0]) := by rw [hen_144]; exact va_up_self _ _ _
  refine lv_aload_n hx hb dX3_renew_13 rfl (lv_at hl 0 rfl) ?_
  refine lv_iload_n hx hb dX3_renew_14 rfl (lv_at hl 2 rfl) ?_
  refine hp_put hx hb hts ix3 tyX3 tyX3_ok nmX3 hown hK hh (q := q) rfl hq eq_144 rfl 1 (by decide) (hts _ tw_231) (fun _ h9 => h9) rfl (ty := .int) (by decide +kernel) rfl rfl (Nat.le_of_ble_eq_true rfl) dX3_renew_15 (fun H locs en_145 hen_145 hh => ?_)
  have eqb_145 : en_145 q2 = .inl (cy 0, 40, .inl f_143) := by rw [hen_145, va_up_ne _ _ (by omega)]; exact eqb_144
  have eq_145 : en_145 q = .inr (3, [.ref (ad q2), .int n, .int la, .int hr0]) := by rw [hen_145]; exact va_up_self _ _ _
  refine lv_aload_n hx hb dX3_renew_18 rfl (lv_at hl 0 rfl) ?_
  refine lv_iconst (v := 1) hx hb dX3_renew_19 (by decide) ?_
  refine hp_put hx hb hts ix3 tyX3 tyX3_ok nmX3 hown hK hh (q := q) rfl hq eq_145 rfl 3 (by decide) (hts _ tw_234) (fun _ h9 => h9) rfl (ty := .boolean) (by decide +kernel) rfl rfl (Nat.le_of_ble_eq_true rfl) dX3_renew_20 (fun H locs en_146 hen_146 hh => ?_)
  have eqb_146 : en_146 q2 = .inl (cy 0, 40, .inl f_143) := by rw [hen_146, va_up_ne _ _ (by omega)]; exact eqb_145
  have eq_146 : en_146 q = .inr (3, [.ref (ad q2), .int n, .int la, .int 1]) := by rw [hen_146]; exact va_up_self _ _ _
  exact hp_vretM hx hb hr hlocks hh (⟨⟨_, eqb_146, hf_143⟩, eq_146, (fun c h0 h1 => by rw [hen_146, va_up_ne _ _ h0, hen_145, va_up_ne _ _ h0, hen_144, va_up_ne _ _ h0, hen_143, va_up_ne _ _ h1])⟩) dX3_renew_23
theorem kw_X3_renew {R : Room} {s : State} {args : Array Value} {own : String} {idx : Nat} (hts : ∀ w ∈ TB, w.before args s = true) (hl : Cond.methodLink own idx yX3_renew ∈ TB) (hR : 1 + 1 ≤ R.frames ∧ 8 + (3 + 11) + 40 * 1 ≤ R.locals) : CallW R s args own RX3 idx yX3_renew cX3_renew 3 none (Cond.code yX3_renew cX3_renew 3 none :: TB) (rmN 1) 0 0 2 := cwV 2 hts (TB_V hl tw_755 tw_756 tw_8 tw_757) rfl rfl rfl (by decide +kernel) hR
set_option maxHeartbeats 4000000 in
set_option maxRecDepth 100000 in
/-- renewSheet, new object -/
theorem c_X11_renewSheet (l : Launch) (D : va_G) (cy : Nat → ClassId) (sz : Nat) (cs : List Nat) (ad : Nat → Nat) (en : Nat → va_E) (hcs : ∀ c, c < 115 → c ∈ cs) (lf k la n : Int32) (sf : Nat → Nat → Int32) (e0 : en 0 = .inr (10, [.ref (ad 1), .ref (ad 12), .ref (ad 70), .ref (ad 74), .ref (ad 75), .ref (ad 76), .int 0, .int lf])) (e75 : en 75 = .inl (cy 6, 4, .inr (.inr (.inr (.inr (fun j => some (ad (107 + 2 * j)))))))) (hs : ∀ j, j < 4 → en (107 + 2 * j) = .inr (3, [.ref (ad (108 + 2 * j)), .int 0, .int 0, .int 0])) (hc : ∀ j, j < 4 → en (108 + 2 * j) = .inl (cy 0, 40, .inl (sf j))) : Met l yX11_renewSheet (Cond.code yX11_renewSheet cX11_renewSheet 4 (some .int) :: TB) (rmN 2) (va_Pc [.ref (ad 0), .int k, .int la, .int n] (Pre D cy cs ad en sz)) (va_Qi (S := Nat → va_E) (fun r en1 => r = spSheet k la n ∧ en1 0 = .inr (10, [.ref (ad 1), .ref (ad 12), .ref (ad 70), .ref (ad 74), .ref (ad 75), .ref (ad 76), .int 0, .int lf])) (PostM D cs ad) (Af cs ad sz)) 0 0 (Af cs ad sz) := by
  refine Met.ofW (cc := cX11_renewSheet) (maxL := 4) (ret := (some .int)) (by decide) rfl ?_
  intro p e s m args below meth c s₁ B hml hv
  obtain ⟨rfl, hsz, hP, hK, hD0⟩ := hv
  have hx := B.exec
  have hb := B.bytes
  have hr := B.returns
  have hts : ∀ w ∈ TB, w.before _ s = true := fun w h => atoms_spec (ws := _ :: TB) B.pre w (List.mem_cons_of_mem _ h)
  have hown : s.vm.findClass RX11 = some m.cls := findClass_of_methodNamed B.named
  have hlocks := B.notSynchronized
  have hh : Hp D (Af cs ad sz) (Af cs ad sz) s.heap s.heap [] cs ad en := ⟨hP, Af_self hD0, va_S.rf⟩
  have hA : ∀ q : Nat, s.heap.size ≤ q → Af cs ad sz q := fun q h => Or.inr (by rw [hsz] at h; exact h)
  have hl := lv_entry ([.ref (ad 0), .int k, .int la, .int n]) (n := 4) (Nat.le_of_ble_eq_true rfl)
  rw [lg_entry_eq]
  generalize (lg_sl ([.ref (ad 0), .int k, .int la, .int n]) ++ List.replicate (4 - (lg_sl ([.ref (ad 0), .int k, .int la, .int n])).length) Slot.unset).toArray = ls at hl ⊢
  have hl : lv_has ls 4 [(0, .ref (ad 0)), (1, .int k), (2, .int la), (3, .int n)] := hl
  refine lv_iload_n hx hb dX11_renewSheet_0 rfl (lv_at hl 1 rfl) ?_
  refine hp_callRi (va_runS (As := [.int k]) (rest := []) ⟨hx, hb, hml, hown, hts⟩ (c_X11_isSheet l D cy _ cs ad en k ) (kw_X11_isSheet hts tw_305 ⟨by decide, by decide⟩) (preS_of hh hK) rfl rfl hl.1 rfl (lv_room (Nat.le_of_ble_eq_true rfl)) dX11_renewSheet_1 ⟨Nat.le_of_ble_eq_true rfl, Nat.le_of_ble_eq_true rfl⟩) hh hA (fun r_147 H locs hw_147 hh => ?_)
  rcases Decidable.em (wi k 0 3) with hp_147 | hp_147
  · obtain rfl : r_147 = 1 := Eq.trans hw_147 (if_pos hp_147)
    refine lv_if_ne (tgt := 9) hx hb dX11_renewSheet_4 (by decide) (fun _ => ?_) (fun c_0 => absurd c_0 (by decide))
    refine lv_iload_n hx hb dX11_renewSheet_9 rfl (lv_at hl 2 rfl) ?_
    refine hp_callRi (va_runS (As := [.int la]) (rest := []) ⟨hx, hb, hml, hown, hts⟩ (c_X11_isLane l D cy _ cs ad en la ) (kw_X11_isLane hts tw_308 ⟨by decide, by decide⟩) (preS_of hh hK) rfl rfl hl.1 rfl (lv_room (Nat.le_of_ble_eq_true rfl)) dX11_renewSheet_10 ⟨Nat.le_of_ble_eq_true rfl, Nat.le_of_ble_eq_true rfl⟩) hh hA (fun r_148 H locs hw_148 hh => ?_)
    rcases Decidable.em (wi la 0 2) with hp_148 | hp_148
    · obtain rfl : r_148 = 1 := Eq.trans hw_148 (if_pos hp_148)
      refine lv_if_eq (tgt := 22) hx hb dX11_renewSheet_13 (by decide) (fun c_0 => absurd c_0 (by decide)) (fun _ => ?_)
      refine lv_iload_n hx hb dX11_renewSheet_16 rfl (lv_at hl 3 rfl) ?_
      refine lv_bipush (v := 40) hx hb dX11_renewSheet_17 (by decide) ?_
      refine lv_icmp_le (tgt := 25) hx hb dX11_renewSheet_19 (by decide) (fun c_149 => ?_) (fun c_149 => ?_)
      · refine lv_iload_n hx hb dX11_renewSheet_25 rfl (lv_at hl 3 rfl) ?_
        refine lv_if_ge (tgt := 34) hx hb dX11_renewSheet_26 (by decide) (fun c_150 => ?_) (fun c_150 => ?_)
        · refine lv_aload_n hx hb dX11_renewSheet_34 rfl (lv_at hl 0 rfl) ?_
          refine hp_get hx hb hts ix11 hown hK hh (q := 0) rfl (hcs _ (by decide)) e0 rfl 4 (by decide) (hts _ tw_249) (fun _ h9 => h9) rfl dX11_renewSheet_35 ?_
          refine lv_iload_n hx hb dX11_renewSheet_38 rfl (lv_at hl 1 rfl) ?_
          have hj_151 := wi_lt 4 hp_147 (by decide)
          have es151 : en (107 + 2 * k.toNatClampNeg) = .inr (3, [.ref (ad (108 + 2 * k.toNatClampNeg)), .int 0, .int 0, .int 0]) := hs _ hj_151
          have ec152 : en (108 + 2 * k.toNatClampNeg) = .inl (cy 0, 40, .inl (sf k.toNatClampNeg)) := hc _ (wi_lt 4 hp_147 (by decide))
          refine hp_aald hx hb hK hh (q := 75) rfl (hcs _ (by decide)) 6 e75 rfl rfl (wi_in 4 hp_147 (by decide)) (v := .ref (ad (107 + 2 * k.toNatClampNeg))) (rfl) dX11_renewSheet_39 ?_
          refine lv_iload_n hx hb dX11_renewSheet_40 rfl (lv_at hl 2 rfl) ?_
          refine lv_iload_n hx hb dX11_renewSheet_41 rfl (lv_at hl 3 rfl) ?_
          refine hp_callMv (va_runV (As := [.int la, .int n]) (rest := []) ⟨hx, hb, hml, hown, hts⟩ (c_X3_renew l D cy _ cs ad en (107 + 2 * k.toNatClampNeg) (108 + 2 * k.toNatClampNeg) (hcs _ (by omega)) (hcs _ (by omega)) (by omega) (sf k.toNatClampNeg) 0 0 0 la n es151 ec152) (kw_X3_renew hts tw_754 ⟨by decide, by decide⟩) (preV_of hh hK (hcs _ (by omega)) es151 rfl) rfl rfl hl.1 rfl (lv_room (Nat.le_of_ble_eq_true rfl)) dX11_renewSheet_42 ⟨Nat.le_of_ble_eq_true rfl, Nat.le_of_ble_eq_true rfl⟩) hh hA (fun H locs en_153 hw_153 hh => ?_)
          obtain ⟨⟨f_153, ec152_153, hf_153⟩, es151_153, hu_153⟩ := hw_153
          have e0_153 : en_153 0 = .inr (10, [.ref (ad 1), .ref (ad 12), .ref (ad 70), .ref (ad 74), .ref (ad 75), .ref (ad 76), .int 0, .int lf]) := by rw [hu_153 _ (by omega) (by omega)]; exact e0
          have e75_153 : en_153 75 = .inl (cy 6, 4, .inr (.inr (.inr (.inr (fun j => some (ad (107 + 2 * j))))))) := by rw [hu_153 _ (by omega) (by omega)]; exact e75
          refine lv_iconst (v := 1) hx hb dX11_renewSheet_45 (by decide) ?_
          have : (0 : Int32).toInt = 0 := by decide
          have : (2 : Int32).toInt = 2 := by decide
          have : (3 : Int32).toInt = 3 := by decide
          have : (40 : Int32).toInt = 40 := by decide
          have := i_le c_149
          have := i_le c_150
          exact hp_iretM hx hb hr rfl hlocks hh (⟨by unfold spSheet; rw [if_pos hp_147, if_pos ⟨hp_148, by omega⟩, if_neg (by omega)], e0_153⟩) dX11_renewSheet_46
        · refine lv_iconst (v := 4) hx hb dX11_renewSheet_29 (by decide) ?_
          refine hp_callRi (va_runS (As := [.int 4]) (rest := []) ⟨hx, hb, hml, hown, hts⟩ (c_X11_faultAnswer l D cy _ cs ad en 4 ) (kw_X11_faultAnswer hts tw_311 ⟨by decide, by decide⟩) (preS_of hh hK) rfl rfl hl.1 rfl (lv_room (Nat.le_of_ble_eq_true rfl)) dX11_renewSheet_30 ⟨Nat.le_of_ble_eq_true rfl, Nat.le_of_ble_eq_true rfl⟩) hh hA (fun r_154 H locs hw_154 hh => ?_)
          obtain rfl : r_154 = (-14) := Eq.trans hw_154 (by decide)
          have : (0 : Int32).toInt = 0 := by decide
          have : (2 : Int32).toInt = 2 := by decide
          have : (3 : Int32).toInt = 3 := by decide
          have : (40 : Int32).toInt = 40 := by decide
          have := i_le c_149
          have := i_nle c_150
          exact hp_iretM hx hb hr rfl hlocks hh (⟨by unfold spSheet; rw [if_pos hp_147, if_pos ⟨hp_148, by omega⟩, if_pos (by omega)], e0⟩) dX11_renewSheet_33
      · refine lv_bipush (v := (-2)) hx hb dX11_renewSheet_22 (by decide) ?_
        have : (0 : Int32).toInt = 0 := by decide
        have : (2 : Int32).toInt = 2 := by decide
        have : (3 : Int32).toInt = 3 := by decide
        have : (40 : Int32).toInt = 40 := by decide
        have := i_nle c_149
        exact hp_iretM hx hb hr rfl hlocks hh (⟨by unfold spSheet; rw [if_pos hp_147, if_neg (fun h => by have := h.2; omega)], e0⟩) dX11_renewSheet_24
    · obtain rfl : r_148 = 0 := Eq.trans hw_148 (if_neg hp_148)
      refine lv_if_eq (tgt := 22) hx hb dX11_renewSheet_13 (by decide) (fun _ => ?_) (fun c_0 => absurd c_0 (by decide))
      refine lv_bipush (v := (-2)) hx hb dX11_renewSheet_22 (by decide) ?_
      exact hp_iretM hx hb hr rfl hlocks hh (⟨by unfold spSheet; rw [if_pos hp_147, if_neg (fun h => hp_148 h.1)], e0⟩) dX11_renewSheet_24
  · obtain rfl : r_147 = 0 := Eq.trans hw_147 (if_neg hp_147)
    refine lv_if_ne (tgt := 9) hx hb dX11_renewSheet_4 (by decide) (fun c_0 => absurd c_0 (by decide)) (fun _ => ?_)
    refine lv_iconst (v := (-1)) hx hb dX11_renewSheet_7 (by decide) ?_
    exact hp_iretM hx hb hr rfl hlocks hh (⟨by unfold spSheet; rw [if_neg hp_147], e0⟩) dX11_renewSheet_8
theorem kw_X11_renewSheet {R : Room} {s : State} {args : Array Value} {own : String} {idx : Nat} (hts : ∀ w ∈ TB, w.before args s = true) (hl : Cond.methodLink own idx yX11_renewSheet ∈ TB) (hR : 2 + 1 ≤ R.frames ∧ 8 + (4 + 11) + 40 * 2 ≤ R.locals) : CallW R s args own RX11 idx yX11_renewSheet cX11_renewSheet 4 (some .int) (Cond.code yX11_renewSheet cX11_renewSheet 4 (some .int) :: TB) (rmN 2) 0 0 3 := cwV 3 hts (TB_V hl tw_752 ts_28 tw_1 tw_753) rfl rfl rfl (by decide +kernel) hR
set_option maxHeartbeats 4000000 in
set_option maxRecDepth 100000 in
/-- sheet, new object -/
theorem c_X11_sheet (l : Launch) (D : va_G) (cy : Nat → ClassId) (sz : Nat) (cs : List Nat) (ad : Nat → Nat) (en : Nat → va_E) (hcs : ∀ c, c < 115 → c ∈ cs) (lf k la n : Int32) (sf : Nat → Nat → Int32) (e0 : en 0 = .inr (10, [.ref (ad 1), .ref (ad 12), .ref (ad 70), .ref (ad 74), .ref (ad 75), .ref (ad 76), .int 0, .int lf])) (e75 : en 75 = .inl (cy 6, 4, .inr (.inr (.inr (.inr (fun j => some (ad (107 + 2 * j)))))))) (hs : ∀ j, j < 4 → en (107 + 2 * j) = .inr (3, [.ref (ad (108 + 2 * j)), .int 0, .int 0, .int 0])) (hc : ∀ j, j < 4 → en (108 + 2 * j) = .inl (cy 0, 40, .inl (sf j))) : Met l yX11_sheet (Cond.code yX11_sheet cX11_sheet 4 (some .int) :: TB) (rmN 3) (va_Pc [.ref (ad 0), .int k, .int la, .int n] (Pre D cy cs ad en sz)) (va_Qi (S := Nat → va_E) (fun r _ => r = spSheet k la n) (PostM D cs ad) (Af cs ad sz)) 0 0 (Af cs ad sz) := by
  refine Met.ofW (cc := cX11_sheet) (maxL := 4) (ret := (some .int)) (by decide) rfl ?_
  intro p e s m args below meth c s₁ B hml hv
  obtain ⟨rfl, hsz, hP, hK, hD0⟩ := hv
  have hx := B.exec
  have hb := B.bytes
  have hr := B.returns
  have hts : ∀ w ∈ TB, w.before _ s = true := fun w h => atoms_spec (ws := _ :: TB) B.pre w (List.mem_cons_of_mem _ h)
  have hown : s.vm.findClass RX11 = some m.cls := findClass_of_methodNamed B.named
  have hlocks := B.notSynchronized
  have hh : Hp D (Af cs ad sz) (Af cs ad sz) s.heap s.heap [] cs ad en := ⟨hP, Af_self hD0, va_S.rf⟩
  have hA : ∀ q : Nat, s.heap.size ≤ q → Af cs ad sz q := fun q h => Or.inr (by rw [hsz] at h; exact h)
  have hl := lv_entry ([.ref (ad 0), .int k, .int la, .int n]) (n := 4) (Nat.le_of_ble_eq_true rfl)
  rw [lg_entry_eq]
  generalize (lg_sl ([.ref (ad 0), .int k, .int la, .int n]) ++ List.replicate (4 - (lg_sl ([.ref (ad 0), .int k, .int la, .int n])).length) Slot.unset).toArray = ls at hl ⊢
  have hl : lv_has ls 4 [(0, .ref (ad 0)), (1, .int k), (2, .int la), (3, .int n)] := hl
  refine lv_aload_n hx hb dX11_sheet_0 rfl (lv_at hl 0 rfl) ?_
  refine lv_aload_n hx hb dX11_sheet_1 rfl (lv_at hl 0 rfl) ?_
  refine lv_iload_n hx hb dX11_sheet_2 rfl (lv_at hl 1 rfl) ?_
  refine lv_iload_n hx hb dX11_sheet_3 rfl (lv_at hl 2 rfl) ?_
  refine lv_iload_n hx hb dX11_sheet_4 rfl (lv_at hl 3 rfl) ?_
  refine hp_callMi (va_runV (As := [.int k, .int la, .int n]) (rest := [.ref (ad 0)]) ⟨hx, hb, hml, hown, hts⟩ (c_X11_renewSheet l D cy _ cs ad en hcs lf k la n sf e0 e75 hs hc) (kw_X11_renewSheet hts tw_750 ⟨by decide, by decide⟩) (preV_of hh hK (hcs _ (by decide)) e0 rfl) rfl rfl hl.1 rfl (lv_room (Nat.le_of_ble_eq_true rfl)) dX11_sheet_5 ⟨Nat.le_of_ble_eq_true rfl, Nat.le_of_ble_eq_true rfl⟩) hh hA (fun r_155 H locs en_155 hw_155 hh => ?_)
  obtain ⟨rfl, e0_155⟩ := hw_155
  refine hp_callMi (va_runV (As := [.int (spSheet k la n)]) (rest := []) ⟨hx, hb, hml, hown, hts⟩ (c_X11_settle l D cy _ cs ad en_155 hcs 0 lf (spSheet k la n) e0_155 ) (kw_X11_settle hts tw_404 ⟨by decide, by decide⟩) (preV_of hh hK (hcs _ (by decide)) e0_155 rfl) rfl rfl hl.1 rfl (lv_room (Nat.le_of_ble_eq_true rfl)) dX11_sheet_8 ⟨Nat.le_of_ble_eq_true rfl, Nat.le_of_ble_eq_true rfl⟩) hh hA (fun r_156 H locs en_156 hw_156 hh => ?_)
  obtain ⟨rfl, hen_156⟩ := hw_156
  exact hp_iretM hx hb hr rfl hlocks hh (rfl) dX11_sheet_11
theorem kw_X11_sheet {R : Room} {s : State} {args : Array Value} {own : String} {idx : Nat} (hts : ∀ w ∈ TB, w.before args s = true) (hl : Cond.methodLink own idx yX11_sheet ∈ TB) (hR : 3 + 1 ≤ R.frames ∧ 8 + (4 + 11) + 40 * 3 ≤ R.locals) : CallW R s args own RX11 idx yX11_sheet cX11_sheet 4 (some .int) (Cond.code yX11_sheet cX11_sheet 4 (some .int) :: TB) (rmN 3) 0 0 3 := cwV 3 hts (TB_V hl tw_747 tw_748 tw_1 tw_749) rfl rfl rfl (by decide +kernel) hR
set_option maxHeartbeats 4000000 in
set_option maxRecDepth 100000 in
/-- countAllowedPairs, no TABLES -/
theorem c_X8_countAllowedPairs (l : Launch) (D : va_G) (cy : Nat → ClassId) (sz : Nat) (cs : List Nat) (ad : Nat → Nat) (en : Nat → va_E) (hcs : ∀ c, c < 115 → c ∈ cs) (e1 : en 1 = .inr (7, [.ref (ad 2), .ref (ad 3), .ref (ad 10), .ref (ad 11), .int 0, .int 2, .int 0]))  : Met l yX8_countAllowedPairs (Cond.code yX8_countAllowedPairs cX8_countAllowedPairs 4 (some .int) :: TB) (rmN 1) (va_Pc [.ref (ad 1)] (Pre D cy cs ad en sz)) (va_Qi (S := Unit) (fun r _ => r = 0) (fun _ _ => True) (Nf sz)) 0 0 (Nf sz) := by
  refine Met.ofW (cc := cX8_countAllowedPairs) (maxL := 4) (ret := (some .int)) (by decide) rfl ?_
  intro p e s m args below meth c s₁ B hml hv
  obtain ⟨rfl, hsz, hP, hK, hD0⟩ := hv
  have hx := B.exec
  have hb := B.bytes
  have hr := B.returns
  have hts : ∀ w ∈ TB, w.before _ s = true := fun w h => atoms_spec (ws := _ :: TB) B.pre w (List.mem_cons_of_mem _ h)
  have hown : s.vm.findClass RX8 = some m.cls := findClass_of_methodNamed B.named
  have hlocks := B.notSynchronized
  have hh : Hp D (Nf sz) (fun _ => True) s.heap s.heap [] cs ad en := ⟨hP, hD0, va_S.rf⟩
  have hA : ∀ q : Nat, s.heap.size ≤ q → Nf sz q := fun q h => by rw [hsz] at h; exact h
  have hl := lv_entry ([.ref (ad 1)]) (n := 4) (Nat.le_of_ble_eq_true rfl)
  rw [lg_entry_eq]
  generalize (lg_sl ([.ref (ad 1)]) ++ List.replicate (4 - (lg_sl ([.ref (ad 1)])).length) Slot.unset).toArray = ls at hl ⊢
  have hl : lv_has ls 4 [(0, .ref (ad 1))] := hl
  refine lv_iconst (v := 0) hx hb dX8_countAllowedPairs_0 (by decide) ?_
  refine lv_istore_n (lv' := [(1, .int 0), (0, .ref (ad 1))]) hx hb dX8_countAllowedPairs_1 rfl hl (by decide) rfl (fun ls hl => ?_)
  refine lv_iconst (v := 0) hx hb dX8_countAllowedPairs_2 (by decide) ?_
  refine lv_istore_n (lv' := [(2, .int 0), (1, .int 0), (0, .ref (ad 1))]) hx hb dX8_countAllowedPairs_3 rfl hl (by decide) rfl (fun ls hl => ?_)
  refine lv_iload_n hx hb dX8_countAllowedPairs_4 rfl (lv_at hl 0 rfl) ?_
  refine lv_aload_n hx hb dX8_countAllowedPairs_5 rfl (lv_at hl 2 rfl) ?_
  refine hp_get hx hb hts ix8 hown hK hh (q := 1) rfl (hcs _ (by decide)) e1 rfl 4 (by decide) (hts _ tw_43) (fun _ h9 => h9) rfl dX8_countAllowedPairs_6 ?_
  refine lv_icmp_ge (tgt := 46) hx hb dX8_countAllowedPairs_9 (by decide) (fun _ => ?_) (fun c_0 => absurd c_0 (by decide))
  refine lv_iload_n hx hb dX8_countAllowedPairs_46 rfl (lv_at hl 1 rfl) ?_
  exact hp_iretR hx hb hr rfl hlocks hsz hh (rfl) dX8_countAllowedPairs_47
theorem kw_X8_countAllowedPairs {R : Room} {s : State} {args : Array Value} {own : String} {idx : Nat} (hts : ∀ w ∈ TB, w.before args s = true) (hl : Cond.methodLink own idx yX8_countAllowedPairs ∈ TB) (hR : 1 + 1 ≤ R.frames ∧ 8 + (4 + 11) + 40 * 1 ≤ R.locals) : CallW R s args own RX8 idx yX8_countAllowedPairs cX8_countAllowedPairs 4 (some .int) (Cond.code yX8_countAllowedPairs cX8_countAllowedPairs 4 (some .int) :: TB) (rmN 1) 0 0 0 := cwV 0 hts (TB_V hl tw_870 tw_871 tw_2 tw_872) rfl rfl rfl (by decide +kernel) hR
set_option maxHeartbeats 4000000 in
set_option maxRecDepth 100000 in
/-- told, new object -/
theorem c_X11_told (l : Launch) (D : va_G) (cy : Nat → ClassId) (sz : Nat) (cs : List Nat) (ad : Nat → Nat) (en : Nat → va_E) (hcs : ∀ c, c < 115 → c ∈ cs) (lf w : Int32) (e0 : en 0 = .inr (10, [.ref (ad 1), .ref (ad 12), .ref (ad 70), .ref (ad 74), .ref (ad 75), .ref (ad 76), .int 0, .int lf])) (e1 : en 1 = .inr (7, [.ref (ad 2), .ref (ad 3), .ref (ad 10), .ref (ad 11), .int 0, .int 2, .int 0]))  : Met l yX11_told (Cond.code yX11_told cX11_told 2 (some .int) :: TB) (rmN 2) (va_Pc [.ref (ad 0), .int w] (Pre D cy cs ad en sz)) (va_Qi (S := Unit) (fun r _ => r = spTold w) (fun _ _ => True) (Nf sz)) 0 0 (Nf sz) := by
  refine Met.ofW (cc := cX11_told) (maxL := 2) (ret := (some .int)) (by decide) rfl ?_
  intro p e s m args below meth c s₁ B hml hv
  obtain ⟨rfl, hsz, hP, hK, hD0⟩ := hv
  have hx := B.exec
  have hb := B.bytes
  have hr := B.returns
  have hts : ∀ w ∈ TB, w.before _ s = true := fun w h => atoms_spec (ws := _ :: TB) B.pre w (List.mem_cons_of_mem _ h)
  have hown : s.vm.findClass RX11 = some m.cls := findClass_of_methodNamed B.named
  have hlocks := B.notSynchronized
  have hh : Hp D (Nf sz) (fun _ => True) s.heap s.heap [] cs ad en := ⟨hP, hD0, va_S.rf⟩
  have hA : ∀ q : Nat, s.heap.size ≤ q → Nf sz q := fun q h => by rw [hsz] at h; exact h
  have hl := lv_entry ([.ref (ad 0), .int w]) (n := 2) (Nat.le_of_ble_eq_true rfl)
  rw [lg_entry_eq]
  generalize (lg_sl ([.ref (ad 0), .int w]) ++ List.replicate (2 - (lg_sl ([.ref (ad 0), .int w])).length) Slot.unset).toArray = ls at hl ⊢
  have hl : lv_has ls 2 [(0, .ref (ad 0)), (1, .int w)] := hl
  refine lv_iload_n hx hb dX11_told_0 rfl (lv_at hl 1 rfl) ?_
  by_cases q_157_0 : w = 0
  · refine lv_tableIn (off := 35) (tgt := 36) hx hb dX11_told_1 (by rw [q_157_0]; decide) (by rw [q_157_0]; decide) (by rw [q_157_0]; decide) (by decide) ?_
    refine lv_aload_n hx hb dX11_told_36 rfl (lv_at hl 0 rfl) ?_
    refine hp_get hx hb hts ix11 hown hK hh (q := 0) rfl (hcs _ (by decide)) e0 rfl 0 (by decide) (hts _ tw_245) (fun _ h9 => h9) rfl dX11_told_37 ?_
    refine hp_callRi (va_runV (As := []) (rest := []) ⟨hx, hb, hml, hown, hts⟩ (c_X8_count l D cy _ cs ad en hcs 0 2 0 e1) (kw_X8_count hts tw_318 ⟨by decide, by decide⟩) (preV_of hh hK (hcs _ (by decide)) e1 rfl) rfl rfl hl.1 rfl (lv_room (Nat.le_of_ble_eq_true rfl)) dX11_told_40 ⟨Nat.le_of_ble_eq_true rfl, Nat.le_of_ble_eq_true rfl⟩) hh hA (fun r_158 H locs hw_158 hh => ?_)
    obtain rfl : r_158 = 0 := hw_158
    exact hp_iretR hx hb hr rfl hlocks hsz hh (by rw [q_157_0]; decide) dX11_told_43
  by_cases q_157_1 : w = 1
  · refine lv_tableIn (off := 43) (tgt := 44) hx hb dX11_told_1 (by rw [q_157_1]; decide) (by rw [q_157_1]; decide) (by rw [q_157_1]; decide) (by decide) ?_
    refine lv_aload_n hx hb dX11_told_44 rfl (lv_at hl 0 rfl) ?_
    refine hp_get hx hb hts ix11 hown hK hh (q := 0) rfl (hcs _ (by decide)) e0 rfl 0 (by decide) (hts _ tw_245) (fun _ h9 => h9) rfl dX11_told_45 ?_
    refine hp_callRi (va_runV (As := []) (rest := []) ⟨hx, hb, hml, hown, hts⟩ (c_X8_dimension l D cy _ cs ad en hcs 0 2 0 e1) (kw_X8_dimension hts tw_868 ⟨by decide, by decide⟩) (preV_of hh hK (hcs _ (by decide)) e1 rfl) rfl rfl hl.1 rfl (lv_room (Nat.le_of_ble_eq_true rfl)) dX11_told_48 ⟨Nat.le_of_ble_eq_true rfl, Nat.le_of_ble_eq_true rfl⟩) hh hA (fun r_159 H locs hw_159 hh => ?_)
    obtain rfl : r_159 = 2 := hw_159
    exact hp_iretR hx hb hr rfl hlocks hsz hh (by rw [q_157_1]; decide) dX11_told_51
  by_cases q_157_2 : w = 2
  · refine lv_tableIn (off := 51) (tgt := 52) hx hb dX11_told_1 (by rw [q_157_2]; decide) (by rw [q_157_2]; decide) (by rw [q_157_2]; decide) (by decide) ?_
    refine lv_aload_n hx hb dX11_told_52 rfl (lv_at hl 0 rfl) ?_
    refine hp_get hx hb hts ix11 hown hK hh (q := 0) rfl (hcs _ (by decide)) e0 rfl 0 (by decide) (hts _ tw_245) (fun _ h9 => h9) rfl dX11_told_53 ?_
    refine hp_callRi (va_runV (As := []) (rest := []) ⟨hx, hb, hml, hown, hts⟩ (c_X8_modulus l D cy _ cs ad en hcs 0 2 0 e1) (kw_X8_modulus hts tw_561 ⟨by decide, by decide⟩) (preV_of hh hK (hcs _ (by decide)) e1 rfl) rfl rfl hl.1 rfl (lv_room (Nat.le_of_ble_eq_true rfl)) dX11_told_56 ⟨Nat.le_of_ble_eq_true rfl, Nat.le_of_ble_eq_true rfl⟩) hh hA (fun r_160 H locs hw_160 hh => ?_)
    obtain rfl : r_160 = 0 := hw_160
    exact hp_iretR hx hb hr rfl hlocks hsz hh (by rw [q_157_2]; decide) dX11_told_59
  by_cases q_157_3 : w = 3
  · refine lv_tableIn (off := 59) (tgt := 60) hx hb dX11_told_1 (by rw [q_157_3]; decide) (by rw [q_157_3]; decide) (by rw [q_157_3]; decide) (by decide) ?_
    refine lv_aload_n hx hb dX11_told_60 rfl (lv_at hl 0 rfl) ?_
    refine hp_get hx hb hts ix11 hown hK hh (q := 0) rfl (hcs _ (by decide)) e0 rfl 6 (by decide) (hts _ tw_251) (fun _ h9 => h9) rfl dX11_told_61 ?_
    exact hp_iretR hx hb hr rfl hlocks hsz hh (by rw [q_157_3]; decide) dX11_told_64
  by_cases q_157_4 : w = 4
  · refine lv_tableIn (off := 64) (tgt := 65) hx hb dX11_told_1 (by rw [q_157_4]; decide) (by rw [q_157_4]; decide) (by rw [q_157_4]; decide) (by decide) ?_
    refine lv_aload_n hx hb dX11_told_65 rfl (lv_at hl 0 rfl) ?_
    refine hp_get hx hb hts ix11 hown hK hh (q := 0) rfl (hcs _ (by decide)) e0 rfl 0 (by decide) (hts _ tw_245) (fun _ h9 => h9) rfl dX11_told_66 ?_
    refine hp_callRi (va_runV (As := []) (rest := []) ⟨hx, hb, hml, hown, hts⟩ (c_X8_countAllowedPairs l D cy _ cs ad en hcs  e1 ) (kw_X8_countAllowedPairs hts tw_869 ⟨by decide, by decide⟩) (preV_of hh hK (hcs _ (by decide)) e1 rfl) rfl rfl hl.1 rfl (lv_room (Nat.le_of_ble_eq_true rfl)) dX11_told_69 ⟨Nat.le_of_ble_eq_true rfl, Nat.le_of_ble_eq_true rfl⟩) hh hA (fun r_161 H locs hw_161 hh => ?_)
    obtain rfl : r_161 = 0 := hw_161
    exact hp_iretR hx hb hr rfl hlocks hsz hh (by rw [q_157_4]; decide) dX11_told_72
  refine lv_tableOut (tgt := 73) hx hb dX11_told_1 (tb_out 5 (by decide) (by decide) (fun j hj => by rcases (show j = 0 ∨ j = 1 ∨ j = 2 ∨ j = 3 ∨ j = 4 by omega) with rfl | rfl | rfl | rfl | rfl <;> first | exact lv_neT q_157_0 (by decide) | exact lv_neT q_157_1 (by decide) | exact lv_neT q_157_2 (by decide) | exact lv_neT q_157_3 (by decide) | exact lv_neT q_157_4 (by decide))) (by decide) ?_
  refine lv_bipush (v := (-2)) hx hb dX11_told_73 (by decide) ?_
  exact hp_iretR hx hb hr rfl hlocks hsz hh ((spTold_d q_157_0 q_157_1 q_157_2 q_157_3 q_157_4).symm) dX11_told_75
theorem kw_X11_told {R : Room} {s : State} {args : Array Value} {own : String} {idx : Nat} (hts : ∀ w ∈ TB, w.before args s = true) (hl : Cond.methodLink own idx yX11_told ∈ TB) (hR : 2 + 1 ≤ R.frames ∧ 8 + (2 + 11) + 40 * 2 ≤ R.locals) : CallW R s args own RX11 idx yX11_told cX11_told 2 (some .int) (Cond.code yX11_told cX11_told 2 (some .int) :: TB) (rmN 2) 0 0 1 := cwV 1 hts (TB_V hl tw_865 tw_866 tw_1 tw_867) rfl rfl rfl (by decide +kernel) hR
