set_option maxHeartbeats 4000000 in
set_option maxRecDepth 100000 in
/-- Survey.restart -/
theorem c_X6_restart (l : Launch) (D : va_G) (cy : Nat → ClassId) (sz : Nat) (cs : List Nat) (ad : Nat → Nat) (en : Nat → va_E) (hI : SX cy cs ad en) (J : Nat) (hJ : J < 9)   : Met l yX6_restart (Cond.code yX6_restart cX6_restart 1 none :: TB) (rmN 0) (va_Pc [.ref (ad (34 + 4 * J))] (Pre D cy cs ad en sz)) (va_Qv (S := Nat → va_E) (fun en1 => SX cy cs ad en1 ∧ (∀ c, (c ≠ 34 + 4 * J) → en1 c = en c) ∧ (svN en1 J = (0, -1, 9223372036854775807, rdF (en (35 + 4 * J)), rdF (en (36 + 4 * J))) ∧ svT en1 J = -1 ∧ svR en1 J = (0, 0, rdF (en (37 + 4 * J))))) (PostM D cs ad) (Af cs ad sz)) 0 0 (Af cs ad sz) := by
  refine Met.ofW (cc := cX6_restart) (maxL := 1) (ret := none) (by decide) rfl ?_
  intro p e s m args below meth c s₁ B hml hv
  obtain ⟨rfl, hsz, hP, hK, hD0⟩ := hv
  have hx := B.exec
  have hb := B.bytes
  have hr := B.returns
  have hts : ∀ w ∈ TB, w.before _ s = true := fun w h => atoms_spec (ws := _ :: TB) B.pre w (List.mem_cons_of_mem _ h)
  have hown : s.vm.findClass RX6 = some m.cls := findClass_of_methodNamed B.named
  have hlocks := B.notSynchronized
  have hh : Hp D (Af cs ad sz) (Af cs ad sz) s.heap s.heap [] cs ad en := ⟨hP, Af_self hD0, va_S.rf⟩
  have hA : ∀ q : Nat, s.heap.size ≤ q → Af cs ad sz q := fun q h => Or.inr (by rw [hsz] at h; exact h)
  have hl := lv_entry ([.ref (ad (34 + 4 * J))]) (n := 1) (Nat.le_of_ble_eq_true rfl)
  rw [lg_entry_eq]
  generalize (lg_sl ([.ref (ad (34 + 4 * J))]) ++ List.replicate (1 - (lg_sl ([.ref (ad (34 + 4 * J))])).length) Slot.unset).toArray = ls at hl ⊢
  have hl : lv_has ls 1 [(0, .ref (ad (34 + 4 * J)))] := hl
  have hf0 : ∀ c, (c ≠ 34 + 4 * J) → en c = en c := fun _ _ => rfl
  obtain ⟨dn_152, no_152, rc_152, gr_152, le_152, rt_152, tt_152, es152, p0_152⟩ := get_sv hI (j := J) (by omega)
  refine lv_aload_n hx hb dX6_restart_0 rfl (lv_at hl 0 rfl) ?_
  refine lv_iconst (v := 0) hx hb dX6_restart_1 (by decide) ?_
  refine hp_put hx hb hts ix6 tyX6 tyX6_ok nmX6 hown hK hh (q := (34 + 4 * J)) rfl (hI.1 _ (by omega)) es152 rfl 3 (by decide) (hts _ tw_85) (fun _ h9 => h9) rfl (ty := .boolean) (by decide +kernel) rfl rfl (Nat.le_of_ble_eq_true rfl) dX6_restart_2 (fun H locs en_153 hen_153 hh => ?_)
  have es152_153 : en_153 (34 + 4 * J) = .inr (5, [.ref (ad (35 + 4 * J)), .ref (ad (36 + 4 * J)), .ref (ad (37 + 4 * J)), .int 0, .int no_152, .int rc_152, .long gr_152, .long le_152, .long rt_152, .long tt_152]) := by rw [hen_153]; exact va_up_self _ _ _
  have hI_153 : SX cy cs ad en_153 := by rw [hen_153]; exact up_sv hI (j := J) (by omega) ⟨0, no_152, rc_152, gr_152, le_152, rt_152, tt_152, rfl, (by omega)⟩
  have hf_153 : ∀ c, (c ≠ 34 + 4 * J) → en_153 c = en c := fun c hc => Eq.trans (show en_153 c = en c from by rw [hen_153, va_up_ne _ _ (by omega)]) (hf0 c hc)
  refine lv_aload_n hx hb dX6_restart_5 rfl (lv_at hl 0 rfl) ?_
  refine lv_iconst (v := 0) hx hb dX6_restart_6 (by decide) ?_
  refine hp_put hx hb hts ix6 tyX6 tyX6_ok nmX6 hown hK hh (q := (34 + 4 * J)) rfl (hI.1 _ (by omega)) es152_153 rfl 4 (by decide) (hts _ tw_87) (fun _ h9 => h9) rfl (ty := .int) (by decide +kernel) rfl rfl (Nat.le_of_ble_eq_true rfl) dX6_restart_7 (fun H locs en_154 hen_154 hh => ?_)
  have es152_154 : en_154 (34 + 4 * J) = .inr (5, [.ref (ad (35 + 4 * J)), .ref (ad (36 + 4 * J)), .ref (ad (37 + 4 * J)), .int 0, .int 0, .int rc_152, .long gr_152, .long le_152, .long rt_152, .long tt_152]) := by rw [hen_154]; exact va_up_self _ _ _
  have hI_154 : SX cy cs ad en_154 := by rw [hen_154]; exact up_sv hI_153 (j := J) (by omega) ⟨0, 0, rc_152, gr_152, le_152, rt_152, tt_152, rfl, (by omega)⟩
  have hf_154 : ∀ c, (c ≠ 34 + 4 * J) → en_154 c = en c := fun c hc => Eq.trans (show en_154 c = en_153 c from by rw [hen_154, va_up_ne _ _ (by omega)]) (hf_153 c hc)
  refine lv_aload_n hx hb dX6_restart_10 rfl (lv_at hl 0 rfl) ?_
  refine lv_iconst (v := 0) hx hb dX6_restart_11 (by decide) ?_
  refine hp_put hx hb hts ix6 tyX6 tyX6_ok nmX6 hown hK hh (q := (34 + 4 * J)) rfl (hI.1 _ (by omega)) es152_154 rfl 5 (by decide) (hts _ tw_89) (fun _ h9 => h9) rfl (ty := .int) (by decide +kernel) rfl rfl (Nat.le_of_ble_eq_true rfl) dX6_restart_12 (fun H locs en_155 hen_155 hh => ?_)
  have es152_155 : en_155 (34 + 4 * J) = .inr (5, [.ref (ad (35 + 4 * J)), .ref (ad (36 + 4 * J)), .ref (ad (37 + 4 * J)), .int 0, .int 0, .int 0, .long gr_152, .long le_152, .long rt_152, .long tt_152]) := by rw [hen_155]; exact va_up_self _ _ _
  have hI_155 : SX cy cs ad en_155 := by rw [hen_155]; exact up_sv hI_154 (j := J) (by omega) ⟨0, 0, 0, gr_152, le_152, rt_152, tt_152, rfl, (by omega)⟩
  have hf_155 : ∀ c, (c ≠ 34 + 4 * J) → en_155 c = en c := fun c hc => Eq.trans (show en_155 c = en_154 c from by rw [hen_155, va_up_ne _ _ (by omega)]) (hf_154 c hc)
  refine lv_aload_n hx hb dX6_restart_15 rfl (lv_at hl 0 rfl) ?_
  refine lv_ldc2 hx hb hown (hts _ tw_475) dX6_restart_16 ?_
  refine hp_put hx hb hts ix6 tyX6 tyX6_ok nmX6 hown hK hh (q := (34 + 4 * J)) rfl (hI.1 _ (by omega)) es152_155 rfl 6 (by decide) (hts _ tw_91) (fun _ h9 => h9) rfl (ty := .long) (by decide +kernel) rfl rfl (Nat.le_of_ble_eq_true rfl) dX6_restart_19 (fun H locs en_156 hen_156 hh => ?_)
  have es152_156 : en_156 (34 + 4 * J) = .inr (5, [.ref (ad (35 + 4 * J)), .ref (ad (36 + 4 * J)), .ref (ad (37 + 4 * J)), .int 0, .int 0, .int 0, .long (-1), .long le_152, .long rt_152, .long tt_152]) := by rw [hen_156]; exact va_up_self _ _ _
  have hI_156 : SX cy cs ad en_156 := by rw [hen_156]; exact up_sv hI_155 (j := J) (by omega) ⟨0, 0, 0, (-1), le_152, rt_152, tt_152, rfl, (by omega)⟩
  have hf_156 : ∀ c, (c ≠ 34 + 4 * J) → en_156 c = en c := fun c hc => Eq.trans (show en_156 c = en_155 c from by rw [hen_156, va_up_ne _ _ (by omega)]) (hf_155 c hc)
  refine lv_aload_n hx hb dX6_restart_22 rfl (lv_at hl 0 rfl) ?_
  refine lv_ldc2 hx hb hown (hts _ tw_476) dX6_restart_23 ?_
  refine hp_put hx hb hts ix6 tyX6 tyX6_ok nmX6 hown hK hh (q := (34 + 4 * J)) rfl (hI.1 _ (by omega)) es152_156 rfl 7 (by decide) (hts _ tw_94) (fun _ h9 => h9) rfl (ty := .long) (by decide +kernel) rfl rfl (Nat.le_of_ble_eq_true rfl) dX6_restart_26 (fun H locs en_157 hen_157 hh => ?_)
  have es152_157 : en_157 (34 + 4 * J) = .inr (5, [.ref (ad (35 + 4 * J)), .ref (ad (36 + 4 * J)), .ref (ad (37 + 4 * J)), .int 0, .int 0, .int 0, .long (-1), .long 9223372036854775807, .long rt_152, .long tt_152]) := by rw [hen_157]; exact va_up_self _ _ _
  have hI_157 : SX cy cs ad en_157 := by rw [hen_157]; exact up_sv hI_156 (j := J) (by omega) ⟨0, 0, 0, (-1), 9223372036854775807, rt_152, tt_152, rfl, (by omega)⟩
  have hf_157 : ∀ c, (c ≠ 34 + 4 * J) → en_157 c = en c := fun c hc => Eq.trans (show en_157 c = en_156 c from by rw [hen_157, va_up_ne _ _ (by omega)]) (hf_156 c hc)
  refine lv_aload_n hx hb dX6_restart_29 rfl (lv_at hl 0 rfl) ?_
  refine lv_lconst (v := 0) hx hb dX6_restart_30 (by decide) ?_
  refine hp_put hx hb hts ix6 tyX6 tyX6_ok nmX6 hown hK hh (q := (34 + 4 * J)) rfl (hI.1 _ (by omega)) es152_157 rfl 8 (by decide) (hts _ tw_96) (fun _ h9 => h9) rfl (ty := .long) (by decide +kernel) rfl rfl (Nat.le_of_ble_eq_true rfl) dX6_restart_31 (fun H locs en_158 hen_158 hh => ?_)
  have es152_158 : en_158 (34 + 4 * J) = .inr (5, [.ref (ad (35 + 4 * J)), .ref (ad (36 + 4 * J)), .ref (ad (37 + 4 * J)), .int 0, .int 0, .int 0, .long (-1), .long 9223372036854775807, .long 0, .long tt_152]) := by rw [hen_158]; exact va_up_self _ _ _
  have hI_158 : SX cy cs ad en_158 := by rw [hen_158]; exact up_sv hI_157 (j := J) (by omega) ⟨0, 0, 0, (-1), 9223372036854775807, 0, tt_152, rfl, (by omega)⟩
  have hf_158 : ∀ c, (c ≠ 34 + 4 * J) → en_158 c = en c := fun c hc => Eq.trans (show en_158 c = en_157 c from by rw [hen_158, va_up_ne _ _ (by omega)]) (hf_157 c hc)
  refine lv_aload_n hx hb dX6_restart_34 rfl (lv_at hl 0 rfl) ?_
  refine lv_ldc2 hx hb hown (hts _ tw_475) dX6_restart_35 ?_
  refine hp_put hx hb hts ix6 tyX6 tyX6_ok nmX6 hown hK hh (q := (34 + 4 * J)) rfl (hI.1 _ (by omega)) es152_158 rfl 9 (by decide) (hts _ tw_98) (fun _ h9 => h9) rfl (ty := .long) (by decide +kernel) rfl rfl (Nat.le_of_ble_eq_true rfl) dX6_restart_38 (fun H locs en_159 hen_159 hh => ?_)
  have es152_159 : en_159 (34 + 4 * J) = .inr (5, [.ref (ad (35 + 4 * J)), .ref (ad (36 + 4 * J)), .ref (ad (37 + 4 * J)), .int 0, .int 0, .int 0, .long (-1), .long 9223372036854775807, .long 0, .long (-1)]) := by rw [hen_159]; exact va_up_self _ _ _
  have hI_159 : SX cy cs ad en_159 := by rw [hen_159]; exact up_sv hI_158 (j := J) (by omega) ⟨0, 0, 0, (-1), 9223372036854775807, 0, (-1), rfl, (by omega)⟩
  have hf_159 : ∀ c, (c ≠ 34 + 4 * J) → en_159 c = en c := fun c hc => Eq.trans (show en_159 c = en_158 c from by rw [hen_159, va_up_ne _ _ (by omega)]) (hf_158 c hc)
  exact hp_vretM hx hb hr hlocks hh (⟨hI_159, hf_159, ⟨svN_of (by rw [es152_159]; rfl) (by rw [es152_159]; rfl) (by rw [es152_159]; rfl) (by rw [hf_159 (35 + 4 * J) (by omega)]) (by rw [hf_159 (36 + 4 * J) (by omega)]), (by unfold svT; rw [es152_159]; rfl), svR_of (by rw [es152_159]; rfl) (by rw [es152_159]; rfl) (by rw [hf_159 (37 + 4 * J) (by omega)])⟩⟩) dX6_restart_41
theorem kw_X6_restart {R : Room} {s : State} {args : Array Value} {own : String} {idx : Nat} (hts : ∀ w ∈ TB, w.before args s = true) (hl : Cond.methodLink own idx yX6_restart ∈ TB) (hR : 0 + 1 ≤ R.frames ∧ 8 + (1 + 11) + 40 * 0 ≤ R.locals) : CallW R s args own RX6 idx yX6_restart cX6_restart 1 none (Cond.code yX6_restart cX6_restart 1 none :: TB) (rmN 0) 0 0 0 := cwV 0 hts (TB_V hl tw_472 tw_473 tw_4 tw_474) rfl rfl rfl (by decide +kernel) hR
set_option maxHeartbeats 4000000 in
set_option maxRecDepth 100000 in
/-- noteNorm -/
theorem c_X6_noteNorm (l : Launch) (D : va_G) (cy : Nat → ClassId) (sz : Nat) (cs : List Nat) (ad : Nat → Nat) (en : Nat → va_E) (hI : SX cy cs ad en) (J : Nat) (hJ : J < 9) (n : Nat) (hn : n ≤ 8) (v : Int64)   : Met l yX6_noteNorm (Cond.code yX6_noteNorm cX6_noteNorm 5 none :: TB) (rmN 1) (va_Pc [.ref (ad (34 + 4 * J)), .ref (ad 33), .int (nI n), .long v] (Pre D cy cs ad en sz)) (va_Qv (S := Nat → va_E) (fun en1 => SX cy cs ad en1 ∧ (∀ c, (c ≠ 34 + 4 * J ∧ c ≠ 35 + 4 * J ∧ c ≠ 36 + 4 * J) → en1 c = en c) ∧ (svN en1 J = nnV n v (rdF (en 33)) (svN en J) ∧ svT en1 J = svT en J ∧ svR en1 J = svR en J)) (PostM D cs ad) (Af cs ad sz)) 0 0 (Af cs ad sz) := by
  refine Met.ofW (cc := cX6_noteNorm) (maxL := 5) (ret := none) (by decide) rfl ?_
  intro p e s m args below meth c s₁ B hml hv
  obtain ⟨rfl, hsz, hP, hK, hD0⟩ := hv
  have hx := B.exec
  have hb := B.bytes
  have hr := B.returns
  have hts : ∀ w ∈ TB, w.before _ s = true := fun w h => atoms_spec (ws := _ :: TB) B.pre w (List.mem_cons_of_mem _ h)
  have hown : s.vm.findClass RX6 = some m.cls := findClass_of_methodNamed B.named
  have hlocks := B.notSynchronized
  have hh : Hp D (Af cs ad sz) (Af cs ad sz) s.heap s.heap [] cs ad en := ⟨hP, Af_self hD0, va_S.rf⟩
  have hA : ∀ q : Nat, s.heap.size ≤ q → Af cs ad sz q := fun q h => Or.inr (by rw [hsz] at h; exact h)
  have hl := lv_entry ([.ref (ad (34 + 4 * J)), .ref (ad 33), .int (nI n), .long v]) (n := 5) (Nat.le_of_ble_eq_true rfl)
  rw [lg_entry_eq]
  generalize (lg_sl ([.ref (ad (34 + 4 * J)), .ref (ad 33), .int (nI n), .long v]) ++ List.replicate (5 - (lg_sl ([.ref (ad (34 + 4 * J)), .ref (ad 33), .int (nI n), .long v])).length) Slot.unset).toArray = ls at hl ⊢
  have hl : lv_has ls 5 [(0, .ref (ad (34 + 4 * J))), (1, .ref (ad 33)), (2, .int (nI n)), (3, .long v)] := hl
  have hf0 : ∀ c, (c ≠ 34 + 4 * J ∧ c ≠ 35 + 4 * J ∧ c ≠ 36 + 4 * J) → en c = en c := fun _ _ => rfl
  obtain ⟨f_160, es160, p0_160⟩ := get_let hI
  obtain ⟨dn_161, no_161, rc_161, gr_161, le_161, rt_161, tt_161, es161, p0_161⟩ := get_sv hI (j := J) (by omega)
  obtain ⟨f_162, es162⟩ := get_sva hI (j := J) (by omega)
  obtain ⟨f_163, es163⟩ := get_svb hI (j := J) (by omega)
  refine lv_lload_n hx hb dX6_noteNorm_0 rfl (lv_at hl 3 rfl) ?_
  refine lv_lconst (v := 0) hx hb dX6_noteNorm_1 (by decide) ?_
  refine W.lcmp hx hb dX6_noteNorm_2 ?_
  refine lv_if_ne (tgt := 16) hx hb dX6_noteNorm_3 (by decide) (fun c_164 => ?_) (fun c_164 => ?_)
  · refine lv_lload_n hx hb dX6_noteNorm_16 rfl (lv_at hl 3 rfl) ?_
    refine lv_aload_n hx hb dX6_noteNorm_17 rfl (lv_at hl 0 rfl) ?_
    refine hp_get hx hb hts ix6 hown hK hh (q := (34 + 4 * J)) rfl (hI.1 _ (by omega)) es161 rfl 6 (by decide) (hts _ tw_91) (fun _ h9 => h9) rfl dX6_noteNorm_18 ?_
    refine W.lcmp hx hb dX6_noteNorm_21 ?_
    refine lv_if_le (tgt := 41) hx hb dX6_noteNorm_22 (by decide) (fun c_165 => ?_) (fun c_165 => ?_)
    · refine lv_lload_n hx hb dX6_noteNorm_41 rfl (lv_at hl 3 rfl) ?_
      refine lv_aload_n hx hb dX6_noteNorm_42 rfl (lv_at hl 0 rfl) ?_
      refine hp_get hx hb hts ix6 hown hK hh (q := (34 + 4 * J)) rfl (hI.1 _ (by omega)) es161 rfl 7 (by decide) (hts _ tw_94) (fun _ h9 => h9) rfl dX6_noteNorm_43 ?_
      refine W.lcmp hx hb dX6_noteNorm_46 ?_
      refine lv_if_ge (tgt := 66) hx hb dX6_noteNorm_47 (by decide) (fun c_166 => ?_) (fun c_166 => ?_)
      · have e0 : svN en J = (no_161, gr_161, le_161, f_162, f_163) := svN_of (by rw [es161]; rfl) (by rw [es161]; rfl) (by rw [es161]; rfl) (by rw [es162]; rfl) (by rw [es163]; rfl)
        have e33 : rdF (en 33) = f_160 := by rw [es160]; rfl
        exact hp_vretM hx hb hr hlocks hh (⟨hI, hf0, ⟨by rw [e0, e33]; unfold nnV; dsimp only; rw [if_neg (fun q => c_164 ((lg_cmp_eq _ _).mpr q)), if_neg (fun q => absurd (Int64.lt_iff_toInt_lt.mp q) (Int.not_lt.mpr (g_le c_165))), if_neg (fun q => absurd (Int64.lt_iff_toInt_lt.mp q) (Int.not_lt.mpr (g_ge c_166))), if_neg (fun q => absurd (Int64.lt_iff_toInt_lt.mp q) (Int.not_lt.mpr (g_le c_165))), if_neg (fun q => absurd (Int64.lt_iff_toInt_lt.mp q) (Int.not_lt.mpr (g_ge c_166)))] <;> exact svN_of (by rw [es161]; rfl) (by rw [es161]; rfl) (by rw [es161]; rfl) (by rw [es162]; rfl) (by rw [es163]; rfl), rfl, rfl⟩⟩) dX6_noteNorm_66
      · refine lv_aload_n hx hb dX6_noteNorm_50 rfl (lv_at hl 0 rfl) ?_
        refine lv_lload_n hx hb dX6_noteNorm_51 rfl (lv_at hl 3 rfl) ?_
        refine hp_put hx hb hts ix6 tyX6 tyX6_ok nmX6 hown hK hh (q := (34 + 4 * J)) rfl (hI.1 _ (by omega)) es161 rfl 7 (by decide) (hts _ tw_94) (fun _ h9 => h9) rfl (ty := .long) (by decide +kernel) rfl rfl (Nat.le_of_ble_eq_true rfl) dX6_noteNorm_52 (fun H locs en_167 hen_167 hh => ?_)
        have es160_167 : en_167 33 = .inl (cy 0, 8, .inl f_160) := by rw [hen_167, va_up_ne _ _ (by omega)]; exact es160
        have es162_167 : en_167 (35 + 4 * J) = .inl (cy 0, 8, .inl f_162) := by rw [hen_167, va_up_ne _ _ (by omega)]; exact es162
        have es163_167 : en_167 (36 + 4 * J) = .inl (cy 0, 8, .inl f_163) := by rw [hen_167, va_up_ne _ _ (by omega)]; exact es163
        have es161_167 : en_167 (34 + 4 * J) = .inr (5, [.ref (ad (35 + 4 * J)), .ref (ad (36 + 4 * J)), .ref (ad (37 + 4 * J)), .int (nI dn_161), .int no_161, .int rc_161, .long gr_161, .long v, .long rt_161, .long tt_161]) := by rw [hen_167]; exact va_up_self _ _ _
        have hI_167 : SX cy cs ad en_167 := by rw [hen_167]; exact up_sv hI (j := J) (by omega) ⟨dn_161, no_161, rc_161, gr_161, v, rt_161, tt_161, rfl, p0_161⟩
        have hf_167 : ∀ c, (c ≠ 34 + 4 * J ∧ c ≠ 35 + 4 * J ∧ c ≠ 36 + 4 * J) → en_167 c = en c := fun c hc => Eq.trans (show en_167 c = en c from by rw [hen_167, va_up_ne _ _ (by omega)]) (hf0 c hc)
        refine lv_aload_n hx hb dX6_noteNorm_55 rfl (lv_at hl 1 rfl) ?_
        refine lv_iconst (v := 0) hx hb dX6_noteNorm_56 (by decide) ?_
        refine lv_aload_n hx hb dX6_noteNorm_57 rfl (lv_at hl 0 rfl) ?_
        refine hp_get hx hb hts ix6 hown hK hh (q := (34 + 4 * J)) rfl (hI.1 _ (by omega)) es161_167 rfl 1 (by decide) (hts _ tw_81) (fun _ h9 => h9) rfl dX6_noteNorm_58 ?_
        refine lv_iconst (v := 0) hx hb dX6_noteNorm_61 (by decide) ?_
        refine lv_iload_n hx hb dX6_noteNorm_62 rfl (lv_at hl 2 rfl) ?_
        refine W.eq (g2 := F0 m 63 ls [.int (nI n), .int (nI 0), .ref (ad (36 + 4 * J)), .int (nI 0), .ref (ad 33)]) rfl ?_
        refine hp_copyi hx hb (hml.trans hl.1.symm) hown (hts _ tw_498) (hts _ tw_340) (hts _ tw_339) (hts _ tw_12) hK hh (hI.1 _ (by decide)) (hI.1 _ (by omega)) es160_167 es163_167 0 0 n (by decide) (by decide) (by omega) (by omega) (by omega) (Nat.le_of_ble_eq_true rfl) (Nat.le_of_ble_eq_true rfl) dX6_noteNorm_63 (fun H locs en_168 hen_168 hh => ?_)
        have es160_168 : en_168 33 = .inl (cy 0, 8, .inl f_160) := by rw [hen_168, va_up_ne _ _ (by omega)]; exact es160_167
        have es162_168 : en_168 (35 + 4 * J) = .inl (cy 0, 8, .inl f_162) := by rw [hen_168, va_up_ne _ _ (by omega)]; exact es162_167
        have es161_168 : en_168 (34 + 4 * J) = .inr (5, [.ref (ad (35 + 4 * J)), .ref (ad (36 + 4 * J)), .ref (ad (37 + 4 * J)), .int (nI dn_161), .int no_161, .int rc_161, .long gr_161, .long v, .long rt_161, .long tt_161]) := by rw [hen_168, va_up_ne _ _ (by omega)]; exact es161_167
        have es163_168 : en_168 (36 + 4 * J) = .inl (cy 0, 8, .inl (va_cpy f_160 f_163 0 0 n)) := by rw [hen_168]; exact va_up_self _ _ _
        have hI_168 : SX cy cs ad en_168 := by rw [hen_168]; exact up_svb hI_167 (j := J) (by omega) ⟨(va_cpy f_160 f_163 0 0 n), rfl⟩
        have hf_168 : ∀ c, (c ≠ 34 + 4 * J ∧ c ≠ 35 + 4 * J ∧ c ≠ 36 + 4 * J) → en_168 c = en c := fun c hc => Eq.trans (show en_168 c = en_167 c from by rw [hen_168, va_up_ne _ _ (by omega)]) (hf_167 c hc)
        have e0 : svN en J = (no_161, gr_161, le_161, f_162, f_163) := svN_of (by rw [es161]; rfl) (by rw [es161]; rfl) (by rw [es161]; rfl) (by rw [es162]; rfl) (by rw [es163]; rfl)
        have e33 : rdF (en 33) = f_160 := by rw [es160]; rfl
        exact hp_vretM hx hb hr hlocks hh (⟨hI_168, hf_168, ⟨by rw [e0, e33]; unfold nnV; dsimp only; rw [if_neg (fun q => c_164 ((lg_cmp_eq _ _).mpr q)), if_neg (fun q => absurd (Int64.lt_iff_toInt_lt.mp q) (Int.not_lt.mpr (g_le c_165))), if_pos (Int64.lt_iff_toInt_lt.mpr (g_nge c_166)), if_neg (fun q => absurd (Int64.lt_iff_toInt_lt.mp q) (Int.not_lt.mpr (g_le c_165))), if_pos (Int64.lt_iff_toInt_lt.mpr (g_nge c_166))] <;> exact svN_of (by rw [es161_168]; rfl) (by rw [es161_168]; rfl) (by rw [es161_168]; rfl) (by rw [es162_168]; rfl) (by rw [es163_168]; exact cpN_cpy), (by unfold svT; rw [es161_168, es161]; rfl), (by unfold svR; rw [es161_168, es161]; rw [hf_168 (37 + 4 * J) (by omega)]; rfl)⟩⟩) dX6_noteNorm_66
    · refine lv_aload_n hx hb dX6_noteNorm_25 rfl (lv_at hl 0 rfl) ?_
      refine lv_lload_n hx hb dX6_noteNorm_26 rfl (lv_at hl 3 rfl) ?_
      refine hp_put hx hb hts ix6 tyX6 tyX6_ok nmX6 hown hK hh (q := (34 + 4 * J)) rfl (hI.1 _ (by omega)) es161 rfl 6 (by decide) (hts _ tw_91) (fun _ h9 => h9) rfl (ty := .long) (by decide +kernel) rfl rfl (Nat.le_of_ble_eq_true rfl) dX6_noteNorm_27 (fun H locs en_169 hen_169 hh => ?_)
      have es160_169 : en_169 33 = .inl (cy 0, 8, .inl f_160) := by rw [hen_169, va_up_ne _ _ (by omega)]; exact es160
      have es162_169 : en_169 (35 + 4 * J) = .inl (cy 0, 8, .inl f_162) := by rw [hen_169, va_up_ne _ _ (by omega)]; exact es162
      have es163_169 : en_169 (36 + 4 * J) = .inl (cy 0, 8, .inl f_163) := by rw [hen_169, va_up_ne _ _ (by omega)]; exact es163
      have es161_169 : en_169 (34 + 4 * J) = .inr (5, [.ref (ad (35 + 4 * J)), .ref (ad (36 + 4 * J)), .ref (ad (37 + 4 * J)), .int (nI dn_161), .int no_161, .int rc_161, .long v, .long le_161, .long rt_161, .long tt_161]) := by rw [hen_169]; exact va_up_self _ _ _
      have hI_169 : SX cy cs ad en_169 := by rw [hen_169]; exact up_sv hI (j := J) (by omega) ⟨dn_161, no_161, rc_161, v, le_161, rt_161, tt_161, rfl, p0_161⟩
      have hf_169 : ∀ c, (c ≠ 34 + 4 * J ∧ c ≠ 35 + 4 * J ∧ c ≠ 36 + 4 * J) → en_169 c = en c := fun c hc => Eq.trans (show en_169 c = en c from by rw [hen_169, va_up_ne _ _ (by omega)]) (hf0 c hc)
      refine lv_aload_n hx hb dX6_noteNorm_30 rfl (lv_at hl 1 rfl) ?_
      refine lv_iconst (v := 0) hx hb dX6_noteNorm_31 (by decide) ?_
      refine lv_aload_n hx hb dX6_noteNorm_32 rfl (lv_at hl 0 rfl) ?_
      refine hp_get hx hb hts ix6 hown hK hh (q := (34 + 4 * J)) rfl (hI.1 _ (by omega)) es161_169 rfl 0 (by decide) (hts _ tw_79) (fun _ h9 => h9) rfl dX6_noteNorm_33 ?_
      refine lv_iconst (v := 0) hx hb dX6_noteNorm_36 (by decide) ?_
      refine lv_iload_n hx hb dX6_noteNorm_37 rfl (lv_at hl 2 rfl) ?_
      refine W.eq (g2 := F0 m 38 ls [.int (nI n), .int (nI 0), .ref (ad (35 + 4 * J)), .int (nI 0), .ref (ad 33)]) rfl ?_
      refine hp_copyi hx hb (hml.trans hl.1.symm) hown (hts _ tw_498) (hts _ tw_340) (hts _ tw_339) (hts _ tw_12) hK hh (hI.1 _ (by decide)) (hI.1 _ (by omega)) es160_169 es162_169 0 0 n (by decide) (by decide) (by omega) (by omega) (by omega) (Nat.le_of_ble_eq_true rfl) (Nat.le_of_ble_eq_true rfl) dX6_noteNorm_38 (fun H locs en_170 hen_170 hh => ?_)
      have es160_170 : en_170 33 = .inl (cy 0, 8, .inl f_160) := by rw [hen_170, va_up_ne _ _ (by omega)]; exact es160_169
      have es163_170 : en_170 (36 + 4 * J) = .inl (cy 0, 8, .inl f_163) := by rw [hen_170, va_up_ne _ _ (by omega)]; exact es163_169
      have es161_170 : en_170 (34 + 4 * J) = .inr (5, [.ref (ad (35 + 4 * J)), .ref (ad (36 + 4 * J)), .ref (ad (37 + 4 * J)), .int (nI dn_161), .int no_161, .int rc_161, .long v, .long le_161, .long rt_161, .long tt_161]) := by rw [hen_170, va_up_ne _ _ (by omega)]; exact es161_169
      have es162_170 : en_170 (35 + 4 * J) = .inl (cy 0, 8, .inl (va_cpy f_160 f_162 0 0 n)) := by rw [hen_170]; exact va_up_self _ _ _
      have hI_170 : SX cy cs ad en_170 := by rw [hen_170]; exact up_sva hI_169 (j := J) (by omega) ⟨(va_cpy f_160 f_162 0 0 n), rfl⟩
      have hf_170 : ∀ c, (c ≠ 34 + 4 * J ∧ c ≠ 35 + 4 * J ∧ c ≠ 36 + 4 * J) → en_170 c = en c := fun c hc => Eq.trans (show en_170 c = en_169 c from by rw [hen_170, va_up_ne _ _ (by omega)]) (hf_169 c hc)
      refine lv_lload_n hx hb dX6_noteNorm_41 rfl (lv_at hl 3 rfl) ?_
      refine lv_aload_n hx hb dX6_noteNorm_42 rfl (lv_at hl 0 rfl) ?_
      refine hp_get hx hb hts ix6 hown hK hh (q := (34 + 4 * J)) rfl (hI.1 _ (by omega)) es161_170 rfl 7 (by decide) (hts _ tw_94) (fun _ h9 => h9) rfl dX6_noteNorm_43 ?_
      refine W.lcmp hx hb dX6_noteNorm_46 ?_
      refine lv_if_ge (tgt := 66) hx hb dX6_noteNorm_47 (by decide) (fun c_171 => ?_) (fun c_171 => ?_)
      · have e0 : svN en J = (no_161, gr_161, le_161, f_162, f_163) := svN_of (by rw [es161]; rfl) (by rw [es161]; rfl) (by rw [es161]; rfl) (by rw [es162]; rfl) (by rw [es163]; rfl)
        have e33 : rdF (en 33) = f_160 := by rw [es160]; rfl
        exact hp_vretM hx hb hr hlocks hh (⟨hI_170, hf_170, ⟨by rw [e0, e33]; unfold nnV; dsimp only; rw [if_neg (fun q => c_164 ((lg_cmp_eq _ _).mpr q)), if_pos (Int64.lt_iff_toInt_lt.mpr (g_nle c_165)), if_neg (fun q => absurd (Int64.lt_iff_toInt_lt.mp q) (Int.not_lt.mpr (g_ge c_171))), if_pos (Int64.lt_iff_toInt_lt.mpr (g_nle c_165)), if_neg (fun q => absurd (Int64.lt_iff_toInt_lt.mp q) (Int.not_lt.mpr (g_ge c_171)))] <;> exact svN_of (by rw [es161_170]; rfl) (by rw [es161_170]; rfl) (by rw [es161_170]; rfl) (by rw [es162_170]; exact cpN_cpy) (by rw [es163_170]; rfl), (by unfold svT; rw [es161_170, es161]; rfl), (by unfold svR; rw [es161_170, es161]; rw [hf_170 (37 + 4 * J) (by omega)]; rfl)⟩⟩) dX6_noteNorm_66
      · refine lv_aload_n hx hb dX6_noteNorm_50 rfl (lv_at hl 0 rfl) ?_
        refine lv_lload_n hx hb dX6_noteNorm_51 rfl (lv_at hl 3 rfl) ?_
        refine hp_put hx hb hts ix6 tyX6 tyX6_ok nmX6 hown hK hh (q := (34 + 4 * J)) rfl (hI.1 _ (by omega)) es161_170 rfl 7 (by decide) (hts _ tw_94) (fun _ h9 => h9) rfl (ty := .long) (by decide +kernel) rfl rfl (Nat.le_of_ble_eq_true rfl) dX6_noteNorm_52 (fun H locs en_172 hen_172 hh => ?_)
        have es160_172 : en_172 33 = .inl (cy 0, 8, .inl f_160) := by rw [hen_172, va_up_ne _ _ (by omega)]; exact es160_170
        have es163_172 : en_172 (36 + 4 * J) = .inl (cy 0, 8, .inl f_163) := by rw [hen_172, va_up_ne _ _ (by omega)]; exact es163_170
        have es162_172 : en_172 (35 + 4 * J) = .inl (cy 0, 8, .inl (va_cpy f_160 f_162 0 0 n)) := by rw [hen_172, va_up_ne _ _ (by omega)]; exact es162_170
        have es161_172 : en_172 (34 + 4 * J) = .inr (5, [.ref (ad (35 + 4 * J)), .ref (ad (36 + 4 * J)), .ref (ad (37 + 4 * J)), .int (nI dn_161), .int no_161, .int rc_161, .long v, .long v, .long rt_161, .long tt_161]) := by rw [hen_172]; exact va_up_self _ _ _
        have hI_172 : SX cy cs ad en_172 := by rw [hen_172]; exact up_sv hI_170 (j := J) (by omega) ⟨dn_161, no_161, rc_161, v, v, rt_161, tt_161, rfl, p0_161⟩
        have hf_172 : ∀ c, (c ≠ 34 + 4 * J ∧ c ≠ 35 + 4 * J ∧ c ≠ 36 + 4 * J) → en_172 c = en c := fun c hc => Eq.trans (show en_172 c = en_170 c from by rw [hen_172, va_up_ne _ _ (by omega)]) (hf_170 c hc)
        refine lv_aload_n hx hb dX6_noteNorm_55 rfl (lv_at hl 1 rfl) ?_
        refine lv_iconst (v := 0) hx hb dX6_noteNorm_56 (by decide) ?_
        refine lv_aload_n hx hb dX6_noteNorm_57 rfl (lv_at hl 0 rfl) ?_
        refine hp_get hx hb hts ix6 hown hK hh (q := (34 + 4 * J)) rfl (hI.1 _ (by omega)) es161_172 rfl 1 (by decide) (hts _ tw_81) (fun _ h9 => h9) rfl dX6_noteNorm_58 ?_
        refine lv_iconst (v := 0) hx hb dX6_noteNorm_61 (by decide) ?_
        refine lv_iload_n hx hb dX6_noteNorm_62 rfl (lv_at hl 2 rfl) ?_
        refine W.eq (g2 := F0 m 63 ls [.int (nI n), .int (nI 0), .ref (ad (36 + 4 * J)), .int (nI 0), .ref (ad 33)]) rfl ?_
        refine hp_copyi hx hb (hml.trans hl.1.symm) hown (hts _ tw_498) (hts _ tw_340) (hts _ tw_339) (hts _ tw_12) hK hh (hI.1 _ (by decide)) (hI.1 _ (by omega)) es160_172 es163_172 0 0 n (by decide) (by decide) (by omega) (by omega) (by omega) (Nat.le_of_ble_eq_true rfl) (Nat.le_of_ble_eq_true rfl) dX6_noteNorm_63 (fun H locs en_173 hen_173 hh => ?_)
        have es160_173 : en_173 33 = .inl (cy 0, 8, .inl f_160) := by rw [hen_173, va_up_ne _ _ (by omega)]; exact es160_172
        have es162_173 : en_173 (35 + 4 * J) = .inl (cy 0, 8, .inl (va_cpy f_160 f_162 0 0 n)) := by rw [hen_173, va_up_ne _ _ (by omega)]; exact es162_172
        have es161_173 : en_173 (34 + 4 * J) = .inr (5, [.ref (ad (35 + 4 * J)), .ref (ad (36 + 4 * J)), .ref (ad (37 + 4 * J)), .int (nI dn_161), .int no_161, .int rc_161, .long v, .long v, .long rt_161, .long tt_161]) := by rw [hen_173, va_up_ne _ _ (by omega)]; exact es161_172
        have es163_173 : en_173 (36 + 4 * J) = .inl (cy 0, 8, .inl (va_cpy f_160 f_163 0 0 n)) := by rw [hen_173]; exact va_up_self _ _ _
        have hI_173 : SX cy cs ad en_173 := by rw [hen_173]; exact up_svb hI_172 (j := J) (by omega) ⟨(va_cpy f_160 f_163 0 0 n), rfl⟩
        have hf_173 : ∀ c, (c ≠ 34 + 4 * J ∧ c ≠ 35 + 4 * J ∧ c ≠ 36 + 4 * J) → en_173 c = en c := fun c hc => Eq.trans (show en_173 c = en_172 c from by rw [hen_173, va_up_ne _ _ (by omega)]) (hf_172 c hc)
        have e0 : svN en J = (no_161, gr_161, le_161, f_162, f_163) := svN_of (by rw [es161]; rfl) (by rw [es161]; rfl) (by rw [es161]; rfl) (by rw [es162]; rfl) (by rw [es163]; rfl)
        have e33 : rdF (en 33) = f_160 := by rw [es160]; rfl
        exact hp_vretM hx hb hr hlocks hh (⟨hI_173, hf_173, ⟨by rw [e0, e33]; unfold nnV; dsimp only; rw [if_neg (fun q => c_164 ((lg_cmp_eq _ _).mpr q)), if_pos (Int64.lt_iff_toInt_lt.mpr (g_nle c_165)), if_pos (Int64.lt_iff_toInt_lt.mpr (g_nge c_171)), if_pos (Int64.lt_iff_toInt_lt.mpr (g_nle c_165)), if_pos (Int64.lt_iff_toInt_lt.mpr (g_nge c_171))] <;> exact svN_of (by rw [es161_173]; rfl) (by rw [es161_173]; rfl) (by rw [es161_173]; rfl) (by rw [es162_173]; exact cpN_cpy) (by rw [es163_173]; exact cpN_cpy), (by unfold svT; rw [es161_173, es161]; rfl), (by unfold svR; rw [es161_173, es161]; rw [hf_173 (37 + 4 * J) (by omega)]; rfl)⟩⟩) dX6_noteNorm_66
  · refine lv_aload_n hx hb dX6_noteNorm_6 rfl (lv_at hl 0 rfl) ?_
    refine lv_dup hx hb dX6_noteNorm_7 rfl ?_
    refine hp_get hx hb hts ix6 hown hK hh (q := (34 + 4 * J)) rfl (hI.1 _ (by omega)) es161 rfl 4 (by decide) (hts _ tw_87) (fun _ h9 => h9) rfl dX6_noteNorm_8 ?_
    refine lv_iconst (v := 1) hx hb dX6_noteNorm_11 (by decide) ?_
    refine lv_iadd hx hb dX6_noteNorm_12 ?_
    refine hp_put hx hb hts ix6 tyX6 tyX6_ok nmX6 hown hK hh (q := (34 + 4 * J)) rfl (hI.1 _ (by omega)) es161 rfl 4 (by decide) (hts _ tw_87) (fun _ h9 => h9) rfl (ty := .int) (by decide +kernel) rfl rfl (Nat.le_of_ble_eq_true rfl) dX6_noteNorm_13 (fun H locs en_174 hen_174 hh => ?_)
    have es160_174 : en_174 33 = .inl (cy 0, 8, .inl f_160) := by rw [hen_174, va_up_ne _ _ (by omega)]; exact es160
    have es162_174 : en_174 (35 + 4 * J) = .inl (cy 0, 8, .inl f_162) := by rw [hen_174, va_up_ne _ _ (by omega)]; exact es162
    have es163_174 : en_174 (36 + 4 * J) = .inl (cy 0, 8, .inl f_163) := by rw [hen_174, va_up_ne _ _ (by omega)]; exact es163
    have es161_174 : en_174 (34 + 4 * J) = .inr (5, [.ref (ad (35 + 4 * J)), .ref (ad (36 + 4 * J)), .ref (ad (37 + 4 * J)), .int (nI dn_161), .int (no_161 + 1), .int rc_161, .long gr_161, .long le_161, .long rt_161, .long tt_161]) := by rw [hen_174]; exact va_up_self _ _ _
    have hI_174 : SX cy cs ad en_174 := by rw [hen_174]; exact up_sv hI (j := J) (by omega) ⟨dn_161, (no_161 + 1), rc_161, gr_161, le_161, rt_161, tt_161, rfl, p0_161⟩
    have hf_174 : ∀ c, (c ≠ 34 + 4 * J ∧ c ≠ 35 + 4 * J ∧ c ≠ 36 + 4 * J) → en_174 c = en c := fun c hc => Eq.trans (show en_174 c = en c from by rw [hen_174, va_up_ne _ _ (by omega)]) (hf0 c hc)
    refine lv_lload_n hx hb dX6_noteNorm_16 rfl (lv_at hl 3 rfl) ?_
    refine lv_aload_n hx hb dX6_noteNorm_17 rfl (lv_at hl 0 rfl) ?_
    refine hp_get hx hb hts ix6 hown hK hh (q := (34 + 4 * J)) rfl (hI.1 _ (by omega)) es161_174 rfl 6 (by decide) (hts _ tw_91) (fun _ h9 => h9) rfl dX6_noteNorm_18 ?_
    refine W.lcmp hx hb dX6_noteNorm_21 ?_
    refine lv_if_le (tgt := 41) hx hb dX6_noteNorm_22 (by decide) (fun c_175 => ?_) (fun c_175 => ?_)
    · refine lv_lload_n hx hb dX6_noteNorm_41 rfl (lv_at hl 3 rfl) ?_
      refine lv_aload_n hx hb dX6_noteNorm_42 rfl (lv_at hl 0 rfl) ?_
      refine hp_get hx hb hts ix6 hown hK hh (q := (34 + 4 * J)) rfl (hI.1 _ (by omega)) es161_174 rfl 7 (by decide) (hts _ tw_94) (fun _ h9 => h9) rfl dX6_noteNorm_43 ?_
      refine W.lcmp hx hb dX6_noteNorm_46 ?_
      refine lv_if_ge (tgt := 66) hx hb dX6_noteNorm_47 (by decide) (fun c_176 => ?_) (fun c_176 => ?_)
      · have e0 : svN en J = (no_161, gr_161, le_161, f_162, f_163) := svN_of (by rw [es161]; rfl) (by rw [es161]; rfl) (by rw [es161]; rfl) (by rw [es162]; rfl) (by rw [es163]; rfl)
        have e33 : rdF (en 33) = f_160 := by rw [es160]; rfl
        exact hp_vretM hx hb hr hlocks hh (⟨hI_174, hf_174, ⟨by rw [e0, e33]; unfold nnV; dsimp only; rw [if_pos ((lg_cmp_eq _ _).mp c_164), if_neg (fun q => absurd (Int64.lt_iff_toInt_lt.mp q) (Int.not_lt.mpr (g_le c_175))), if_neg (fun q => absurd (Int64.lt_iff_toInt_lt.mp q) (Int.not_lt.mpr (g_ge c_176))), if_neg (fun q => absurd (Int64.lt_iff_toInt_lt.mp q) (Int.not_lt.mpr (g_le c_175))), if_neg (fun q => absurd (Int64.lt_iff_toInt_lt.mp q) (Int.not_lt.mpr (g_ge c_176)))] <;> exact svN_of (by rw [es161_174]; rfl) (by rw [es161_174]; rfl) (by rw [es161_174]; rfl) (by rw [es162_174]; rfl) (by rw [es163_174]; rfl), (by unfold svT; rw [es161_174, es161]; rfl), (by unfold svR; rw [es161_174, es161]; rw [hf_174 (37 + 4 * J) (by omega)]; rfl)⟩⟩) dX6_noteNorm_66
      · refine lv_aload_n hx hb dX6_noteNorm_50 rfl (lv_at hl 0 rfl) ?_
        refine lv_lload_n hx hb dX6_noteNorm_51 rfl (lv_at hl 3 rfl) ?_
        refine hp_put hx hb hts ix6 tyX6 tyX6_ok nmX6 hown hK hh (q := (34 + 4 * J)) rfl (hI.1 _ (by omega)) es161_174 rfl 7 (by decide) (hts _ tw_94) (fun _ h9 => h9) rfl (ty := .long) (by decide +kernel) rfl rfl (Nat.le_of_ble_eq_true rfl) dX6_noteNorm_52 (fun H locs en_177 hen_177 hh => ?_)
        have es160_177 : en_177 33 = .inl (cy 0, 8, .inl f_160) := by rw [hen_177, va_up_ne _ _ (by omega)]; exact es160_174
        have es162_177 : en_177 (35 + 4 * J) = .inl (cy 0, 8, .inl f_162) := by rw [hen_177, va_up_ne _ _ (by omega)]; exact es162_174
        have es163_177 : en_177 (36 + 4 * J) = .inl (cy 0, 8, .inl f_163) := by rw [hen_177, va_up_ne _ _ (by omega)]; exact es163_174
        have es161_177 : en_177 (34 + 4 * J) = .inr (5, [.ref (ad (35 + 4 * J)), .ref (ad (36 + 4 * J)), .ref (ad (37 + 4 * J)), .int (nI dn_161), .int (no_161 + 1), .int rc_161, .long gr_161, .long v, .long rt_161, .long tt_161]) := by rw [hen_177]; exact va_up_self _ _ _
        have hI_177 : SX cy cs ad en_177 := by rw [hen_177]; exact up_sv hI_174 (j := J) (by omega) ⟨dn_161, (no_161 + 1), rc_161, gr_161, v, rt_161, tt_161, rfl, p0_161⟩
        have hf_177 : ∀ c, (c ≠ 34 + 4 * J ∧ c ≠ 35 + 4 * J ∧ c ≠ 36 + 4 * J) → en_177 c = en c := fun c hc => Eq.trans (show en_177 c = en_174 c from by rw [hen_177, va_up_ne _ _ (by omega)]) (hf_174 c hc)
        refine lv_aload_n hx hb dX6_noteNorm_55 rfl (lv_at hl 1 rfl) ?_
        refine lv_iconst (v := 0) hx hb dX6_noteNorm_56 (by decide) ?_
        refine lv_aload_n hx hb dX6_noteNorm_57 rfl (lv_at hl 0 rfl) ?_
        refine hp_get hx hb hts ix6 hown hK hh (q := (34 + 4 * J)) rfl (hI.1 _ (by omega)) es161_177 rfl 1 (by decide) (hts _ tw_81) (fun _ h9 => h9) rfl dX6_noteNorm_58 ?_
        refine lv_iconst (v := 0) hx hb dX6_noteNorm_61 (by decide) ?_
        refine lv_iload_n hx hb dX6_noteNorm_62 rfl (lv_at hl 2 rfl) ?_
        refine W.eq (g2 := F0 m 63 ls [.int (nI n), .int (nI 0), .ref (ad (36 + 4 * J)), .int (nI 0), .ref (ad 33)]) rfl ?_
        refine hp_copyi hx hb (hml.trans hl.1.symm) hown (hts _ tw_498) (hts _ tw_340) (hts _ tw_339) (hts _ tw_12) hK hh (hI.1 _ (by decide)) (hI.1 _ (by omega)) es160_177 es163_177 0 0 n (by decide) (by decide) (by omega) (by omega) (by omega) (Nat.le_of_ble_eq_true rfl) (Nat.le_of_ble_eq_true rfl) dX6_noteNorm_63 (fun H locs en_178 hen_178 hh => ?_)
        have es160_178 : en_178 33 = .inl (cy 0, 8, .inl f_160) := by rw [hen_178, va_up_ne _ _ (by omega)]; exact es160_177
        have es162_178 : en_178 (35 + 4 * J) = .inl (cy 0, 8, .inl f_162) := by rw [hen_178, va_up_ne _ _ (by omega)]; exact es162_177
        have es161_178 : en_178 (34 + 4 * J) = .inr (5, [.ref (ad (35 + 4 * J)), .ref (ad (36 + 4 * J)), .ref (ad (37 + 4 * J)), .int (nI dn_161), .int (no_161 + 1), .int rc_161, .long gr_161, .long v, .long rt_161, .long tt_161]) := by rw [hen_178, va_up_ne _ _ (by omega)]; exact es161_177
        have es163_178 : en_178 (36 + 4 * J) = .inl (cy 0, 8, .inl (va_cpy f_160 f_163 0 0 n)) := by rw [hen_178]; exact va_up_self _ _ _
        have hI_178 : SX cy cs ad en_178 := by rw [hen_178]; exact up_svb hI_177 (j := J) (by omega) ⟨(va_cpy f_160 f_163 0 0 n), rfl⟩
        have hf_178 : ∀ c, (c ≠ 34 + 4 * J ∧ c ≠ 35 + 4 * J ∧ c ≠ 36 + 4 * J) → en_178 c = en c := fun c hc => Eq.trans (show en_178 c = en_177 c from by rw [hen_178, va_up_ne _ _ (by omega)]) (hf_177 c hc)
        have e0 : svN en J = (no_161, gr_161, le_161, f_162, f_163) := svN_of (by rw [es161]; rfl) (by rw [es161]; rfl) (by rw [es161]; rfl) (by rw [es162]; rfl) (by rw [es163]; rfl)
        have e33 : rdF (en 33) = f_160 := by rw [es160]; rfl
        exact hp_vretM hx hb hr hlocks hh (⟨hI_178, hf_178, ⟨by rw [e0, e33]; unfold nnV; dsimp only; rw [if_pos ((lg_cmp_eq _ _).mp c_164), if_neg (fun q => absurd (Int64.lt_iff_toInt_lt.mp q) (Int.not_lt.mpr (g_le c_175))), if_pos (Int64.lt_iff_toInt_lt.mpr (g_nge c_176)), if_neg (fun q => absurd (Int64.lt_iff_toInt_lt.mp q) (Int.not_lt.mpr (g_le c_175))), if_pos (Int64.lt_iff_toInt_lt.mpr (g_nge c_176))] <;> exact svN_of (by rw [es161_178]; rfl) (by rw [es161_178]; rfl) (by rw [es161_178]; rfl) (by rw [es162_178]; rfl) (by rw [es163_178]; exact cpN_cpy), (by unfold svT; rw [es161_178, es161]; rfl), (by unfold svR; rw [es161_178, es161]; rw [hf_178 (37 + 4 * J) (by omega)]; rfl)⟩⟩) dX6_noteNorm_66
    · refine lv_aload_n hx hb dX6_noteNorm_25 rfl (lv_at hl 0 rfl) ?_
      refine lv_lload_n hx hb dX6_noteNorm_26 rfl (lv_at hl 3 rfl) ?_
      refine hp_put hx hb hts ix6 tyX6 tyX6_ok nmX6 hown hK hh (q := (34 + 4 * J)) rfl (hI.1 _ (by omega)) es161_174 rfl 6 (by decide) (hts _ tw_91) (fun _ h9 => h9) rfl (ty := .long) (by decide +kernel) rfl rfl (Nat.le_of_ble_eq_true rfl) dX6_noteNorm_27 (fun H locs en_179 hen_179 hh => ?_)
      have es160_179 : en_179 33 = .inl (cy 0, 8, .inl f_160) := by rw [hen_179, va_up_ne _ _ (by omega)]; exact es160_174
      have es162_179 : en_179 (35 + 4 * J) = .inl (cy 0, 8, .inl f_162) := by rw [hen_179, va_up_ne _ _ (by omega)]; exact es162_174
      have es163_179 : en_179 (36 + 4 * J) = .inl (cy 0, 8, .inl f_163) := by rw [hen_179, va_up_ne _ _ (by omega)]; exact es163_174
      have es161_179 : en_179 (34 + 4 * J) = .inr (5, [.ref (ad (35 + 4 * J)), .ref (ad (36 + 4 * J)), .ref (ad (37 + 4 * J)), .int (nI dn_161), .int (no_161 + 1), .int rc_161, .long v, .long le_161, .long rt_161, .long tt_161]) := by rw [hen_179]; exact va_up_self _ _ _
      have hI_179 : SX cy cs ad en_179 := by rw [hen_179]; exact up_sv hI_174 (j := J) (by omega) ⟨dn_161, (no_161 + 1), rc_161, v, le_161, rt_161, tt_161, rfl, p0_161⟩
      have hf_179 : ∀ c, (c ≠ 34 + 4 * J ∧ c ≠ 35 + 4 * J ∧ c ≠ 36 + 4 * J) → en_179 c = en c := fun c hc => Eq.trans (show en_179 c = en_174 c from by rw [hen_179, va_up_ne _ _ (by omega)]) (hf_174 c hc)
      refine lv_aload_n hx hb dX6_noteNorm_30 rfl (lv_at hl 1 rfl) ?_
      refine lv_iconst (v := 0) hx hb dX6_noteNorm_31 (by decide) ?_
      refine lv_aload_n hx hb dX6_noteNorm_32 rfl (lv_at hl 0 rfl) ?_
      refine hp_get hx hb hts ix6 hown hK hh (q := (34 + 4 * J)) rfl (hI.1 _ (by omega)) es161_179 rfl 0 (by decide) (hts _ tw_79) (fun _ h9 => h9) rfl dX6_noteNorm_33 ?_
      refine lv_iconst (v := 0) hx hb dX6_noteNorm_36 (by decide) ?_
      refine lv_iload_n hx hb dX6_noteNorm_37 rfl (lv_at hl 2 rfl) ?_
      refine W.eq (g2 := F0 m 38 ls [.int (nI n), .int (nI 0), .ref (ad (35 + 4 * J)), .int (nI 0), .ref (ad 33)]) rfl ?_
      refine hp_copyi hx hb (hml.trans hl.1.symm) hown (hts _ tw_498) (hts _ tw_340) (hts _ tw_339) (hts _ tw_12) hK hh (hI.1 _ (by decide)) (hI.1 _ (by omega)) es160_179 es162_179 0 0 n (by decide) (by decide) (by omega) (by omega) (by omega) (Nat.le_of_ble_eq_true rfl) (Nat.le_of_ble_eq_true rfl) dX6_noteNorm_38 (fun H locs en_180 hen_180 hh => ?_)
      have es160_180 : en_180 33 = .inl (cy 0, 8, .inl f_160) := by rw [hen_180, va_up_ne _ _ (by omega)]; exact es160_179
      have es163_180 : en_180 (36 + 4 * J) = .inl (cy 0, 8, .inl f_163) := by rw [hen_180, va_up_ne _ _ (by omega)]; exact es163_179
      have es161_180 : en_180 (34 + 4 * J) = .inr (5, [.ref (ad (35 + 4 * J)), .ref (ad (36 + 4 * J)), .ref (ad (37 + 4 * J)), .int (nI dn_161), .int (no_161 + 1), .int rc_161, .long v, .long le_161, .long rt_161, .long tt_161]) := by rw [hen_180, va_up_ne _ _ (by omega)]; exact es161_179
      have es162_180 : en_180 (35 + 4 * J) = .inl (cy 0, 8, .inl (va_cpy f_160 f_162 0 0 n)) := by rw [hen_180]; exact va_up_self _ _ _
      have hI_180 : SX cy cs ad en_180 := by rw [hen_180]; exact up_sva hI_179 (j := J) (by omega) ⟨(va_cpy f_160 f_162 0 0 n), rfl⟩
      have hf_180 : ∀ c, (c ≠ 34 + 4 * J ∧ c ≠ 35 + 4 * J ∧ c ≠ 36 + 4 * J) → en_180 c = en c := fun c hc => Eq.trans (show en_180 c = en_179 c from by rw [hen_180, va_up_ne _ _ (by omega)]) (hf_179 c hc)
      refine lv_lload_n hx hb dX6_noteNorm_41 rfl (lv_at hl 3 rfl) ?_
      refine lv_aload_n hx hb dX6_noteNorm_42 rfl (lv_at hl 0 rfl) ?_
      refine hp_get hx hb hts ix6 hown hK hh (q := (34 + 4 * J)) rfl (hI.1 _ (by omega)) es161_180 rfl 7 (by decide) (hts _ tw_94) (fun _ h9 => h9) rfl dX6_noteNorm_43 ?_
      refine W.lcmp hx hb dX6_noteNorm_46 ?_
      refine lv_if_ge (tgt := 66) hx hb dX6_noteNorm_47 (by decide) (fun c_181 => ?_) (fun c_181 => ?_)
      · have e0 : svN en J = (no_161, gr_161, le_161, f_162, f_163) := svN_of (by rw [es161]; rfl) (by rw [es161]; rfl) (by rw [es161]; rfl) (by rw [es162]; rfl) (by rw [es163]; rfl)
        have e33 : rdF (en 33) = f_160 := by rw [es160]; rfl
        exact hp_vretM hx hb hr hlocks hh (⟨hI_180, hf_180, ⟨by rw [e0, e33]; unfold nnV; dsimp only; rw [if_pos ((lg_cmp_eq _ _).mp c_164), if_pos (Int64.lt_iff_toInt_lt.mpr (g_nle c_175)), if_neg (fun q => absurd (Int64.lt_iff_toInt_lt.mp q) (Int.not_lt.mpr (g_ge c_181))), if_pos (Int64.lt_iff_toInt_lt.mpr (g_nle c_175)), if_neg (fun q => absurd (Int64.lt_iff_toInt_lt.mp q) (Int.not_lt.mpr (g_ge c_181)))] <;> exact svN_of (by rw [es161_180]; rfl) (by rw [es161_180]; rfl) (by rw [es161_180]; rfl) (by rw [es162_180]; exact cpN_cpy) (by rw [es163_180]; rfl), (by unfold svT; rw [es161_180, es161]; rfl), (by unfold svR; rw [es161_180, es161]; rw [hf_180 (37 + 4 * J) (by omega)]; rfl)⟩⟩) dX6_noteNorm_66
      · refine lv_aload_n hx hb dX6_noteNorm_50 rfl (lv_at hl 0 rfl) ?_
        refine lv_lload_n hx hb dX6_noteNorm_51 rfl (lv_at hl 3 rfl) ?_
        refine hp_put hx hb hts ix6 tyX6 tyX6_ok nmX6 hown hK hh (q := (34 + 4 * J)) rfl (hI.1 _ (by omega)) es161_180 rfl 7 (by decide) (hts _ tw_94) (fun _ h9 => h9) rfl (ty := .long) (by decide +kernel) rfl rfl (Nat.le_of_ble_eq_true rfl) dX6_noteNorm_52 (fun H locs en_182 hen_182 hh => ?_)
        have es160_182 : en_182 33 = .inl (cy 0, 8, .inl f_160) := by rw [hen_182, va_up_ne _ _ (by omega)]; exact es160_180
        have es163_182 : en_182 (36 + 4 * J) = .inl (cy 0, 8, .inl f_163) := by rw [hen_182, va_up_ne _ _ (by omega)]; exact es163_180
        have es162_182 : en_182 (35 + 4 * J) = .inl (cy 0, 8, .inl (va_cpy f_160 f_162 0 0 n)) := by rw [hen_182, va_up_ne _ _ (by omega)]; exact es162_180
        have es161_182 : en_182 (34 + 4 * J) = .inr (5, [.ref (ad (35 + 4 * J)), .ref (ad (36 + 4 * J)), .ref (ad (37 + 4 * J)), .int (nI dn_161), .int (no_161 + 1), .int rc_161, .long v, .long v, .long rt_161, .long tt_161]) := by rw [hen_182]; exact va_up_self _ _ _
        have hI_182 : SX cy cs ad en_182 := by rw [hen_182]; exact up_sv hI_180 (j := J) (by omega) ⟨dn_161, (no_161 + 1), rc_161, v, v, rt_161, tt_161, rfl, p0_161⟩
        have hf_182 : ∀ c, (c ≠ 34 + 4 * J ∧ c ≠ 35 + 4 * J ∧ c ≠ 36 + 4 * J) → en_182 c = en c := fun c hc => Eq.trans (show en_182 c = en_180 c from by rw [hen_182, va_up_ne _ _ (by omega)]) (hf_180 c hc)
        refine lv_aload_n hx hb dX6_noteNorm_55 rfl (lv_at hl 1 rfl) ?_
        refine lv_iconst (v := 0) hx hb dX6_noteNorm_56 (by decide) ?_
        refine lv_aload_n hx hb dX6_noteNorm_57 rfl (lv_at hl 0 rfl) ?_
        refine hp_get hx hb hts ix6 hown hK hh (q := (34 + 4 * J)) rfl (hI.1 _ (by omega)) es161_182 rfl 1 (by decide) (hts _ tw_81) (fun _ h9 => h9) rfl dX6_noteNorm_58 ?_
        refine lv_iconst (v := 0) hx hb dX6_noteNorm_61 (by decide) ?_
        refine lv_iload_n hx hb dX6_noteNorm_62 rfl (lv_at hl 2 rfl) ?_
        refine W.eq (g2 := F0 m 63 ls [.int (nI n), .int (nI 0), .ref (ad (36 + 4 * J)), .int (nI 0), .ref (ad 33)]) rfl ?_
        refine hp_copyi hx hb (hml.trans hl.1.symm) hown (hts _ tw_498) (hts _ tw_340) (hts _ tw_339) (hts _ tw_12) hK hh (hI.1 _ (by decide)) (hI.1 _ (by omega)) es160_182 es163_182 0 0 n (by decide) (by decide) (by omega) (by omega) (by omega) (Nat.le_of_ble_eq_true rfl) (Nat.le_of_ble_eq_true rfl) dX6_noteNorm_63 (fun H locs en_183 hen_183 hh => ?_)
        have es160_183 : en_183 33 = .inl (cy 0, 8, .inl f_160) := by rw [hen_183, va_up_ne _ _ (by omega)]; exact es160_182
        have es162_183 : en_183 (35 + 4 * J) = .inl (cy 0, 8, .inl (va_cpy f_160 f_162 0 0 n)) := by rw [hen_183, va_up_ne _ _ (by omega)]; exact es162_182
        have es161_183 : en_183 (34 + 4 * J) = .inr (5, [.ref (ad (35 + 4 * J)), .ref (ad (36 + 4 * J)), .ref (ad (37 + 4 * J)), .int (nI dn_161), .int (no_161 + 1), .int rc_161, .long v, .long v, .long rt_161, .long tt_161]) := by rw [hen_183, va_up_ne _ _ (by omega)]; exact es161_182
        have es163_183 : en_183 (36 + 4 * J) = .inl (cy 0, 8, .inl (va_cpy f_160 f_163 0 0 n)) := by rw [hen_183]; exact va_up_self _ _ _
        have hI_183 : SX cy cs ad en_183 := by rw [hen_183]; exact up_svb hI_182 (j := J) (by omega) ⟨(va_cpy f_160 f_163 0 0 n), rfl⟩
        have hf_183 : ∀ c, (c ≠ 34 + 4 * J ∧ c ≠ 35 + 4 * J ∧ c ≠ 36 + 4 * J) → en_183 c = en c := fun c hc => Eq.trans (show en_183 c = en_182 c from by rw [hen_183, va_up_ne _ _ (by omega)]) (hf_182 c hc)
        have e0 : svN en J = (no_161, gr_161, le_161, f_162, f_163) := svN_of (by rw [es161]; rfl) (by rw [es161]; rfl) (by rw [es161]; rfl) (by rw [es162]; rfl) (by rw [es163]; rfl)
        have e33 : rdF (en 33) = f_160 := by rw [es160]; rfl
        exact hp_vretM hx hb hr hlocks hh (⟨hI_183, hf_183, ⟨by rw [e0, e33]; unfold nnV; dsimp only; rw [if_pos ((lg_cmp_eq _ _).mp c_164), if_pos (Int64.lt_iff_toInt_lt.mpr (g_nle c_175)), if_pos (Int64.lt_iff_toInt_lt.mpr (g_nge c_181)), if_pos (Int64.lt_iff_toInt_lt.mpr (g_nle c_175)), if_pos (Int64.lt_iff_toInt_lt.mpr (g_nge c_181))] <;> exact svN_of (by rw [es161_183]; rfl) (by rw [es161_183]; rfl) (by rw [es161_183]; rfl) (by rw [es162_183]; exact cpN_cpy) (by rw [es163_183]; exact cpN_cpy), (by unfold svT; rw [es161_183, es161]; rfl), (by unfold svR; rw [es161_183, es161]; rw [hf_183 (37 + 4 * J) (by omega)]; rfl)⟩⟩) dX6_noteNorm_66
theorem kw_X6_noteNorm {R : Room} {s : State} {args : Array Value} {own : String} {idx : Nat} (hts : ∀ w ∈ TB, w.before args s = true) (hl : Cond.methodLink own idx yX6_noteNorm ∈ TB) (hR : 1 + 1 ≤ R.frames ∧ 8 + (5 + 11) + 40 * 1 ≤ R.locals) : CallW R s args own RX6 idx yX6_noteNorm cX6_noteNorm 5 none (Cond.code yX6_noteNorm cX6_noteNorm 5 none :: TB) (rmN 1) 0 0 3 := cwV 3 hts (TB_V hl tw_495 tw_496 tw_4 tw_497) rfl rfl rfl (by decide +kernel) hR
set_option maxHeartbeats 4000000 in
set_option maxRecDepth 100000 in
/-- noteTurnable -/
theorem c_X6_noteTurnable (l : Launch) (D : va_G) (cy : Nat → ClassId) (sz : Nat) (cs : List Nat) (ad : Nat → Nat) (en : Nat → va_E) (hI : SX cy cs ad en) (J : Nat) (hJ : J < 9) (v : Int64)   : Met l yX6_noteTurnable (Cond.code yX6_noteTurnable cX6_noteTurnable 3 none :: TB) (rmN 1) (va_Pc [.ref (ad (34 + 4 * J)), .long v] (Pre D cy cs ad en sz)) (va_Qv (S := Nat → va_E) (fun en1 => SX cy cs ad en1 ∧ (∀ c, (c ≠ 34 + 4 * J) → en1 c = en c) ∧ (svT en1 J = maxL (svT en J) (absL v) ∧ svN en1 J = svN en J ∧ svR en1 J = svR en J)) (PostM D cs ad) (Af cs ad sz)) 0 0 (Af cs ad sz) := by
  refine Met.ofW (cc := cX6_noteTurnable) (maxL := 3) (ret := none) (by decide) rfl ?_
  intro p e s m args below meth c s₁ B hml hv
  obtain ⟨rfl, hsz, hP, hK, hD0⟩ := hv
  have hx := B.exec
  have hb := B.bytes
  have hr := B.returns
  have hts : ∀ w ∈ TB, w.before _ s = true := fun w h => atoms_spec (ws := _ :: TB) B.pre w (List.mem_cons_of_mem _ h)
  have hown : s.vm.findClass RX6 = some m.cls := findClass_of_methodNamed B.named
  have hlocks := B.notSynchronized
  have hh : Hp D (Af cs ad sz) (Af cs ad sz) s.heap s.heap [] cs ad en := ⟨hP, Af_self hD0, va_S.rf⟩
  have hA : ∀ q : Nat, s.heap.size ≤ q → Af cs ad sz q := fun q h => Or.inr (by rw [hsz] at h; exact h)
  have hl := lv_entry ([.ref (ad (34 + 4 * J)), .long v]) (n := 3) (Nat.le_of_ble_eq_true rfl)
  rw [lg_entry_eq]
  generalize (lg_sl ([.ref (ad (34 + 4 * J)), .long v]) ++ List.replicate (3 - (lg_sl ([.ref (ad (34 + 4 * J)), .long v])).length) Slot.unset).toArray = ls at hl ⊢
  have hl : lv_has ls 3 [(0, .ref (ad (34 + 4 * J))), (1, .long v)] := hl
  have hf0 : ∀ c, (c ≠ 34 + 4 * J) → en c = en c := fun _ _ => rfl
  obtain ⟨dn_184, no_184, rc_184, gr_184, le_184, rt_184, tt_184, es184, p0_184⟩ := get_sv hI (j := J) (by omega)
  refine lv_aload_n hx hb dX6_noteTurnable_0 rfl (lv_at hl 0 rfl) ?_
  refine lv_aload_n hx hb dX6_noteTurnable_1 rfl (lv_at hl 0 rfl) ?_
  refine hp_get hx hb hts ix6 hown hK hh (q := (34 + 4 * J)) rfl (hI.1 _ (by omega)) es184 rfl 9 (by decide) (hts _ tw_98) (fun _ h9 => h9) rfl dX6_noteTurnable_2 ?_
  refine lv_lload_n hx hb dX6_noteTurnable_5 rfl (lv_at hl 1 rfl) ?_
  refine va_mabs_long hx hb (hml.trans hl.1.symm) hown (hts _ tw_512) (hts _ tw_489) (hts _ tw_11) (hts _ tw_490) (Nat.le_of_ble_eq_true rfl) (Nat.le_of_ble_eq_true rfl) (Nat.le_of_ble_eq_true rfl) (Nat.le_of_ble_eq_true rfl) dX6_noteTurnable_6 ?_
  refine W.eq (g2 := F0 m 9 ls [.long (absL v), .long tt_184, .ref (ad (34 + 4 * J))]) rfl ?_
  refine va_mmax_long hx hb (hml.trans hl.1.symm) hown (hts _ tw_513) (hts _ tw_492) (hts _ tw_11) (hts _ tw_493) (Nat.le_of_ble_eq_true rfl) (Nat.le_of_ble_eq_true rfl) (Nat.le_of_ble_eq_true rfl) (Nat.le_of_ble_eq_true rfl) dX6_noteTurnable_9 ?_
  refine W.eq (g2 := F0 m 12 ls [.long (maxL tt_184 (absL v)), .ref (ad (34 + 4 * J))]) rfl ?_
  refine hp_put hx hb hts ix6 tyX6 tyX6_ok nmX6 hown hK hh (q := (34 + 4 * J)) rfl (hI.1 _ (by omega)) es184 rfl 9 (by decide) (hts _ tw_98) (fun _ h9 => h9) rfl (ty := .long) (by decide +kernel) rfl rfl (Nat.le_of_ble_eq_true rfl) dX6_noteTurnable_12 (fun H locs en_185 hen_185 hh => ?_)
  have es184_185 : en_185 (34 + 4 * J) = .inr (5, [.ref (ad (35 + 4 * J)), .ref (ad (36 + 4 * J)), .ref (ad (37 + 4 * J)), .int (nI dn_184), .int no_184, .int rc_184, .long gr_184, .long le_184, .long rt_184, .long (maxL tt_184 (absL v))]) := by rw [hen_185]; exact va_up_self _ _ _
  have hI_185 : SX cy cs ad en_185 := by rw [hen_185]; exact up_sv hI (j := J) (by omega) ⟨dn_184, no_184, rc_184, gr_184, le_184, rt_184, (maxL tt_184 (absL v)), rfl, p0_184⟩
  have hf_185 : ∀ c, (c ≠ 34 + 4 * J) → en_185 c = en c := fun c hc => Eq.trans (show en_185 c = en c from by rw [hen_185, va_up_ne _ _ (by omega)]) (hf0 c hc)
  exact hp_vretM hx hb hr hlocks hh (⟨hI_185, hf_185, ⟨(by unfold svT; rw [es184_185, es184]; rfl), (by unfold svN; rw [es184_185, es184]; rw [hf_185 (35 + 4 * J) (by omega), hf_185 (36 + 4 * J) (by omega)]; rfl), (by unfold svR; rw [es184_185, es184]; rw [hf_185 (37 + 4 * J) (by omega)]; rfl)⟩⟩) dX6_noteTurnable_15
theorem kw_X6_noteTurnable {R : Room} {s : State} {args : Array Value} {own : String} {idx : Nat} (hts : ∀ w ∈ TB, w.before args s = true) (hl : Cond.methodLink own idx yX6_noteTurnable ∈ TB) (hR : 1 + 1 ≤ R.frames ∧ 8 + (3 + 11) + 40 * 1 ≤ R.locals) : CallW R s args own RX6 idx yX6_noteTurnable cX6_noteTurnable 3 none (Cond.code yX6_noteTurnable cX6_noteTurnable 3 none :: TB) (rmN 1) 0 0 1 := cwV 1 hts (TB_V hl tw_509 tw_510 tw_4 tw_511) rfl rfl rfl (by decide +kernel) hR
set_option maxHeartbeats 4000000 in
set_option maxRecDepth 100000 in
/-- noteRing -/
theorem c_X6_noteRing (l : Launch) (D : va_G) (cy : Nat → ClassId) (sz : Nat) (cs : List Nat) (ad : Nat → Nat) (en : Nat → va_E) (hI : SX cy cs ad en) (J : Nat) (hJ : J < 9) (n : Nat) (hn : n ≤ 8) (v : Int64)   : Met l yX6_noteRing (Cond.code yX6_noteRing cX6_noteRing 5 none :: TB) (rmN 1) (va_Pc [.ref (ad (34 + 4 * J)), .ref (ad 33), .int (nI n), .long v] (Pre D cy cs ad en sz)) (va_Qv (S := Nat → va_E) (fun en1 => SX cy cs ad en1 ∧ (∀ c, (c ≠ 34 + 4 * J ∧ c ≠ 37 + 4 * J) → en1 c = en c) ∧ (svR en1 J = nrV n v (rdF (en 33)) (svR en J) ∧ svN en1 J = svN en J ∧ svT en1 J = svT en J)) (PostM D cs ad) (Af cs ad sz)) 0 0 (Af cs ad sz) := by
  refine Met.ofW (cc := cX6_noteRing) (maxL := 5) (ret := none) (by decide) rfl ?_
  intro p e s m args below meth c s₁ B hml hv
  obtain ⟨rfl, hsz, hP, hK, hD0⟩ := hv
  have hx := B.exec
  have hb := B.bytes
  have hr := B.returns
  have hts : ∀ w ∈ TB, w.before _ s = true := fun w h => atoms_spec (ws := _ :: TB) B.pre w (List.mem_cons_of_mem _ h)
  have hown : s.vm.findClass RX6 = some m.cls := findClass_of_methodNamed B.named
  have hlocks := B.notSynchronized
  have hh : Hp D (Af cs ad sz) (Af cs ad sz) s.heap s.heap [] cs ad en := ⟨hP, Af_self hD0, va_S.rf⟩
  have hA : ∀ q : Nat, s.heap.size ≤ q → Af cs ad sz q := fun q h => Or.inr (by rw [hsz] at h; exact h)
  have hl := lv_entry ([.ref (ad (34 + 4 * J)), .ref (ad 33), .int (nI n), .long v]) (n := 5) (Nat.le_of_ble_eq_true rfl)
  rw [lg_entry_eq]
  generalize (lg_sl ([.ref (ad (34 + 4 * J)), .ref (ad 33), .int (nI n), .long v]) ++ List.replicate (5 - (lg_sl ([.ref (ad (34 + 4 * J)), .ref (ad 33), .int (nI n), .long v])).length) Slot.unset).toArray = ls at hl ⊢
  have hl : lv_has ls 5 [(0, .ref (ad (34 + 4 * J))), (1, .ref (ad 33)), (2, .int (nI n)), (3, .long v)] := hl
  have hf0 : ∀ c, (c ≠ 34 + 4 * J ∧ c ≠ 37 + 4 * J) → en c = en c := fun _ _ => rfl
  obtain ⟨f_186, es186, p0_186⟩ := get_let hI
  obtain ⟨dn_187, no_187, rc_187, gr_187, le_187, rt_187, tt_187, es187, p0_187⟩ := get_sv hI (j := J) (by omega)
  obtain ⟨f_188, es188⟩ := get_svc hI (j := J) (by omega)
  refine lv_aload_n hx hb dX6_noteRing_0 rfl (lv_at hl 0 rfl) ?_
  refine lv_dup hx hb dX6_noteRing_1 rfl ?_
  refine hp_get hx hb hts ix6 hown hK hh (q := (34 + 4 * J)) rfl (hI.1 _ (by omega)) es187 rfl 5 (by decide) (hts _ tw_89) (fun _ h9 => h9) rfl dX6_noteRing_2 ?_
  refine lv_iconst (v := 1) hx hb dX6_noteRing_5 (by decide) ?_
  refine lv_iadd hx hb dX6_noteRing_6 ?_
  refine hp_put hx hb hts ix6 tyX6 tyX6_ok nmX6 hown hK hh (q := (34 + 4 * J)) rfl (hI.1 _ (by omega)) es187 rfl 5 (by decide) (hts _ tw_89) (fun _ h9 => h9) rfl (ty := .int) (by decide +kernel) rfl rfl (Nat.le_of_ble_eq_true rfl) dX6_noteRing_7 (fun H locs en_189 hen_189 hh => ?_)
  have es186_189 : en_189 33 = .inl (cy 0, 8, .inl f_186) := by rw [hen_189, va_up_ne _ _ (by omega)]; exact es186
  have es188_189 : en_189 (37 + 4 * J) = .inl (cy 0, 8, .inl f_188) := by rw [hen_189, va_up_ne _ _ (by omega)]; exact es188
  have es187_189 : en_189 (34 + 4 * J) = .inr (5, [.ref (ad (35 + 4 * J)), .ref (ad (36 + 4 * J)), .ref (ad (37 + 4 * J)), .int (nI dn_187), .int no_187, .int (rc_187 + 1), .long gr_187, .long le_187, .long rt_187, .long tt_187]) := by rw [hen_189]; exact va_up_self _ _ _
  have hI_189 : SX cy cs ad en_189 := by rw [hen_189]; exact up_sv hI (j := J) (by omega) ⟨dn_187, no_187, (rc_187 + 1), gr_187, le_187, rt_187, tt_187, rfl, p0_187⟩
  have hf_189 : ∀ c, (c ≠ 34 + 4 * J ∧ c ≠ 37 + 4 * J) → en_189 c = en c := fun c hc => Eq.trans (show en_189 c = en c from by rw [hen_189, va_up_ne _ _ (by omega)]) (hf0 c hc)
  refine lv_aload_n hx hb dX6_noteRing_10 rfl (lv_at hl 0 rfl) ?_
  refine hp_get hx hb hts ix6 hown hK hh (q := (34 + 4 * J)) rfl (hI.1 _ (by omega)) es187_189 rfl 5 (by decide) (hts _ tw_89) (fun _ h9 => h9) rfl dX6_noteRing_11 ?_
  refine lv_iconst (v := 1) hx hb dX6_noteRing_14 (by decide) ?_
  refine lv_icmp_eq (tgt := 33) hx hb dX6_noteRing_15 (by decide) (fun c_190 => ?_) (fun c_190 => ?_)
  · refine lv_aload_n hx hb dX6_noteRing_33 rfl (lv_at hl 0 rfl) ?_
    refine lv_lload_n hx hb dX6_noteRing_34 rfl (lv_at hl 3 rfl) ?_
    refine hp_put hx hb hts ix6 tyX6 tyX6_ok nmX6 hown hK hh (q := (34 + 4 * J)) rfl (hI.1 _ (by omega)) es187_189 rfl 8 (by decide) (hts _ tw_96) (fun _ h9 => h9) rfl (ty := .long) (by decide +kernel) rfl rfl (Nat.le_of_ble_eq_true rfl) dX6_noteRing_35 (fun H locs en_191 hen_191 hh => ?_)
    have es186_191 : en_191 33 = .inl (cy 0, 8, .inl f_186) := by rw [hen_191, va_up_ne _ _ (by omega)]; exact es186_189
    have es188_191 : en_191 (37 + 4 * J) = .inl (cy 0, 8, .inl f_188) := by rw [hen_191, va_up_ne _ _ (by omega)]; exact es188_189
    have es187_191 : en_191 (34 + 4 * J) = .inr (5, [.ref (ad (35 + 4 * J)), .ref (ad (36 + 4 * J)), .ref (ad (37 + 4 * J)), .int (nI dn_187), .int no_187, .int (rc_187 + 1), .long gr_187, .long le_187, .long v, .long tt_187]) := by rw [hen_191]; exact va_up_self _ _ _
    have hI_191 : SX cy cs ad en_191 := by rw [hen_191]; exact up_sv hI_189 (j := J) (by omega) ⟨dn_187, no_187, (rc_187 + 1), gr_187, le_187, v, tt_187, rfl, p0_187⟩
    have hf_191 : ∀ c, (c ≠ 34 + 4 * J ∧ c ≠ 37 + 4 * J) → en_191 c = en c := fun c hc => Eq.trans (show en_191 c = en_189 c from by rw [hen_191, va_up_ne _ _ (by omega)]) (hf_189 c hc)
    refine lv_aload_n hx hb dX6_noteRing_38 rfl (lv_at hl 1 rfl) ?_
    refine lv_iconst (v := 0) hx hb dX6_noteRing_39 (by decide) ?_
    refine lv_aload_n hx hb dX6_noteRing_40 rfl (lv_at hl 0 rfl) ?_
    refine hp_get hx hb hts ix6 hown hK hh (q := (34 + 4 * J)) rfl (hI.1 _ (by omega)) es187_191 rfl 2 (by decide) (hts _ tw_83) (fun _ h9 => h9) rfl dX6_noteRing_41 ?_
    refine lv_iconst (v := 0) hx hb dX6_noteRing_44 (by decide) ?_
    refine lv_iload_n hx hb dX6_noteRing_45 rfl (lv_at hl 2 rfl) ?_
    refine W.eq (g2 := F0 m 46 ls [.int (nI n), .int (nI 0), .ref (ad (37 + 4 * J)), .int (nI 0), .ref (ad 33)]) rfl ?_
    refine hp_copyi hx hb (hml.trans hl.1.symm) hown (hts _ tw_498) (hts _ tw_340) (hts _ tw_339) (hts _ tw_12) hK hh (hI.1 _ (by decide)) (hI.1 _ (by omega)) es186_191 es188_191 0 0 n (by decide) (by decide) (by omega) (by omega) (by omega) (Nat.le_of_ble_eq_true rfl) (Nat.le_of_ble_eq_true rfl) dX6_noteRing_46 (fun H locs en_192 hen_192 hh => ?_)
    have es186_192 : en_192 33 = .inl (cy 0, 8, .inl f_186) := by rw [hen_192, va_up_ne _ _ (by omega)]; exact es186_191
    have es187_192 : en_192 (34 + 4 * J) = .inr (5, [.ref (ad (35 + 4 * J)), .ref (ad (36 + 4 * J)), .ref (ad (37 + 4 * J)), .int (nI dn_187), .int no_187, .int (rc_187 + 1), .long gr_187, .long le_187, .long v, .long tt_187]) := by rw [hen_192, va_up_ne _ _ (by omega)]; exact es187_191
    have es188_192 : en_192 (37 + 4 * J) = .inl (cy 0, 8, .inl (va_cpy f_186 f_188 0 0 n)) := by rw [hen_192]; exact va_up_self _ _ _
    have hI_192 : SX cy cs ad en_192 := by rw [hen_192]; exact up_svc hI_191 (j := J) (by omega) ⟨(va_cpy f_186 f_188 0 0 n), rfl⟩
    have hf_192 : ∀ c, (c ≠ 34 + 4 * J ∧ c ≠ 37 + 4 * J) → en_192 c = en c := fun c hc => Eq.trans (show en_192 c = en_191 c from by rw [hen_192, va_up_ne _ _ (by omega)]) (hf_191 c hc)
    have e0 : svR en J = (rc_187, rt_187, f_188) := svR_of (by rw [es187]; rfl) (by rw [es187]; rfl) (by rw [es188]; rfl)
    have e33 : rdF (en 33) = f_186 := by rw [es186]; rfl
    exact hp_vretM hx hb hr hlocks hh (⟨hI_192, hf_192, ⟨by rw [e0, e33]; unfold nrV; dsimp only; rw [if_pos (Or.inl c_190)]; exact svR_of (by rw [es187_192]; rfl) (by rw [es187_192]; rfl) (by rw [es188_192]; exact cpN_cpy), (by unfold svN; rw [es187_192, es187]; rw [hf_192 (35 + 4 * J) (by omega), hf_192 (36 + 4 * J) (by omega)]; rfl), (by unfold svT; rw [es187_192, es187]; rfl)⟩⟩) dX6_noteRing_49
  · refine lv_lload_n hx hb dX6_noteRing_18 rfl (lv_at hl 3 rfl) ?_
    refine va_mabs_long hx hb (hml.trans hl.1.symm) hown (hts _ tw_512) (hts _ tw_489) (hts _ tw_11) (hts _ tw_490) (Nat.le_of_ble_eq_true rfl) (Nat.le_of_ble_eq_true rfl) (Nat.le_of_ble_eq_true rfl) (Nat.le_of_ble_eq_true rfl) dX6_noteRing_19 ?_
    refine W.eq (g2 := F0 m 22 ls [.long (absL v)]) rfl ?_
    refine lv_aload_n hx hb dX6_noteRing_22 rfl (lv_at hl 0 rfl) ?_
    refine hp_get hx hb hts ix6 hown hK hh (q := (34 + 4 * J)) rfl (hI.1 _ (by omega)) es187_189 rfl 8 (by decide) (hts _ tw_96) (fun _ h9 => h9) rfl dX6_noteRing_23 ?_
    refine va_mabs_long hx hb (hml.trans hl.1.symm) hown (hts _ tw_512) (hts _ tw_489) (hts _ tw_11) (hts _ tw_490) (Nat.le_of_ble_eq_true rfl) (Nat.le_of_ble_eq_true rfl) (Nat.le_of_ble_eq_true rfl) (Nat.le_of_ble_eq_true rfl) dX6_noteRing_26 ?_
    refine W.eq (g2 := F0 m 29 ls [.long (absL rt_187), .long (absL v)]) rfl ?_
    refine W.lcmp hx hb dX6_noteRing_29 ?_
    refine lv_if_le (tgt := 49) hx hb dX6_noteRing_30 (by decide) (fun c_193 => ?_) (fun c_193 => ?_)
    · have e0 : svR en J = (rc_187, rt_187, f_188) := svR_of (by rw [es187]; rfl) (by rw [es187]; rfl) (by rw [es188]; rfl)
      have e33 : rdF (en 33) = f_186 := by rw [es186]; rfl
      exact hp_vretM hx hb hr hlocks hh (⟨hI_189, hf_189, ⟨by rw [e0, e33]; unfold nrV; dsimp only; rw [if_neg (fun q => q.elim c_190 (fun q => absurd (Int64.lt_iff_toInt_lt.mp q) (Int.not_lt.mpr (g_le c_193))))]; exact svR_of (by rw [es187_189]; rfl) (by rw [es187_189]; rfl) (by rw [es188_189]; rfl), (by unfold svN; rw [es187_189, es187]; rw [hf_189 (35 + 4 * J) (by omega), hf_189 (36 + 4 * J) (by omega)]; rfl), (by unfold svT; rw [es187_189, es187]; rfl)⟩⟩) dX6_noteRing_49
    · refine lv_aload_n hx hb dX6_noteRing_33 rfl (lv_at hl 0 rfl) ?_
      refine lv_lload_n hx hb dX6_noteRing_34 rfl (lv_at hl 3 rfl) ?_
      refine hp_put hx hb hts ix6 tyX6 tyX6_ok nmX6 hown hK hh (q := (34 + 4 * J)) rfl (hI.1 _ (by omega)) es187_189 rfl 8 (by decide) (hts _ tw_96) (fun _ h9 => h9) rfl (ty := .long) (by decide +kernel) rfl rfl (Nat.le_of_ble_eq_true rfl) dX6_noteRing_35 (fun H locs en_194 hen_194 hh => ?_)
      have es186_194 : en_194 33 = .inl (cy 0, 8, .inl f_186) := by rw [hen_194, va_up_ne _ _ (by omega)]; exact es186_189
      have es188_194 : en_194 (37 + 4 * J) = .inl (cy 0, 8, .inl f_188) := by rw [hen_194, va_up_ne _ _ (by omega)]; exact es188_189
      have es187_194 : en_194 (34 + 4 * J) = .inr (5, [.ref (ad (35 + 4 * J)), .ref (ad (36 + 4 * J)), .ref (ad (37 + 4 * J)), .int (nI dn_187), .int no_187, .int (rc_187 + 1), .long gr_187, .long le_187, .long v, .long tt_187]) := by rw [hen_194]; exact va_up_self _ _ _
      have hI_194 : SX cy cs ad en_194 := by rw [hen_194]; exact up_sv hI_189 (j := J) (by omega) ⟨dn_187, no_187, (rc_187 + 1), gr_187, le_187, v, tt_187, rfl, p0_187⟩
      have hf_194 : ∀ c, (c ≠ 34 + 4 * J ∧ c ≠ 37 + 4 * J) → en_194 c = en c := fun c hc => Eq.trans (show en_194 c = en_189 c from by rw [hen_194, va_up_ne _ _ (by omega)]) (hf_189 c hc)
      refine lv_aload_n hx hb dX6_noteRing_38 rfl (lv_at hl 1 rfl) ?_
      refine lv_iconst (v := 0) hx hb dX6_noteRing_39 (by decide) ?_
      refine lv_aload_n hx hb dX6_noteRing_40 rfl (lv_at hl 0 rfl) ?_
      refine hp_get hx hb hts ix6 hown hK hh (q := (34 + 4 * J)) rfl (hI.1 _ (by omega)) es187_194 rfl 2 (by decide) (hts _ tw_83) (fun _ h9 => h9) rfl dX6_noteRing_41 ?_
      refine lv_iconst (v := 0) hx hb dX6_noteRing_44 (by decide) ?_
      refine lv_iload_n hx hb dX6_noteRing_45 rfl (lv_at hl 2 rfl) ?_
      refine W.eq (g2 := F0 m 46 ls [.int (nI n), .int (nI 0), .ref (ad (37 + 4 * J)), .int (nI 0), .ref (ad 33)]) rfl ?_
      refine hp_copyi hx hb (hml.trans hl.1.symm) hown (hts _ tw_498) (hts _ tw_340) (hts _ tw_339) (hts _ tw_12) hK hh (hI.1 _ (by decide)) (hI.1 _ (by omega)) es186_194 es188_194 0 0 n (by decide) (by decide) (by omega) (by omega) (by omega) (Nat.le_of_ble_eq_true rfl) (Nat.le_of_ble_eq_true rfl) dX6_noteRing_46 (fun H locs en_195 hen_195 hh => ?_)
      have es186_195 : en_195 33 = .inl (cy 0, 8, .inl f_186) := by rw [hen_195, va_up_ne _ _ (by omega)]; exact es186_194
      have es187_195 : en_195 (34 + 4 * J) = .inr (5, [.ref (ad (35 + 4 * J)), .ref (ad (36 + 4 * J)), .ref (ad (37 + 4 * J)), .int (nI dn_187), .int no_187, .int (rc_187 + 1), .long gr_187, .long le_187, .long v, .long tt_187]) := by rw [hen_195, va_up_ne _ _ (by omega)]; exact es187_194
      have es188_195 : en_195 (37 + 4 * J) = .inl (cy 0, 8, .inl (va_cpy f_186 f_188 0 0 n)) := by rw [hen_195]; exact va_up_self _ _ _
      have hI_195 : SX cy cs ad en_195 := by rw [hen_195]; exact up_svc hI_194 (j := J) (by omega) ⟨(va_cpy f_186 f_188 0 0 n), rfl⟩
      have hf_195 : ∀ c, (c ≠ 34 + 4 * J ∧ c ≠ 37 + 4 * J) → en_195 c = en c := fun c hc => Eq.trans (show en_195 c = en_194 c from by rw [hen_195, va_up_ne _ _ (by omega)]) (hf_194 c hc)
      have e0 : svR en J = (rc_187, rt_187, f_188) := svR_of (by rw [es187]; rfl) (by rw [es187]; rfl) (by rw [es188]; rfl)
      have e33 : rdF (en 33) = f_186 := by rw [es186]; rfl
      exact hp_vretM hx hb hr hlocks hh (⟨hI_195, hf_195, ⟨by rw [e0, e33]; unfold nrV; dsimp only; rw [if_pos (Or.inr (Int64.lt_iff_toInt_lt.mpr (g_nle c_193)))]; exact svR_of (by rw [es187_195]; rfl) (by rw [es187_195]; rfl) (by rw [es188_195]; exact cpN_cpy), (by unfold svN; rw [es187_195, es187]; rw [hf_195 (35 + 4 * J) (by omega), hf_195 (36 + 4 * J) (by omega)]; rfl), (by unfold svT; rw [es187_195, es187]; rfl)⟩⟩) dX6_noteRing_49
theorem kw_X6_noteRing {R : Room} {s : State} {args : Array Value} {own : String} {idx : Nat} (hts : ∀ w ∈ TB, w.before args s = true) (hl : Cond.methodLink own idx yX6_noteRing ∈ TB) (hR : 1 + 1 ≤ R.frames ∧ 8 + (5 + 11) + 40 * 1 ≤ R.locals) : CallW R s args own RX6 idx yX6_noteRing cX6_noteRing 5 none (Cond.code yX6_noteRing cX6_noteRing 5 none :: TB) (rmN 1) 0 0 3 := cwV 3 hts (TB_V hl tw_521 tw_522 tw_4 tw_523) rfl rfl rfl (by decide +kernel) hR
set_option maxHeartbeats 4000000 in
set_option maxRecDepth 100000 in
/-- extendPrefix -/
theorem c_X2_extendPrefix (l : Launch) (D : va_G) (cy : Nat → ClassId) (sz : Nat) (cs : List Nat) (ad : Nat → Nat) (en : Nat → va_E) (hI : SX cy cs ad en) (dp le : Nat) (hdp : dp < 8) (hle : le < 6) (hPF : PFX en dp)   : Met l yX2_extendPrefix (Cond.code yX2_extendPrefix cX2_extendPrefix 3 none :: TB) (rmN 2) (va_Pc [.ref (ad 12), .int (nI dp), .int (nI le)] (Pre D cy cs ad en sz)) (va_Qv (S := Nat → va_E) (fun en1 => SX cy cs ad en1 ∧ (∀ c, (c ≠ 33 ∧ c ≠ 25 + dp) → en1 c = en c) ∧ (PFX en1 (dp + 1) ∧ (∀ x, x ≠ dp → rdF (en1 33) x = rdF (en 33) x) ∧ rdF (en1 33) dp = nI le)) (PostM D cs ad) (Af cs ad sz)) 0 0 (Af cs ad sz) := by
  refine Met.ofW (cc := cX2_extendPrefix) (maxL := 3) (ret := none) (by decide) rfl ?_
  intro p e s m args below meth c s₁ B hml hv
  obtain ⟨rfl, hsz, hP, hK, hD0⟩ := hv
  have hx := B.exec
  have hb := B.bytes
  have hr := B.returns
  have hts : ∀ w ∈ TB, w.before _ s = true := fun w h => atoms_spec (ws := _ :: TB) B.pre w (List.mem_cons_of_mem _ h)
  have hown : s.vm.findClass RX2 = some m.cls := findClass_of_methodNamed B.named
  have hlocks := B.notSynchronized
  have hh : Hp D (Af cs ad sz) (Af cs ad sz) s.heap s.heap [] cs ad en := ⟨hP, Af_self hD0, va_S.rf⟩
  have hA : ∀ q : Nat, s.heap.size ≤ q → Af cs ad sz q := fun q h => Or.inr (by rw [hsz] at h; exact h)
  have hl := lv_entry ([.ref (ad 12), .int (nI dp), .int (nI le)]) (n := 3) (Nat.le_of_ble_eq_true rfl)
  rw [lg_entry_eq]
  generalize (lg_sl ([.ref (ad 12), .int (nI dp), .int (nI le)]) ++ List.replicate (3 - (lg_sl ([.ref (ad 12), .int (nI dp), .int (nI le)])).length) Slot.unset).toArray = ls at hl ⊢
  have hl : lv_has ls 3 [(0, .ref (ad 12)), (1, .int (nI dp)), (2, .int (nI le))] := hl
  have hf0 : ∀ c, (c ≠ 33 ∧ c ≠ 25 + dp) → en c = en c := fun _ _ => rfl
  obtain ⟨cnt, d, mm, es196, hcnt, hd2, hd3, hmm⟩ := get_T hI
  obtain ⟨f_197, es197, p0_197⟩ := get_let hI
  have hd9 : dX en = d := by unfold dX; rw [show rdI (en 1) 5 = nI d from by rw [es196]; rfl]; exact nI_clamp (by omega)
  have hm9 : mX en = mm := by unfold mX; rw [show rdI (en 1) 6 = nI mm from by rw [es196]; rfl]; exact nI_clamp (by omega)
  refine lv_aload_n hx hb dX2_extendPrefix_0 rfl (lv_at hl 0 rfl) ?_
  obtain ⟨hw_198, es198, p0_198⟩ := get_L hI
  refine hp_get hx hb hts ix2 hown hK hh (q := 12) rfl (hI.1 _ (by decide)) es198 rfl 4 (by decide) (hts _ tw_126) (fun _ h9 => h9) rfl dX2_extendPrefix_1 ?_
  refine lv_iload_n hx hb dX2_extendPrefix_4 rfl (lv_at hl 1 rfl) ?_
  refine lv_iload_n hx hb dX2_extendPrefix_5 rfl (lv_at hl 2 rfl) ?_
  refine hp_iast hx hb hK hh (q := 33) rfl (hI.1 _ (by decide)) es197 (vp_in_nI (n := dp) (by omega) (by decide)) dX2_extendPrefix_6 (fun H locs en_199 hen_199 hh => ?_)
  rw [nI_clamp (n := dp) (by omega)] at hen_199
  have es196_199 : en_199 1 = .inr (7, [.ref (ad 2), .ref (ad 3), .ref (ad 10), .ref (ad 11), .int (nI cnt), .int (nI d), .int (nI mm)]) := by rw [hen_199, va_up_ne _ _ (by decide)]; exact es196
  have es198_199 : en_199 12 = .inr (2, [.ref (ad 1), .ref (ad 13), .ref (ad 14), .ref (ad 24), .ref (ad 33), .int (nI hw_198)]) := by rw [hen_199, va_up_ne _ _ (by decide)]; exact es198
  have es197_199 : en_199 33 = .inl (cy 0, 8, .inl (upd f_197 dp (nI le))) := by rw [hen_199]; exact va_up_self _ _ _
  have hI_199 : SX cy cs ad en_199 := by rw [hen_199]; exact up_let hI ⟨(upd f_197 dp (nI le)), rfl, (vals_upd p0_197 hle)⟩
  have hf_199 : ∀ c, (c ≠ 33 ∧ c ≠ 25 + dp) → en_199 c = en c := fun c hc => Eq.trans (show en_199 c = en c from by rw [hen_199, va_up_ne _ _ (by omega)]) (hf0 c hc)
  refine lv_iload_n hx hb dX2_extendPrefix_7 rfl (lv_at hl 1 rfl) ?_
  refine lv_if_ne (tgt := 35) hx hb dX2_extendPrefix_8 (by decide) (fun c_200 => ?_) (fun c_200 => ?_)
  · have n_200 : dp ≠ 0 := n_neq (a := dp) (b := 0) c_200 (by omega) (by decide)
    refine lv_aload_n hx hb dX2_extendPrefix_35 rfl (lv_at hl 0 rfl) ?_
    refine hp_get hx hb hts ix2 hown hK hh (q := 12) rfl (hI.1 _ (by decide)) es198_199 rfl 0 (by decide) (hts _ tw_122) (fun _ h9 => h9) rfl dX2_extendPrefix_36 ?_
    refine lv_aload_n hx hb dX2_extendPrefix_39 rfl (lv_at hl 0 rfl) ?_
    refine hp_get hx hb hts ix2 hown hK hh (q := 12) rfl (hI.1 _ (by decide)) es198_199 rfl 3 (by decide) (hts _ tw_125) (fun _ h9 => h9) rfl dX2_extendPrefix_40 ?_
    refine lv_iload_n hx hb dX2_extendPrefix_43 rfl (lv_at hl 1 rfl) ?_
    refine lv_iconst (v := 1) hx hb dX2_extendPrefix_44 (by decide) ?_
    refine lv_isub hx hb dX2_extendPrefix_45 ?_
    rw [show (1 : Int32) = nI 1 from rfl, pk_sub (a := dp) (b := 1) (by omega)]
    have es201 := get_pfs hI_199
    unfold P_pfs at es201
    refine hp_aald hx hb hK hh (q := 24) rfl (hI.1 _ (by decide)) 8 es201 rfl rfl (vp_in_nI (n := (dp - 1)) (by omega) (by decide)) (v := .ref (ad (25 + (dp - 1)))) (by rw [nI_clamp (n := (dp - 1)) (by omega)]; exact rfA_v (by omega)) dX2_extendPrefix_46 ?_
    refine lv_aload_n hx hb dX2_extendPrefix_47 rfl (lv_at hl 0 rfl) ?_
    refine hp_get hx hb hts ix2 hown hK hh (q := 12) rfl (hI.1 _ (by decide)) es198_199 rfl 0 (by decide) (hts _ tw_122) (fun _ h9 => h9) rfl dX2_extendPrefix_48 ?_
    refine lv_iload_n hx hb dX2_extendPrefix_51 rfl (lv_at hl 2 rfl) ?_
    have es202 := get_rows hI_199
    unfold P_rows at es202
    refine hp_callRq (va_runV (As := [.int (nI le)]) (rest := [.ref (ad (25 + (dp - 1))), .ref (ad 1)]) ⟨hx, hb, hml, hown, hts⟩ (c_X8_rowOf l D cy _ cs ad en_199 (hI.1 _ (by decide)) (hI.1 _ (by decide)) cnt d mm hcnt hd2 hd3 hmm le (by omega) es196_199 es202) (kw_X8_rowOf hts tw_532 ⟨by decide, by decide⟩) (preV_of hh hK (hI.1 _ (by decide)) es196_199 rfl) rfl rfl hl.1 rfl (lv_room (Nat.le_of_ble_eq_true rfl)) dX2_extendPrefix_52 ⟨Nat.le_of_ble_eq_true rfl, Nat.le_of_ble_eq_true rfl⟩) hh hA (fun r_203 H locs hw_203 hh => ?_)
    obtain rfl : r_203 = some (ad (4 + le)) := hw_203
    refine W.eq (g2 := F0 m 55 ls [.ref (ad (4 + le)), .ref (ad (25 + (dp - 1))), .ref (ad 1)]) rfl ?_
    refine lv_aload_n hx hb dX2_extendPrefix_55 rfl (lv_at hl 0 rfl) ?_
    refine hp_get hx hb hts ix2 hown hK hh (q := 12) rfl (hI.1 _ (by decide)) es198_199 rfl 3 (by decide) (hts _ tw_125) (fun _ h9 => h9) rfl dX2_extendPrefix_56 ?_
    refine lv_iload_n hx hb dX2_extendPrefix_59 rfl (lv_at hl 1 rfl) ?_
    refine hp_aald hx hb hK hh (q := 24) rfl (hI.1 _ (by decide)) 8 es201 rfl rfl (vp_in_nI (n := dp) (by omega) (by decide)) (v := .ref (ad (25 + dp))) (by rw [nI_clamp (n := dp) (by omega)]; exact rfA_v (by omega)) dX2_extendPrefix_60 ?_
    obtain ⟨f_204, es204⟩ := get_pfx hI_199 (j := dp) (by omega)
    obtain ⟨f_205, es205⟩ := get_row hI_199 (j := le) (by omega)
    obtain ⟨f_206, es206⟩ := get_pfx hI_199 (j := (dp - 1)) (by omega)
    refine hp_callMv (va_runV (As := [.ref (ad (25 + (dp - 1))), .ref (ad (4 + le)), .ref (ad (25 + dp))]) (rest := []) ⟨hx, hb, hml, hown, hts⟩ (c_X8_multiply l D cy _ cs ad en_199 (hI.1 _ (by decide)) cnt d mm hcnt hd2 hd3 hmm (25 + (dp - 1)) (4 + le) (25 + dp) (hI.1 _ (by omega)) (hI.1 _ (by omega)) (hI.1 _ (by omega)) (by omega) (by omega) (by omega) f_206 f_205 f_204 es196_199 es206 es205 es204) (kw_X8_multiply hts tw_537 ⟨by decide, by decide⟩) (preV_of hh hK (hI.1 _ (by decide)) es196_199 rfl) rfl rfl hl.1 rfl (lv_room (Nat.le_of_ble_eq_true rfl)) dX2_extendPrefix_61 ⟨Nat.le_of_ble_eq_true rfl, Nat.le_of_ble_eq_true rfl⟩) hh hA (fun H locs en_207 hw_207 hh => ?_)
    obtain ⟨g_207, hen_207, hg_207⟩ := hw_207
    have es196_207 : en_207 1 = .inr (7, [.ref (ad 2), .ref (ad 3), .ref (ad 10), .ref (ad 11), .int (nI cnt), .int (nI d), .int (nI mm)]) := by rw [hen_207, va_up_ne _ _ (by omega)]; exact es196_199
    have es198_207 : en_207 12 = .inr (2, [.ref (ad 1), .ref (ad 13), .ref (ad 14), .ref (ad 24), .ref (ad 33), .int (nI hw_198)]) := by rw [hen_207, va_up_ne _ _ (by omega)]; exact es198_199
    have es197_207 : en_207 33 = .inl (cy 0, 8, .inl (upd f_197 dp (nI le))) := by rw [hen_207, va_up_ne _ _ (by omega)]; exact es197_199
    have es201_207 : en_207 24 = .inl (cy 8, 8, .inr (.inr (.inr (.inr (rfA ad 8 25))))) := by rw [hen_207, va_up_ne _ _ (by omega)]; exact es201
    have es202_207 : en_207 3 = .inl (cy 8, 6, .inr (.inr (.inr (.inr (rfA ad 6 4))))) := by rw [hen_207, va_up_ne _ _ (by omega)]; exact es202
    have es205_207 : en_207 (4 + le) = .inl (cy 1, 9, .inr (.inl f_205)) := by rw [hen_207, va_up_ne _ _ (by omega)]; exact es205
    have es206_207 : en_207 (25 + (dp - 1)) = .inl (cy 1, 9, .inr (.inl f_206)) := by rw [hen_207, va_up_ne _ _ (by omega)]; exact es206
    have es204_207 : en_207 (25 + dp) = .inl (cy 1, 9, .inr (.inl g_207)) := by rw [hen_207]; exact va_up_self _ _ _
    have hI_207 : SX cy cs ad en_207 := by rw [hen_207]; exact up_pfx hI_199 (j := dp) (by omega) ⟨g_207, rfl⟩
    have hf_207 : ∀ c, (c ≠ 33 ∧ c ≠ 25 + dp) → en_207 c = en c := fun c hc => Eq.trans (show en_207 c = en_199 c from by rw [hen_207, va_up_ne _ _ (by omega)]) (hf_199 c hc)
    exact hp_vretM hx hb hr hlocks hh (⟨hI_207, hf_207, ⟨PFX_ext hPF hle (hf_207 1 (by omega)) (fun c h1 h2 => hf_207 c (by omega)) (fun k hk => hf_207 _ (by omega)) (fun x hx => by rw [es197_207, es197]; exact pk_un (by omega)) (by rw [es197_207]; exact pk_us) (fun i hi => by rw [if_neg (by omega), (show rdL (en (4 + le)) = f_205 from by rw [← hf_207 (4 + le) (by omega), es205_207]; rfl), (show rdL (en (25 + (dp - 1))) = f_206 from by rw [← hf_207 (25 + (dp - 1)) (by omega), es206_207]; rfl), es204_207, hd9, hm9]; rw [hd9] at hi; exact hg_207.1 i hi), fun x hx => by rw [es197_207, es197]; exact pk_un hx, by rw [es197_207]; exact pk_us⟩⟩) dX2_extendPrefix_64
  · have n_200 : dp = 0 := n_eq (a := dp) (b := 0) c_200 (by omega) (by decide)
    refine lv_aload_n hx hb dX2_extendPrefix_11 rfl (lv_at hl 0 rfl) ?_
    refine hp_get hx hb hts ix2 hown hK hh (q := 12) rfl (hI.1 _ (by decide)) es198_199 rfl 0 (by decide) (hts _ tw_122) (fun _ h9 => h9) rfl dX2_extendPrefix_12 ?_
    refine lv_iload_n hx hb dX2_extendPrefix_15 rfl (lv_at hl 2 rfl) ?_
    have es208 := get_rows hI_199
    unfold P_rows at es208
    refine hp_callRq (va_runV (As := [.int (nI le)]) (rest := []) ⟨hx, hb, hml, hown, hts⟩ (c_X8_rowOf l D cy _ cs ad en_199 (hI.1 _ (by decide)) (hI.1 _ (by decide)) cnt d mm hcnt hd2 hd3 hmm le (by omega) es196_199 es208) (kw_X8_rowOf hts tw_532 ⟨by decide, by decide⟩) (preV_of hh hK (hI.1 _ (by decide)) es196_199 rfl) rfl rfl hl.1 rfl (lv_room (Nat.le_of_ble_eq_true rfl)) dX2_extendPrefix_16 ⟨Nat.le_of_ble_eq_true rfl, Nat.le_of_ble_eq_true rfl⟩) hh hA (fun r_209 H locs hw_209 hh => ?_)
    obtain rfl : r_209 = some (ad (4 + le)) := hw_209
    refine W.eq (g2 := F0 m 19 ls [.ref (ad (4 + le))]) rfl ?_
    refine lv_iconst (v := 0) hx hb dX2_extendPrefix_19 (by decide) ?_
    refine lv_aload_n hx hb dX2_extendPrefix_20 rfl (lv_at hl 0 rfl) ?_
    refine hp_get hx hb hts ix2 hown hK hh (q := 12) rfl (hI.1 _ (by decide)) es198_199 rfl 3 (by decide) (hts _ tw_125) (fun _ h9 => h9) rfl dX2_extendPrefix_21 ?_
    refine lv_iconst (v := 0) hx hb dX2_extendPrefix_24 (by decide) ?_
    have es210 := get_pfs hI_199
    unfold P_pfs at es210
    rw [show (0 : Int32) = nI 0 from rfl]
    refine hp_aald hx hb hK hh (q := 24) rfl (hI.1 _ (by decide)) 8 es210 rfl rfl (vp_in_nI (n := 0) (by decide) (by decide)) (v := .ref (ad (25 + 0))) (by rw [nI_clamp (n := 0) (by decide)]; exact rfA_v (by decide)) dX2_extendPrefix_25 ?_
    refine lv_iconst (v := 0) hx hb dX2_extendPrefix_26 (by decide) ?_
    refine lv_bipush (v := 9) hx hb dX2_extendPrefix_27 (by decide) ?_
    obtain ⟨f_211, es211⟩ := get_pfx hI_199 (j := 0) (by decide)
    obtain ⟨f_212, es212⟩ := get_row hI_199 (j := le) (by omega)
    refine W.eq (g2 := F0 m 29 ls [.int (nI 9), .int (nI 0), .ref (ad (25 + 0)), .int (nI 0), .ref (ad (4 + le))]) rfl ?_
    refine hp_copyl hx hb (hml.trans hl.1.symm) hown (hts _ tw_536) (hts _ tw_340) (hts _ tw_339) (hts _ tw_12) hK hh (hI.1 _ (by omega)) (hI.1 _ (by omega)) es212 es211 0 0 9 (by decide) (by decide) (by decide) (by decide) (by decide) (Nat.le_of_ble_eq_true rfl) (Nat.le_of_ble_eq_true rfl) dX2_extendPrefix_29 (fun H locs en_213 hen_213 hh => ?_)
    have es196_213 : en_213 1 = .inr (7, [.ref (ad 2), .ref (ad 3), .ref (ad 10), .ref (ad 11), .int (nI cnt), .int (nI d), .int (nI mm)]) := by rw [hen_213, va_up_ne _ _ (by omega)]; exact es196_199
    have es198_213 : en_213 12 = .inr (2, [.ref (ad 1), .ref (ad 13), .ref (ad 14), .ref (ad 24), .ref (ad 33), .int (nI hw_198)]) := by rw [hen_213, va_up_ne _ _ (by omega)]; exact es198_199
    have es197_213 : en_213 33 = .inl (cy 0, 8, .inl (upd f_197 dp (nI le))) := by rw [hen_213, va_up_ne _ _ (by omega)]; exact es197_199
    have es208_213 : en_213 3 = .inl (cy 8, 6, .inr (.inr (.inr (.inr (rfA ad 6 4))))) := by rw [hen_213, va_up_ne _ _ (by omega)]; exact es208
    have es210_213 : en_213 24 = .inl (cy 8, 8, .inr (.inr (.inr (.inr (rfA ad 8 25))))) := by rw [hen_213, va_up_ne _ _ (by omega)]; exact es210
    have es212_213 : en_213 (4 + le) = .inl (cy 1, 9, .inr (.inl f_212)) := by rw [hen_213, va_up_ne _ _ (by omega)]; exact es212
    have es211_213 : en_213 (25 + 0) = .inl (cy 1, 9, .inr (.inl (va_cpy f_212 f_211 0 0 9))) := by rw [hen_213]; exact va_up_self _ _ _
    have hI_213 : SX cy cs ad en_213 := by rw [hen_213]; exact up_pfx hI_199 (j := 0) (by decide) ⟨(va_cpy f_212 f_211 0 0 9), rfl⟩
    have hf_213 : ∀ c, (c ≠ 33 ∧ c ≠ 25 + dp) → en_213 c = en c := fun c hc => Eq.trans (show en_213 c = en_199 c from by rw [hen_213, va_up_ne _ _ (by omega)]) (hf_199 c hc)
    refine lv_goto (tgt := 64) hx hb dX2_extendPrefix_32 (by decide) ?_
    exact hp_vretM hx hb hr hlocks hh (⟨hI_213, hf_213, ⟨PFX_ext hPF hle (hf_213 1 (by omega)) (fun c h1 h2 => hf_213 c (by omega)) (fun k hk => hf_213 _ (by omega)) (fun x hx => by rw [es197_213, es197]; exact pk_un (by omega)) (by rw [es197_213]; exact pk_us) (fun i hi => by rw [if_pos n_200, (show rdL (en (4 + le)) = f_212 from by rw [← hf_213 (4 + le) (by omega), es212_213]; rfl), show (25 + dp) = 25 + 0 by omega, es211_213]; rw [hd9] at hi; have h9 : d * d ≤ 9 := Nat.mul_le_mul hd3 hd3; exact (pk_cpy_in (by omega) (by omega)).trans (by rw [Nat.zero_add, Nat.sub_zero])), fun x hx => by rw [es197_213, es197]; exact pk_un hx, by rw [es197_213]; exact pk_us⟩⟩) dX2_extendPrefix_64
theorem kw_X2_extendPrefix {R : Room} {s : State} {args : Array Value} {own : String} {idx : Nat} (hts : ∀ w ∈ TB, w.before args s = true) (hl : Cond.methodLink own idx yX2_extendPrefix ∈ TB) (hR : 2 + 1 ≤ R.frames ∧ 8 + (3 + 11) + 40 * 2 ≤ R.locals) : CallW R s args own RX2 idx yX2_extendPrefix cX2_extendPrefix 3 none (Cond.code yX2_extendPrefix cX2_extendPrefix 3 none :: TB) (rmN 2) 0 0 2 := cwV 2 hts (TB_V hl tw_530 ts_12 tw_3 tw_531) rfl rfl rfl (by decide +kernel) hR
set_option maxHeartbeats 4000000 in
set_option maxRecDepth 100000 in
/-- noteWord -/
theorem c_X2_noteWord (l : Launch) (D : va_G) (cy : Nat → ClassId) (sz : Nat) (cs : List Nat) (ad : Nat → Nat) (en : Nat → va_E) (hI : SX cy cs ad en) (J : Nat) (hJ : J < 9) (n : Nat) (hn1 : 1 ≤ n) (hn : n ≤ 8) (hPF : PFX en n) (Q : List Nat → Bool) (hQ : hQQ Q (rdF (en 10)) n)   : Met l yX2_noteWord (Cond.code yX2_noteWord cX2_noteWord 6 none :: TB) (rmN 3) (va_Pc [.ref (ad 12), .ref (ad (34 + 4 * J)), .int (nI n)] (Pre D cy cs ad en sz)) (va_Qv (S := Nat → va_E) (fun en1 => SX cy cs ad en1 ∧ (∀ c, (c ≠ 34 + 4 * J ∧ c ≠ 35 + 4 * J ∧ c ≠ 36 + 4 * J ∧ c ≠ 37 + 4 * J) → en1 c = en c) ∧ SVL en en1 J n Q [pre (gX en) n]) (PostM D cs ad) (Af cs ad sz)) 0 0 (Af cs ad sz) := by
  refine Met.ofW (cc := cX2_noteWord) (maxL := 6) (ret := none) (by decide) rfl ?_
  intro p e s m args below meth c s₁ B hml hv
  obtain ⟨rfl, hsz, hP, hK, hD0⟩ := hv
  have hx := B.exec
  have hb := B.bytes
  have hr := B.returns
  have hts : ∀ w ∈ TB, w.before _ s = true := fun w h => atoms_spec (ws := _ :: TB) B.pre w (List.mem_cons_of_mem _ h)
  have hown : s.vm.findClass RX2 = some m.cls := findClass_of_methodNamed B.named
  have hlocks := B.notSynchronized
  have hh : Hp D (Af cs ad sz) (Af cs ad sz) s.heap s.heap [] cs ad en := ⟨hP, Af_self hD0, va_S.rf⟩
  have hA : ∀ q : Nat, s.heap.size ≤ q → Af cs ad sz q := fun q h => Or.inr (by rw [hsz] at h; exact h)
  have hl := lv_entry ([.ref (ad 12), .ref (ad (34 + 4 * J)), .int (nI n)]) (n := 6) (Nat.le_of_ble_eq_true rfl)
  rw [lg_entry_eq]
  generalize (lg_sl ([.ref (ad 12), .ref (ad (34 + 4 * J)), .int (nI n)]) ++ List.replicate (6 - (lg_sl ([.ref (ad 12), .ref (ad (34 + 4 * J)), .int (nI n)])).length) Slot.unset).toArray = ls at hl ⊢
  have hl : lv_has ls 6 [(0, .ref (ad 12)), (1, .ref (ad (34 + 4 * J))), (2, .int (nI n))] := hl
  have hf0 : ∀ c, (c ≠ 34 + 4 * J ∧ c ≠ 35 + 4 * J ∧ c ≠ 36 + 4 * J ∧ c ≠ 37 + 4 * J) → en c = en c := fun _ _ => rfl
  obtain ⟨cnt, d, mm, es214, hcnt, hd2, hd3, hmm⟩ := get_T hI
  obtain ⟨f10, es215, hb10⟩ := get_alw hI
  obtain ⟨f_216, es216, p0_216⟩ := get_let hI
  have hk9 : kX en = cnt := by unfold kX; rw [show rdI (en 1) 4 = nI cnt from by rw [es214]; rfl]; exact nI_clamp (by omega)
  have ha9 : aX en = (alX f10) := by unfold aX; rw [show rdF (en 10) = f10 from by rw [es215]; rfl]
  have hd9 : dX en = d := by unfold dX; rw [show rdI (en 1) 5 = nI d from by rw [es214]; rfl]; exact nI_clamp (by omega)
  have hm9 : mX en = mm := by unfold mX; rw [show rdI (en 1) 6 = nI mm from by rw [es214]; rfl]; exact nI_clamp (by omega)
  have hv33 : ∀ i, i < 8 → ∃ v, v < 6 ∧ rdF (en 33) i = nI v := by rw [show rdF (en 33) = f_216 from by rw [es216]; rfl]; exact p0_216
  have hlf := lF_X hv33 hn
  have h10 : rdF (en 10) = f10 := by rw [es215]; rfl
  refine lv_aload_n hx hb dX2_noteWord_0 rfl (lv_at hl 0 rfl) ?_
  obtain ⟨hw_217, es217, p0_217⟩ := get_L hI
  refine hp_get hx hb hts ix2 hown hK hh (q := 12) rfl (hI.1 _ (by decide)) es217 rfl 3 (by decide) (hts _ tw_125) (fun _ h9 => h9) rfl dX2_noteWord_1 ?_
  refine lv_iload_n hx hb dX2_noteWord_4 rfl (lv_at hl 2 rfl) ?_
  refine lv_iconst (v := 1) hx hb dX2_noteWord_5 (by decide) ?_
  refine lv_isub hx hb dX2_noteWord_6 ?_
  rw [show (1 : Int32) = nI 1 from rfl, pk_sub (a := n) (b := 1) (by omega)]
  have es218 := get_pfs hI
  unfold P_pfs at es218
  refine hp_aald hx hb hK hh (q := 24) rfl (hI.1 _ (by decide)) 8 es218 rfl rfl (vp_in_nI (n := (n - 1)) (by omega) (by decide)) (v := .ref (ad (25 + (n - 1)))) (by rw [nI_clamp (n := (n - 1)) (by omega)]; exact rfA_v (by omega)) dX2_noteWord_7 ?_
  refine lv_astore_n (lv' := [(3, .ref (ad (25 + (n - 1)))), (0, .ref (ad 12)), (1, .ref (ad (34 + 4 * J))), (2, .int (nI n))]) hx hb dX2_noteWord_8 rfl hl (by decide) rfl (fun ls hl => ?_)
  refine lv_aload_n hx hb dX2_noteWord_9 rfl (lv_at hl 2 rfl) ?_
  refine lv_aload_n hx hb dX2_noteWord_10 rfl (lv_at hl 1 rfl) ?_
  refine hp_get hx hb hts ix2 hown hK hh (q := 12) rfl (hI.1 _ (by decide)) es217 rfl 4 (by decide) (hts _ tw_126) (fun _ h9 => h9) rfl dX2_noteWord_11 ?_
  refine lv_iload_n hx hb dX2_noteWord_14 rfl (lv_at hl 3 rfl) ?_
  refine lv_aload_n hx hb dX2_noteWord_15 rfl (lv_at hl 1 rfl) ?_
  refine hp_get hx hb hts ix2 hown hK hh (q := 12) rfl (hI.1 _ (by decide)) es217 rfl 0 (by decide) (hts _ tw_122) (fun _ h9 => h9) rfl dX2_noteWord_16 ?_
  refine lv_aload_n hx hb dX2_noteWord_19 rfl (lv_at hl 0 rfl) ?_
  obtain ⟨f_219, es219⟩ := get_pfx hI (j := (n - 1)) (by omega)
  refine hp_callRl (va_runV (As := [.ref (ad (25 + (n - 1)))]) (rest := [.int (nI n), .ref (ad 33), .ref (ad (34 + 4 * J))]) ⟨hx, hb, hml, hown, hts⟩ (c_X8_norm l D cy _ cs ad en (hI.1 _ (by decide)) cnt d mm hcnt hd2 hd3 hmm (25 + (n - 1)) (hI.1 _ (by omega)) f_219 es214 es219) (kw_X8_norm hts tw_484 ⟨by decide, by decide⟩) (preV_of hh hK (hI.1 _ (by decide)) es214 rfl) rfl rfl hl.1 rfl (lv_room (Nat.le_of_ble_eq_true rfl)) dX2_noteWord_20 ⟨Nat.le_of_ble_eq_true rfl, Nat.le_of_ble_eq_true rfl⟩) hh hA (fun r_220 H locs hw_220 hh => ?_)
  obtain rfl : r_220 = (normT d f_219 d) := hw_220
  obtain ⟨dn_221, no_221, rc_221, gr_221, le_221, rt_221, tt_221, es221, p0_221⟩ := get_sv hI (j := J) (by omega)
  refine hp_callMv (va_runV (As := [.ref (ad 33), .int (nI n), .long (normT d f_219 d)]) (rest := []) ⟨hx, hb, hml, hown, hts⟩ (c_X6_noteNorm l D cy _ cs ad en hI J (by omega) n (by omega) (normT d f_219 d) ) (kw_X6_noteNorm hts tw_494 ⟨by decide, by decide⟩) (preV_of hh hK (hI.1 _ (by omega)) es221 rfl) rfl rfl hl.1 rfl (lv_room (Nat.le_of_ble_eq_true rfl)) dX2_noteWord_23 ⟨Nat.le_of_ble_eq_true rfl, Nat.le_of_ble_eq_true rfl⟩) hh hA (fun H locs en_222 hw_222 hh => ?_)
  obtain ⟨hI_222, hu_222, hx_222⟩ := hw_222
  have hf_222 : ∀ c, (c ≠ 34 + 4 * J ∧ c ≠ 35 + 4 * J ∧ c ≠ 36 + 4 * J ∧ c ≠ 37 + 4 * J) → en_222 c = en c := fun c hc => (hu_222 c (by omega)).trans (hf0 c hc)
  refine lv_aload_n hx hb dX2_noteWord_26 rfl (lv_at hl 1 rfl) ?_
  have es217_223 : en_222 12 = .inr (2, [.ref (ad 1), .ref (ad 13), .ref (ad 14), .ref (ad 24), .ref (ad 33), .int (nI hw_217)]) := (hf_222 12 (by omega)).trans es217
  refine hp_get hx hb hts ix2 hown hK hh (q := 12) rfl (hI.1 _ (by decide)) es217_223 rfl 0 (by decide) (hts _ tw_122) (fun _ h9 => h9) rfl dX2_noteWord_27 ?_
  refine lv_aload_n hx hb dX2_noteWord_30 rfl (lv_at hl 1 rfl) ?_
  refine hp_get hx hb hts ix2 hown hK hh (q := 12) rfl (hI.1 _ (by decide)) es217_223 rfl 4 (by decide) (hts _ tw_126) (fun _ h9 => h9) rfl dX2_noteWord_31 ?_
  refine lv_iload_n hx hb dX2_noteWord_34 rfl (lv_at hl 3 rfl) ?_
  have es216_224 : en_222 33 = .inl (cy 0, 8, .inl f_216) := (hf_222 33 (by omega)).trans es216
  have es214_225 : en_222 1 = .inr (7, [.ref (ad 2), .ref (ad 3), .ref (ad 10), .ref (ad 11), .int (nI cnt), .int (nI d), .int (nI mm)]) := (hf_222 1 (by omega)).trans es214
  have es215_226 : en_222 10 = .inl (cy 2, 36, .inl f10) := (hf_222 10 (by omega)).trans es215
  refine hp_callRi (va_runV (As := [.ref (ad 33), .int (nI n)]) (rest := []) ⟨hx, hb, hml, hown, hts⟩ (c_X8_isTurnable l D cy _ cs ad en_222 (hI.1 _ (by decide)) cnt d mm hcnt hd2 hd3 hmm (hI.1 _ (by decide)) f10 hb10 33 8 n (hI.1 _ (by decide)) (by decide) f_216 p0_216 (by omega) (by omega) es214_225 es215_226 es216_224) (kw_X8_isTurnable hts tw_499 ⟨by decide, by decide⟩) (preV_of hh hK (hI.1 _ (by decide)) es214_225 rfl) rfl rfl hl.1 rfl (lv_room (Nat.le_of_ble_eq_true rfl)) dX2_noteWord_35 ⟨Nat.le_of_ble_eq_true rfl, Nat.le_of_ble_eq_true rfl⟩) hh hA (fun r_227 H locs hw_227 hh => ?_)
  rcases hw_227 with ⟨hb_227, hy_227⟩ | ⟨hb_227, hy_227⟩
  · obtain rfl : r_227 = 1 := hb_227
    refine lv_if_ne (tgt := 42) hx hb dX2_noteWord_38 (by decide) (fun _ => ?_) (fun c_0 => absurd c_0 (by decide))
    refine lv_aload_n hx hb dX2_noteWord_42 rfl (lv_at hl 1 rfl) ?_
    refine hp_get hx hb hts ix2 hown hK hh (q := 12) rfl (hI.1 _ (by decide)) es217_223 rfl 0 (by decide) (hts _ tw_122) (fun _ h9 => h9) rfl dX2_noteWord_43 ?_
    refine lv_aload_n hx hb dX2_noteWord_46 rfl (lv_at hl 0 rfl) ?_
    obtain ⟨f_228, es228⟩ := get_pfx hI_222 (j := (n - 1)) (by omega)
    refine hp_callRl (va_runV (As := [.ref (ad (25 + (n - 1)))]) (rest := []) ⟨hx, hb, hml, hown, hts⟩ (c_X8_track l D cy _ cs ad en_222 (hI.1 _ (by decide)) cnt d mm hcnt hd2 hd3 hmm (25 + (n - 1)) (hI.1 _ (by omega)) f_228 es214_225 es228) (kw_X8_track hts tw_504 ⟨by decide, by decide⟩) (preV_of hh hK (hI.1 _ (by decide)) es214_225 rfl) rfl rfl hl.1 rfl (lv_room (Nat.le_of_ble_eq_true rfl)) dX2_noteWord_47 ⟨Nat.le_of_ble_eq_true rfl, Nat.le_of_ble_eq_true rfl⟩) hh hA (fun r_229 H locs hw_229 hh => ?_)
    have htr : r_229 = trX (dX en) (mX en) n (rX en) (pre (gX en) n) := by rw [hw_229, ← tr_X hv33 hn1 hn hPF, hd9, ← hf_222 (25 + (n - 1)) (by omega), es228]; rfl
    refine lv_lstore (lv' := [(4, .long r_229), (3, .ref (ad (25 + (n - 1)))), (0, .ref (ad 12)), (1, .ref (ad (34 + 4 * J))), (2, .int (nI n))]) hx hb dX2_noteWord_50 hl (by decide) rfl (fun ls hl => ?_)
    refine lv_aload_n hx hb dX2_noteWord_52 rfl (lv_at hl 3 rfl) ?_
    refine lv_lload hx hb dX2_noteWord_53 (lv_at hl 0 rfl) ?_
    obtain ⟨dn_230, no_230, rc_230, gr_230, le_230, rt_230, tt_230, es230, p0_230⟩ := get_sv hI_222 (j := J) (by omega)
    refine hp_callMv (va_runV (As := [.long r_229]) (rest := []) ⟨hx, hb, hml, hown, hts⟩ (c_X6_noteTurnable l D cy _ cs ad en_222 hI_222 J (by omega) r_229 ) (kw_X6_noteTurnable hts tw_508 ⟨by decide, by decide⟩) (preV_of hh hK (hI.1 _ (by omega)) es230 rfl) rfl rfl hl.1 rfl (lv_room (Nat.le_of_ble_eq_true rfl)) dX2_noteWord_55 ⟨Nat.le_of_ble_eq_true rfl, Nat.le_of_ble_eq_true rfl⟩) hh hA (fun H locs en_231 hw_231 hh => ?_)
    obtain ⟨hI_231, hu_231, hx_231⟩ := hw_231
    have hf_231 : ∀ c, (c ≠ 34 + 4 * J ∧ c ≠ 35 + 4 * J ∧ c ≠ 36 + 4 * J ∧ c ≠ 37 + 4 * J) → en_231 c = en c := fun c hc => (hu_231 c (by omega)).trans (hf_222 c hc)
    refine lv_aload_n hx hb dX2_noteWord_58 rfl (lv_at hl 2 rfl) ?_
    have es217_232 : en_231 12 = .inr (2, [.ref (ad 1), .ref (ad 13), .ref (ad 14), .ref (ad 24), .ref (ad 33), .int (nI hw_217)]) := (hf_231 12 (by omega)).trans es217
    refine hp_get hx hb hts ix2 hown hK hh (q := 12) rfl (hI.1 _ (by decide)) es217_232 rfl 4 (by decide) (hts _ tw_126) (fun _ h9 => h9) rfl dX2_noteWord_59 ?_
    refine lv_iload_n hx hb dX2_noteWord_62 rfl (lv_at hl 4 rfl) ?_
    have es216_233 : en_231 33 = .inl (cy 0, 8, .inl f_216) := (hf_231 33 (by omega)).trans es216
    refine hp_callRi (va_runS (As := [.ref (ad 33), .int (nI n)]) (rest := []) ⟨hx, hb, hml, hown, hts⟩ (c_X5_isAheadOfItsTurns l D cy _ cs ad en_231 33 8 (hI.1 _ (by decide)) (by decide) f_216 n (by omega) (by omega) (by omega) es216_233) (kw_X5_isAheadOfItsTurns hts tw_514 ⟨by decide, by decide⟩) (preS_of hh hK) rfl rfl hl.1 rfl (lv_room (Nat.le_of_ble_eq_true rfl)) dX2_noteWord_63 ⟨Nat.le_of_ble_eq_true rfl, Nat.le_of_ble_eq_true rfl⟩) hh hA (fun r_234 H locs hw_234 hh => ?_)
    rcases hw_234 with ⟨hb_234, hy_234⟩ | ⟨hb_234, hy_234⟩
    · obtain rfl : r_234 = 1 := hb_234
      refine lv_if_eq (tgt := 80) hx hb dX2_noteWord_66 (by decide) (fun c_0 => absurd c_0 (by decide)) (fun _ => ?_)
      refine lv_aload_n hx hb dX2_noteWord_69 rfl (lv_at hl 3 rfl) ?_
      refine lv_aload_n hx hb dX2_noteWord_70 rfl (lv_at hl 2 rfl) ?_
      refine hp_get hx hb hts ix2 hown hK hh (q := 12) rfl (hI.1 _ (by decide)) es217_232 rfl 4 (by decide) (hts _ tw_126) (fun _ h9 => h9) rfl dX2_noteWord_71 ?_
      refine lv_iload_n hx hb dX2_noteWord_74 rfl (lv_at hl 4 rfl) ?_
      refine lv_lload hx hb dX2_noteWord_75 (lv_at hl 0 rfl) ?_
      obtain ⟨dn_235, no_235, rc_235, gr_235, le_235, rt_235, tt_235, es235, p0_235⟩ := get_sv hI_231 (j := J) (by omega)
      refine hp_callMv (va_runV (As := [.ref (ad 33), .int (nI n), .long r_229]) (rest := []) ⟨hx, hb, hml, hown, hts⟩ (c_X6_noteRing l D cy _ cs ad en_231 hI_231 J (by omega) n (by omega) r_229 ) (kw_X6_noteRing hts tw_520 ⟨by decide, by decide⟩) (preV_of hh hK (hI.1 _ (by omega)) es235 rfl) rfl rfl hl.1 rfl (lv_room (Nat.le_of_ble_eq_true rfl)) dX2_noteWord_77 ⟨Nat.le_of_ble_eq_true rfl, Nat.le_of_ble_eq_true rfl⟩) hh hA (fun H locs en_236 hw_236 hh => ?_)
      obtain ⟨hI_236, hu_236, hx_236⟩ := hw_236
      have hf_236 : ∀ c, (c ≠ 34 + 4 * J ∧ c ≠ 35 + 4 * J ∧ c ≠ 36 + 4 * J ∧ c ≠ 37 + 4 * J) → en_236 c = en c := fun c hc => (hu_236 c (by omega)).trans (hf_231 c hc)
      exact hp_vretM hx hb hr hlocks hh (⟨hI_236, hf_236, ⟨((hx_236.2.1.trans hx_231.2.1).trans (hx_222.1.trans (by rw [List.foldl_cons, List.foldl_nil]; unfold nn1; rw [← nm_X hv33 hn1 hn hPF, hd9, show rdL (en (25 + (n - 1))) = f_219 from by rw [es219]; rfl]; exact nnV_c hlf))), (hx_236.2.2.trans (hx_231.1.trans (by rw [List.foldl_cons, List.foldl_nil]; unfold nt1; rw [if_pos (show rdF (en 10) _ = 1 from by rw [h10]; exact (show tuP f10 (lF (pre (gX en) n)) n from tuP_c hn1 (fun x hx => by rw [← (show rdF (en 33) = f_216 from by rw [← hf_222 33 (by omega), es216_224]; rfl)]; exact hlf x hx) hy_227)), hx_222.2.1, htr]))), (hx_236.1.trans (by rw [List.foldl_cons, List.foldl_nil]; unfold nr1; rw [if_pos ((hQ _).mpr ⟨by rw [h10]; exact (show tuP f10 (lF (pre (gX en) n)) n from tuP_c hn1 (fun x hx => by rw [← (show rdF (en 33) = f_216 from by rw [← hf_222 33 (by omega), es216_224]; rfl)]; exact hlf x hx) hy_227), ahA_c (fun x hx => by rw [← (show rdF (en 33) = f_216 from by rw [← hf_231 33 (by omega), es216_233]; rfl)]; exact hlf x hx) hy_234⟩), hx_231.2.2, hx_222.2.2, htr, hf_231 33 (by omega)]; exact nrV_c hlf))⟩⟩) dX2_noteWord_80
    · obtain rfl : r_234 = 0 := hb_234
      refine lv_if_eq (tgt := 80) hx hb dX2_noteWord_66 (by decide) (fun _ => ?_) (fun c_0 => absurd c_0 (by decide))
      exact hp_vretM hx hb hr hlocks hh (⟨hI_231, hf_231, ⟨(hx_231.2.1.trans (hx_222.1.trans (by rw [List.foldl_cons, List.foldl_nil]; unfold nn1; rw [← nm_X hv33 hn1 hn hPF, hd9, show rdL (en (25 + (n - 1))) = f_219 from by rw [es219]; rfl]; exact nnV_c hlf))), (hx_231.1.trans (by rw [List.foldl_cons, List.foldl_nil]; unfold nt1; rw [if_pos (show rdF (en 10) _ = 1 from by rw [h10]; exact (show tuP f10 (lF (pre (gX en) n)) n from tuP_c hn1 (fun x hx => by rw [← (show rdF (en 33) = f_216 from by rw [← hf_222 33 (by omega), es216_224]; rfl)]; exact hlf x hx) hy_227)), hx_222.2.1, htr])), ((hx_231.2.2.trans hx_222.2.2).trans (by rw [List.foldl_cons, List.foldl_nil]; unfold nr1; rw [if_neg (fun q => hy_234 (ahA_c (fun x hx => by rw [← (show rdF (en 33) = f_216 from by rw [← hf_231 33 (by omega), es216_233]; rfl)]; exact (hlf x hx).symm) ((hQ _).mp q).2))]))⟩⟩) dX2_noteWord_80
  · obtain rfl : r_227 = 0 := hb_227
    refine lv_if_ne (tgt := 42) hx hb dX2_noteWord_38 (by decide) (fun c_0 => absurd c_0 (by decide)) (fun _ => ?_)
    exact hp_vretM hx hb hr hlocks hh (⟨hI_222, hf_222, ⟨(hx_222.1.trans (by rw [List.foldl_cons, List.foldl_nil]; unfold nn1; rw [← nm_X hv33 hn1 hn hPF, hd9, show rdL (en (25 + (n - 1))) = f_219 from by rw [es219]; rfl]; exact nnV_c hlf)), (hx_222.2.1.trans (by rw [List.foldl_cons, List.foldl_nil]; unfold nt1; rw [if_neg (fun q => hy_227 (tuP_c hn1 (fun x hx => by rw [← (show rdF (en 33) = f_216 from by rw [← hf_222 33 (by omega), es216_224]; rfl)]; exact (hlf x hx).symm) (show tuP f10 (lF (pre (gX en) n)) n from by rw [← h10]; exact q)))])), (hx_222.2.2.trans (by rw [List.foldl_cons, List.foldl_nil]; unfold nr1; rw [if_neg (fun q => hy_227 (tuP_c hn1 (fun x hx => by rw [← (show rdF (en 33) = f_216 from by rw [← hf_222 33 (by omega), es216_224]; rfl)]; exact (hlf x hx).symm) (show tuP f10 (lF (pre (gX en) n)) n from by rw [← h10]; exact ((hQ _).mp q).1)))]))⟩⟩) dX2_noteWord_41
theorem kw_X2_noteWord {R : Room} {s : State} {args : Array Value} {own : String} {idx : Nat} (hts : ∀ w ∈ TB, w.before args s = true) (hl : Cond.methodLink own idx yX2_noteWord ∈ TB) (hR : 3 + 1 ≤ R.frames ∧ 8 + (6 + 11) + 40 * 3 ≤ R.locals) : CallW R s args own RX2 idx yX2_noteWord cX2_noteWord 6 none (Cond.code yX2_noteWord cX2_noteWord 6 none :: TB) (rmN 3) 0 0 2 := cwV 2 hts (TB_V hl tw_482 ts_10 tw_3 tw_483) rfl rfl rfl (by decide +kernel) hR
