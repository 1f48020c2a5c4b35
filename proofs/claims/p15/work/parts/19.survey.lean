set_option maxHeartbeats 4000000 in
set_option maxRecDepth 100000 in
/-- Survey.restart -/
theorem c_X6_restart (l : Launch) (D : va_G) (cy : Nat → ClassId) (sz : Nat) (cs : List Nat) (ad : Nat → Nat) (en : Nat → va_E) (hI : SX cy cs ad en) (J : Nat) (hJ : J < 9)   : Met l yX6_restart (Cond.code yX6_restart cX6_restart 1 none :: TB) (rmN 0) (va_Pc [.ref (ad (34 + 4 * J))] (Pre D cy cs ad en sz)) (va_Qv (S := Nat → va_E) (fun en1 => SX cy cs ad en1 ∧ (∀ c, (c < 12 ∨ 70 ≤ c) → en1 c = en c)) (PostM D cs ad) (Af cs ad sz)) 0 0 (Af cs ad sz) := by
  refine Met.ofW (cc := cX6_restart) (maxL := 1) (ret := none) (by decide) rfl ?_
  intro p e s m args below meth c s₁ B hml hv
  obtain ⟨rfl, hsz, hP, hK, hD0⟩ := hv
  have hx := B.exec
  have hb := B.bytes
  have hr := B.returns
  have hts : ∀ w ∈ TB, w.before _ s = true := fun w h => atoms_spec (ws := _ :: TB) B.pre w (List.mem_cons_of_mem _ h)
  have hown : s.vm.findClass RX6 = some m.cls := findClass_of_methodNamed B.named
  have hlocks := B.notSynchronized
  have hh : Hp D (Af cs ad sz) (Af cs ad sz) s.heap s.heap [] cs ad en := ⟨hP, Af_self hD0, va_S.rf⟩
  have hA : ∀ q : Nat, s.heap.size ≤ q → Af cs ad sz q := fun q h => Or.inr (by rw [hsz] at h; exact h)
  have hl := lv_entry ([.ref (ad (34 + 4 * J))]) (n := 1) (Nat.le_of_ble_eq_true rfl)
  rw [lg_entry_eq]
  generalize (lg_sl ([.ref (ad (34 + 4 * J))]) ++ List.replicate (1 - (lg_sl ([.ref (ad (34 + 4 * J))])).length) Slot.unset).toArray = ls at hl ⊢
  have hl : lv_has ls 1 [(0, .ref (ad (34 + 4 * J)))] := hl
  have hf0 : ∀ c, (c < 12 ∨ 70 ≤ c) → en c = en c := fun _ _ => rfl
  refine lv_aload_n hx hb dX6_restart_0 rfl (lv_at hl 0 rfl) ?_
  refine lv_iconst (v := 0) hx hb dX6_restart_1 (by decide) ?_
  obtain ⟨dn_152, no_152, rc_152, gr_152, le_152, rt_152, tt_152, es152, p0_152⟩ := get_sv hI (j := J) (by omega)
  refine hp_put hx hb hts ix6 tyX6 tyX6_ok nmX6 hown hK hh (q := (34 + 4 * J)) rfl (hI.1 _ (by omega)) es152 rfl 3 (by decide) (hts _ tw_85) (fun _ h9 => h9) rfl (ty := .boolean) (by decide +kernel) rfl rfl (Nat.le_of_ble_eq_true rfl) dX6_restart_2 (fun H locs en_153 hen_153 hh => ?_)
  have es152_153 : en_153 (34 + 4 * J) = .inr (5, [.ref (ad (35 + 4 * J)), .ref (ad (36 + 4 * J)), .ref (ad (37 + 4 * J)), .int 0, .int no_152, .int rc_152, .long gr_152, .long le_152, .long rt_152, .long tt_152]) := by rw [hen_153]; exact va_up_self _ _ _
  have hI_153 : SX cy cs ad en_153 := by rw [hen_153]; exact up_sv hI (j := J) (by omega) ⟨0, no_152, rc_152, gr_152, le_152, rt_152, tt_152, rfl, (by omega)⟩
  have hf_153 : ∀ c, (c < 12 ∨ 70 ≤ c) → en_153 c = en c := fun c hc => Eq.trans (show en_153 c = en c from by rw [hen_153, va_up_ne _ _ (by omega)]) (hf0 c hc)
  refine lv_aload_n hx hb dX6_restart_5 rfl (lv_at hl 0 rfl) ?_
  refine lv_iconst (v := 0) hx hb dX6_restart_6 (by decide) ?_
  refine hp_put hx hb hts ix6 tyX6 tyX6_ok nmX6 hown hK hh (q := (34 + 4 * J)) rfl (hI.1 _ (by omega)) es152_153 rfl 4 (by decide) (hts _ tw_87) (fun _ h9 => h9) rfl (ty := .int) (by decide +kernel) rfl rfl (Nat.le_of_ble_eq_true rfl) dX6_restart_7 (fun H locs en_154 hen_154 hh => ?_)
  have es152_154 : en_154 (34 + 4 * J) = .inr (5, [.ref (ad (35 + 4 * J)), .ref (ad (36 + 4 * J)), .ref (ad (37 + 4 * J)), .int 0, .int 0, .int rc_152, .long gr_152, .long le_152, .long rt_152, .long tt_152]) := by rw [hen_154]; exact va_up_self _ _ _
  have hI_154 : SX cy cs ad en_154 := by rw [hen_154]; exact up_sv hI_153 (j := J) (by omega) ⟨0, 0, rc_152, gr_152, le_152, rt_152, tt_152, rfl, (by omega)⟩
  have hf_154 : ∀ c, (c < 12 ∨ 70 ≤ c) → en_154 c = en c := fun c hc => Eq.trans (show en_154 c = en_153 c from by rw [hen_154, va_up_ne _ _ (by omega)]) (hf_153 c hc)
  refine lv_aload_n hx hb dX6_restart_10 rfl (lv_at hl 0 rfl) ?_
  refine lv_iconst (v := 0) hx hb dX6_restart_11 (by decide) ?_
  refine hp_put hx hb hts ix6 tyX6 tyX6_ok nmX6 hown hK hh (q := (34 + 4 * J)) rfl (hI.1 _ (by omega)) es152_154 rfl 5 (by decide) (hts _ tw_89) (fun _ h9 => h9) rfl (ty := .int) (by decide +kernel) rfl rfl (Nat.le_of_ble_eq_true rfl) dX6_restart_12 (fun H locs en_155 hen_155 hh => ?_)
  have es152_155 : en_155 (34 + 4 * J) = .inr (5, [.ref (ad (35 + 4 * J)), .ref (ad (36 + 4 * J)), .ref (ad (37 + 4 * J)), .int 0, .int 0, .int 0, .long gr_152, .long le_152, .long rt_152, .long tt_152]) := by rw [hen_155]; exact va_up_self _ _ _
  have hI_155 : SX cy cs ad en_155 := by rw [hen_155]; exact up_sv hI_154 (j := J) (by omega) ⟨0, 0, 0, gr_152, le_152, rt_152, tt_152, rfl, (by omega)⟩
  have hf_155 : ∀ c, (c < 12 ∨ 70 ≤ c) → en_155 c = en c := fun c hc => Eq.trans (show en_155 c = en_154 c from by rw [hen_155, va_up_ne _ _ (by omega)]) (hf_154 c hc)
  refine lv_aload_n hx hb dX6_restart_15 rfl (lv_at hl 0 rfl) ?_
  refine lv_ldc2 hx hb hown (hts _ tw_475) dX6_restart_16 ?_
  refine hp_put hx hb hts ix6 tyX6 tyX6_ok nmX6 hown hK hh (q := (34 + 4 * J)) rfl (hI.1 _ (by omega)) es152_155 rfl 6 (by decide) (hts _ tw_91) (fun _ h9 => h9) rfl (ty := .long) (by decide +kernel) rfl rfl (Nat.le_of_ble_eq_true rfl) dX6_restart_19 (fun H locs en_156 hen_156 hh => ?_)
  have es152_156 : en_156 (34 + 4 * J) = .inr (5, [.ref (ad (35 + 4 * J)), .ref (ad (36 + 4 * J)), .ref (ad (37 + 4 * J)), .int 0, .int 0, .int 0, .long (-1), .long le_152, .long rt_152, .long tt_152]) := by rw [hen_156]; exact va_up_self _ _ _
  have hI_156 : SX cy cs ad en_156 := by rw [hen_156]; exact up_sv hI_155 (j := J) (by omega) ⟨0, 0, 0, (-1), le_152, rt_152, tt_152, rfl, (by omega)⟩
  have hf_156 : ∀ c, (c < 12 ∨ 70 ≤ c) → en_156 c = en c := fun c hc => Eq.trans (show en_156 c = en_155 c from by rw [hen_156, va_up_ne _ _ (by omega)]) (hf_155 c hc)
  refine lv_aload_n hx hb dX6_restart_22 rfl (lv_at hl 0 rfl) ?_
  refine lv_ldc2 hx hb hown (hts _ tw_476) dX6_restart_23 ?_
  refine hp_put hx hb hts ix6 tyX6 tyX6_ok nmX6 hown hK hh (q := (34 + 4 * J)) rfl (hI.1 _ (by omega)) es152_156 rfl 7 (by decide) (hts _ tw_94) (fun _ h9 => h9) rfl (ty := .long) (by decide +kernel) rfl rfl (Nat.le_of_ble_eq_true rfl) dX6_restart_26 (fun H locs en_157 hen_157 hh => ?_)
  have es152_157 : en_157 (34 + 4 * J) = .inr (5, [.ref (ad (35 + 4 * J)), .ref (ad (36 + 4 * J)), .ref (ad (37 + 4 * J)), .int 0, .int 0, .int 0, .long (-1), .long 9223372036854775807, .long rt_152, .long tt_152]) := by rw [hen_157]; exact va_up_self _ _ _
  have hI_157 : SX cy cs ad en_157 := by rw [hen_157]; exact up_sv hI_156 (j := J) (by omega) ⟨0, 0, 0, (-1), 9223372036854775807, rt_152, tt_152, rfl, (by omega)⟩
  have hf_157 : ∀ c, (c < 12 ∨ 70 ≤ c) → en_157 c = en c := fun c hc => Eq.trans (show en_157 c = en_156 c from by rw [hen_157, va_up_ne _ _ (by omega)]) (hf_156 c hc)
  refine lv_aload_n hx hb dX6_restart_29 rfl (lv_at hl 0 rfl) ?_
  refine lv_lconst (v := 0) hx hb dX6_restart_30 (by decide) ?_
  refine hp_put hx hb hts ix6 tyX6 tyX6_ok nmX6 hown hK hh (q := (34 + 4 * J)) rfl (hI.1 _ (by omega)) es152_157 rfl 8 (by decide) (hts _ tw_96) (fun _ h9 => h9) rfl (ty := .long) (by decide +kernel) rfl rfl (Nat.le_of_ble_eq_true rfl) dX6_restart_31 (fun H locs en_158 hen_158 hh => ?_)
  have es152_158 : en_158 (34 + 4 * J) = .inr (5, [.ref (ad (35 + 4 * J)), .ref (ad (36 + 4 * J)), .ref (ad (37 + 4 * J)), .int 0, .int 0, .int 0, .long (-1), .long 9223372036854775807, .long 0, .long tt_152]) := by rw [hen_158]; exact va_up_self _ _ _
  have hI_158 : SX cy cs ad en_158 := by rw [hen_158]; exact up_sv hI_157 (j := J) (by omega) ⟨0, 0, 0, (-1), 9223372036854775807, 0, tt_152, rfl, (by omega)⟩
  have hf_158 : ∀ c, (c < 12 ∨ 70 ≤ c) → en_158 c = en c := fun c hc => Eq.trans (show en_158 c = en_157 c from by rw [hen_158, va_up_ne _ _ (by omega)]) (hf_157 c hc)
  refine lv_aload_n hx hb dX6_restart_34 rfl (lv_at hl 0 rfl) ?_
  refine lv_ldc2 hx hb hown (hts _ tw_475) dX6_restart_35 ?_
  refine hp_put hx hb hts ix6 tyX6 tyX6_ok nmX6 hown hK hh (q := (34 + 4 * J)) rfl (hI.1 _ (by omega)) es152_158 rfl 9 (by decide) (hts _ tw_98) (fun _ h9 => h9) rfl (ty := .long) (by decide +kernel) rfl rfl (Nat.le_of_ble_eq_true rfl) dX6_restart_38 (fun H locs en_159 hen_159 hh => ?_)
  have es152_159 : en_159 (34 + 4 * J) = .inr (5, [.ref (ad (35 + 4 * J)), .ref (ad (36 + 4 * J)), .ref (ad (37 + 4 * J)), .int 0, .int 0, .int 0, .long (-1), .long 9223372036854775807, .long 0, .long (-1)]) := by rw [hen_159]; exact va_up_self _ _ _
  have hI_159 : SX cy cs ad en_159 := by rw [hen_159]; exact up_sv hI_158 (j := J) (by omega) ⟨0, 0, 0, (-1), 9223372036854775807, 0, (-1), rfl, (by omega)⟩
  have hf_159 : ∀ c, (c < 12 ∨ 70 ≤ c) → en_159 c = en c := fun c hc => Eq.trans (show en_159 c = en_158 c from by rw [hen_159, va_up_ne _ _ (by omega)]) (hf_158 c hc)
  exact hp_vretM hx hb hr hlocks hh (⟨hI_159, hf_159⟩) dX6_restart_41
theorem kw_X6_restart {R : Room} {s : State} {args : Array Value} {own : String} {idx : Nat} (hts : ∀ w ∈ TB, w.before args s = true) (hl : Cond.methodLink own idx yX6_restart ∈ TB) (hR : 0 + 1 ≤ R.frames ∧ 8 + (1 + 11) + 40 * 0 ≤ R.locals) : CallW R s args own RX6 idx yX6_restart cX6_restart 1 none (Cond.code yX6_restart cX6_restart 1 none :: TB) (rmN 0) 0 0 0 := cwV 0 hts (TB_V hl tw_472 tw_473 tw_4 tw_474) rfl rfl rfl (by decide +kernel) hR
set_option maxHeartbeats 4000000 in
set_option maxRecDepth 100000 in
/-- noteNorm -/
theorem c_X6_noteNorm (l : Launch) (D : va_G) (cy : Nat → ClassId) (sz : Nat) (cs : List Nat) (ad : Nat → Nat) (en : Nat → va_E) (hI : SX cy cs ad en) (J : Nat) (hJ : J < 9) (n : Nat) (hn : n ≤ 8) (v : Int64)   : Met l yX6_noteNorm (Cond.code yX6_noteNorm cX6_noteNorm 5 none :: TB) (rmN 1) (va_Pc [.ref (ad (34 + 4 * J)), .ref (ad 33), .int (nI n), .long v] (Pre D cy cs ad en sz)) (va_Qv (S := Nat → va_E) (fun en1 => SX cy cs ad en1 ∧ (∀ c, (c < 12 ∨ 70 ≤ c) → en1 c = en c)) (PostM D cs ad) (Af cs ad sz)) 0 0 (Af cs ad sz) := by
  refine Met.ofW (cc := cX6_noteNorm) (maxL := 5) (ret := none) (by decide) rfl ?_
  intro p e s m args below meth c s₁ B hml hv
  obtain ⟨rfl, hsz, hP, hK, hD0⟩ := hv
  have hx := B.exec
  have hb := B.bytes
  have hr := B.returns
  have hts : ∀ w ∈ TB, w.before _ s = true := fun w h => atoms_spec (ws := _ :: TB) B.pre w (List.mem_cons_of_mem _ h)
  have hown : s.vm.findClass RX6 = some m.cls := findClass_of_methodNamed B.named
  have hlocks := B.notSynchronized
  have hh : Hp D (Af cs ad sz) (Af cs ad sz) s.heap s.heap [] cs ad en := ⟨hP, Af_self hD0, va_S.rf⟩
  have hA : ∀ q : Nat, s.heap.size ≤ q → Af cs ad sz q := fun q h => Or.inr (by rw [hsz] at h; exact h)
  have hl := lv_entry ([.ref (ad (34 + 4 * J)), .ref (ad 33), .int (nI n), .long v]) (n := 5) (Nat.le_of_ble_eq_true rfl)
  rw [lg_entry_eq]
  generalize (lg_sl ([.ref (ad (34 + 4 * J)), .ref (ad 33), .int (nI n), .long v]) ++ List.replicate (5 - (lg_sl ([.ref (ad (34 + 4 * J)), .ref (ad 33), .int (nI n), .long v])).length) Slot.unset).toArray = ls at hl ⊢
  have hl : lv_has ls 5 [(0, .ref (ad (34 + 4 * J))), (1, .ref (ad 33)), (2, .int (nI n)), (3, .long v)] := hl
  have hf0 : ∀ c, (c < 12 ∨ 70 ≤ c) → en c = en c := fun _ _ => rfl
  refine lv_lload_n hx hb dX6_noteNorm_0 rfl (lv_at hl 3 rfl) ?_
  refine lv_lconst (v := 0) hx hb dX6_noteNorm_1 (by decide) ?_
  refine W.lcmp hx hb dX6_noteNorm_2 ?_
  refine lv_if_ne (tgt := 16) hx hb dX6_noteNorm_3 (by decide) (fun c_160 => ?_) (fun c_160 => ?_)
  · refine lv_lload_n hx hb dX6_noteNorm_16 rfl (lv_at hl 3 rfl) ?_
    refine lv_aload_n hx hb dX6_noteNorm_17 rfl (lv_at hl 0 rfl) ?_
    obtain ⟨dn_161, no_161, rc_161, gr_161, le_161, rt_161, tt_161, es161, p0_161⟩ := get_sv hI (j := J) (by omega)
    refine hp_get hx hb hts ix6 hown hK hh (q := (34 + 4 * J)) rfl (hI.1 _ (by omega)) es161 rfl 6 (by decide) (hts _ tw_91) (fun _ h9 => h9) rfl dX6_noteNorm_18 ?_
    refine W.lcmp hx hb dX6_noteNorm_21 ?_
    refine lv_if_le (tgt := 41) hx hb dX6_noteNorm_22 (by decide) (fun c_162 => ?_) (fun c_162 => ?_)
    · refine lv_lload_n hx hb dX6_noteNorm_41 rfl (lv_at hl 3 rfl) ?_
      refine lv_aload_n hx hb dX6_noteNorm_42 rfl (lv_at hl 0 rfl) ?_
      refine hp_get hx hb hts ix6 hown hK hh (q := (34 + 4 * J)) rfl (hI.1 _ (by omega)) es161 rfl 7 (by decide) (hts _ tw_94) (fun _ h9 => h9) rfl dX6_noteNorm_43 ?_
      refine W.lcmp hx hb dX6_noteNorm_46 ?_
      refine lv_if_ge (tgt := 66) hx hb dX6_noteNorm_47 (by decide) (fun c_163 => ?_) (fun c_163 => ?_)
      · exact hp_vretM hx hb hr hlocks hh (⟨hI, hf0⟩) dX6_noteNorm_66
      · refine lv_aload_n hx hb dX6_noteNorm_50 rfl (lv_at hl 0 rfl) ?_
        refine lv_lload_n hx hb dX6_noteNorm_51 rfl (lv_at hl 3 rfl) ?_
        refine hp_put hx hb hts ix6 tyX6 tyX6_ok nmX6 hown hK hh (q := (34 + 4 * J)) rfl (hI.1 _ (by omega)) es161 rfl 7 (by decide) (hts _ tw_94) (fun _ h9 => h9) rfl (ty := .long) (by decide +kernel) rfl rfl (Nat.le_of_ble_eq_true rfl) dX6_noteNorm_52 (fun H locs en_164 hen_164 hh => ?_)
        have es161_164 : en_164 (34 + 4 * J) = .inr (5, [.ref (ad (35 + 4 * J)), .ref (ad (36 + 4 * J)), .ref (ad (37 + 4 * J)), .int (nI dn_161), .int no_161, .int rc_161, .long gr_161, .long v, .long rt_161, .long tt_161]) := by rw [hen_164]; exact va_up_self _ _ _
        have hI_164 : SX cy cs ad en_164 := by rw [hen_164]; exact up_sv hI (j := J) (by omega) ⟨dn_161, no_161, rc_161, gr_161, v, rt_161, tt_161, rfl, p0_161⟩
        have hf_164 : ∀ c, (c < 12 ∨ 70 ≤ c) → en_164 c = en c := fun c hc => Eq.trans (show en_164 c = en c from by rw [hen_164, va_up_ne _ _ (by omega)]) (hf0 c hc)
        refine lv_aload_n hx hb dX6_noteNorm_55 rfl (lv_at hl 1 rfl) ?_
        refine lv_iconst (v := 0) hx hb dX6_noteNorm_56 (by decide) ?_
        refine lv_aload_n hx hb dX6_noteNorm_57 rfl (lv_at hl 0 rfl) ?_
        refine hp_get hx hb hts ix6 hown hK hh (q := (34 + 4 * J)) rfl (hI.1 _ (by omega)) es161_164 rfl 1 (by decide) (hts _ tw_81) (fun _ h9 => h9) rfl dX6_noteNorm_58 ?_
        refine lv_iconst (v := 0) hx hb dX6_noteNorm_61 (by decide) ?_
        refine lv_iload_n hx hb dX6_noteNorm_62 rfl (lv_at hl 2 rfl) ?_
        obtain ⟨f_165, es165⟩ := get_svb hI_164 (j := J) (by omega)
        obtain ⟨f_166, es166, p0_166⟩ := get_let hI_164
        refine W.eq (g2 := F0 m 63 ls [.int (nI n), .int (nI 0), .ref (ad (36 + 4 * J)), .int (nI 0), .ref (ad 33)]) rfl ?_
        refine hp_copyi hx hb (hml.trans hl.1.symm) hown (hts _ tw_498) (hts _ tw_340) (hts _ tw_339) (hts _ tw_12) hK hh (hI.1 _ (by decide)) (hI.1 _ (by omega)) es166 es165 0 0 n (by decide) (by decide) (by omega) (by omega) (by omega) (Nat.le_of_ble_eq_true rfl) (Nat.le_of_ble_eq_true rfl) dX6_noteNorm_63 (fun H locs en_167 hen_167 hh => ?_)
        have es161_167 : en_167 (34 + 4 * J) = .inr (5, [.ref (ad (35 + 4 * J)), .ref (ad (36 + 4 * J)), .ref (ad (37 + 4 * J)), .int (nI dn_161), .int no_161, .int rc_161, .long gr_161, .long v, .long rt_161, .long tt_161]) := by rw [hen_167, va_up_ne _ _ (by omega)]; exact es161_164
        have es166_167 : en_167 33 = .inl (cy 0, 8, .inl f_166) := by rw [hen_167, va_up_ne _ _ (by omega)]; exact es166
        have es165_167 : en_167 (36 + 4 * J) = .inl (cy 0, 8, .inl (va_cpy f_166 f_165 0 0 n)) := by rw [hen_167]; exact va_up_self _ _ _
        have hI_167 : SX cy cs ad en_167 := by rw [hen_167]; exact up_svb hI_164 (j := J) (by omega) ⟨(va_cpy f_166 f_165 0 0 n), rfl⟩
        have hf_167 : ∀ c, (c < 12 ∨ 70 ≤ c) → en_167 c = en c := fun c hc => Eq.trans (show en_167 c = en_164 c from by rw [hen_167, va_up_ne _ _ (by omega)]) (hf_164 c hc)
        exact hp_vretM hx hb hr hlocks hh (⟨hI_167, hf_167⟩) dX6_noteNorm_66
    · refine lv_aload_n hx hb dX6_noteNorm_25 rfl (lv_at hl 0 rfl) ?_
      refine lv_lload_n hx hb dX6_noteNorm_26 rfl (lv_at hl 3 rfl) ?_
      refine hp_put hx hb hts ix6 tyX6 tyX6_ok nmX6 hown hK hh (q := (34 + 4 * J)) rfl (hI.1 _ (by omega)) es161 rfl 6 (by decide) (hts _ tw_91) (fun _ h9 => h9) rfl (ty := .long) (by decide +kernel) rfl rfl (Nat.le_of_ble_eq_true rfl) dX6_noteNorm_27 (fun H locs en_168 hen_168 hh => ?_)
      have es161_168 : en_168 (34 + 4 * J) = .inr (5, [.ref (ad (35 + 4 * J)), .ref (ad (36 + 4 * J)), .ref (ad (37 + 4 * J)), .int (nI dn_161), .int no_161, .int rc_161, .long v, .long le_161, .long rt_161, .long tt_161]) := by rw [hen_168]; exact va_up_self _ _ _
      have hI_168 : SX cy cs ad en_168 := by rw [hen_168]; exact up_sv hI (j := J) (by omega) ⟨dn_161, no_161, rc_161, v, le_161, rt_161, tt_161, rfl, p0_161⟩
      have hf_168 : ∀ c, (c < 12 ∨ 70 ≤ c) → en_168 c = en c := fun c hc => Eq.trans (show en_168 c = en c from by rw [hen_168, va_up_ne _ _ (by omega)]) (hf0 c hc)
      refine lv_aload_n hx hb dX6_noteNorm_30 rfl (lv_at hl 1 rfl) ?_
      refine lv_iconst (v := 0) hx hb dX6_noteNorm_31 (by decide) ?_
      refine lv_aload_n hx hb dX6_noteNorm_32 rfl (lv_at hl 0 rfl) ?_
      refine hp_get hx hb hts ix6 hown hK hh (q := (34 + 4 * J)) rfl (hI.1 _ (by omega)) es161_168 rfl 0 (by decide) (hts _ tw_79) (fun _ h9 => h9) rfl dX6_noteNorm_33 ?_
      refine lv_iconst (v := 0) hx hb dX6_noteNorm_36 (by decide) ?_
      refine lv_iload_n hx hb dX6_noteNorm_37 rfl (lv_at hl 2 rfl) ?_
      obtain ⟨f_169, es169⟩ := get_sva hI_168 (j := J) (by omega)
      obtain ⟨f_170, es170, p0_170⟩ := get_let hI_168
      refine W.eq (g2 := F0 m 38 ls [.int (nI n), .int (nI 0), .ref (ad (35 + 4 * J)), .int (nI 0), .ref (ad 33)]) rfl ?_
      refine hp_copyi hx hb (hml.trans hl.1.symm) hown (hts _ tw_498) (hts _ tw_340) (hts _ tw_339) (hts _ tw_12) hK hh (hI.1 _ (by decide)) (hI.1 _ (by omega)) es170 es169 0 0 n (by decide) (by decide) (by omega) (by omega) (by omega) (Nat.le_of_ble_eq_true rfl) (Nat.le_of_ble_eq_true rfl) dX6_noteNorm_38 (fun H locs en_171 hen_171 hh => ?_)
      have es161_171 : en_171 (34 + 4 * J) = .inr (5, [.ref (ad (35 + 4 * J)), .ref (ad (36 + 4 * J)), .ref (ad (37 + 4 * J)), .int (nI dn_161), .int no_161, .int rc_161, .long v, .long le_161, .long rt_161, .long tt_161]) := by rw [hen_171, va_up_ne _ _ (by omega)]; exact es161_168
      have es170_171 : en_171 33 = .inl (cy 0, 8, .inl f_170) := by rw [hen_171, va_up_ne _ _ (by omega)]; exact es170
      have es169_171 : en_171 (35 + 4 * J) = .inl (cy 0, 8, .inl (va_cpy f_170 f_169 0 0 n)) := by rw [hen_171]; exact va_up_self _ _ _
      have hI_171 : SX cy cs ad en_171 := by rw [hen_171]; exact up_sva hI_168 (j := J) (by omega) ⟨(va_cpy f_170 f_169 0 0 n), rfl⟩
      have hf_171 : ∀ c, (c < 12 ∨ 70 ≤ c) → en_171 c = en c := fun c hc => Eq.trans (show en_171 c = en_168 c from by rw [hen_171, va_up_ne _ _ (by omega)]) (hf_168 c hc)
      refine lv_lload_n hx hb dX6_noteNorm_41 rfl (lv_at hl 3 rfl) ?_
      refine lv_aload_n hx hb dX6_noteNorm_42 rfl (lv_at hl 0 rfl) ?_
      refine hp_get hx hb hts ix6 hown hK hh (q := (34 + 4 * J)) rfl (hI.1 _ (by omega)) es161_171 rfl 7 (by decide) (hts _ tw_94) (fun _ h9 => h9) rfl dX6_noteNorm_43 ?_
      refine W.lcmp hx hb dX6_noteNorm_46 ?_
      refine lv_if_ge (tgt := 66) hx hb dX6_noteNorm_47 (by decide) (fun c_172 => ?_) (fun c_172 => ?_)
      · exact hp_vretM hx hb hr hlocks hh (⟨hI_171, hf_171⟩) dX6_noteNorm_66
      · refine lv_aload_n hx hb dX6_noteNorm_50 rfl (lv_at hl 0 rfl) ?_
        refine lv_lload_n hx hb dX6_noteNorm_51 rfl (lv_at hl 3 rfl) ?_
        refine hp_put hx hb hts ix6 tyX6 tyX6_ok nmX6 hown hK hh (q := (34 + 4 * J)) rfl (hI.1 _ (by omega)) es161_171 rfl 7 (by decide) (hts _ tw_94) (fun _ h9 => h9) rfl (ty := .long) (by decide +kernel) rfl rfl (Nat.le_of_ble_eq_true rfl) dX6_noteNorm_52 (fun H locs en_173 hen_173 hh => ?_)
        have es170_173 : en_173 33 = .inl (cy 0, 8, .inl f_170) := by rw [hen_173, va_up_ne _ _ (by omega)]; exact es170_171
        have es169_173 : en_173 (35 + 4 * J) = .inl (cy 0, 8, .inl (va_cpy f_170 f_169 0 0 n)) := by rw [hen_173, va_up_ne _ _ (by omega)]; exact es169_171
        have es161_173 : en_173 (34 + 4 * J) = .inr (5, [.ref (ad (35 + 4 * J)), .ref (ad (36 + 4 * J)), .ref (ad (37 + 4 * J)), .int (nI dn_161), .int no_161, .int rc_161, .long v, .long v, .long rt_161, .long tt_161]) := by rw [hen_173]; exact va_up_self _ _ _
        have hI_173 : SX cy cs ad en_173 := by rw [hen_173]; exact up_sv hI_171 (j := J) (by omega) ⟨dn_161, no_161, rc_161, v, v, rt_161, tt_161, rfl, p0_161⟩
        have hf_173 : ∀ c, (c < 12 ∨ 70 ≤ c) → en_173 c = en c := fun c hc => Eq.trans (show en_173 c = en_171 c from by rw [hen_173, va_up_ne _ _ (by omega)]) (hf_171 c hc)
        refine lv_aload_n hx hb dX6_noteNorm_55 rfl (lv_at hl 1 rfl) ?_
        refine lv_iconst (v := 0) hx hb dX6_noteNorm_56 (by decide) ?_
        refine lv_aload_n hx hb dX6_noteNorm_57 rfl (lv_at hl 0 rfl) ?_
        refine hp_get hx hb hts ix6 hown hK hh (q := (34 + 4 * J)) rfl (hI.1 _ (by omega)) es161_173 rfl 1 (by decide) (hts _ tw_81) (fun _ h9 => h9) rfl dX6_noteNorm_58 ?_
        refine lv_iconst (v := 0) hx hb dX6_noteNorm_61 (by decide) ?_
        refine lv_iload_n hx hb dX6_noteNorm_62 rfl (lv_at hl 2 rfl) ?_
        obtain ⟨f_174, es174⟩ := get_svb hI_173 (j := J) (by omega)
        refine W.eq (g2 := F0 m 63 ls [.int (nI n), .int (nI 0), .ref (ad (36 + 4 * J)), .int (nI 0), .ref (ad 33)]) rfl ?_
        refine hp_copyi hx hb (hml.trans hl.1.symm) hown (hts _ tw_498) (hts _ tw_340) (hts _ tw_339) (hts _ tw_12) hK hh (hI.1 _ (by decide)) (hI.1 _ (by omega)) es170_173 es174 0 0 n (by decide) (by decide) (by omega) (by omega) (by omega) (Nat.le_of_ble_eq_true rfl) (Nat.le_of_ble_eq_true rfl) dX6_noteNorm_63 (fun H locs en_175 hen_175 hh => ?_)
        have es170_175 : en_175 33 = .inl (cy 0, 8, .inl f_170) := by rw [hen_175, va_up_ne _ _ (by omega)]; exact es170_173
        have es169_175 : en_175 (35 + 4 * J) = .inl (cy 0, 8, .inl (va_cpy f_170 f_169 0 0 n)) := by rw [hen_175, va_up_ne _ _ (by omega)]; exact es169_173
        have es161_175 : en_175 (34 + 4 * J) = .inr (5, [.ref (ad (35 + 4 * J)), .ref (ad (36 + 4 * J)), .ref (ad (37 + 4 * J)), .int (nI dn_161), .int no_161, .int rc_161, .long v, .long v, .long rt_161, .long tt_161]) := by rw [hen_175, va_up_ne _ _ (by omega)]; exact es161_173
        have es174_175 : en_175 (36 + 4 * J) = .inl (cy 0, 8, .inl (va_cpy f_170 f_174 0 0 n)) := by rw [hen_175]; exact va_up_self _ _ _
        have hI_175 : SX cy cs ad en_175 := by rw [hen_175]; exact up_svb hI_173 (j := J) (by omega) ⟨(va_cpy f_170 f_174 0 0 n), rfl⟩
        have hf_175 : ∀ c, (c < 12 ∨ 70 ≤ c) → en_175 c = en c := fun c hc => Eq.trans (show en_175 c = en_173 c from by rw [hen_175, va_up_ne _ _ (by omega)]) (hf_173 c hc)
        exact hp_vretM hx hb hr hlocks hh (⟨hI_175, hf_175⟩) dX6_noteNorm_66
  · refine lv_aload_n hx hb dX6_noteNorm_6 rfl (lv_at hl 0 rfl) ?_
    refine lv_dup hx hb dX6_noteNorm_7 rfl ?_
    obtain ⟨dn_176, no_176, rc_176, gr_176, le_176, rt_176, tt_176, es176, p0_176⟩ := get_sv hI (j := J) (by omega)
    refine hp_get hx hb hts ix6 hown hK hh (q := (34 + 4 * J)) rfl (hI.1 _ (by omega)) es176 rfl 4 (by decide) (hts _ tw_87) (fun _ h9 => h9) rfl dX6_noteNorm_8 ?_
    refine lv_iconst (v := 1) hx hb dX6_noteNorm_11 (by decide) ?_
    refine lv_iadd hx hb dX6_noteNorm_12 ?_
    refine hp_put hx hb hts ix6 tyX6 tyX6_ok nmX6 hown hK hh (q := (34 + 4 * J)) rfl (hI.1 _ (by omega)) es176 rfl 4 (by decide) (hts _ tw_87) (fun _ h9 => h9) rfl (ty := .int) (by decide +kernel) rfl rfl (Nat.le_of_ble_eq_true rfl) dX6_noteNorm_13 (fun H locs en_177 hen_177 hh => ?_)
    have es176_177 : en_177 (34 + 4 * J) = .inr (5, [.ref (ad (35 + 4 * J)), .ref (ad (36 + 4 * J)), .ref (ad (37 + 4 * J)), .int (nI dn_176), .int (no_176 + 1), .int rc_176, .long gr_176, .long le_176, .long rt_176, .long tt_176]) := by rw [hen_177]; exact va_up_self _ _ _
    have hI_177 : SX cy cs ad en_177 := by rw [hen_177]; exact up_sv hI (j := J) (by omega) ⟨dn_176, (no_176 + 1), rc_176, gr_176, le_176, rt_176, tt_176, rfl, p0_176⟩
    have hf_177 : ∀ c, (c < 12 ∨ 70 ≤ c) → en_177 c = en c := fun c hc => Eq.trans (show en_177 c = en c from by rw [hen_177, va_up_ne _ _ (by omega)]) (hf0 c hc)
    refine lv_lload_n hx hb dX6_noteNorm_16 rfl (lv_at hl 3 rfl) ?_
    refine lv_aload_n hx hb dX6_noteNorm_17 rfl (lv_at hl 0 rfl) ?_
    refine hp_get hx hb hts ix6 hown hK hh (q := (34 + 4 * J)) rfl (hI.1 _ (by omega)) es176_177 rfl 6 (by decide) (hts _ tw_91) (fun _ h9 => h9) rfl dX6_noteNorm_18 ?_
    refine W.lcmp hx hb dX6_noteNorm_21 ?_
    refine lv_if_le (tgt := 41) hx hb dX6_noteNorm_22 (by decide) (fun c_178 => ?_) (fun c_178 => ?_)
    · refine lv_lload_n hx hb dX6_noteNorm_41 rfl (lv_at hl 3 rfl) ?_
      refine lv_aload_n hx hb dX6_noteNorm_42 rfl (lv_at hl 0 rfl) ?_
      refine hp_get hx hb hts ix6 hown hK hh (q := (34 + 4 * J)) rfl (hI.1 _ (by omega)) es176_177 rfl 7 (by decide) (hts _ tw_94) (fun _ h9 => h9) rfl dX6_noteNorm_43 ?_
      refine W.lcmp hx hb dX6_noteNorm_46 ?_
      refine lv_if_ge (tgt := 66) hx hb dX6_noteNorm_47 (by decide) (fun c_179 => ?_) (fun c_179 => ?_)
      · exact hp_vretM hx hb hr hlocks hh (⟨hI_177, hf_177⟩) dX6_noteNorm_66
      · refine lv_aload_n hx hb dX6_noteNorm_50 rfl (lv_at hl 0 rfl) ?_
        refine lv_lload_n hx hb dX6_noteNorm_51 rfl (lv_at hl 3 rfl) ?_
        refine hp_put hx hb hts ix6 tyX6 tyX6_ok nmX6 hown hK hh (q := (34 + 4 * J)) rfl (hI.1 _ (by omega)) es176_177 rfl 7 (by decide) (hts _ tw_94) (fun _ h9 => h9) rfl (ty := .long) (by decide +kernel) rfl rfl (Nat.le_of_ble_eq_true rfl) dX6_noteNorm_52 (fun H locs en_180 hen_180 hh => ?_)
        have es176_180 : en_180 (34 + 4 * J) = .inr (5, [.ref (ad (35 + 4 * J)), .ref (ad (36 + 4 * J)), .ref (ad (37 + 4 * J)), .int (nI dn_176), .int (no_176 + 1), .int rc_176, .long gr_176, .long v, .long rt_176, .long tt_176]) := by rw [hen_180]; exact va_up_self _ _ _
        have hI_180 : SX cy cs ad en_180 := by rw [hen_180]; exact up_sv hI_177 (j := J) (by omega) ⟨dn_176, (no_176 + 1), rc_176, gr_176, v, rt_176, tt_176, rfl, p0_176⟩
        have hf_180 : ∀ c, (c < 12 ∨ 70 ≤ c) → en_180 c = en c := fun c hc => Eq.trans (show en_180 c = en_177 c from by rw [hen_180, va_up_ne _ _ (by omega)]) (hf_177 c hc)
        refine lv_aload_n hx hb dX6_noteNorm_55 rfl (lv_at hl 1 rfl) ?_
        refine lv_iconst (v := 0) hx hb dX6_noteNorm_56 (by decide) ?_
        refine lv_aload_n hx hb dX6_noteNorm_57 rfl (lv_at hl 0 rfl) ?_
        refine hp_get hx hb hts ix6 hown hK hh (q := (34 + 4 * J)) rfl (hI.1 _ (by omega)) es176_180 rfl 1 (by decide) (hts _ tw_81) (fun _ h9 => h9) rfl dX6_noteNorm_58 ?_
        refine lv_iconst (v := 0) hx hb dX6_noteNorm_61 (by decide) ?_
        refine lv_iload_n hx hb dX6_noteNorm_62 rfl (lv_at hl 2 rfl) ?_
        obtain ⟨f_181, es181⟩ := get_svb hI_180 (j := J) (by omega)
        obtain ⟨f_182, es182, p0_182⟩ := get_let hI_180
        refine W.eq (g2 := F0 m 63 ls [.int (nI n), .int (nI 0), .ref (ad (36 + 4 * J)), .int (nI 0), .ref (ad 33)]) rfl ?_
        refine hp_copyi hx hb (hml.trans hl.1.symm) hown (hts _ tw_498) (hts _ tw_340) (hts _ tw_339) (hts _ tw_12) hK hh (hI.1 _ (by decide)) (hI.1 _ (by omega)) es182 es181 0 0 n (by decide) (by decide) (by omega) (by omega) (by omega) (Nat.le_of_ble_eq_true rfl) (Nat.le_of_ble_eq_true rfl) dX6_noteNorm_63 (fun H locs en_183 hen_183 hh => ?_)
        have es176_183 : en_183 (34 + 4 * J) = .inr (5, [.ref (ad (35 + 4 * J)), .ref (ad (36 + 4 * J)), .ref (ad (37 + 4 * J)), .int (nI dn_176), .int (no_176 + 1), .int rc_176, .long gr_176, .long v, .long rt_176, .long tt_176]) := by rw [hen_183, va_up_ne _ _ (by omega)]; exact es176_180
        have es182_183 : en_183 33 = .inl (cy 0, 8, .inl f_182) := by rw [hen_183, va_up_ne _ _ (by omega)]; exact es182
        have es181_183 : en_183 (36 + 4 * J) = .inl (cy 0, 8, .inl (va_cpy f_182 f_181 0 0 n)) := by rw [hen_183]; exact va_up_self _ _ _
        have hI_183 : SX cy cs ad en_183 := by rw [hen_183]; exact up_svb hI_180 (j := J) (by omega) ⟨(va_cpy f_182 f_181 0 0 n), rfl⟩
        have hf_183 : ∀ c, (c < 12 ∨ 70 ≤ c) → en_183 c = en c := fun c hc => Eq.trans (show en_183 c = en_180 c from by rw [hen_183, va_up_ne _ _ (by omega)]) (hf_180 c hc)
        exact hp_vretM hx hb hr hlocks hh (⟨hI_183, hf_183⟩) dX6_noteNorm_66
    · refine lv_aload_n hx hb dX6_noteNorm_25 rfl (lv_at hl 0 rfl) ?_
      refine lv_lload_n hx hb dX6_noteNorm_26 rfl (lv_at hl 3 rfl) ?_
      refine hp_put hx hb hts ix6 tyX6 tyX6_ok nmX6 hown hK hh (q := (34 + 4 * J)) rfl (hI.1 _ (by omega)) es176_177 rfl 6 (by decide) (hts _ tw_91) (fun _ h9 => h9) rfl (ty := .long) (by decide +kernel) rfl rfl (Nat.le_of_ble_eq_true rfl) dX6_noteNorm_27 (fun H locs en_184 hen_184 hh => ?_)
      have es176_184 : en_184 (34 + 4 * J) = .inr (5, [.ref (ad (35 + 4 * J)), .ref (ad (36 + 4 * J)), .ref (ad (37 + 4 * J)), .int (nI dn_176), .int (no_176 + 1), .int rc_176, .long v, .long le_176, .long rt_176, .long tt_176]) := by rw [hen_184]; exact va_up_self _ _ _
      have hI_184 : SX cy cs ad en_184 := by rw [hen_184]; exact up_sv hI_177 (j := J) (by omega) ⟨dn_176, (no_176 + 1), rc_176, v, le_176, rt_176, tt_176, rfl, p0_176⟩
      have hf_184 : ∀ c, (c < 12 ∨ 70 ≤ c) → en_184 c = en c := fun c hc => Eq.trans (show en_184 c = en_177 c from by rw [hen_184, va_up_ne _ _ (by omega)]) (hf_177 c hc)
      refine lv_aload_n hx hb dX6_noteNorm_30 rfl (lv_at hl 1 rfl) ?_
      refine lv_iconst (v := 0) hx hb dX6_noteNorm_31 (by decide) ?_
      refine lv_aload_n hx hb dX6_noteNorm_32 rfl (lv_at hl 0 rfl) ?_
      refine hp_get hx hb hts ix6 hown hK hh (q := (34 + 4 * J)) rfl (hI.1 _ (by omega)) es176_184 rfl 0 (by decide) (hts _ tw_79) (fun _ h9 => h9) rfl dX6_noteNorm_33 ?_
      refine lv_iconst (v := 0) hx hb dX6_noteNorm_36 (by decide) ?_
      refine lv_iload_n hx hb dX6_noteNorm_37 rfl (lv_at hl 2 rfl) ?_
      obtain ⟨f_185, es185⟩ := get_sva hI_184 (j := J) (by omega)
      obtain ⟨f_186, es186, p0_186⟩ := get_let hI_184
      refine W.eq (g2 := F0 m 38 ls [.int (nI n), .int (nI 0), .ref (ad (35 + 4 * J)), .int (nI 0), .ref (ad 33)]) rfl ?_
      refine hp_copyi hx hb (hml.trans hl.1.symm) hown (hts _ tw_498) (hts _ tw_340) (hts _ tw_339) (hts _ tw_12) hK hh (hI.1 _ (by decide)) (hI.1 _ (by omega)) es186 es185 0 0 n (by decide) (by decide) (by omega) (by omega) (by omega) (Nat.le_of_ble_eq_true rfl) (Nat.le_of_ble_eq_true rfl) dX6_noteNorm_38 (fun H locs en_187 hen_187 hh => ?_)
      have es176_187 : en_187 (34 + 4 * J) = .inr (5, [.ref (ad (35 + 4 * J)), .ref (ad (36 + 4 * J)), .ref (ad (37 + 4 * J)), .int (nI dn_176), .int (no_176 + 1), .int rc_176, .long v, .long le_176, .long rt_176, .long tt_176]) := by rw [hen_187, va_up_ne _ _ (by omega)]; exact es176_184
      have es186_187 : en_187 33 = .inl (cy 0, 8, .inl f_186) := by rw [hen_187, va_up_ne _ _ (by omega)]; exact es186
      have es185_187 : en_187 (35 + 4 * J) = .inl (cy 0, 8, .inl (va_cpy f_186 f_185 0 0 n)) := by rw [hen_187]; exact va_up_self _ _ _
      have hI_187 : SX cy cs ad en_187 := by rw [hen_187]; exact up_sva hI_184 (j := J) (by omega) ⟨(va_cpy f_186 f_185 0 0 n), rfl⟩
      have hf_187 : ∀ c, (c < 12 ∨ 70 ≤ c) → en_187 c = en c := fun c hc => Eq.trans (show en_187 c = en_184 c from by rw [hen_187, va_up_ne _ _ (by omega)]) (hf_184 c hc)
      refine lv_lload_n hx hb dX6_noteNorm_41 rfl (lv_at hl 3 rfl) ?_
      refine lv_aload_n hx hb dX6_noteNorm_42 rfl (lv_at hl 0 rfl) ?_
      refine hp_get hx hb hts ix6 hown hK hh (q := (34 + 4 * J)) rfl (hI.1 _ (by omega)) es176_187 rfl 7 (by decide) (hts _ tw_94) (fun _ h9 => h9) rfl dX6_noteNorm_43 ?_
      refine W.lcmp hx hb dX6_noteNorm_46 ?_
      refine lv_if_ge (tgt := 66) hx hb dX6_noteNorm_47 (by decide) (fun c_188 => ?_) (fun c_188 => ?_)
      · exact hp_vretM hx hb hr hlocks hh (⟨hI_187, hf_187⟩) dX6_noteNorm_66
      · refine lv_aload_n hx hb dX6_noteNorm_50 rfl (lv_at hl 0 rfl) ?_
        refine lv_lload_n hx hb dX6_noteNorm_51 rfl (lv_at hl 3 rfl) ?_
        refine hp_put hx hb hts ix6 tyX6 tyX6_ok nmX6 hown hK hh (q := (34 + 4 * J)) rfl (hI.1 _ (by omega)) es176_187 rfl 7 (by decide) (hts _ tw_94) (fun _ h9 => h9) rfl (ty := .long) (by decide +kernel) rfl rfl (Nat.le_of_ble_eq_true rfl) dX6_noteNorm_52 (fun H locs en_189 hen_189 hh => ?_)
        have es186_189 : en_189 33 = .inl (cy 0, 8, .inl f_186) := by rw [hen_189, va_up_ne _ _ (by omega)]; exact es186_187
        have es185_189 : en_189 (35 + 4 * J) = .inl (cy 0, 8, .inl (va_cpy f_186 f_185 0 0 n)) := by rw [hen_189, va_up_ne _ _ (by omega)]; exact es185_187
        have es176_189 : en_189 (34 + 4 * J) = .inr (5, [.ref (ad (35 + 4 * J)), .ref (ad (36 + 4 * J)), .ref (ad (37 + 4 * J)), .int (nI dn_176), .int (no_176 + 1), .int rc_176, .long v, .long v, .long rt_176, .long tt_176]) := by rw [hen_189]; exact va_up_self _ _ _
        have hI_189 : SX cy cs ad en_189 := by rw [hen_189]; exact up_sv hI_187 (j := J) (by omega) ⟨dn_176, (no_176 + 1), rc_176, v, v, rt_176, tt_176, rfl, p0_176⟩
        have hf_189 : ∀ c, (c < 12 ∨ 70 ≤ c) → en_189 c = en c := fun c hc => Eq.trans (show en_189 c = en_187 c from by rw [hen_189, va_up_ne _ _ (by omega)]) (hf_187 c hc)
        refine lv_aload_n hx hb dX6_noteNorm_55 rfl (lv_at hl 1 rfl) ?_
        refine lv_iconst (v := 0) hx hb dX6_noteNorm_56 (by decide) ?_
        refine lv_aload_n hx hb dX6_noteNorm_57 rfl (lv_at hl 0 rfl) ?_
        refine hp_get hx hb hts ix6 hown hK hh (q := (34 + 4 * J)) rfl (hI.1 _ (by omega)) es176_189 rfl 1 (by decide) (hts _ tw_81) (fun _ h9 => h9) rfl dX6_noteNorm_58 ?_
        refine lv_iconst (v := 0) hx hb dX6_noteNorm_61 (by decide) ?_
        refine lv_iload_n hx hb dX6_noteNorm_62 rfl (lv_at hl 2 rfl) ?_
        obtain ⟨f_190, es190⟩ := get_svb hI_189 (j := J) (by omega)
        refine W.eq (g2 := F0 m 63 ls [.int (nI n), .int (nI 0), .ref (ad (36 + 4 * J)), .int (nI 0), .ref (ad 33)]) rfl ?_
        refine hp_copyi hx hb (hml.trans hl.1.symm) hown (hts _ tw_498) (hts _ tw_340) (hts _ tw_339) (hts _ tw_12) hK hh (hI.1 _ (by decide)) (hI.1 _ (by omega)) es186_189 es190 0 0 n (by decide) (by decide) (by omega) (by omega) (by omega) (Nat.le_of_ble_eq_true rfl) (Nat.le_of_ble_eq_true rfl) dX6_noteNorm_63 (fun H locs en_191 hen_191 hh => ?_)
        have es186_191 : en_191 33 = .inl (cy 0, 8, .inl f_186) := by rw [hen_191, va_up_ne _ _ (by omega)]; exact es186_189
        have es185_191 : en_191 (35 + 4 * J) = .inl (cy 0, 8, .inl (va_cpy f_186 f_185 0 0 n)) := by rw [hen_191, va_up_ne _ _ (by omega)]; exact es185_189
        have es176_191 : en_191 (34 + 4 * J) = .inr (5, [.ref (ad (35 + 4 * J)), .ref (ad (36 + 4 * J)), .ref (ad (37 + 4 * J)), .int (nI dn_176), .int (no_176 + 1), .int rc_176, .long v, .long v, .long rt_176, .long tt_176]) := by rw [hen_191, va_up_ne _ _ (by omega)]; exact es176_189
        have es190_191 : en_191 (36 + 4 * J) = .inl (cy 0, 8, .inl (va_cpy f_186 f_190 0 0 n)) := by rw [hen_191]; exact va_up_self _ _ _
        have hI_191 : SX cy cs ad en_191 := by rw [hen_191]; exact up_svb hI_189 (j := J) (by omega) ⟨(va_cpy f_186 f_190 0 0 n), rfl⟩
        have hf_191 : ∀ c, (c < 12 ∨ 70 ≤ c) → en_191 c = en c := fun c hc => Eq.trans (show en_191 c = en_189 c from by rw [hen_191, va_up_ne _ _ (by omega)]) (hf_189 c hc)
        exact hp_vretM hx hb hr hlocks hh (⟨hI_191, hf_191⟩) dX6_noteNorm_66
theorem kw_X6_noteNorm {R : Room} {s : State} {args : Array Value} {own : String} {idx : Nat} (hts : ∀ w ∈ TB, w.before args s = true) (hl : Cond.methodLink own idx yX6_noteNorm ∈ TB) (hR : 1 + 1 ≤ R.frames ∧ 8 + (5 + 11) + 40 * 1 ≤ R.locals) : CallW R s args own RX6 idx yX6_noteNorm cX6_noteNorm 5 none (Cond.code yX6_noteNorm cX6_noteNorm 5 none :: TB) (rmN 1) 0 0 3 := cwV 3 hts (TB_V hl tw_495 tw_496 tw_4 tw_497) rfl rfl rfl (by decide +kernel) hR
set_option maxHeartbeats 4000000 in
set_option maxRecDepth 100000 in
/-- noteTurnable -/
theorem c_X6_noteTurnable (l : Launch) (D : va_G) (cy : Nat → ClassId) (sz : Nat) (cs : List Nat) (ad : Nat → Nat) (en : Nat → va_E) (hI : SX cy cs ad en) (J : Nat) (hJ : J < 9) (v : Int64)   : Met l yX6_noteTurnable (Cond.code yX6_noteTurnable cX6_noteTurnable 3 none :: TB) (rmN 1) (va_Pc [.ref (ad (34 + 4 * J)), .long v] (Pre D cy cs ad en sz)) (va_Qv (S := Nat → va_E) (fun en1 => SX cy cs ad en1 ∧ (∀ c, (c < 12 ∨ 70 ≤ c) → en1 c = en c)) (PostM D cs ad) (Af cs ad sz)) 0 0 (Af cs ad sz) := by
  refine Met.ofW (cc := cX6_noteTurnable) (maxL := 3) (ret := none) (by decide) rfl ?_
  intro p e s m args below meth c s₁ B hml hv
  obtain ⟨rfl, hsz, hP, hK, hD0⟩ := hv
  have hx := B.exec
  have hb := B.bytes
  have hr := B.returns
  have hts : ∀ w ∈ TB, w.before _ s = true := fun w h => atoms_spec (ws := _ :: TB) B.pre w (List.mem_cons_of_mem _ h)
  have hown : s.vm.findClass RX6 = some m.cls := findClass_of_methodNamed B.named
  have hlocks := B.notSynchronized
  have hh : Hp D (Af cs ad sz) (Af cs ad sz) s.heap s.heap [] cs ad en := ⟨hP, Af_self hD0, va_S.rf⟩
  have hA : ∀ q : Nat, s.heap.size ≤ q → Af cs ad sz q := fun q h => Or.inr (by rw [hsz] at h; exact h)
  have hl := lv_entry ([.ref (ad (34 + 4 * J)), .long v]) (n := 3) (Nat.le_of_ble_eq_true rfl)
  rw [lg_entry_eq]
  generalize (lg_sl ([.ref (ad (34 + 4 * J)), .long v]) ++ List.replicate (3 - (lg_sl ([.ref (ad (34 + 4 * J)), .long v])).length) Slot.unset).toArray = ls at hl ⊢
  have hl : lv_has ls 3 [(0, .ref (ad (34 + 4 * J))), (1, .long v)] := hl
  have hf0 : ∀ c, (c < 12 ∨ 70 ≤ c) → en c = en c := fun _ _ => rfl
  refine lv_aload_n hx hb dX6_noteTurnable_0 rfl (lv_at hl 0 rfl) ?_
  refine lv_aload_n hx hb dX6_noteTurnable_1 rfl (lv_at hl 0 rfl) ?_
  obtain ⟨dn_192, no_192, rc_192, gr_192, le_192, rt_192, tt_192, es192, p0_192⟩ := get_sv hI (j := J) (by omega)
  refine hp_get hx hb hts ix6 hown hK hh (q := (34 + 4 * J)) rfl (hI.1 _ (by omega)) es192 rfl 9 (by decide) (hts _ tw_98) (fun _ h9 => h9) rfl dX6_noteTurnable_2 ?_
  refine lv_lload_n hx hb dX6_noteTurnable_5 rfl (lv_at hl 1 rfl) ?_
  refine va_mabs_long hx hb (hml.trans hl.1.symm) hown (hts _ tw_512) (hts _ tw_489) (hts _ tw_11) (hts _ tw_490) (Nat.le_of_ble_eq_true rfl) (Nat.le_of_ble_eq_true rfl) (Nat.le_of_ble_eq_true rfl) (Nat.le_of_ble_eq_true rfl) dX6_noteTurnable_6 ?_
  refine W.eq (g2 := F0 m 9 ls [.long (absL v), .long tt_192, .ref (ad (34 + 4 * J))]) rfl ?_
  refine va_mmax_long hx hb (hml.trans hl.1.symm) hown (hts _ tw_513) (hts _ tw_492) (hts _ tw_11) (hts _ tw_493) (Nat.le_of_ble_eq_true rfl) (Nat.le_of_ble_eq_true rfl) (Nat.le_of_ble_eq_true rfl) (Nat.le_of_ble_eq_true rfl) dX6_noteTurnable_9 ?_
  refine W.eq (g2 := F0 m 12 ls [.long (maxL tt_192 (absL v)), .ref (ad (34 + 4 * J))]) rfl ?_
  refine hp_put hx hb hts ix6 tyX6 tyX6_ok nmX6 hown hK hh (q := (34 + 4 * J)) rfl (hI.1 _ (by omega)) es192 rfl 9 (by decide) (hts _ tw_98) (fun _ h9 => h9) rfl (ty := .long) (by decide +kernel) rfl rfl (Nat.le_of_ble_eq_true rfl) dX6_noteTurnable_12 (fun H locs en_193 hen_193 hh => ?_)
  have es192_193 : en_193 (34 + 4 * J) = .inr (5, [.ref (ad (35 + 4 * J)), .ref (ad (36 + 4 * J)), .ref (ad (37 + 4 * J)), .int (nI dn_192), .int no_192, .int rc_192, .long gr_192, .long le_192, .long rt_192, .long (maxL tt_192 (absL v))]) := by rw [hen_193]; exact va_up_self _ _ _
  have hI_193 : SX cy cs ad en_193 := by rw [hen_193]; exact up_sv hI (j := J) (by omega) ⟨dn_192, no_192, rc_192, gr_192, le_192, rt_192, (maxL tt_192 (absL v)), rfl, p0_192⟩
  have hf_193 : ∀ c, (c < 12 ∨ 70 ≤ c) → en_193 c = en c := fun c hc => Eq.trans (show en_193 c = en c from by rw [hen_193, va_up_ne _ _ (by omega)]) (hf0 c hc)
  exact hp_vretM hx hb hr hlocks hh (⟨hI_193, hf_193⟩) dX6_noteTurnable_15
theorem kw_X6_noteTurnable {R : Room} {s : State} {args : Array Value} {own : String} {idx : Nat} (hts : ∀ w ∈ TB, w.before args s = true) (hl : Cond.methodLink own idx yX6_noteTurnable ∈ TB) (hR : 1 + 1 ≤ R.frames ∧ 8 + (3 + 11) + 40 * 1 ≤ R.locals) : CallW R s args own RX6 idx yX6_noteTurnable cX6_noteTurnable 3 none (Cond.code yX6_noteTurnable cX6_noteTurnable 3 none :: TB) (rmN 1) 0 0 1 := cwV 1 hts (TB_V hl tw_509 tw_510 tw_4 tw_511) rfl rfl rfl (by decide +kernel) hR
set_option maxHeartbeats 4000000 in
set_option maxRecDepth 100000 in
/-- noteRing -/
theorem c_X6_noteRing (l : Launch) (D : va_G) (cy : Nat → ClassId) (sz : Nat) (cs : List Nat) (ad : Nat → Nat) (en : Nat → va_E) (hI : SX cy cs ad en) (J : Nat) (hJ : J < 9) (n : Nat) (hn : n ≤ 8) (v : Int64)   : Met l yX6_noteRing (Cond.code yX6_noteRing cX6_noteRing 5 none :: TB) (rmN 1) (va_Pc [.ref (ad (34 + 4 * J)), .ref (ad 33), .int (nI n), .long v] (Pre D cy cs ad en sz)) (va_Qv (S := Nat → va_E) (fun en1 => SX cy cs ad en1 ∧ (∀ c, (c < 12 ∨ 70 ≤ c) → en1 c = en c)) (PostM D cs ad) (Af cs ad sz)) 0 0 (Af cs ad sz) := by
  refine Met.ofW (cc := cX6_noteRing) (maxL := 5) (ret := none) (by decide) rfl ?_
  intro p e s m args below meth c s₁ B hml hv
  obtain ⟨rfl, hsz, hP, hK, hD0⟩ := hv
  have hx := B.exec
  have hb := B.bytes
  have hr := B.returns
  have hts : ∀ w ∈ TB, w.before _ s = true := fun w h => atoms_spec (ws := _ :: TB) B.pre w (List.mem_cons_of_mem _ h)
  have hown : s.vm.findClass RX6 = some m.cls := findClass_of_methodNamed B.named
  have hlocks := B.notSynchronized
  have hh : Hp D (Af cs ad sz) (Af cs ad sz) s.heap s.heap [] cs ad en := ⟨hP, Af_self hD0, va_S.rf⟩
  have hA : ∀ q : Nat, s.heap.size ≤ q → Af cs ad sz q := fun q h => Or.inr (by rw [hsz] at h; exact h)
  have hl := lv_entry ([.ref (ad (34 + 4 * J)), .ref (ad 33), .int (nI n), .long v]) (n := 5) (Nat.le_of_ble_eq_true rfl)
  rw [lg_entry_eq]
  generalize (lg_sl ([.ref (ad (34 + 4 * J)), .ref (ad 33), .int (nI n), .long v]) ++ List.replicate (5 - (lg_sl ([.ref (ad (34 + 4 * J)), .ref (ad 33), .int (nI n), .long v])).length) Slot.unset).toArray = ls at hl ⊢
  have hl : lv_has ls 5 [(0, .ref (ad (34 + 4 * J))), (1, .ref (ad 33)), (2, .int (nI n)), (3, .long v)] := hl
  have hf0 : ∀ c, (c < 12 ∨ 70 ≤ c) → en c = en c := fun _ _ => rfl
  refine lv_aload_n hx hb dX6_noteRing_0 rfl (lv_at hl 0 rfl) ?_
  refine lv_dup hx hb dX6_noteRing_1 rfl ?_
  obtain ⟨dn_194, no_194, rc_194, gr_194, le_194, rt_194, tt_194, es194, p0_194⟩ := get_sv hI (j := J) (by omega)
  refine hp_get hx hb hts ix6 hown hK hh (q := (34 + 4 * J)) rfl (hI.1 _ (by omega)) es194 rfl 5 (by decide) (hts _ tw_89) (fun _ h9 => h9) rfl dX6_noteRing_2 ?_
  refine lv_iconst (v := 1) hx hb dX6_noteRing_5 (by decide) ?_
  refine lv_iadd hx hb dX6_noteRing_6 ?_
  refine hp_put hx hb hts ix6 tyX6 tyX6_ok nmX6 hown hK hh (q := (34 + 4 * J)) rfl (hI.1 _ (by omega)) es194 rfl 5 (by decide) (hts _ tw_89) (fun _ h9 => h9) rfl (ty := .int) (by decide +kernel) rfl rfl (Nat.le_of_ble_eq_true rfl) dX6_noteRing_7 (fun H locs en_195 hen_195 hh => ?_)
  have es194_195 : en_195 (34 + 4 * J) = .inr (5, [.ref (ad (35 + 4 * J)), .ref (ad (36 + 4 * J)), .ref (ad (37 + 4 * J)), .int (nI dn_194), .int no_194, .int (rc_194 + 1), .long gr_194, .long le_194, .long rt_194, .long tt_194]) := by rw [hen_195]; exact va_up_self _ _ _
  have hI_195 : SX cy cs ad en_195 := by rw [hen_195]; exact up_sv hI (j := J) (by omega) ⟨dn_194, no_194, (rc_194 + 1), gr_194, le_194, rt_194, tt_194, rfl, p0_194⟩
  have hf_195 : ∀ c, (c < 12 ∨ 70 ≤ c) → en_195 c = en c := fun c hc => Eq.trans (show en_195 c = en c from by rw [hen_195, va_up_ne _ _ (by omega)]) (hf0 c hc)
  refine lv_aload_n hx hb dX6_noteRing_10 rfl (lv_at hl 0 rfl) ?_
  refine hp_get hx hb hts ix6 hown hK hh (q := (34 + 4 * J)) rfl (hI.1 _ (by omega)) es194_195 rfl 5 (by decide) (hts _ tw_89) (fun _ h9 => h9) rfl dX6_noteRing_11 ?_
  refine lv_iconst (v := 1) hx hb dX6_noteRing_14 (by decide) ?_
  refine lv_icmp_eq (tgt := 33) hx hb dX6_noteRing_15 (by decide) (fun c_196 => ?_) (fun c_196 => ?_)
  · refine lv_aload_n hx hb dX6_noteRing_33 rfl (lv_at hl 0 rfl) ?_
    refine lv_lload_n hx hb dX6_noteRing_34 rfl (lv_at hl 3 rfl) ?_
    refine hp_put hx hb hts ix6 tyX6 tyX6_ok nmX6 hown hK hh (q := (34 + 4 * J)) rfl (hI.1 _ (by omega)) es194_195 rfl 8 (by decide) (hts _ tw_96) (fun _ h9 => h9) rfl (ty := .long) (by decide +kernel) rfl rfl (Nat.le_of_ble_eq_true rfl) dX6_noteRing_35 (fun H locs en_197 hen_197 hh => ?_)
    have es194_197 : en_197 (34 + 4 * J) = .inr (5, [.ref (ad (35 + 4 * J)), .ref (ad (36 + 4 * J)), .ref (ad (37 + 4 * J)), .int (nI dn_194), .int no_194, .int (rc_194 + 1), .long gr_194, .long le_194, .long v, .long tt_194]) := by rw [hen_197]; exact va_up_self _ _ _
    have hI_197 : SX cy cs ad en_197 := by rw [hen_197]; exact up_sv hI_195 (j := J) (by omega) ⟨dn_194, no_194, (rc_194 + 1), gr_194, le_194, v, tt_194, rfl, p0_194⟩
    have hf_197 : ∀ c, (c < 12 ∨ 70 ≤ c) → en_197 c = en c := fun c hc => Eq.trans (show en_197 c = en_195 c from by rw [hen_197, va_up_ne _ _ (by omega)]) (hf_195 c hc)
    refine lv_aload_n hx hb dX6_noteRing_38 rfl (lv_at hl 1 rfl) ?_
    refine lv_iconst (v := 0) hx hb dX6_noteRing_39 (by decide) ?_
    refine lv_aload_n hx hb dX6_noteRing_40 rfl (lv_at hl 0 rfl) ?_
    refine hp_get hx hb hts ix6 hown hK hh (q := (34 + 4 * J)) rfl (hI.1 _ (by omega)) es194_197 rfl 2 (by decide) (hts _ tw_83) (fun _ h9 => h9) rfl dX6_noteRing_41 ?_
    refine lv_iconst (v := 0) hx hb dX6_noteRing_44 (by decide) ?_
    refine lv_iload_n hx hb dX6_noteRing_45 rfl (lv_at hl 2 rfl) ?_
    obtain ⟨f_198, es198⟩ := get_svc hI_197 (j := J) (by omega)
    obtain ⟨f_199, es199, p0_199⟩ := get_let hI_197
    refine W.eq (g2 := F0 m 46 ls [.int (nI n), .int (nI 0), .ref (ad (37 + 4 * J)), .int (nI 0), .ref (ad 33)]) rfl ?_
    refine hp_copyi hx hb (hml.trans hl.1.symm) hown (hts _ tw_498) (hts _ tw_340) (hts _ tw_339) (hts _ tw_12) hK hh (hI.1 _ (by decide)) (hI.1 _ (by omega)) es199 es198 0 0 n (by decide) (by decide) (by omega) (by omega) (by omega) (Nat.le_of_ble_eq_true rfl) (Nat.le_of_ble_eq_true rfl) dX6_noteRing_46 (fun H locs en_200 hen_200 hh => ?_)
    have es194_200 : en_200 (34 + 4 * J) = .inr (5, [.ref (ad (35 + 4 * J)), .ref (ad (36 + 4 * J)), .ref (ad (37 + 4 * J)), .int (nI dn_194), .int no_194, .int (rc_194 + 1), .long gr_194, .long le_194, .long v, .long tt_194]) := by rw [hen_200, va_up_ne _ _ (by omega)]; exact es194_197
    have es199_200 : en_200 33 = .inl (cy 0, 8, .inl f_199) := by rw [hen_200, va_up_ne _ _ (by omega)]; exact es199
    have es198_200 : en_200 (37 + 4 * J) = .inl (cy 0, 8, .inl (va_cpy f_199 f_198 0 0 n)) := by rw [hen_200]; exact va_up_self _ _ _
    have hI_200 : SX cy cs ad en_200 := by rw [hen_200]; exact up_svc hI_197 (j := J) (by omega) ⟨(va_cpy f_199 f_198 0 0 n), rfl⟩
    have hf_200 : ∀ c, (c < 12 ∨ 70 ≤ c) → en_200 c = en c := fun c hc => Eq.trans (show en_200 c = en_197 c from by rw [hen_200, va_up_ne _ _ (by omega)]) (hf_197 c hc)
    exact hp_vretM hx hb hr hlocks hh (⟨hI_200, hf_200⟩) dX6_noteRing_49
  · refine lv_lload_n hx hb dX6_noteRing_18 rfl (lv_at hl 3 rfl) ?_
    refine va_mabs_long hx hb (hml.trans hl.1.symm) hown (hts _ tw_512) (hts _ tw_489) (hts _ tw_11) (hts _ tw_490) (Nat.le_of_ble_eq_true rfl) (Nat.le_of_ble_eq_true rfl) (Nat.le_of_ble_eq_true rfl) (Nat.le_of_ble_eq_true rfl) dX6_noteRing_19 ?_
    refine W.eq (g2 := F0 m 22 ls [.long (absL v)]) rfl ?_
    refine lv_aload_n hx hb dX6_noteRing_22 rfl (lv_at hl 0 rfl) ?_
    refine hp_get hx hb hts ix6 hown hK hh (q := (34 + 4 * J)) rfl (hI.1 _ (by omega)) es194_195 rfl 8 (by decide) (hts _ tw_96) (fun _ h9 => h9) rfl dX6_noteRing_23 ?_
    refine va_mabs_long hx hb (hml.trans hl.1.symm) hown (hts _ tw_512) (hts _ tw_489) (hts _ tw_11) (hts _ tw_490) (Nat.le_of_ble_eq_true rfl) (Nat.le_of_ble_eq_true rfl) (Nat.le_of_ble_eq_true rfl) (Nat.le_of_ble_eq_true rfl) dX6_noteRing_26 ?_
    refine W.eq (g2 := F0 m 29 ls [.long (absL rt_194), .long (absL v)]) rfl ?_
    refine W.lcmp hx hb dX6_noteRing_29 ?_
    refine lv_if_le (tgt := 49) hx hb dX6_noteRing_30 (by decide) (fun c_201 => ?_) (fun c_201 => ?_)
    · exact hp_vretM hx hb hr hlocks hh (⟨hI_195, hf_195⟩) dX6_noteRing_49
    · refine lv_aload_n hx hb dX6_noteRing_33 rfl (lv_at hl 0 rfl) ?_
      refine lv_lload_n hx hb dX6_noteRing_34 rfl (lv_at hl 3 rfl) ?_
      refine hp_put hx hb hts ix6 tyX6 tyX6_ok nmX6 hown hK hh (q := (34 + 4 * J)) rfl (hI.1 _ (by omega)) es194_195 rfl 8 (by decide) (hts _ tw_96) (fun _ h9 => h9) rfl (ty := .long) (by decide +kernel) rfl rfl (Nat.le_of_ble_eq_true rfl) dX6_noteRing_35 (fun H locs en_202 hen_202 hh => ?_)
      have es194_202 : en_202 (34 + 4 * J) = .inr (5, [.ref (ad (35 + 4 * J)), .ref (ad (36 + 4 * J)), .ref (ad (37 + 4 * J)), .int (nI dn_194), .int no_194, .int (rc_194 + 1), .long gr_194, .long le_194, .long v, .long tt_194]) := by rw [hen_202]; exact va_up_self _ _ _
      have hI_202 : SX cy cs ad en_202 := by rw [hen_202]; exact up_sv hI_195 (j := J) (by omega) ⟨dn_194, no_194, (rc_194 + 1), gr_194, le_194, v, tt_194, rfl, p0_194⟩
      have hf_202 : ∀ c, (c < 12 ∨ 70 ≤ c) → en_202 c = en c := fun c hc => Eq.trans (show en_202 c = en_195 c from by rw [hen_202, va_up_ne _ _ (by omega)]) (hf_195 c hc)
      refine lv_aload_n hx hb dX6_noteRing_38 rfl (lv_at hl 1 rfl) ?_
      refine lv_iconst (v := 0) hx hb dX6_noteRing_39 (by decide) ?_
      refine lv_aload_n hx hb dX6_noteRing_40 rfl (lv_at hl 0 rfl) ?_
      refine hp_get hx hb hts ix6 hown hK hh (q := (34 + 4 * J)) rfl (hI.1 _ (by omega)) es194_202 rfl 2 (by decide) (hts _ tw_83) (fun _ h9 => h9) rfl dX6_noteRing_41 ?_
      refine lv_iconst (v := 0) hx hb dX6_noteRing_44 (by decide) ?_
      refine lv_iload_n hx hb dX6_noteRing_45 rfl (lv_at hl 2 rfl) ?_
      obtain ⟨f_203, es203⟩ := get_svc hI_202 (j := J) (by omega)
      obtain ⟨f_204, es204, p0_204⟩ := get_let hI_202
      refine W.eq (g2 := F0 m 46 ls [.int (nI n), .int (nI 0), .ref (ad (37 + 4 * J)), .int (nI 0), .ref (ad 33)]) rfl ?_
      refine hp_copyi hx hb (hml.trans hl.1.symm) hown (hts _ tw_498) (hts _ tw_340) (hts _ tw_339) (hts _ tw_12) hK hh (hI.1 _ (by decide)) (hI.1 _ (by omega)) es204 es203 0 0 n (by decide) (by decide) (by omega) (by omega) (by omega) (Nat.le_of_ble_eq_true rfl) (Nat.le_of_ble_eq_true rfl) dX6_noteRing_46 (fun H locs en_205 hen_205 hh => ?_)
      have es194_205 : en_205 (34 + 4 * J) = .inr (5, [.ref (ad (35 + 4 * J)), .ref (ad (36 + 4 * J)), .ref (ad (37 + 4 * J)), .int (nI dn_194), .int no_194, .int (rc_194 + 1), .long gr_194, .long le_194, .long v, .long tt_194]) := by rw [hen_205, va_up_ne _ _ (by omega)]; exact es194_202
      have es204_205 : en_205 33 = .inl (cy 0, 8, .inl f_204) := by rw [hen_205, va_up_ne _ _ (by omega)]; exact es204
      have es203_205 : en_205 (37 + 4 * J) = .inl (cy 0, 8, .inl (va_cpy f_204 f_203 0 0 n)) := by rw [hen_205]; exact va_up_self _ _ _
      have hI_205 : SX cy cs ad en_205 := by rw [hen_205]; exact up_svc hI_202 (j := J) (by omega) ⟨(va_cpy f_204 f_203 0 0 n), rfl⟩
      have hf_205 : ∀ c, (c < 12 ∨ 70 ≤ c) → en_205 c = en c := fun c hc => Eq.trans (show en_205 c = en_202 c from by rw [hen_205, va_up_ne _ _ (by omega)]) (hf_202 c hc)
      exact hp_vretM hx hb hr hlocks hh (⟨hI_205, hf_205⟩) dX6_noteRing_49
theorem kw_X6_noteRing {R : Room} {s : State} {args : Array Value} {own : String} {idx : Nat} (hts : ∀ w ∈ TB, w.before args s = true) (hl : Cond.methodLink own idx yX6_noteRing ∈ TB) (hR : 1 + 1 ≤ R.frames ∧ 8 + (5 + 11) + 40 * 1 ≤ R.locals) : CallW R s args own RX6 idx yX6_noteRing cX6_noteRing 5 none (Cond.code yX6_noteRing cX6_noteRing 5 none :: TB) (rmN 1) 0 0 3 := cwV 3 hts (TB_V hl tw_521 tw_522 tw_4 tw_523) rfl rfl rfl (by decide +kernel) hR
set_option maxHeartbeats 4000000 in
set_option maxRecDepth 100000 in
/-- extendPrefix -/
theorem c_X2_extendPrefix (l : Launch) (D : va_G) (cy : Nat → ClassId) (sz : Nat) (cs : List Nat) (ad : Nat → Nat) (en : Nat → va_E) (hI : SX cy cs ad en) (dp le : Nat) (hdp : dp < 8) (hle : le < 6)   : Met l yX2_extendPrefix (Cond.code yX2_extendPrefix cX2_extendPrefix 3 none :: TB) (rmN 2) (va_Pc [.ref (ad 12), .int (nI dp), .int (nI le)] (Pre D cy cs ad en sz)) (va_Qv (S := Nat → va_E) (fun en1 => SX cy cs ad en1 ∧ (∀ c, (c < 12 ∨ 70 ≤ c) → en1 c = en c)) (PostM D cs ad) (Af cs ad sz)) 0 0 (Af cs ad sz) := by
  refine Met.ofW (cc := cX2_extendPrefix) (maxL := 3) (ret := none) (by decide) rfl ?_
  intro p e s m args below meth c s₁ B hml hv
  obtain ⟨rfl, hsz, hP, hK, hD0⟩ := hv
  have hx := B.exec
  have hb := B.bytes
  have hr := B.returns
  have hts : ∀ w ∈ TB, w.before _ s = true := fun w h => atoms_spec (ws := _ :: TB) B.pre w (List.mem_cons_of_mem _ h)
  have hown : s.vm.findClass RX2 = some m.cls := findClass_of_methodNamed B.named
  have hlocks := B.notSynchronized
  have hh : Hp D (Af cs ad sz) (Af cs ad sz) s.heap s.heap [] cs ad en := ⟨hP, Af_self hD0, va_S.rf⟩
  have hA : ∀ q : Nat, s.heap.size ≤ q → Af cs ad sz q := fun q h => Or.inr (by rw [hsz] at h; exact h)
  have hl := lv_entry ([.ref (ad 12), .int (nI dp), .int (nI le)]) (n := 3) (Nat.le_of_ble_eq_true rfl)
  rw [lg_entry_eq]
  generalize (lg_sl ([.ref (ad 12), .int (nI dp), .int (nI le)]) ++ List.replicate (3 - (lg_sl ([.ref (ad 12), .int (nI dp), .int (nI le)])).length) Slot.unset).toArray = ls at hl ⊢
  have hl : lv_has ls 3 [(0, .ref (ad 12)), (1, .int (nI dp)), (2, .int (nI le))] := hl
  have hf0 : ∀ c, (c < 12 ∨ 70 ≤ c) → en c = en c := fun _ _ => rfl
  obtain ⟨cnt, d, mm, es206, hcnt, hd2, hd3, hmm⟩ := get_T hI
  refine lv_aload_n hx hb dX2_extendPrefix_0 rfl (lv_at hl 0 rfl) ?_
  obtain ⟨hw_207, es207, p0_207⟩ := get_L hI
  refine hp_get hx hb hts ix2 hown hK hh (q := 12) rfl (hI.1 _ (by decide)) es207 rfl 4 (by decide) (hts _ tw_126) (fun _ h9 => h9) rfl dX2_extendPrefix_1 ?_
  refine lv_iload_n hx hb dX2_extendPrefix_4 rfl (lv_at hl 1 rfl) ?_
  refine lv_iload_n hx hb dX2_extendPrefix_5 rfl (lv_at hl 2 rfl) ?_
  obtain ⟨f_208, es208, p0_208⟩ := get_let hI
  refine hp_iast hx hb hK hh (q := 33) rfl (hI.1 _ (by decide)) es208 (vp_in_nI (n := dp) (by omega) (by decide)) dX2_extendPrefix_6 (fun H locs en_209 hen_209 hh => ?_)
  rw [nI_clamp (n := dp) (by omega)] at hen_209
  have es206_209 : en_209 1 = .inr (7, [.ref (ad 2), .ref (ad 3), .ref (ad 10), .ref (ad 11), .int (nI cnt), .int (nI d), .int (nI mm)]) := by rw [hen_209, va_up_ne _ _ (by decide)]; exact es206
  have es207_209 : en_209 12 = .inr (2, [.ref (ad 1), .ref (ad 13), .ref (ad 14), .ref (ad 24), .ref (ad 33), .int (nI hw_207)]) := by rw [hen_209, va_up_ne _ _ (by decide)]; exact es207
  have es208_209 : en_209 33 = .inl (cy 0, 8, .inl (upd f_208 dp (nI le))) := by rw [hen_209]; exact va_up_self _ _ _
  have hI_209 : SX cy cs ad en_209 := by rw [hen_209]; exact up_let hI ⟨(upd f_208 dp (nI le)), rfl, (vals_upd p0_208 hle)⟩
  have hf_209 : ∀ c, (c < 12 ∨ 70 ≤ c) → en_209 c = en c := fun c hc => Eq.trans (show en_209 c = en c from by rw [hen_209, va_up_ne _ _ (by omega)]) (hf0 c hc)
  refine lv_iload_n hx hb dX2_extendPrefix_7 rfl (lv_at hl 1 rfl) ?_
  refine lv_if_ne (tgt := 35) hx hb dX2_extendPrefix_8 (by decide) (fun c_210 => ?_) (fun c_210 => ?_)
  · have n_210 : dp ≠ 0 := n_neq (a := dp) (b := 0) c_210 (by omega) (by decide)
    refine lv_aload_n hx hb dX2_extendPrefix_35 rfl (lv_at hl 0 rfl) ?_
    refine hp_get hx hb hts ix2 hown hK hh (q := 12) rfl (hI.1 _ (by decide)) es207_209 rfl 0 (by decide) (hts _ tw_122) (fun _ h9 => h9) rfl dX2_extendPrefix_36 ?_
    refine lv_aload_n hx hb dX2_extendPrefix_39 rfl (lv_at hl 0 rfl) ?_
    refine hp_get hx hb hts ix2 hown hK hh (q := 12) rfl (hI.1 _ (by decide)) es207_209 rfl 3 (by decide) (hts _ tw_125) (fun _ h9 => h9) rfl dX2_extendPrefix_40 ?_
    refine lv_iload_n hx hb dX2_extendPrefix_43 rfl (lv_at hl 1 rfl) ?_
    refine lv_iconst (v := 1) hx hb dX2_extendPrefix_44 (by decide) ?_
    refine lv_isub hx hb dX2_extendPrefix_45 ?_
    rw [show (1 : Int32) = nI 1 from rfl, pk_sub (a := dp) (b := 1) (by omega)]
    have es211 := get_pfs hI_209
    unfold P_pfs at es211
    refine hp_aald hx hb hK hh (q := 24) rfl (hI.1 _ (by decide)) 8 es211 rfl rfl (vp_in_nI (n := (dp - 1)) (by omega) (by decide)) (v := .ref (ad (25 + (dp - 1)))) (by rw [nI_clamp (n := (dp - 1)) (by omega)]; exact rfA_v (by omega)) dX2_extendPrefix_46 ?_
    refine lv_aload_n hx hb dX2_extendPrefix_47 rfl (lv_at hl 0 rfl) ?_
    refine hp_get hx hb hts ix2 hown hK hh (q := 12) rfl (hI.1 _ (by decide)) es207_209 rfl 0 (by decide) (hts _ tw_122) (fun _ h9 => h9) rfl dX2_extendPrefix_48 ?_
    refine lv_iload_n hx hb dX2_extendPrefix_51 rfl (lv_at hl 2 rfl) ?_
    have es212 := get_rows hI_209
    unfold P_rows at es212
    refine hp_callRq (va_runV (As := [.int (nI le)]) (rest := [.ref (ad (25 + (dp - 1))), .ref (ad 1)]) ⟨hx, hb, hml, hown, hts⟩ (c_X8_rowOf l D cy _ cs ad en_209 (hI.1 _ (by decide)) (hI.1 _ (by decide)) cnt d mm hcnt hd2 hd3 hmm le (by omega) es206_209 es212) (kw_X8_rowOf hts tw_532 ⟨by decide, by decide⟩) (preV_of hh hK (hI.1 _ (by decide)) es206_209 rfl) rfl rfl hl.1 rfl (lv_room (Nat.le_of_ble_eq_true rfl)) dX2_extendPrefix_52 ⟨Nat.le_of_ble_eq_true rfl, Nat.le_of_ble_eq_true rfl⟩) hh hA (fun r_213 H locs hw_213 hh => ?_)
    obtain rfl : r_213 = some (ad (4 + le)) := hw_213
    refine W.eq (g2 := F0 m 55 ls [.ref (ad (4 + le)), .ref (ad (25 + (dp - 1))), .ref (ad 1)]) rfl ?_
    refine lv_aload_n hx hb dX2_extendPrefix_55 rfl (lv_at hl 0 rfl) ?_
    refine hp_get hx hb hts ix2 hown hK hh (q := 12) rfl (hI.1 _ (by decide)) es207_209 rfl 3 (by decide) (hts _ tw_125) (fun _ h9 => h9) rfl dX2_extendPrefix_56 ?_
    refine lv_iload_n hx hb dX2_extendPrefix_59 rfl (lv_at hl 1 rfl) ?_
    refine hp_aald hx hb hK hh (q := 24) rfl (hI.1 _ (by decide)) 8 es211 rfl rfl (vp_in_nI (n := dp) (by omega) (by decide)) (v := .ref (ad (25 + dp))) (by rw [nI_clamp (n := dp) (by omega)]; exact rfA_v (by omega)) dX2_extendPrefix_60 ?_
    obtain ⟨f_214, es214⟩ := get_pfx hI_209 (j := dp) (by omega)
    obtain ⟨f_215, es215⟩ := get_row hI_209 (j := le) (by omega)
    obtain ⟨f_216, es216⟩ := get_pfx hI_209 (j := (dp - 1)) (by omega)
    refine hp_callMv (va_runV (As := [.ref (ad (25 + (dp - 1))), .ref (ad (4 + le)), .ref (ad (25 + dp))]) (rest := []) ⟨hx, hb, hml, hown, hts⟩ (c_X8_multiply l D cy _ cs ad en_209 (hI.1 _ (by decide)) cnt d mm hcnt hd2 hd3 hmm (25 + (dp - 1)) (4 + le) (25 + dp) (hI.1 _ (by omega)) (hI.1 _ (by omega)) (hI.1 _ (by omega)) (by omega) (by omega) (by omega) f_216 f_215 f_214 es206_209 es216 es215 es214) (kw_X8_multiply hts tw_537 ⟨by decide, by decide⟩) (preV_of hh hK (hI.1 _ (by decide)) es206_209 rfl) rfl rfl hl.1 rfl (lv_room (Nat.le_of_ble_eq_true rfl)) dX2_extendPrefix_61 ⟨Nat.le_of_ble_eq_true rfl, Nat.le_of_ble_eq_true rfl⟩) hh hA (fun H locs en_217 hw_217 hh => ?_)
    obtain ⟨g_217, hen_217, hg_217⟩ := hw_217
    have es206_217 : en_217 1 = .inr (7, [.ref (ad 2), .ref (ad 3), .ref (ad 10), .ref (ad 11), .int (nI cnt), .int (nI d), .int (nI mm)]) := by rw [hen_217, va_up_ne _ _ (by omega)]; exact es206_209
    have es207_217 : en_217 12 = .inr (2, [.ref (ad 1), .ref (ad 13), .ref (ad 14), .ref (ad 24), .ref (ad 33), .int (nI hw_207)]) := by rw [hen_217, va_up_ne _ _ (by omega)]; exact es207_209
    have es208_217 : en_217 33 = .inl (cy 0, 8, .inl (upd f_208 dp (nI le))) := by rw [hen_217, va_up_ne _ _ (by omega)]; exact es208_209
    have es211_217 : en_217 24 = .inl (cy 8, 8, .inr (.inr (.inr (.inr (rfA ad 8 25))))) := by rw [hen_217, va_up_ne _ _ (by omega)]; exact es211
    have es212_217 : en_217 3 = .inl (cy 8, 6, .inr (.inr (.inr (.inr (rfA ad 6 4))))) := by rw [hen_217, va_up_ne _ _ (by omega)]; exact es212
    have es215_217 : en_217 (4 + le) = .inl (cy 1, 9, .inr (.inl f_215)) := by rw [hen_217, va_up_ne _ _ (by omega)]; exact es215
    have es216_217 : en_217 (25 + (dp - 1)) = .inl (cy 1, 9, .inr (.inl f_216)) := by rw [hen_217, va_up_ne _ _ (by omega)]; exact es216
    have es214_217 : en_217 (25 + dp) = .inl (cy 1, 9, .inr (.inl g_217)) := by rw [hen_217]; exact va_up_self _ _ _
    have hI_217 : SX cy cs ad en_217 := by rw [hen_217]; exact up_pfx hI_209 (j := dp) (by omega) ⟨g_217, rfl⟩
    have hf_217 : ∀ c, (c < 12 ∨ 70 ≤ c) → en_217 c = en c := fun c hc => Eq.trans (show en_217 c = en_209 c from by rw [hen_217, va_up_ne _ _ (by omega)]) (hf_209 c hc)
    exact hp_vretM hx hb hr hlocks hh (⟨hI_217, hf_217⟩) dX2_extendPrefix_64
  · have n_210 : dp = 0 := n_eq (a := dp) (b := 0) c_210 (by omega) (by decide)
    refine lv_aload_n hx hb dX2_extendPrefix_11 rfl (lv_at hl 0 rfl) ?_
    refine hp_get hx hb hts ix2 hown hK hh (q := 12) rfl (hI.1 _ (by decide)) es207_209 rfl 0 (by decide) (hts _ tw_122) (fun _ h9 => h9) rfl dX2_extendPrefix_12 ?_
    refine lv_iload_n hx hb dX2_extendPrefix_15 rfl (lv_at hl 2 rfl) ?_
    have es218 := get_rows hI_209
    unfold P_rows at es218
    refine hp_callRq (va_runV (As := [.int (nI le)]) (rest := []) ⟨hx, hb, hml, hown, hts⟩ (c_X8_rowOf l D cy _ cs ad en_209 (hI.1 _ (by decide)) (hI.1 _ (by decide)) cnt d mm hcnt hd2 hd3 hmm le (by omega) es206_209 es218) (kw_X8_rowOf hts tw_532 ⟨by decide, by decide⟩) (preV_of hh hK (hI.1 _ (by decide)) es206_209 rfl) rfl rfl hl.1 rfl (lv_room (Nat.le_of_ble_eq_true rfl)) dX2_extendPrefix_16 ⟨Nat.le_of_ble_eq_true rfl, Nat.le_of_ble_eq_true rfl⟩) hh hA (fun r_219 H locs hw_219 hh => ?_)
    obtain rfl : r_219 = some (ad (4 + le)) := hw_219
    refine W.eq (g2 := F0 m 19 ls [.ref (ad (4 + le))]) rfl ?_
    refine lv_iconst (v := 0) hx hb dX2_extendPrefix_19 (by decide) ?_
    refine lv_aload_n hx hb dX2_extendPrefix_20 rfl (lv_at hl 0 rfl) ?_
    refine hp_get hx hb hts ix2 hown hK hh (q := 12) rfl (hI.1 _ (by decide)) es207_209 rfl 3 (by decide) (hts _ tw_125) (fun _ h9 => h9) rfl dX2_extendPrefix_21 ?_
    refine lv_iconst (v := 0) hx hb dX2_extendPrefix_24 (by decide) ?_
    have es220 := get_pfs hI_209
    unfold P_pfs at es220
    rw [show (0 : Int32) = nI 0 from rfl]
    refine hp_aald hx hb hK hh (q := 24) rfl (hI.1 _ (by decide)) 8 es220 rfl rfl (vp_in_nI (n := 0) (by decide) (by decide)) (v := .ref (ad (25 + 0))) (by rw [nI_clamp (n := 0) (by decide)]; exact rfA_v (by decide)) dX2_extendPrefix_25 ?_
    refine lv_iconst (v := 0) hx hb dX2_extendPrefix_26 (by decide) ?_
    refine lv_bipush (v := 9) hx hb dX2_extendPrefix_27 (by decide) ?_
    obtain ⟨f_221, es221⟩ := get_pfx hI_209 (j := 0) (by decide)
    obtain ⟨f_222, es222⟩ := get_row hI_209 (j := le) (by omega)
    refine W.eq (g2 := F0 m 29 ls [.int (nI 9), .int (nI 0), .ref (ad (25 + 0)), .int (nI 0), .ref (ad (4 + le))]) rfl ?_
    refine hp_copyl hx hb (hml.trans hl.1.symm) hown (hts _ tw_536) (hts _ tw_340) (hts _ tw_339) (hts _ tw_12) hK hh (hI.1 _ (by omega)) (hI.1 _ (by omega)) es222 es221 0 0 9 (by decide) (by decide) (by decide) (by decide) (by decide) (Nat.le_of_ble_eq_true rfl) (Nat.le_of_ble_eq_true rfl) dX2_extendPrefix_29 (fun H locs en_223 hen_223 hh => ?_)
    have es206_223 : en_223 1 = .inr (7, [.ref (ad 2), .ref (ad 3), .ref (ad 10), .ref (ad 11), .int (nI cnt), .int (nI d), .int (nI mm)]) := by rw [hen_223, va_up_ne _ _ (by omega)]; exact es206_209
    have es207_223 : en_223 12 = .inr (2, [.ref (ad 1), .ref (ad 13), .ref (ad 14), .ref (ad 24), .ref (ad 33), .int (nI hw_207)]) := by rw [hen_223, va_up_ne _ _ (by omega)]; exact es207_209
    have es208_223 : en_223 33 = .inl (cy 0, 8, .inl (upd f_208 dp (nI le))) := by rw [hen_223, va_up_ne _ _ (by omega)]; exact es208_209
    have es218_223 : en_223 3 = .inl (cy 8, 6, .inr (.inr (.inr (.inr (rfA ad 6 4))))) := by rw [hen_223, va_up_ne _ _ (by omega)]; exact es218
    have es220_223 : en_223 24 = .inl (cy 8, 8, .inr (.inr (.inr (.inr (rfA ad 8 25))))) := by rw [hen_223, va_up_ne _ _ (by omega)]; exact es220
    have es222_223 : en_223 (4 + le) = .inl (cy 1, 9, .inr (.inl f_222)) := by rw [hen_223, va_up_ne _ _ (by omega)]; exact es222
    have es221_223 : en_223 (25 + 0) = .inl (cy 1, 9, .inr (.inl (va_cpy f_222 f_221 0 0 9))) := by rw [hen_223]; exact va_up_self _ _ _
    have hI_223 : SX cy cs ad en_223 := by rw [hen_223]; exact up_pfx hI_209 (j := 0) (by decide) ⟨(va_cpy f_222 f_221 0 0 9), rfl⟩
    have hf_223 : ∀ c, (c < 12 ∨ 70 ≤ c) → en_223 c = en c := fun c hc => Eq.trans (show en_223 c = en_209 c from by rw [hen_223, va_up_ne _ _ (by omega)]) (hf_209 c hc)
    refine lv_goto (tgt := 64) hx hb dX2_extendPrefix_32 (by decide) ?_
    exact hp_vretM hx hb hr hlocks hh (⟨hI_223, hf_223⟩) dX2_extendPrefix_64
theorem kw_X2_extendPrefix {R : Room} {s : State} {args : Array Value} {own : String} {idx : Nat} (hts : ∀ w ∈ TB, w.before args s = true) (hl : Cond.methodLink own idx yX2_extendPrefix ∈ TB) (hR : 2 + 1 ≤ R.frames ∧ 8 + (3 + 11) + 40 * 2 ≤ R.locals) : CallW R s args own RX2 idx yX2_extendPrefix cX2_extendPrefix 3 none (Cond.code yX2_extendPrefix cX2_extendPrefix 3 none :: TB) (rmN 2) 0 0 2 := cwV 2 hts (TB_V hl tw_530 ts_12 tw_3 tw_531) rfl rfl rfl (by decide +kernel) hR
set_option maxHeartbeats 4000000 in
set_option maxRecDepth 100000 in
/-- noteWord -/
theorem c_X2_noteWord (l : Launch) (D : va_G) (cy : Nat → ClassId) (sz : Nat) (cs : List Nat) (ad : Nat → Nat) (en : Nat → va_E) (hI : SX cy cs ad en) (J : Nat) (hJ : J < 9) (n : Nat) (hn1 : 1 ≤ n) (hn : n ≤ 8)   : Met l yX2_noteWord (Cond.code yX2_noteWord cX2_noteWord 6 none :: TB) (rmN 3) (va_Pc [.ref (ad 12), .ref (ad (34 + 4 * J)), .int (nI n)] (Pre D cy cs ad en sz)) (va_Qv (S := Nat → va_E) (fun en1 => SX cy cs ad en1 ∧ (∀ c, (c < 12 ∨ 70 ≤ c) → en1 c = en c)) (PostM D cs ad) (Af cs ad sz)) 0 0 (Af cs ad sz) := by
  refine Met.ofW (cc := cX2_noteWord) (maxL := 6) (ret := none) (by decide) rfl ?_
  intro p e s m args below meth c s₁ B hml hv
  obtain ⟨rfl, hsz, hP, hK, hD0⟩ := hv
  have hx := B.exec
  have hb := B.bytes
  have hr := B.returns
  have hts : ∀ w ∈ TB, w.before _ s = true := fun w h => atoms_spec (ws := _ :: TB) B.pre w (List.mem_cons_of_mem _ h)
  have hown : s.vm.findClass RX2 = some m.cls := findClass_of_methodNamed B.named
  have hlocks := B.notSynchronized
  have hh : Hp D (Af cs ad sz) (Af cs ad sz) s.heap s.heap [] cs ad en := ⟨hP, Af_self hD0, va_S.rf⟩
  have hA : ∀ q : Nat, s.heap.size ≤ q → Af cs ad sz q := fun q h => Or.inr (by rw [hsz] at h; exact h)
  have hl := lv_entry ([.ref (ad 12), .ref (ad (34 + 4 * J)), .int (nI n)]) (n := 6) (Nat.le_of_ble_eq_true rfl)
  rw [lg_entry_eq]
  generalize (lg_sl ([.ref (ad 12), .ref (ad (34 + 4 * J)), .int (nI n)]) ++ List.replicate (6 - (lg_sl ([.ref (ad 12), .ref (ad (34 + 4 * J)), .int (nI n)])).length) Slot.unset).toArray = ls at hl ⊢
  have hl : lv_has ls 6 [(0, .ref (ad 12)), (1, .ref (ad (34 + 4 * J))), (2, .int (nI n))] := hl
  have hf0 : ∀ c, (c < 12 ∨ 70 ≤ c) → en c = en c := fun _ _ => rfl
  obtain ⟨cnt, d, mm, es224, hcnt, hd2, hd3, hmm⟩ := get_T hI
  obtain ⟨f10, es225, hb10⟩ := get_alw hI
  refine lv_aload_n hx hb dX2_noteWord_0 rfl (lv_at hl 0 rfl) ?_
  obtain ⟨hw_226, es226, p0_226⟩ := get_L hI
  refine hp_get hx hb hts ix2 hown hK hh (q := 12) rfl (hI.1 _ (by decide)) es226 rfl 3 (by decide) (hts _ tw_125) (fun _ h9 => h9) rfl dX2_noteWord_1 ?_
  refine lv_iload_n hx hb dX2_noteWord_4 rfl (lv_at hl 2 rfl) ?_
  refine lv_iconst (v := 1) hx hb dX2_noteWord_5 (by decide) ?_
  refine lv_isub hx hb dX2_noteWord_6 ?_
  rw [show (1 : Int32) = nI 1 from rfl, pk_sub (a := n) (b := 1) (by omega)]
  have es227 := get_pfs hI
  unfold P_pfs at es227
  refine hp_aald hx hb hK hh (q := 24) rfl (hI.1 _ (by decide)) 8 es227 rfl rfl (vp_in_nI (n := (n - 1)) (by omega) (by decide)) (v := .ref (ad (25 + (n - 1)))) (by rw [nI_clamp (n := (n - 1)) (by omega)]; exact rfA_v (by omega)) dX2_noteWord_7 ?_
  refine lv_astore_n (lv' := [(3, .ref (ad (25 + (n - 1)))), (0, .ref (ad 12)), (1, .ref (ad (34 + 4 * J))), (2, .int (nI n))]) hx hb dX2_noteWord_8 rfl hl (by decide) rfl (fun ls hl => ?_)
  refine lv_aload_n hx hb dX2_noteWord_9 rfl (lv_at hl 2 rfl) ?_
  refine lv_aload_n hx hb dX2_noteWord_10 rfl (lv_at hl 1 rfl) ?_
  refine hp_get hx hb hts ix2 hown hK hh (q := 12) rfl (hI.1 _ (by decide)) es226 rfl 4 (by decide) (hts _ tw_126) (fun _ h9 => h9) rfl dX2_noteWord_11 ?_
  refine lv_iload_n hx hb dX2_noteWord_14 rfl (lv_at hl 3 rfl) ?_
  refine lv_aload_n hx hb dX2_noteWord_15 rfl (lv_at hl 1 rfl) ?_
  refine hp_get hx hb hts ix2 hown hK hh (q := 12) rfl (hI.1 _ (by decide)) es226 rfl 0 (by decide) (hts _ tw_122) (fun _ h9 => h9) rfl dX2_noteWord_16 ?_
  refine lv_aload_n hx hb dX2_noteWord_19 rfl (lv_at hl 0 rfl) ?_
  obtain ⟨f_228, es228⟩ := get_pfx hI (j := (n - 1)) (by omega)
  refine hp_callRl (va_runV (As := [.ref (ad (25 + (n - 1)))]) (rest := [.int (nI n), .ref (ad 33), .ref (ad (34 + 4 * J))]) ⟨hx, hb, hml, hown, hts⟩ (c_X8_norm l D cy _ cs ad en (hI.1 _ (by decide)) cnt d mm hcnt hd2 hd3 hmm (25 + (n - 1)) (hI.1 _ (by omega)) f_228 es224 es228) (kw_X8_norm hts tw_484 ⟨by decide, by decide⟩) (preV_of hh hK (hI.1 _ (by decide)) es224 rfl) rfl rfl hl.1 rfl (lv_room (Nat.le_of_ble_eq_true rfl)) dX2_noteWord_20 ⟨Nat.le_of_ble_eq_true rfl, Nat.le_of_ble_eq_true rfl⟩) hh hA (fun r_229 H locs hw_229 hh => ?_)
  obtain rfl : r_229 = (normT d f_228 d) := hw_229
  obtain ⟨f_230, es230, p0_230⟩ := get_let hI
  obtain ⟨dn_231, no_231, rc_231, gr_231, le_231, rt_231, tt_231, es231, p0_231⟩ := get_sv hI (j := J) (by omega)
  refine hp_callMv (va_runV (As := [.ref (ad 33), .int (nI n), .long (normT d f_228 d)]) (rest := []) ⟨hx, hb, hml, hown, hts⟩ (c_X6_noteNorm l D cy _ cs ad en hI J (by omega) n (by omega) (normT d f_228 d) ) (kw_X6_noteNorm hts tw_494 ⟨by decide, by decide⟩) (preV_of hh hK (hI.1 _ (by omega)) es231 rfl) rfl rfl hl.1 rfl (lv_room (Nat.le_of_ble_eq_true rfl)) dX2_noteWord_23 ⟨Nat.le_of_ble_eq_true rfl, Nat.le_of_ble_eq_true rfl⟩) hh hA (fun H locs en_232 hw_232 hh => ?_)
  obtain ⟨hI_232, hu_232⟩ := hw_232
  have hf_232 : ∀ c, (c < 12 ∨ 70 ≤ c) → en_232 c = en c := fun c hc => (hu_232 c (by omega)).trans (hf0 c hc)
  refine lv_aload_n hx hb dX2_noteWord_26 rfl (lv_at hl 1 rfl) ?_
  obtain ⟨hw_233, es233, p0_233⟩ := get_L hI_232
  refine hp_get hx hb hts ix2 hown hK hh (q := 12) rfl (hI.1 _ (by decide)) es233 rfl 0 (by decide) (hts _ tw_122) (fun _ h9 => h9) rfl dX2_noteWord_27 ?_
  refine lv_aload_n hx hb dX2_noteWord_30 rfl (lv_at hl 1 rfl) ?_
  refine hp_get hx hb hts ix2 hown hK hh (q := 12) rfl (hI.1 _ (by decide)) es233 rfl 4 (by decide) (hts _ tw_126) (fun _ h9 => h9) rfl dX2_noteWord_31 ?_
  refine lv_iload_n hx hb dX2_noteWord_34 rfl (lv_at hl 3 rfl) ?_
  obtain ⟨f_234, es234, p0_234⟩ := get_let hI_232
  have es224_235 : en_232 1 = .inr (7, [.ref (ad 2), .ref (ad 3), .ref (ad 10), .ref (ad 11), .int (nI cnt), .int (nI d), .int (nI mm)]) := (hf_232 1 (by omega)).trans es224
  have es225_236 : en_232 10 = .inl (cy 2, 36, .inl f10) := (hf_232 10 (by omega)).trans es225
  refine hp_callRi (va_runV (As := [.ref (ad 33), .int (nI n)]) (rest := []) ⟨hx, hb, hml, hown, hts⟩ (c_X8_isTurnable l D cy _ cs ad en_232 (hI.1 _ (by decide)) cnt d mm hcnt hd2 hd3 hmm (hI.1 _ (by decide)) f10 hb10 33 8 n (hI.1 _ (by decide)) (by decide) f_234 p0_234 (by omega) (by omega) es224_235 es225_236 es234) (kw_X8_isTurnable hts tw_499 ⟨by decide, by decide⟩) (preV_of hh hK (hI.1 _ (by decide)) es224_235 rfl) rfl rfl hl.1 rfl (lv_room (Nat.le_of_ble_eq_true rfl)) dX2_noteWord_35 ⟨Nat.le_of_ble_eq_true rfl, Nat.le_of_ble_eq_true rfl⟩) hh hA (fun r_237 H locs hw_237 hh => ?_)
  rcases hw_237 with ⟨hb_237, hy_237⟩ | ⟨hb_237, hy_237⟩
  · obtain rfl : r_237 = 1 := hb_237
    refine lv_if_ne (tgt := 42) hx hb dX2_noteWord_38 (by decide) (fun _ => ?_) (fun c_0 => absurd c_0 (by decide))
    refine lv_aload_n hx hb dX2_noteWord_42 rfl (lv_at hl 1 rfl) ?_
    refine hp_get hx hb hts ix2 hown hK hh (q := 12) rfl (hI.1 _ (by decide)) es233 rfl 0 (by decide) (hts _ tw_122) (fun _ h9 => h9) rfl dX2_noteWord_43 ?_
    refine lv_aload_n hx hb dX2_noteWord_46 rfl (lv_at hl 0 rfl) ?_
    obtain ⟨f_238, es238⟩ := get_pfx hI_232 (j := (n - 1)) (by omega)
    refine hp_callRl (va_runV (As := [.ref (ad (25 + (n - 1)))]) (rest := []) ⟨hx, hb, hml, hown, hts⟩ (c_X8_track l D cy _ cs ad en_232 (hI.1 _ (by decide)) cnt d mm hcnt hd2 hd3 hmm (25 + (n - 1)) (hI.1 _ (by omega)) f_238 es224_235 es238) (kw_X8_track hts tw_504 ⟨by decide, by decide⟩) (preV_of hh hK (hI.1 _ (by decide)) es224_235 rfl) rfl rfl hl.1 rfl (lv_room (Nat.le_of_ble_eq_true rfl)) dX2_noteWord_47 ⟨Nat.le_of_ble_eq_true rfl, Nat.le_of_ble_eq_true rfl⟩) hh hA (fun r_239 H locs hw_239 hh => ?_)
    refine lv_lstore (lv' := [(4, .long r_239), (3, .ref (ad (25 + (n - 1)))), (0, .ref (ad 12)), (1, .ref (ad (34 + 4 * J))), (2, .int (nI n))]) hx hb dX2_noteWord_50 hl (by decide) rfl (fun ls hl => ?_)
    refine lv_aload_n hx hb dX2_noteWord_52 rfl (lv_at hl 3 rfl) ?_
    refine lv_lload hx hb dX2_noteWord_53 (lv_at hl 0 rfl) ?_
    obtain ⟨dn_240, no_240, rc_240, gr_240, le_240, rt_240, tt_240, es240, p0_240⟩ := get_sv hI_232 (j := J) (by omega)
    refine hp_callMv (va_runV (As := [.long r_239]) (rest := []) ⟨hx, hb, hml, hown, hts⟩ (c_X6_noteTurnable l D cy _ cs ad en_232 hI_232 J (by omega) r_239 ) (kw_X6_noteTurnable hts tw_508 ⟨by decide, by decide⟩) (preV_of hh hK (hI.1 _ (by omega)) es240 rfl) rfl rfl hl.1 rfl (lv_room (Nat.le_of_ble_eq_true rfl)) dX2_noteWord_55 ⟨Nat.le_of_ble_eq_true rfl, Nat.le_of_ble_eq_true rfl⟩) hh hA (fun H locs en_241 hw_241 hh => ?_)
    obtain ⟨hI_241, hu_241⟩ := hw_241
    have hf_241 : ∀ c, (c < 12 ∨ 70 ≤ c) → en_241 c = en c := fun c hc => (hu_241 c (by omega)).trans (hf_232 c hc)
    refine lv_aload_n hx hb dX2_noteWord_58 rfl (lv_at hl 2 rfl) ?_
    obtain ⟨hw_242, es242, p0_242⟩ := get_L hI_241
    refine hp_get hx hb hts ix2 hown hK hh (q := 12) rfl (hI.1 _ (by decide)) es242 rfl 4 (by decide) (hts _ tw_126) (fun _ h9 => h9) rfl dX2_noteWord_59 ?_
    refine lv_iload_n hx hb dX2_noteWord_62 rfl (lv_at hl 4 rfl) ?_
    obtain ⟨f_243, es243, p0_243⟩ := get_let hI_241
    refine hp_callRi (va_runS (As := [.ref (ad 33), .int (nI n)]) (rest := []) ⟨hx, hb, hml, hown, hts⟩ (c_X5_isAheadOfItsTurns l D cy _ cs ad en_241 33 8 (hI.1 _ (by decide)) (by decide) f_243 n (by omega) (by omega) (by omega) es243) (kw_X5_isAheadOfItsTurns hts tw_514 ⟨by decide, by decide⟩) (preS_of hh hK) rfl rfl hl.1 rfl (lv_room (Nat.le_of_ble_eq_true rfl)) dX2_noteWord_63 ⟨Nat.le_of_ble_eq_true rfl, Nat.le_of_ble_eq_true rfl⟩) hh hA (fun r_244 H locs hw_244 hh => ?_)
    rcases hw_244 with ⟨hb_244, hy_244⟩ | ⟨hb_244, hy_244⟩
    · obtain rfl : r_244 = 1 := hb_244
      refine lv_if_eq (tgt := 80) hx hb dX2_noteWord_66 (by decide) (fun c_0 => absurd c_0 (by decide)) (fun _ => ?_)
      refine lv_aload_n hx hb dX2_noteWord_69 rfl (lv_at hl 3 rfl) ?_
      refine lv_aload_n hx hb dX2_noteWord_70 rfl (lv_at hl 2 rfl) ?_
      refine hp_get hx hb hts ix2 hown hK hh (q := 12) rfl (hI.1 _ (by decide)) es242 rfl 4 (by decide) (hts _ tw_126) (fun _ h9 => h9) rfl dX2_noteWord_71 ?_
      refine lv_iload_n hx hb dX2_noteWord_74 rfl (lv_at hl 4 rfl) ?_
      refine lv_lload hx hb dX2_noteWord_75 (lv_at hl 0 rfl) ?_
      obtain ⟨dn_245, no_245, rc_245, gr_245, le_245, rt_245, tt_245, es245, p0_245⟩ := get_sv hI_241 (j := J) (by omega)
      refine hp_callMv (va_runV (As := [.ref (ad 33), .int (nI n), .long r_239]) (rest := []) ⟨hx, hb, hml, hown, hts⟩ (c_X6_noteRing l D cy _ cs ad en_241 hI_241 J (by omega) n (by omega) r_239 ) (kw_X6_noteRing hts tw_520 ⟨by decide, by decide⟩) (preV_of hh hK (hI.1 _ (by omega)) es245 rfl) rfl rfl hl.1 rfl (lv_room (Nat.le_of_ble_eq_true rfl)) dX2_noteWord_77 ⟨Nat.le_of_ble_eq_true rfl, Nat.le_of_ble_eq_true rfl⟩) hh hA (fun H locs en_246 hw_246 hh => ?_)
      obtain ⟨hI_246, hu_246⟩ := hw_246
      have hf_246 : ∀ c, (c < 12 ∨ 70 ≤ c) → en_246 c = en c := fun c hc => (hu_246 c (by omega)).trans (hf_241 c hc)
      exact hp_vretM hx hb hr hlocks hh (⟨hI_246, hf_246⟩) dX2_noteWord_80
    · obtain rfl : r_244 = 0 := hb_244
      refine lv_if_eq (tgt := 80) hx hb dX2_noteWord_66 (by decide) (fun _ => ?_) (fun c_0 => absurd c_0 (by decide))
      exact hp_vretM hx hb hr hlocks hh (⟨hI_241, hf_241⟩) dX2_noteWord_80
  · obtain rfl : r_237 = 0 := hb_237
    refine lv_if_ne (tgt := 42) hx hb dX2_noteWord_38 (by decide) (fun c_0 => absurd c_0 (by decide)) (fun _ => ?_)
    exact hp_vretM hx hb hr hlocks hh (⟨hI_232, hf_232⟩) dX2_noteWord_41
theorem kw_X2_noteWord {R : Room} {s : State} {args : Array Value} {own : String} {idx : Nat} (hts : ∀ w ∈ TB, w.before args s = true) (hl : Cond.methodLink own idx yX2_noteWord ∈ TB) (hR : 3 + 1 ≤ R.frames ∧ 8 + (6 + 11) + 40 * 3 ≤ R.locals) : CallW R s args own RX2 idx yX2_noteWord cX2_noteWord 6 none (Cond.code yX2_noteWord cX2_noteWord 6 none :: TB) (rmN 3) 0 0 2 := cwV 2 hts (TB_V hl tw_482 ts_10 tw_3 tw_483) rfl rfl rfl (by decide +kernel) hR
