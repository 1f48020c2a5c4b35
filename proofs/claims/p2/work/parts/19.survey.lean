set_option maxHeartbeats 4000000 in
set_option maxRecDepth 100000 in
/-- Survey.restart -/
theorem c_X6_restart (l : Launch) (D : va_G) (cy : Nat → ClassId) (sz : Nat) (cs : List Nat) (ad : Nat → Nat) (en : Nat → va_E) (hI : SX cy cs ad en) (J : Nat) (hJ : J < 9)   : Met l yX6_restart (Cond.code yX6_restart cX6_restart 1 none :: TB) (rmN 0) (va_Pc [.ref (ad (34 + 4 * J))] (Pre D cy cs ad en sz)) (va_Qv (S := Nat → va_E) (fun en1 => SX cy cs ad en1 ∧ (∀ c, (c < 12 ∨ 70 ≤ c) → en1 c = en c)) (PostM D cs ad) (Af cs ad sz)) 0 0 (Af cs ad sz) := by
  refine Met.ofW (cc := cX6_restart) (maxL := 1) (ret := none) (by decide) rfl ?_
  intro p e s m args below meth c s₁ B hml hv
  obtain ⟨rfl, hsz, hP, hK, hD0⟩ := hv
  have hx := B.exec
  have hb := B.bytes
  have hr := B.returns
  have hts : ∀ w ∈ TB, w.before _ s = true := fun w h => atoms_spec (ws := _ :: TB) B.pre w (List.mem_cons_of_mem _ h)
  have hown : s.vm.findClass RX6 = some m.cls := findClass_of_methodNamed B.named
  have hlocks := B.notSynchronized
  have hh : Hp D (Af cs ad sz) (Af cs ad sz) s.heap s.heap [] cs ad en := ⟨hP, Af_self hD0, va_S.rf⟩
  have hA : ∀ q : Nat, s.heap.size ≤ q → Af cs ad sz q := fun q h => Or.inr (by rw [hsz] at h; exact h)
  have hl := lv_entry ([.ref (ad (34 + 4 * J))]) (n := 1) (Nat.le_of_ble_eq_true rfl)
  rw [lg_entry_eq]
  generalize (lg_sl ([.ref (ad (34 + 4 * J))]) ++ List.replicate (1 - (lg_sl ([.ref (ad (34 + 4 * J))])).length) Slot.unset).toArray = ls at hl ⊢
  have hl : lv_has ls 1 [(0, .ref (ad (34 + 4 * J)))] := hl
  have hf0 : ∀ c, (c < 12 ∨ 70 ≤ c) → en c = en c := fun _ _ => rfl
  refine lv_aload_n hx hb dX6_restart_0 rfl (lv_at hl 0 rfl) ?_
  refine lv_iconst (v := 0) hx hb dX6_restart_1 (by decide) ?_
  obtain ⟨dn_222, no_222, rc_222, gr_222, le_222, rt_222, tt_222, es222, p0_222⟩ := get_sv hI (j := J) (by omega)
  refine hp_put hx hb hts ix6 tyX6 tyX6_ok nmX6 hown hK hh (q := (34 + 4 * J)) rfl (hI.1 _ (by omega)) es222 rfl 3 (by decide) (hts _ tw_85) (fun _ h9 => h9) rfl (ty := .boolean) (by decide +kernel) rfl rfl (Nat.le_of_ble_eq_true rfl) dX6_restart_2 (fun H locs en_223 hen_223 hh => ?_)
  have es222_223 : en_223 (34 + 4 * J) = .inr (5, [.ref (ad (35 + 4 * J)), .ref (ad (36 + 4 * J)), .ref (ad (37 + 4 * J)), .int 0, .int no_222, .int rc_222, .long gr_222, .long le_222, .long rt_222, .long tt_222]) := by rw [hen_223]; exact va_up_self _ _ _
  have hI_223 : SX cy cs ad en_223 := by rw [hen_223]; exact up_sv hI (j := J) (by omega) ⟨0, no_222, rc_222, gr_222, le_222, rt_222, tt_222, rfl, (by omega)⟩
  have hf_223 : ∀ c, (c < 12 ∨ 70 ≤ c) → en_223 c = en c := fun c hc => Eq.trans (show en_223 c = en c from by rw [hen_223, va_up_ne _ _ (by omega)]) (hf0 c hc)
  refine lv_aload_n hx hb dX6_restart_5 rfl (lv_at hl 0 rfl) ?_
  refine lv_iconst (v := 0) hx hb dX6_restart_6 (by decide) ?_
  refine hp_put hx hb hts ix6 tyX6 tyX6_ok nmX6 hown hK hh (q := (34 + 4 * J)) rfl (hI.1 _ (by omega)) es222_223 rfl 4 (by decide) (hts _ tw_87) (fun _ h9 => h9) rfl (ty := .int) (by decide +kernel) rfl rfl (Nat.le_of_ble_eq_true rfl) dX6_restart_7 (fun H locs en_224 hen_224 hh => ?_)
  have es222_224 : en_224 (34 + 4 * J) = .inr (5, [.ref (ad (35 + 4 * J)), .ref (ad (36 + 4 * J)), .ref (ad (37 + 4 * J)), .int 0, .int 0, .int rc_222, .long gr_222, .long le_222, .long rt_222, .long tt_222]) := by rw [hen_224]; exact va_up_self _ _ _
  have hI_224 : SX cy cs ad en_224 := by rw [hen_224]; exact up_sv hI_223 (j := J) (by omega) ⟨0, 0, rc_222, gr_222, le_222, rt_222, tt_222, rfl, (by omega)⟩
  have hf_224 : ∀ c, (c < 12 ∨ 70 ≤ c) → en_224 c = en c := fun c hc => Eq.trans (show en_224 c = en_223 c from by rw [hen_224, va_up_ne _ _ (by omega)]) (hf_223 c hc)
  refine lv_aload_n hx hb dX6_restart_10 rfl (lv_at hl 0 rfl) ?_
  refine lv_iconst (v := 0) hx hb dX6_restart_11 (by decide) ?_
  refine hp_put hx hb hts ix6 tyX6 tyX6_ok nmX6 hown hK hh (q := (34 + 4 * J)) rfl (hI.1 _ (by omega)) es222_224 rfl 5 (by decide) (hts _ tw_89) (fun _ h9 => h9) rfl (ty := .int) (by decide +kernel) rfl rfl (Nat.le_of_ble_eq_true rfl) dX6_restart_12 (fun H locs en_225 hen_225 hh => ?_)
  have es222_225 : en_225 (34 + 4 * J) = .inr (5, [.ref (ad (35 + 4 * J)), .ref (ad (36 + 4 * J)), .ref (ad (37 + 4 * J)), .int 0, .int 0, .int 0, .long gr_222, .long le_222, .long rt_222, .long tt_222]) := by rw [hen_225]; exact va_up_self _ _ _
  have hI_225 : SX cy cs ad en_225 := by rw [hen_225]; exact up_sv hI_224 (j := J) (by omega) ⟨0, 0, 0, gr_222, le_222, rt_222, tt_222, rfl, (by omega)⟩
  have hf_225 : ∀ c, (c < 12 ∨ 70 ≤ c) → en_225 c = en c := fun c hc => Eq.trans (show en_225 c = en_224 c from by rw [hen_225, va_up_ne _ _ (by omega)]) (hf_224 c hc)
  refine lv_aload_n hx hb dX6_restart_15 rfl (lv_at hl 0 rfl) ?_
  refine lv_ldc2 hx hb hown (hts _ tw_475) dX6_restart_16 ?_
  refine hp_put hx hb hts ix6 tyX6 tyX6_ok nmX6 hown hK hh (q := (34 + 4 * J)) rfl (hI.1 _ (by omega)) es222_225 rfl 6 (by decide) (hts _ tw_91) (fun _ h9 => h9) rfl (ty := .long) (by decide +kernel) rfl rfl (Nat.le_of_ble_eq_true rfl) dX6_restart_19 (fun H locs en_226 hen_226 hh => ?_)
  have es222_226 : en_226 (34 + 4 * J) = .inr (5, [.ref (ad (35 + 4 * J)), .ref (ad (36 + 4 * J)), .ref (ad (37 + 4 * J)), .int 0, .int 0, .int 0, .long (-1), .long le_222, .long rt_222, .long tt_222]) := by rw [hen_226]; exact va_up_self _ _ _
  have hI_226 : SX cy cs ad en_226 := by rw [hen_226]; exact up_sv hI_225 (j := J) (by omega) ⟨0, 0, 0, (-1), le_222, rt_222, tt_222, rfl, (by omega)⟩
  have hf_226 : ∀ c, (c < 12 ∨ 70 ≤ c) → en_226 c = en c := fun c hc => Eq.trans (show en_226 c = en_225 c from by rw [hen_226, va_up_ne _ _ (by omega)]) (hf_225 c hc)
  refine lv_aload_n hx hb dX6_restart_22 rfl (lv_at hl 0 rfl) ?_
  refine lv_ldc2 hx hb hown (hts _ tw_476) dX6_restart_23 ?_
  refine hp_put hx hb hts ix6 tyX6 tyX6_ok nmX6 hown hK hh (q := (34 + 4 * J)) rfl (hI.1 _ (by omega)) es222_226 rfl 7 (by decide) (hts _ tw_94) (fun _ h9 => h9) rfl (ty := .long) (by decide +kernel) rfl rfl (Nat.le_of_ble_eq_true rfl) dX6_restart_26 (fun H locs en_227 hen_227 hh => ?_)
  have es222_227 : en_227 (34 + 4 * J) = .inr (5, [.ref (ad (35 + 4 * J)), .ref (ad (36 + 4 * J)), .ref (ad (37 + 4 * J)), .int 0, .int 0, .int 0, .long (-1), .long 9223372036854775807, .long rt_222, .long tt_222]) := by rw [hen_227]; exact va_up_self _ _ _
  have hI_227 : SX cy cs ad en_227 := by rw [hen_227]; exact up_sv hI_226 (j := J) (by omega) ⟨0, 0, 0, (-1), 9223372036854775807, rt_222, tt_222, rfl, (by omega)⟩
  have hf_227 : ∀ c, (c < 12 ∨ 70 ≤ c) → en_227 c = en c := fun c hc => Eq.trans (show en_227 c = en_226 c from by rw [hen_227, va_up_ne _ _ (by omega)]) (hf_226 c hc)
  refine lv_aload_n hx hb dX6_restart_29 rfl (lv_at hl 0 rfl) ?_
  refine lv_lconst (v := 0) hx hb dX6_restart_30 (by decide) ?_
  refine hp_put hx hb hts ix6 tyX6 tyX6_ok nmX6 hown hK hh (q := (34 + 4 * J)) rfl (hI.1 _ (by omega)) es222_227 rfl 8 (by decide) (hts _ tw_96) (fun _ h9 => h9) rfl (ty := .long) (by decide +kernel) rfl rfl (Nat.le_of_ble_eq_true rfl) dX6_restart_31 (fun H locs en_228 hen_228 hh => ?_)
  have es222_228 : en_228 (34 + 4 * J) = .inr (5, [.ref (ad (35 + 4 * J)), .ref (ad (36 + 4 * J)), .ref (ad (37 + 4 * J)), .int 0, .int 0, .int 0, .long (-1), .long 9223372036854775807, .long 0, .long tt_222]) := by rw [hen_228]; exact va_up_self _ _ _
  have hI_228 : SX cy cs ad en_228 := by rw [hen_228]; exact up_sv hI_227 (j := J) (by omega) ⟨0, 0, 0, (-1), 9223372036854775807, 0, tt_222, rfl, (by omega)⟩
  have hf_228 : ∀ c, (c < 12 ∨ 70 ≤ c) → en_228 c = en c := fun c hc => Eq.trans (show en_228 c = en_227 c from by rw [hen_228, va_up_ne _ _ (by omega)]) (hf_227 c hc)
  refine lv_aload_n hx hb dX6_restart_34 rfl (lv_at hl 0 rfl) ?_
  refine lv_ldc2 hx hb hown (hts _ tw_475) dX6_restart_35 ?_
  refine hp_put hx hb hts ix6 tyX6 tyX6_ok nmX6 hown hK hh (q := (34 + 4 * J)) rfl (hI.1 _ (by omega)) es222_228 rfl 9 (by decide) (hts _ tw_98) (fun _ h9 => h9) rfl (ty := .long) (by decide +kernel) rfl rfl (Nat.le_of_ble_eq_true rfl) dX6_restart_38 (fun H locs en_229 hen_229 hh => ?_)
  have es222_229 : en_229 (34 + 4 * J) = .inr (5, [.ref (ad (35 + 4 * J)), .ref (ad (36 + 4 * J)), .ref (ad (37 + 4 * J)), .int 0, .int 0, .int 0, .long (-1), .long 9223372036854775807, .long 0, .long (-1)]) := by rw [hen_229]; exact va_up_self _ _ _
  have hI_229 : SX cy cs ad en_229 := by rw [hen_229]; exact up_sv hI_228 (j := J) (by omega) ⟨0, 0, 0, (-1), 9223372036854775807, 0, (-1), rfl, (by omega)⟩
  have hf_229 : ∀ c, (c < 12 ∨ 70 ≤ c) → en_229 c = en c := fun c hc => Eq.trans (show en_229 c = en_228 c from by rw [hen_229, va_up_ne _ _ (by omega)]) (hf_228 c hc)
  exact hp_vretM hx hb hr hlocks hh (⟨hI_229, hf_229⟩) dX6_restart_41
theorem kw_X6_restart {R : Room} {s : State} {args : Array Value} {own : String} {idx : Nat} (hts : ∀ w ∈ TB, w.before args s = true) (hl : Cond.methodLink own idx yX6_restart ∈ TB) (hR : 0 + 1 ≤ R.frames ∧ 8 + (1 + 11) + 40 * 0 ≤ R.locals) : CallW R s args own RX6 idx yX6_restart cX6_restart 1 none (Cond.code yX6_restart cX6_restart 1 none :: TB) (rmN 0) 0 0 0 := cwV 0 hts (TB_V hl tw_472 tw_473 tw_4 tw_474) rfl rfl rfl (by decide +kernel) hR
set_option maxHeartbeats 4000000 in
set_option maxRecDepth 100000 in
/-- noteNorm -/
theorem c_X6_noteNorm (l : Launch) (D : va_G) (cy : Nat → ClassId) (sz : Nat) (cs : List Nat) (ad : Nat → Nat) (en : Nat → va_E) (hI : SX cy cs ad en) (J : Nat) (hJ : J < 9) (n : Nat) (hn : n ≤ 8) (v : Int64)   : Met l yX6_noteNorm (Cond.code yX6_noteNorm cX6_noteNorm 5 none :: TB) (rmN 1) (va_Pc [.ref (ad (34 + 4 * J)), .ref (ad 33), .int (nI n), .long v] (Pre D cy cs ad en sz)) (va_Qv (S := Nat → va_E) (fun en1 => SX cy cs ad en1 ∧ (∀ c, (c < 12 ∨ 70 ≤ c) → en1 c = en c)) (PostM D cs ad) (Af cs ad sz)) 0 0 (Af cs ad sz) := by
  refine Met.ofW (cc := cX6_noteNorm) (maxL := 5) (ret := none) (by decide) rfl ?_
  intro p e s m args below meth c s₁ B hml hv
  obtain ⟨rfl, hsz, hP, hK, hD0⟩ := hv
  have hx := B.exec
  have hb := B.bytes
  have hr := B.returns
  have hts : ∀ w ∈ TB, w.before _ s = true := fun w h => atoms_spec (ws := _ :: TB) B.pre w (List.mem_cons_of_mem _ h)
  have hown : s.vm.findClass RX6 = some m.cls := findClass_of_methodNamed B.named
  have hlocks := B.notSynchronized
  have hh : Hp D (Af cs ad sz) (Af cs ad sz) s.heap s.heap [] cs ad en := ⟨hP, Af_self hD0, va_S.rf⟩
  have hA : ∀ q : Nat, s.heap.size ≤ q → Af cs ad sz q := fun q h => Or.inr (by rw [hsz] at h; exact h)
  have hl := lv_entry ([.ref (ad (34 + 4 * J)), .ref (ad 33), .int (nI n), .long v]) (n := 5) (Nat.le_of_ble_eq_true rfl)
  rw [lg_entry_eq]
  generalize (lg_sl ([.ref (ad (34 + 4 * J)), .ref (ad 33), .int (nI n), .long v]) ++ List.replicate (5 - (lg_sl ([.ref (ad (34 + 4 * J)), .ref (ad 33), .int (nI n), .long v])).length) Slot.unset).toArray = ls at hl ⊢
  have hl : lv_has ls 5 [(0, .ref (ad (34 + 4 * J))), (1, .ref (ad 33)), (2, .int (nI n)), (3, .long v)] := hl
  have hf0 : ∀ c, (c < 12 ∨ 70 ≤ c) → en c = en c := fun _ _ => rfl
  refine lv_lload_n hx hb dX6_noteNorm_0 rfl (lv_at hl 3 rfl) ?_
  refine lv_lconst (v := 0) hx hb dX6_noteNorm_1 (by decide) ?_
  refine W.lcmp hx hb dX6_noteNorm_2 ?_
  refine lv_if_ne (tgt := 16) hx hb dX6_noteNorm_3 (by decide) (fun c_230 => ?_) (fun c_230 => ?_)
  · refine lv_lload_n hx hb dX6_noteNorm_16 rfl (lv_at hl 3 rfl) ?_
    refine lv_aload_n hx hb dX6_noteNorm_17 rfl (lv_at hl 0 rfl) ?_
    obtain ⟨dn_231, no_231, rc_231, gr_231, le_231, rt_231, tt_231, es231, p0_231⟩ := get_sv hI (j := J) (by omega)
    refine hp_get hx hb hts ix6 hown hK hh (q := (34 + 4 * J)) rfl (hI.1 _ (by omega)) es231 rfl 6 (by decide) (hts _ tw_91) (fun _ h9 => h9) rfl dX6_noteNorm_18 ?_
    refine W.lcmp hx hb dX6_noteNorm_21 ?_
    refine lv_if_le (tgt := 41) hx hb dX6_noteNorm_22 (by decide) (fun c_232 => ?_) (fun c_232 => ?_)
    · refine lv_lload_n hx hb dX6_noteNorm_41 rfl (lv_at hl 3 rfl) ?_
      refine lv_aload_n hx hb dX6_noteNorm_42 rfl (lv_at hl 0 rfl) ?_
      refine hp_get hx hb hts ix6 hown hK hh (q := (34 + 4 * J)) rfl (hI.1 _ (by omega)) es231 rfl 7 (by decide) (hts _ tw_94) (fun _ h9 => h9) rfl dX6_noteNorm_43 ?_
      refine W.lcmp hx hb dX6_noteNorm_46 ?_
      refine lv_if_ge (tgt := 66) hx hb dX6_noteNorm_47 (by decide) (fun c_233 => ?_) (fun c_233 => ?_)
      · exact hp_vretM hx hb hr hlocks hh (⟨hI, hf0⟩) dX6_noteNorm_66
      · refine lv_aload_n hx hb dX6_noteNorm_50 rfl (lv_at hl 0 rfl) ?_
        refine lv_lload_n hx hb dX6_noteNorm_51 rfl (lv_at hl 3 rfl) ?_
        refine hp_put hx hb hts ix6 tyX6 tyX6_ok nmX6 hown hK hh (q := (34 + 4 * J)) rfl (hI.1 _ (by omega)) es231 rfl 7 (by decide) (hts _ tw_94) (fun _ h9 => h9) rfl (ty := .long) (by decide +kernel) rfl rfl (Nat.le_of_ble_eq_true rfl) dX6_noteNorm_52 (fun H locs en_234 hen_234 hh => ?_)
        have es231_234 : en_234 (34 + 4 * J) = .inr (5, [.ref (ad (35 + 4 * J)), .ref (ad (36 + 4 * J)), .ref (ad (37 + 4 * J)), .int (nI dn_231), .int no_231, .int rc_231, .long gr_231, .long v, .long rt_231, .long tt_231]) := by rw [hen_234]; exact va_up_self _ _ _
        have hI_234 : SX cy cs ad en_234 := by rw [hen_234]; exact up_sv hI (j := J) (by omega) ⟨dn_231, no_231, rc_231, gr_231, v, rt_231, tt_231, rfl, p0_231⟩
        have hf_234 : ∀ c, (c < 12 ∨ 70 ≤ c) → en_234 c = en c := fun c hc => Eq.trans (show en_234 c = en c from by rw [hen_234, va_up_ne _ _ (by omega)]) (hf0 c hc)
        refine lv_aload_n hx hb dX6_noteNorm_55 rfl (lv_at hl 1 rfl) ?_
        refine lv_iconst (v := 0) hx hb dX6_noteNorm_56 (by decide) ?_
        refine lv_aload_n hx hb dX6_noteNorm_57 rfl (lv_at hl 0 rfl) ?_
        refine hp_get hx hb hts ix6 hown hK hh (q := (34 + 4 * J)) rfl (hI.1 _ (by omega)) es231_234 rfl 1 (by decide) (hts _ tw_81) (fun _ h9 => h9) rfl dX6_noteNorm_58 ?_
        refine lv_iconst (v := 0) hx hb dX6_noteNorm_61 (by decide) ?_
        refine lv_iload_n hx hb dX6_noteNorm_62 rfl (lv_at hl 2 rfl) ?_
        obtain ⟨f_235, es235⟩ := get_svb hI_234 (j := J) (by omega)
        obtain ⟨f_236, es236, p0_236⟩ := get_let hI_234
        refine W.eq (g2 := F0 m 63 ls [.int (nI n), .int (nI 0), .ref (ad (36 + 4 * J)), .int (nI 0), .ref (ad 33)]) rfl ?_
        refine hp_copyi hx hb (hml.trans hl.1.symm) hown (hts _ tw_498) (hts _ tw_340) (hts _ tw_339) (hts _ tw_12) hK hh (hI.1 _ (by decide)) (hI.1 _ (by omega)) es236 es235 0 0 n (by decide) (by decide) (by omega) (by omega) (by omega) (Nat.le_of_ble_eq_true rfl) (Nat.le_of_ble_eq_true rfl) dX6_noteNorm_63 (fun H locs en_237 hen_237 hh => ?_)
        have es231_237 : en_237 (34 + 4 * J) = .inr (5, [.ref (ad (35 + 4 * J)), .ref (ad (36 + 4 * J)), .ref (ad (37 + 4 * J)), .int (nI dn_231), .int no_231, .int rc_231, .long gr_231, .long v, .long rt_231, .long tt_231]) := by rw [hen_237, va_up_ne _ _ (by omega)]; exact es231_234
        have es236_237 : en_237 33 = .inl (cy 0, 8, .inl f_236) := by rw [hen_237, va_up_ne _ _ (by omega)]; exact es236
        have es235_237 : en_237 (36 + 4 * J) = .inl (cy 0, 8, .inl (va_cpy f_236 f_235 0 0 n)) := by rw [hen_237]; exact va_up_self _ _ _
        have hI_237 : SX cy cs ad en_237 := by rw [hen_237]; exact up_svb hI_234 (j := J) (by omega) ⟨(va_cpy f_236 f_235 0 0 n), rfl⟩
        have hf_237 : ∀ c, (c < 12 ∨ 70 ≤ c) → en_237 c = en c := fun c hc => Eq.trans (show en_237 c = en_234 c from by rw [hen_237, va_up_ne _ _ (by omega)]) (hf_234 c hc)
        exact hp_vretM hx hb hr hlocks hh (⟨hI_237, hf_237⟩) dX6_noteNorm_66
    · refine lv_aload_n hx hb dX6_noteNorm_25 rfl (lv_at hl 0 rfl) ?_
      refine lv_lload_n hx hb dX6_noteNorm_26 rfl (lv_at hl 3 rfl) ?_
      refine hp_put hx hb hts ix6 tyX6 tyX6_ok nmX6 hown hK hh (q := (34 + 4 * J)) rfl (hI.1 _ (by omega)) es231 rfl 6 (by decide) (hts _ tw_91) (fun _ h9 => h9) rfl (ty := .long) (by decide +kernel) rfl rfl (Nat.le_of_ble_eq_true rfl) dX6_noteNorm_27 (fun H locs en_238 hen_238 hh => ?_)
      have es231_238 : en_238 (34 + 4 * J) = .inr (5, [.ref (ad (35 + 4 * J)), .ref (ad (36 + 4 * J)), .ref (ad (37 + 4 * J)), .int (nI dn_231), .int no_231, .int rc_231, .long v, .long le_231, .long rt_231, .long tt_231]) := by rw [hen_238]; exact va_up_self _ _ _
      have hI_238 : SX cy cs ad en_238 := by rw [hen_238]; exact up_sv hI (j := J) (by omega) ⟨dn_231, no_231, rc_231, v, le_231, rt_231, tt_231, rfl, p0_231⟩
      have hf_238 : ∀ c, (c < 12 ∨ 70 ≤ c) → en_238 c = en c := fun c hc => Eq.trans (show en_238 c = en c from by rw [hen_238, va_up_ne _ _ (by omega)]) (hf0 c hc)
      refine lv_aload_n hx hb dX6_noteNorm_30 rfl (lv_at hl 1 rfl) ?_
      refine lv_iconst (v := 0) hx hb dX6_noteNorm_31 (by decide) ?_
      refine lv_aload_n hx hb dX6_noteNorm_32 rfl (lv_at hl 0 rfl) ?_
      refine hp_get hx hb hts ix6 hown hK hh (q := (34 + 4 * J)) rfl (hI.1 _ (by omega)) es231_238 rfl 0 (by decide) (hts _ tw_79) (fun _ h9 => h9) rfl dX6_noteNorm_33 ?_
      refine lv_iconst (v := 0) hx hb dX6_noteNorm_36 (by decide) ?_
      refine lv_iload_n hx hb dX6_noteNorm_37 rfl (lv_at hl 2 rfl) ?_
      obtain ⟨f_239, es239⟩ := get_sva hI_238 (j := J) (by omega)
      obtain ⟨f_240, es240, p0_240⟩ := get_let hI_238
      refine W.eq (g2 := F0 m 38 ls [.int (nI n), .int (nI 0), .ref (ad (35 + 4 * J)), .int (nI 0), .ref (ad 33)]) rfl ?_
      refine hp_copyi hx hb (hml.trans hl.1.symm) hown (hts _ tw_498) (hts _ tw_340) (hts _ tw_339) (hts _ tw_12) hK hh (hI.1 _ (by decide)) (hI.1 _ (by omega)) es240 es239 0 0 n (by decide) (by decide) (by omega) (by omega) (by omega) (Nat.le_of_ble_eq_true rfl) (Nat.le_of_ble_eq_true rfl) dX6_noteNorm_38 (fun H locs en_241 hen_241 hh => ?_)
      have es231_241 : en_241 (34 + 4 * J) = .inr (5, [.ref (ad (35 + 4 * J)), .ref (ad (36 + 4 * J)), .ref (ad (37 + 4 * J)), .int (nI dn_231), .int no_231, .int rc_231, .long v, .long le_231, .long rt_231, .long tt_231]) := by rw [hen_241, va_up_ne _ _ (by omega)]; exact es231_238
      have es240_241 : en_241 33 = .inl (cy 0, 8, .inl f_240) := by rw [hen_241, va_up_ne _ _ (by omega)]; exact es240
      have es239_241 : en_241 (35 + 4 * J) = .inl (cy 0, 8, .inl (va_cpy f_240 f_239 0 0 n)) := by rw [hen_241]; exact va_up_self _ _ _
      have hI_241 : SX cy cs ad en_241 := by rw [hen_241]; exact up_sva hI_238 (j := J) (by omega) ⟨(va_cpy f_240 f_239 0 0 n), rfl⟩
      have hf_241 : ∀ c, (c < 12 ∨ 70 ≤ c) → en_241 c = en c := fun c hc => Eq.trans (show en_241 c = en_238 c from by rw [hen_241, va_up_ne _ _ (by omega)]) (hf_238 c hc)
      refine lv_lload_n hx hb dX6_noteNorm_41 rfl (lv_at hl 3 rfl) ?_
      refine lv_aload_n hx hb dX6_noteNorm_42 rfl (lv_at hl 0 rfl) ?_
      refine hp_get hx hb hts ix6 hown hK hh (q := (34 + 4 * J)) rfl (hI.1 _ (by omega)) es231_241 rfl 7 (by decide) (hts _ tw_94) (fun _ h9 => h9) rfl dX6_noteNorm_43 ?_
      refine W.lcmp hx hb dX6_noteNorm_46 ?_
      refine lv_if_ge (tgt := 66) hx hb dX6_noteNorm_47 (by decide) (fun c_242 => ?_) (fun c_242 => ?_)
      · exact hp_vretM hx hb hr hlocks hh (⟨hI_241, hf_241⟩) dX6_noteNorm_66
      · refine lv_aload_n hx hb dX6_noteNorm_50 rfl (lv_at hl 0 rfl) ?_
        refine lv_lload_n hx hb dX6_noteNorm_51 rfl (lv_at hl 3 rfl) ?_
        refine hp_put hx hb hts ix6 tyX6 tyX6_ok nmX6 hown hK hh (q := (34 + 4 * J)) rfl (hI.1 _ (by omega)) es231_241 rfl 7 (by decide) (hts _ tw_94) (fun _ h9 => h9) rfl (ty := .long) (by decide +kernel) rfl rfl (Nat.le_of_ble_eq_true rfl) dX6_noteNorm_52 (fun H locs en_243 hen_243 hh => ?_)
        have es240_243 : en_243 33 = .inl (cy 0, 8, .inl f_240) := by rw [hen_243, va_up_ne _ _ (by omega)]; exact es240_241
        have es239_243 : en_243 (35 + 4 * J) = .inl (cy 0, 8, .inl (va_cpy f_240 f_239 0 0 n)) := by rw [hen_243, va_up_ne _ _ (by omega)]; exact es239_241
        have es231_243 : en_243 (34 + 4 * J) = .inr (5, [.ref (ad (35 + 4 * J)), .ref (ad (36 + 4 * J)), .ref (ad (37 + 4 * J)), .int (nI dn_231), .int no_231, .int rc_231, .long v, .long v, .long rt_231, .long tt_231]) := by rw [hen_243]; exact va_up_self _ _ _
        have hI_243 : SX cy cs ad en_243 := by rw [hen_243]; exact up_sv hI_241 (j := J) (by omega) ⟨dn_231, no_231, rc_231, v, v, rt_231, tt_231, rfl, p0_231⟩
        have hf_243 : ∀ c, (c < 12 ∨ 70 ≤ c) → en_243 c = en c := fun c hc => Eq.trans (show en_243 c = en_241 c from by rw [hen_243, va_up_ne _ _ (by omega)]) (hf_241 c hc)
        refine lv_aload_n hx hb dX6_noteNorm_55 rfl (lv_at hl 1 rfl) ?_
        refine lv_iconst (v := 0) hx hb dX6_noteNorm_56 (by decide) ?_
        refine lv_aload_n hx hb dX6_noteNorm_57 rfl (lv_at hl 0 rfl) ?_
        refine hp_get hx hb hts ix6 hown hK hh (q := (34 + 4 * J)) rfl (hI.1 _ (by omega)) es231_243 rfl 1 (by decide) (hts _ tw_81) (fun _ h9 => h9) rfl dX6_noteNorm_58 ?_
        refine lv_iconst (v := 0) hx hb dX6_noteNorm_61 (by decide) ?_
        refine lv_iload_n hx hb dX6_noteNorm_62 rfl (lv_at hl 2 rfl) ?_
        obtain ⟨f_244, es244⟩ := get_svb hI_243 (j := J) (by omega)
        refine W.eq (g2 := F0 m 63 ls [.int (nI n), .int (nI 0), .ref (ad (36 + 4 * J)), .int (nI 0), .ref (ad 33)]) rfl ?_
        refine hp_copyi hx hb (hml.trans hl.1.symm) hown (hts _ tw_498) (hts _ tw_340) (hts _ tw_339) (hts _ tw_12) hK hh (hI.1 _ (by decide)) (hI.1 _ (by omega)) es240_243 es244 0 0 n (by decide) (by decide) (by omega) (by omega) (by omega) (Nat.le_of_ble_eq_true rfl) (Nat.le_of_ble_eq_true rfl) dX6_noteNorm_63 (fun H locs en_245 hen_245 hh => ?_)
        have es240_245 : en_245 33 = .inl (cy 0, 8, .inl f_240) := by rw [hen_245, va_up_ne _ _ (by omega)]; exact es240_243
        have es239_245 : en_245 (35 + 4 * J) = .inl (cy 0, 8, .inl (va_cpy f_240 f_239 0 0 n)) := by rw [hen_245, va_up_ne _ _ (by omega)]; exact es239_243
        have es231_245 : en_245 (34 + 4 * J) = .inr (5, [.ref (ad (35 + 4 * J)), .ref (ad (36 + 4 * J)), .ref (ad (37 + 4 * J)), .int (nI dn_231), .int no_231, .int rc_231, .long v, .long v, .long rt_231, .long tt_231]) := by rw [hen_245, va_up_ne _ _ (by omega)]; exact es231_243
        have es244_245 : en_245 (36 + 4 * J) = .inl (cy 0, 8, .inl (va_cpy f_240 f_244 0 0 n)) := by rw [hen_245]; exact va_up_self _ _ _
        have hI_245 : SX cy cs ad en_245 := by rw [hen_245]; exact up_svb hI_243 (j := J) (by omega) ⟨(va_cpy f_240 f_244 0 0 n), rfl⟩
        have hf_245 : ∀ c, (c < 12 ∨ 70 ≤ c) → en_245 c = en c := fun c hc => Eq.trans (show en_245 c = en_243 c from by rw [hen_245, va_up_ne _ _ (by omega)]) (hf_243 c hc)
        exact hp_vretM hx hb hr hlocks hh (⟨hI_245, hf_245⟩) dX6_noteNorm_66
  · refine lv_aload_n hx hb dX6_noteNorm_6 rfl (lv_at hl 0 rfl) ?_
    refine lv_dup hx hb dX6_noteNorm_7 rfl ?_
    obtain ⟨dn_246, no_246, rc_246, gr_246, le_246, rt_246, tt_246, es246, p0_246⟩ := get_sv hI (j := J) (by omega)
    refine hp_get hx hb hts ix6 hown hK hh (q := (34 + 4 * J)) rfl (hI.1 _ (by omega)) es246 rfl 4 (by decide) (hts _ tw_87) (fun _ h9 => h9) rfl dX6_noteNorm_8 ?_
    refine lv_iconst (v := 1) hx hb dX6_noteNorm_11 (by decide) ?_
    refine lv_iadd hx hb dX6_noteNorm_12 ?_
    refine hp_put hx hb hts ix6 tyX6 tyX6_ok nmX6 hown hK hh (q := (34 + 4 * J)) rfl (hI.1 _ (by omega)) es246 rfl 4 (by decide) (hts _ tw_87) (fun _ h9 => h9) rfl (ty := .int) (by decide +kernel) rfl rfl (Nat.le_of_ble_eq_true rfl) dX6_noteNorm_13 (fun H locs en_247 hen_247 hh => ?_)
    have es246_247 : en_247 (34 + 4 * J) = .inr (5, [.ref (ad (35 + 4 * J)), .ref (ad (36 + 4 * J)), .ref (ad (37 + 4 * J)), .int (nI dn_246), .int (no_246 + 1), .int rc_246, .long gr_246, .long le_246, .long rt_246, .long tt_246]) := by rw [hen_247]; exact va_up_self _ _ _
    have hI_247 : SX cy cs ad en_247 := by rw [hen_247]; exact up_sv hI (j := J) (by omega) ⟨dn_246, (no_246 + 1), rc_246, gr_246, le_246, rt_246, tt_246, rfl, p0_246⟩
    have hf_247 : ∀ c, (c < 12 ∨ 70 ≤ c) → en_247 c = en c := fun c hc => Eq.trans (show en_247 c = en c from by rw [hen_247, va_up_ne _ _ (by omega)]) (hf0 c hc)
    refine lv_lload_n hx hb dX6_noteNorm_16 rfl (lv_at hl 3 rfl) ?_
    refine lv_aload_n hx hb dX6_noteNorm_17 rfl (lv_at hl 0 rfl) ?_
    refine hp_get hx hb hts ix6 hown hK hh (q := (34 + 4 * J)) rfl (hI.1 _ (by omega)) es246_247 rfl 6 (by decide) (hts _ tw_91) (fun _ h9 => h9) rfl dX6_noteNorm_18 ?_
    refine W.lcmp hx hb dX6_noteNorm_21 ?_
    refine lv_if_le (tgt := 41) hx hb dX6_noteNorm_22 (by decide) (fun c_248 => ?_) (fun c_248 => ?_)
    · refine lv_lload_n hx hb dX6_noteNorm_41 rfl (lv_at hl 3 rfl) ?_
      refine lv_aload_n hx hb dX6_noteNorm_42 rfl (lv_at hl 0 rfl) ?_
      refine hp_get hx hb hts ix6 hown hK hh (q := (34 + 4 * J)) rfl (hI.1 _ (by omega)) es246_247 rfl 7 (by decide) (hts _ tw_94) (fun _ h9 => h9) rfl dX6_noteNorm_43 ?_
      refine W.lcmp hx hb dX6_noteNorm_46 ?_
      refine lv_if_ge (tgt := 66) hx hb dX6_noteNorm_47 (by decide) (fun c_249 => ?_) (fun c_249 => ?_)
      · exact hp_vretM hx hb hr hlocks hh (⟨hI_247, hf_247⟩) dX6_noteNorm_66
      · refine lv_aload_n hx hb dX6_noteNorm_50 rfl (lv_at hl 0 rfl) ?_
        refine lv_lload_n hx hb dX6_noteNorm_51 rfl (lv_at hl 3 rfl) ?_
        refine hp_put hx hb hts ix6 tyX6 tyX6_ok nmX6 hown hK hh (q := (34 + 4 * J)) rfl (hI.1 _ (by omega)) es246_247 rfl 7 (by decide) (hts _ tw_94) (fun _ h9 => h9) rfl (ty := .long) (by decide +kernel) rfl rfl (Nat.le_of_ble_eq_true rfl) dX6_noteNorm_52 (fun H locs en_250 hen_250 hh => ?_)
        have es246_250 : en_250 (34 + 4 * J) = .inr (5, [.ref (ad (35 + 4 * J)), .ref (ad (36 + 4 * J)), .ref (ad (37 + 4 * J)), .int (nI dn_246), .int (no_246 + 1), .int rc_246, .long gr_246, .long v, .long rt_246, .long tt_246]) := by rw [hen_250]; exact va_up_self _ _ _
        have hI_250 : SX cy cs ad en_250 := by rw [hen_250]; exact up_sv hI_247 (j := J) (by omega) ⟨dn_246, (no_246 + 1), rc_246, gr_246, v, rt_246, tt_246, rfl, p0_246⟩
        have hf_250 : ∀ c, (c < 12 ∨ 70 ≤ c) → en_250 c = en c := fun c hc => Eq.trans (show en_250 c = en_247 c from by rw [hen_250, va_up_ne _ _ (by omega)]) (hf_247 c hc)
        refine lv_aload_n hx hb dX6_noteNorm_55 rfl (lv_at hl 1 rfl) ?_
        refine lv_iconst (v := 0) hx hb dX6_noteNorm_56 (by decide) ?_
        refine lv_aload_n hx hb dX6_noteNorm_57 rfl (lv_at hl 0 rfl) ?_
        refine hp_get hx hb hts ix6 hown hK hh (q := (34 + 4 * J)) rfl (hI.1 _ (by omega)) es246_250 rfl 1 (by decide) (hts _ tw_81) (fun _ h9 => h9) rfl dX6_noteNorm_58 ?_
        refine lv_iconst (v := 0) hx hb dX6_noteNorm_61 (by decide) ?_
        refine lv_iload_n hx hb dX6_noteNorm_62 rfl (lv_at hl 2 rfl) ?_
        obtain ⟨f_251, es251⟩ := get_svb hI_250 (j := J) (by omega)
        obtain ⟨f_252, es252, p0_252⟩ := get_let hI_250
        refine W.eq (g2 := F0 m 63 ls [.int (nI n), .int (nI 0), .ref (ad (36 + 4 * J)), .int (nI 0), .ref (ad 33)]) rfl ?_
        refine hp_copyi hx hb (hml.trans hl.1.symm) hown (hts _ tw_498) (hts _ tw_340) (hts _ tw_339) (hts _ tw_12) hK hh (hI.1 _ (by decide)) (hI.1 _ (by omega)) es252 es251 0 0 n (by decide) (by decide) (by omega) (by omega) (by omega) (Nat.le_of_ble_eq_true rfl) (Nat.le_of_ble_eq_true rfl) dX6_noteNorm_63 (fun H locs en_253 hen_253 hh => ?_)
        have es246_253 : en_253 (34 + 4 * J) = .inr (5, [.ref (ad (35 + 4 * J)), .ref (ad (36 + 4 * J)), .ref (ad (37 + 4 * J)), .int (nI dn_246), .int (no_246 + 1), .int rc_246, .long gr_246, .long v, .long rt_246, .long tt_246]) := by rw [hen_253, va_up_ne _ _ (by omega)]; exact es246_250
        have es252_253 : en_253 33 = .inl (cy 0, 8, .inl f_252) := by rw [hen_253, va_up_ne _ _ (by omega)]; exact es252
        have es251_253 : en_253 (36 + 4 * J) = .inl (cy 0, 8, .inl (va_cpy f_252 f_251 0 0 n)) := by rw [hen_253]; exact va_up_self _ _ _
        have hI_253 : SX cy cs ad en_253 := by rw [hen_253]; exact up_svb hI_250 (j := J) (by omega) ⟨(va_cpy f_252 f_251 0 0 n), rfl⟩
        have hf_253 : ∀ c, (c < 12 ∨ 70 ≤ c) → en_253 c = en c := fun c hc => Eq.trans (show en_253 c = en_250 c from by rw [hen_253, va_up_ne _ _ (by omega)]) (hf_250 c hc)
        exact hp_vretM hx hb hr hlocks hh (⟨hI_253, hf_253⟩) dX6_noteNorm_66
    · refine lv_aload_n hx hb dX6_noteNorm_25 rfl (lv_at hl 0 rfl) ?_
      refine lv_lload_n hx hb dX6_noteNorm_26 rfl (lv_at hl 3 rfl) ?_
      refine hp_put hx hb hts ix6 tyX6 tyX6_ok nmX6 hown hK hh (q := (34 + 4 * J)) rfl (hI.1 _ (by omega)) es246_247 rfl 6 (by decide) (hts _ tw_91) (fun _ h9 => h9) rfl (ty := .long) (by decide +kernel) rfl rfl (Nat.le_of_ble_eq_true rfl) dX6_noteNorm_27 (fun H locs en_254 hen_254 hh => ?_)
      have es246_254 : en_254 (34 + 4 * J) = .inr (5, [.ref (ad (35 + 4 * J)), .ref (ad (36 + 4 * J)), .ref (ad (37 + 4 * J)), .int (nI dn_246), .int (no_246 + 1), .int rc_246, .long v, .long le_246, .long rt_246, .long tt_246]) := by rw [hen_254]; exact va_up_self _ _ _
      have hI_254 : SX cy cs ad en_254 := by rw [hen_254]; exact up_sv hI_247 (j := J) (by omega) ⟨dn_246, (no_246 + 1), rc_246, v, le_246, rt_246, tt_246, rfl, p0_246⟩
      have hf_254 : ∀ c, (c < 12 ∨ 70 ≤ c) → en_254 c = en c := fun c hc => Eq.trans (show en_254 c = en_247 c from by rw [hen_254, va_up_ne _ _ (by omega)]) (hf_247 c hc)
      refine lv_aload_n hx hb dX6_noteNorm_30 rfl (lv_at hl 1 rfl) ?_
      refine lv_iconst (v := 0) hx hb dX6_noteNorm_31 (by decide) ?_
      refine lv_aload_n hx hb dX6_noteNorm_32 rfl (lv_at hl 0 rfl) ?_
      refine hp_get hx hb hts ix6 hown hK hh (q := (34 + 4 * J)) rfl (hI.1 _ (by omega)) es246_254 rfl 0 (by decide) (hts _ tw_79) (fun _ h9 => h9) rfl dX6_noteNorm_33 ?_
      refine lv_iconst (v := 0) hx hb dX6_noteNorm_36 (by decide) ?_
      refine lv_iload_n hx hb dX6_noteNorm_37 rfl (lv_at hl 2 rfl) ?_
      obtain ⟨f_255, es255⟩ := get_sva hI_254 (j := J) (by omega)
      obtain ⟨f_256, es256, p0_256⟩ := get_let hI_254
      refine W.eq (g2 := F0 m 38 ls [.int (nI n), .int (nI 0), .ref (ad (35 + 4 * J)), .int (nI 0), .ref (ad 33)]) rfl ?_
      refine hp_copyi hx hb (hml.trans hl.1.symm) hown (hts _ tw_498) (hts _ tw_340) (hts _ tw_339) (hts _ tw_12) hK hh (hI.1 _ (by decide)) (hI.1 _ (by omega)) es256 es255 0 0 n (by decide) (by decide) (by omega) (by omega) (by omega) (Nat.le_of_ble_eq_true rfl) (Nat.le_of_ble_eq_true rfl) dX6_noteNorm_38 (fun H locs en_257 hen_257 hh => ?_)
      have es246_257 : en_257 (34 + 4 * J) = .inr (5, [.ref (ad (35 + 4 * J)), .ref (ad (36 + 4 * J)), .ref (ad (37 + 4 * J)), .int (nI dn_246), .int (no_246 + 1), .int rc_246, .long v, .long le_246, .long rt_246, .long tt_246]) := by rw [hen_257, va_up_ne _ _ (by omega)]; exact es246_254
      have es256_257 : en_257 33 = .inl (cy 0, 8, .inl f_256) := by rw [hen_257, va_up_ne _ _ (by omega)]; exact es256
      have es255_257 : en_257 (35 + 4 * J) = .inl (cy 0, 8, .inl (va_cpy f_256 f_255 0 0 n)) := by rw [hen_257]; exact va_up_self _ _ _
      have hI_257 : SX cy cs ad en_257 := by rw [hen_257]; exact up_sva hI_254 (j := J) (by omega) ⟨(va_cpy f_256 f_255 0 0 n), rfl⟩
      have hf_257 : ∀ c, (c < 12 ∨ 70 ≤ c) → en_257 c = en c := fun c hc => Eq.trans (show en_257 c = en_254 c from by rw [hen_257, va_up_ne _ _ (by omega)]) (hf_254 c hc)
      refine lv_lload_n hx hb dX6_noteNorm_41 rfl (lv_at hl 3 rfl) ?_
      refine lv_aload_n hx hb dX6_noteNorm_42 rfl (lv_at hl 0 rfl) ?_
      refine hp_get hx hb hts ix6 hown hK hh (q := (34 + 4 * J)) rfl (hI.1 _ (by omega)) es246_257 rfl 7 (by decide) (hts _ tw_94) (fun _ h9 => h9) rfl dX6_noteNorm_43 ?_
      refine W.lcmp hx hb dX6_noteNorm_46 ?_
      refine lv_if_ge (tgt := 66) hx hb dX6_noteNorm_47 (by decide) (fun c_258 => ?_) (fun c_258 => ?_)
      · exact hp_vretM hx hb hr hlocks hh (⟨hI_257, hf_257⟩) dX6_noteNorm_66
      · refine lv_aload_n hx hb dX6_noteNorm_50 rfl (lv_at hl 0 rfl) ?_
        refine lv_lload_n hx hb dX6_noteNorm_51 rfl (lv_at hl 3 rfl) ?_
        refine hp_put hx hb hts ix6 tyX6 tyX6_ok nmX6 hown hK hh (q := (34 + 4 * J)) rfl (hI.1 _ (by omega)) es246_257 rfl 7 (by decide) (hts _ tw_94) (fun _ h9 => h9) rfl (ty := .long) (by decide +kernel) rfl rfl (Nat.le_of_ble_eq_true rfl) dX6_noteNorm_52 (fun H locs en_259 hen_259 hh => ?_)
        have es256_259 : en_259 33 = .inl (cy 0, 8, .inl f_256) := by rw [hen_259, va_up_ne _ _ (by omega)]; exact es256_257
        have es255_259 : en_259 (35 + 4 * J) = .inl (cy 0, 8, .inl (va_cpy f_256 f_255 0 0 n)) := by rw [hen_259, va_up_ne _ _ (by omega)]; exact es255_257
        have es246_259 : en_259 (34 + 4 * J) = .inr (5, [.ref (ad (35 + 4 * J)), .ref (ad (36 + 4 * J)), .ref (ad (37 + 4 * J)), .int (nI dn_246), .int (no_246 + 1), .int rc_246, .long v, .long v, .long rt_246, .long tt_246]) := by rw [hen_259]; exact va_up_self _ _ _
        have hI_259 : SX cy cs ad en_259 := by rw [hen_259]; exact up_sv hI_257 (j := J) (by omega) ⟨dn_246, (no_246 + 1), rc_246, v, v, rt_246, tt_246, rfl, p0_246⟩
        have hf_259 : ∀ c, (c < 12 ∨ 70 ≤ c) → en_259 c = en c := fun c hc => Eq.trans (show en_259 c = en_257 c from by rw [hen_259, va_up_ne _ _ (by omega)]) (hf_257 c hc)
        refine lv_aload_n hx hb dX6_noteNorm_55 rfl (lv_at hl 1 rfl) ?_
        refine lv_iconst (v := 0) hx hb dX6_noteNorm_56 (by decide) ?_
        refine lv_aload_n hx hb dX6_noteNorm_57 rfl (lv_at hl 0 rfl) ?_
        refine hp_get hx hb hts ix6 hown hK hh (q := (34 + 4 * J)) rfl (hI.1 _ (by omega)) es246_259 rfl 1 (by decide) (hts _ tw_81) (fun _ h9 => h9) rfl dX6_noteNorm_58 ?_
        refine lv_iconst (v := 0) hx hb dX6_noteNorm_61 (by decide) ?_
        refine lv_iload_n hx hb dX6_noteNorm_62 rfl (lv_at hl 2 rfl) ?_
        obtain ⟨f_260, es260⟩ := get_svb hI_259 (j := J) (by omega)
        refine W.eq (g2 := F0 m 63 ls [.int (nI n), .int (nI 0), .ref (ad (36 + 4 * J)), .int (nI 0), .ref (ad 33)]) rfl ?_
        refine hp_copyi hx hb (hml.trans hl.1.symm) hown (hts _ tw_498) (hts _ tw_340) (hts _ tw_339) (hts _ tw_12) hK hh (hI.1 _ (by decide)) (hI.1 _ (by omega)) es256_259 es260 0 0 n (by decide) (by decide) (by omega) (by omega) (by omega) (Nat.le_of_ble_eq_true rfl) (Nat.le_of_ble_eq_true rfl) dX6_noteNorm_63 (fun H locs en_261 hen_261 hh => ?_)
        have es256_261 : en_261 33 = .inl (cy 0, 8, .inl f_256) := by rw [hen_261, va_up_ne _ _ (by omega)]; exact es256_259
        have es255_261 : en_261 (35 + 4 * J) = .inl (cy 0, 8, .inl (va_cpy f_256 f_255 0 0 n)) := by rw [hen_261, va_up_ne _ _ (by omega)]; exact es255_259
        have es246_261 : en_261 (34 + 4 * J) = .inr (5, [.ref (ad (35 + 4 * J)), .ref (ad (36 + 4 * J)), .ref (ad (37 + 4 * J)), .int (nI dn_246), .int (no_246 + 1), .int rc_246, .long v, .long v, .long rt_246, .long tt_246]) := by rw [hen_261, va_up_ne _ _ (by omega)]; exact es246_259
        have es260_261 : en_261 (36 + 4 * J) = .inl (cy 0, 8, .inl (va_cpy f_256 f_260 0 0 n)) := by rw [hen_261]; exact va_up_self _ _ _
        have hI_261 : SX cy cs ad en_261 := by rw [hen_261]; exact up_svb hI_259 (j := J) (by omega) ⟨(va_cpy f_256 f_260 0 0 n), rfl⟩
        have hf_261 : ∀ c, (c < 12 ∨ 70 ≤ c) → en_261 c = en c := fun c hc => Eq.trans (show en_261 c = en_259 c from by rw [hen_261, va_up_ne _ _ (by omega)]) (hf_259 c hc)
        exact hp_vretM hx hb hr hlocks hh (⟨hI_261, hf_261⟩) dX6_noteNorm_66
theorem kw_X6_noteNorm {R : Room} {s : State} {args : Array Value} {own : String} {idx : Nat} (hts : ∀ w ∈ TB, w.before args s = true) (hl : Cond.methodLink own idx yX6_noteNorm ∈ TB) (hR : 1 + 1 ≤ R.frames ∧ 8 + (5 + 11) + 40 * 1 ≤ R.locals) : CallW R s args own RX6 idx yX6_noteNorm cX6_noteNorm 5 none (Cond.code yX6_noteNorm cX6_noteNorm 5 none :: TB) (rmN 1) 0 0 3 := cwV 3 hts (TB_V hl tw_495 tw_496 tw_4 tw_497) rfl rfl rfl (by decide +kernel) hR
set_option maxHeartbeats 4000000 in
set_option maxRecDepth 100000 in
/-- noteTurnable -/
theorem c_X6_noteTurnable (l : Launch) (D : va_G) (cy : Nat → ClassId) (sz : Nat) (cs : List Nat) (ad : Nat → Nat) (en : Nat → va_E) (hI : SX cy cs ad en) (J : Nat) (hJ : J < 9) (v : Int64)   : Met l yX6_noteTurnable (Cond.code yX6_noteTurnable cX6_noteTurnable 3 none :: TB) (rmN 1) (va_Pc [.ref (ad (34 + 4 * J)), .long v] (Pre D cy cs ad en sz)) (va_Qv (S := Nat → va_E) (fun en1 => SX cy cs ad en1 ∧ (∀ c, (c < 12 ∨ 70 ≤ c) → en1 c = en c)) (PostM D cs ad) (Af cs ad sz)) 0 0 (Af cs ad sz) := by
  refine Met.ofW (cc := cX6_noteTurnable) (maxL := 3) (ret := none) (by decide) rfl ?_
  intro p e s m args below meth c s₁ B hml hv
  obtain ⟨rfl, hsz, hP, hK, hD0⟩ := hv
  have hx := B.exec
  have hb := B.bytes
  have hr := B.returns
  have hts : ∀ w ∈ TB, w.before _ s = true := fun w h => atoms_spec (ws := _ :: TB) B.pre w (List.mem_cons_of_mem _ h)
  have hown : s.vm.findClass RX6 = some m.cls := findClass_of_methodNamed B.named
  have hlocks := B.notSynchronized
  have hh : Hp D (Af cs ad sz) (Af cs ad sz) s.heap s.heap [] cs ad en := ⟨hP, Af_self hD0, va_S.rf⟩
  have hA : ∀ q : Nat, s.heap.size ≤ q → Af cs ad sz q := fun q h => Or.inr (by rw [hsz] at h; exact h)
  have hl := lv_entry ([.ref (ad (34 + 4 * J)), .long v]) (n := 3) (Nat.le_of_ble_eq_true rfl)
  rw [lg_entry_eq]
  generalize (lg_sl ([.ref (ad (34 + 4 * J)), .long v]) ++ List.replicate (3 - (lg_sl ([.ref (ad (34 + 4 * J)), .long v])).length) Slot.unset).toArray = ls at hl ⊢
  have hl : lv_has ls 3 [(0, .ref (ad (34 + 4 * J))), (1, .long v)] := hl
  have hf0 : ∀ c, (c < 12 ∨ 70 ≤ c) → en c = en c := fun _ _ => rfl
  refine lv_aload_n hx hb dX6_noteTurnable_0 rfl (lv_at hl 0 rfl) ?_
  refine lv_aload_n hx hb dX6_noteTurnable_1 rfl (lv_at hl 0 rfl) ?_
  obtain ⟨dn_262, no_262, rc_262, gr_262, le_262, rt_262, tt_262, es262, p0_262⟩ := get_sv hI (j := J) (by omega)
  refine hp_get hx hb hts ix6 hown hK hh (q := (34 + 4 * J)) rfl (hI.1 _ (by omega)) es262 rfl 9 (by decide) (hts _ tw_98) (fun _ h9 => h9) rfl dX6_noteTurnable_2 ?_
  refine lv_lload_n hx hb dX6_noteTurnable_5 rfl (lv_at hl 1 rfl) ?_
  refine va_mabs_long hx hb (hml.trans hl.1.symm) hown (hts _ tw_512) (hts _ tw_489) (hts _ tw_11) (hts _ tw_490) (Nat.le_of_ble_eq_true rfl) (Nat.le_of_ble_eq_true rfl) (Nat.le_of_ble_eq_true rfl) (Nat.le_of_ble_eq_true rfl) dX6_noteTurnable_6 ?_
  refine W.eq (g2 := F0 m 9 ls [.long (absL v), .long tt_262, .ref (ad (34 + 4 * J))]) rfl ?_
  refine va_mmax_long hx hb (hml.trans hl.1.symm) hown (hts _ tw_513) (hts _ tw_492) (hts _ tw_11) (hts _ tw_493) (Nat.le_of_ble_eq_true rfl) (Nat.le_of_ble_eq_true rfl) (Nat.le_of_ble_eq_true rfl) (Nat.le_of_ble_eq_true rfl) dX6_noteTurnable_9 ?_
  refine W.eq (g2 := F0 m 12 ls [.long (maxL tt_262 (absL v)), .ref (ad (34 + 4 * J))]) rfl ?_
  refine hp_put hx hb hts ix6 tyX6 tyX6_ok nmX6 hown hK hh (q := (34 + 4 * J)) rfl (hI.1 _ (by omega)) es262 rfl 9 (by decide) (hts _ tw_98) (fun _ h9 => h9) rfl (ty := .long) (by decide +kernel) rfl rfl (Nat.le_of_ble_eq_true rfl) dX6_noteTurnable_12 (fun H locs en_263 hen_263 hh => ?_)
  have es262_263 : en_263 (34 + 4 * J) = .inr (5, [.ref (ad (35 + 4 * J)), .ref (ad (36 + 4 * J)), .ref (ad (37 + 4 * J)), .int (nI dn_262), .int no_262, .int rc_262, .long gr_262, .long le_262, .long rt_262, .long (maxL tt_262 (absL v))]) := by rw [hen_263]; exact va_up_self _ _ _
  have hI_263 : SX cy cs ad en_263 := by rw [hen_263]; exact up_sv hI (j := J) (by omega) ⟨dn_262, no_262, rc_262, gr_262, le_262, rt_262, (maxL tt_262 (absL v)), rfl, p0_262⟩
  have hf_263 : ∀ c, (c < 12 ∨ 70 ≤ c) → en_263 c = en c := fun c hc => Eq.trans (show en_263 c = en c from by rw [hen_263, va_up_ne _ _ (by omega)]) (hf0 c hc)
  exact hp_vretM hx hb hr hlocks hh (⟨hI_263, hf_263⟩) dX6_noteTurnable_15
theorem kw_X6_noteTurnable {R : Room} {s : State} {args : Array Value} {own : String} {idx : Nat} (hts : ∀ w ∈ TB, w.before args s = true) (hl : Cond.methodLink own idx yX6_noteTurnable ∈ TB) (hR : 1 + 1 ≤ R.frames ∧ 8 + (3 + 11) + 40 * 1 ≤ R.locals) : CallW R s args own RX6 idx yX6_noteTurnable cX6_noteTurnable 3 none (Cond.code yX6_noteTurnable cX6_noteTurnable 3 none :: TB) (rmN 1) 0 0 1 := cwV 1 hts (TB_V hl tw_509 tw_510 tw_4 tw_511) rfl rfl rfl (by decide +kernel) hR
set_option maxHeartbeats 4000000 in
set_option maxRecDepth 100000 in
/-- noteRing -/
theorem c_X6_noteRing (l : Launch) (D : va_G) (cy : Nat → ClassId) (sz : Nat) (cs : List Nat) (ad : Nat → Nat) (en : Nat → va_E) (hI : SX cy cs ad en) (J : Nat) (hJ : J < 9) (n : Nat) (hn : n ≤ 8) (v : Int64)   : Met l yX6_noteRing (Cond.code yX6_noteRing cX6_noteRing 5 none :: TB) (rmN 1) (va_Pc [.ref (ad (34 + 4 * J)), .ref (ad 33), .int (nI n), .long v] (Pre D cy cs ad en sz)) (va_Qv (S := Nat → va_E) (fun en1 => SX cy cs ad en1 ∧ (∀ c, (c < 12 ∨ 70 ≤ c) → en1 c = en c)) (PostM D cs ad) (Af cs ad sz)) 0 0 (Af cs ad sz) := by
  refine Met.ofW (cc := cX6_noteRing) (maxL := 5) (ret := none) (by decide) rfl ?_
  intro p e s m args below meth c s₁ B hml hv
  obtain ⟨rfl, hsz, hP, hK, hD0⟩ := hv
  have hx := B.exec
  have hb := B.bytes
  have hr := B.returns
  have hts : ∀ w ∈ TB, w.before _ s = true := fun w h => atoms_spec (ws := _ :: TB) B.pre w (List.mem_cons_of_mem _ h)
  have hown : s.vm.findClass RX6 = some m.cls := findClass_of_methodNamed B.named
  have hlocks := B.notSynchronized
  have hh : Hp D (Af cs ad sz) (Af cs ad sz) s.heap s.heap [] cs ad en := ⟨hP, Af_self hD0, va_S.rf⟩
  have hA : ∀ q : Nat, s.heap.size ≤ q → Af cs ad sz q := fun q h => Or.inr (by rw [hsz] at h; exact h)
  have hl := lv_entry ([.ref (ad (34 + 4 * J)), .ref (ad 33), .int (nI n), .long v]) (n := 5) (Nat.le_of_ble_eq_true rfl)
  rw [lg_entry_eq]
  generalize (lg_sl ([.ref (ad (34 + 4 * J)), .ref (ad 33), .int (nI n), .long v]) ++ List.replicate (5 - (lg_sl ([.ref (ad (34 + 4 * J)), .ref (ad 33), .int (nI n), .long v])).length) Slot.unset).toArray = ls at hl ⊢
  have hl : lv_has ls 5 [(0, .ref (ad (34 + 4 * J))), (1, .ref (ad 33)), (2, .int (nI n)), (3, .long v)] := hl
  have hf0 : ∀ c, (c < 12 ∨ 70 ≤ c) → en c = en c := fun _ _ => rfl
  refine lv_aload_n hx hb dX6_noteRing_0 rfl (lv_at hl 0 rfl) ?_
  refine lv_dup hx hb dX6_noteRing_1 rfl ?_
  obtain ⟨dn_264, no_264, rc_264, gr_264, le_264, rt_264, tt_264, es264, p0_264⟩ := get_sv hI (j := J) (by omega)
  refine hp_get hx hb hts ix6 hown hK hh (q := (34 + 4 * J)) rfl (hI.1 _ (by omega)) es264 rfl 5 (by decide) (hts _ tw_89) (fun _ h9 => h9) rfl dX6_noteRing_2 ?_
  refine lv_iconst (v := 1) hx hb dX6_noteRing_5 (by decide) ?_
  refine lv_iadd hx hb dX6_noteRing_6 ?_
  refine hp_put hx hb hts ix6 tyX6 tyX6_ok nmX6 hown hK hh (q := (34 + 4 * J)) rfl (hI.1 _ (by omega)) es264 rfl 5 (by decide) (hts _ tw_89) (fun _ h9 => h9) rfl (ty := .int) (by decide +kernel) rfl rfl (Nat.le_of_ble_eq_true rfl) dX6_noteRing_7 (fun H locs en_265 hen_265 hh => ?_)
  have es264_265 : en_265 (34 + 4 * J) = .inr (5, [.ref (ad (35 + 4 * J)), .ref (ad (36 + 4 * J)), .ref (ad (37 + 4 * J)), .int (nI dn_264), .int no_264, .int (rc_264 + 1), .long gr_264, .long le_264, .long rt_264, .long tt_264]) := by rw [hen_265]; exact va_up_self _ _ _
  have hI_265 : SX cy cs ad en_265 := by rw [hen_265]; exact up_sv hI (j := J) (by omega) ⟨dn_264, no_264, (rc_264 + 1), gr_264, le_264, rt_264, tt_264, rfl, p0_264⟩
  have hf_265 : ∀ c, (c < 12 ∨ 70 ≤ c) → en_265 c = en c := fun c hc => Eq.trans (show en_265 c = en c from by rw [hen_265, va_up_ne _ _ (by omega)]) (hf0 c hc)
  refine lv_aload_n hx hb dX6_noteRing_10 rfl (lv_at hl 0 rfl) ?_
  refine hp_get hx hb hts ix6 hown hK hh (q := (34 + 4 * J)) rfl (hI.1 _ (by omega)) es264_265 rfl 5 (by decide) (hts _ tw_89) (fun _ h9 => h9) rfl dX6_noteRing_11 ?_
  refine lv_iconst (v := 1) hx hb dX6_noteRing_14 (by decide) ?_
  refine lv_icmp_eq (tgt := 33) hx hb dX6_noteRing_15 (by decide) (fun c_266 => ?_) (fun c_266 => ?_)
  · refine lv_aload_n hx hb dX6_noteRing_33 rfl (lv_at hl 0 rfl) ?_
    refine lv_lload_n hx hb dX6_noteRing_34 rfl (lv_at hl 3 rfl) ?_
    refine hp_put hx hb hts ix6 tyX6 tyX6_ok nmX6 hown hK hh (q := (34 + 4 * J)) rfl (hI.1 _ (by omega)) es264_265 rfl 8 (by decide) (hts _ tw_96) (fun _ h9 => h9) rfl (ty := .long) (by decide +kernel) rfl rfl (Nat.le_of_ble_eq_true rfl) dX6_noteRing_35 (fun H locs en_267 hen_267 hh => ?_)
    have es264_267 : en_267 (34 + 4 * J) = .inr (5, [.ref (ad (35 + 4 * J)), .ref (ad (36 + 4 * J)), .ref (ad (37 + 4 * J)), .int (nI dn_264), .int no_264, .int (rc_264 + 1), .long gr_264, .long le_264, .long v, .long tt_264]) := by rw [hen_267]; exact va_up_self _ _ _
    have hI_267 : SX cy cs ad en_267 := by rw [hen_267]; exact up_sv hI_265 (j := J) (by omega) ⟨dn_264, no_264, (rc_264 + 1), gr_264, le_264, v, tt_264, rfl, p0_264⟩
    have hf_267 : ∀ c, (c < 12 ∨ 70 ≤ c) → en_267 c = en c := fun c hc => Eq.trans (show en_267 c = en_265 c from by rw [hen_267, va_up_ne _ _ (by omega)]) (hf_265 c hc)
    refine lv_aload_n hx hb dX6_noteRing_38 rfl (lv_at hl 1 rfl) ?_
    refine lv_iconst (v := 0) hx hb dX6_noteRing_39 (by decide) ?_
    refine lv_aload_n hx hb dX6_noteRing_40 rfl (lv_at hl 0 rfl) ?_
    refine hp_get hx hb hts ix6 hown hK hh (q := (34 + 4 * J)) rfl (hI.1 _ (by omega)) es264_267 rfl 2 (by decide) (hts _ tw_83) (fun _ h9 => h9) rfl dX6_noteRing_41 ?_
    refine lv_iconst (v := 0) hx hb dX6_noteRing_44 (by decide) ?_
    refine lv_iload_n hx hb dX6_noteRing_45 rfl (lv_at hl 2 rfl) ?_
    obtain ⟨f_268, es268⟩ := get_svc hI_267 (j := J) (by omega)
    obtain ⟨f_269, es269, p0_269⟩ := get_let hI_267
    refine W.eq (g2 := F0 m 46 ls [.int (nI n), .int (nI 0), .ref (ad (37 + 4 * J)), .int (nI 0), .ref (ad 33)]) rfl ?_
    refine hp_copyi hx hb (hml.trans hl.1.symm) hown (hts _ tw_498) (hts _ tw_340) (hts _ tw_339) (hts _ tw_12) hK hh (hI.1 _ (by decide)) (hI.1 _ (by omega)) es269 es268 0 0 n (by decide) (by decide) (by omega) (by omega) (by omega) (Nat.le_of_ble_eq_true rfl) (Nat.le_of_ble_eq_true rfl) dX6_noteRing_46 (fun H locs en_270 hen_270 hh => ?_)
    have es264_270 : en_270 (34 + 4 * J) = .inr (5, [.ref (ad (35 + 4 * J)), .ref (ad (36 + 4 * J)), .ref (ad (37 + 4 * J)), .int (nI dn_264), .int no_264, .int (rc_264 + 1), .long gr_264, .long le_264, .long v, .long tt_264]) := by rw [hen_270, va_up_ne _ _ (by omega)]; exact es264_267
    have es269_270 : en_270 33 = .inl (cy 0, 8, .inl f_269) := by rw [hen_270, va_up_ne _ _ (by omega)]; exact es269
    have es268_270 : en_270 (37 + 4 * J) = .inl (cy 0, 8, .inl (va_cpy f_269 f_268 0 0 n)) := by rw [hen_270]; exact va_up_self _ _ _
    have hI_270 : SX cy cs ad en_270 := by rw [hen_270]; exact up_svc hI_267 (j := J) (by omega) ⟨(va_cpy f_269 f_268 0 0 n), rfl⟩
    have hf_270 : ∀ c, (c < 12 ∨ 70 ≤ c) → en_270 c = en c := fun c hc => Eq.trans (show en_270 c = en_267 c from by rw [hen_270, va_up_ne _ _ (by omega)]) (hf_267 c hc)
    exact hp_vretM hx hb hr hlocks hh (⟨hI_270, hf_270⟩) dX6_noteRing_49
  · refine lv_lload_n hx hb dX6_noteRing_18 rfl (lv_at hl 3 rfl) ?_
    refine va_mabs_long hx hb (hml.trans hl.1.symm) hown (hts _ tw_512) (hts _ tw_489) (hts _ tw_11) (hts _ tw_490) (Nat.le_of_ble_eq_true rfl) (Nat.le_of_ble_eq_true rfl) (Nat.le_of_ble_eq_true rfl) (Nat.le_of_ble_eq_true rfl) dX6_noteRing_19 ?_
    refine W.eq (g2 := F0 m 22 ls [.long (absL v)]) rfl ?_
    refine lv_aload_n hx hb dX6_noteRing_22 rfl (lv_at hl 0 rfl) ?_
    refine hp_get hx hb hts ix6 hown hK hh (q := (34 + 4 * J)) rfl (hI.1 _ (by omega)) es264_265 rfl 8 (by decide) (hts _ tw_96) (fun _ h9 => h9) rfl dX6_noteRing_23 ?_
    refine va_mabs_long hx hb (hml.trans hl.1.symm) hown (hts _ tw_512) (hts _ tw_489) (hts _ tw_11) (hts _ tw_490) (Nat.le_of_ble_eq_true rfl) (Nat.le_of_ble_eq_true rfl) (Nat.le_of_ble_eq_true rfl) (Nat.le_of_ble_eq_true rfl) dX6_noteRing_26 ?_
    refine W.eq (g2 := F0 m 29 ls [.long (absL rt_264), .long (absL v)]) rfl ?_
    refine W.lcmp hx hb dX6_noteRing_29 ?_
    refine lv_if_le (tgt := 49) hx hb dX6_noteRing_30 (by decide) (fun c_271 => ?_) (fun c_271 => ?_)
    · exact hp_vretM hx hb hr hlocks hh (⟨hI_265, hf_265⟩) dX6_noteRing_49
    · refine lv_aload_n hx hb dX6_noteRing_33 rfl (lv_at hl 0 rfl) ?_
      refine lv_lload_n hx hb dX6_noteRing_34 rfl (lv_at hl 3 rfl) ?_
      refine hp_put hx hb hts ix6 tyX6 tyX6_ok nmX6 hown hK hh (q := (34 + 4 * J)) rfl (hI.1 _ (by omega)) es264_265 rfl 8 (by decide) (hts _ tw_96) (fun _ h9 => h9) rfl (ty := .long) (by decide +kernel) rfl rfl (Nat.le_of_ble_eq_true rfl) dX6_noteRing_35 (fun H locs en_272 hen_272 hh => ?_)
      have es264_272 : en_272 (34 + 4 * J) = .inr (5, [.ref (ad (35 + 4 * J)), .ref (ad (36 + 4 * J)), .ref (ad (37 + 4 * J)), .int (nI dn_264), .int no_264, .int (rc_264 + 1), .long gr_264, .long le_264, .long v, .long tt_264]) := by rw [hen_272]; exact va_up_self _ _ _
      have hI_272 : SX cy cs ad en_272 := by rw [hen_272]; exact up_sv hI_265 (j := J) (by omega) ⟨dn_264, no_264, (rc_264 + 1), gr_264, le_264, v, tt_264, rfl, p0_264⟩
      have hf_272 : ∀ c, (c < 12 ∨ 70 ≤ c) → en_272 c = en c := fun c hc => Eq.trans (show en_272 c = en_265 c from by rw [hen_272, va_up_ne _ _ (by omega)]) (hf_265 c hc)
      refine lv_aload_n hx hb dX6_noteRing_38 rfl (lv_at hl 1 rfl) ?_
      refine lv_iconst (v := 0) hx hb dX6_noteRing_39 (by decide) ?_
      refine lv_aload_n hx hb dX6_noteRing_40 rfl (lv_at hl 0 rfl) ?_
      refine hp_get hx hb hts ix6 hown hK hh (q := (34 + 4 * J)) rfl (hI.1 _ (by omega)) es264_272 rfl 2 (by decide) (hts _ tw_83) (fun _ h9 => h9) rfl dX6_noteRing_41 ?_
      refine lv_iconst (v := 0) hx hb dX6_noteRing_44 (by decide) ?_
      refine lv_iload_n hx hb dX6_noteRing_45 rfl (lv_at hl 2 rfl) ?_
      obtain ⟨f_273, es273⟩ := get_svc hI_272 (j := J) (by omega)
      obtain ⟨f_274, es274, p0_274⟩ := get_let hI_272
      refine W.eq (g2 := F0 m 46 ls [.int (nI n), .int (nI 0), .ref (ad (37 + 4 * J)), .int (nI 0), .ref (ad 33)]) rfl ?_
      refine hp_copyi hx hb (hml.trans hl.1.symm) hown (hts _ tw_498) (hts _ tw_340) (hts _ tw_339) (hts _ tw_12) hK hh (hI.1 _ (by decide)) (hI.1 _ (by omega)) es274 es273 0 0 n (by decide) (by decide) (by omega) (by omega) (by omega) (Nat.le_of_ble_eq_true rfl) (Nat.le_of_ble_eq_true rfl) dX6_noteRing_46 (fun H locs en_275 hen_275 hh => ?_)
      have es264_275 : en_275 (34 + 4 * J) = .inr (5, [.ref (ad (35 + 4 * J)), .ref (ad (36 + 4 * J)), .ref (ad (37 + 4 * J)), .int (nI dn_264), .int no_264, .int (rc_264 + 1), .long gr_264, .long le_264, .long v, .long tt_264]) := by rw [hen_275, va_up_ne _ _ (by omega)]; exact es264_272
      have es274_275 : en_275 33 = .inl (cy 0, 8, .inl f_274) := by rw [hen_275, va_up_ne _ _ (by omega)]; exact es274
      have es273_275 : en_275 (37 + 4 * J) = .inl (cy 0, 8, .inl (va_cpy f_274 f_273 0 0 n)) := by rw [hen_275]; exact va_up_self _ _ _
      have hI_275 : SX cy cs ad en_275 := by rw [hen_275]; exact up_svc hI_272 (j := J) (by omega) ⟨(va_cpy f_274 f_273 0 0 n), rfl⟩
      have hf_275 : ∀ c, (c < 12 ∨ 70 ≤ c) → en_275 c = en c := fun c hc => Eq.trans (show en_275 c = en_272 c from by rw [hen_275, va_up_ne _ _ (by omega)]) (hf_272 c hc)
      exact hp_vretM hx hb hr hlocks hh (⟨hI_275, hf_275⟩) dX6_noteRing_49
theorem kw_X6_noteRing {R : Room} {s : State} {args : Array Value} {own : String} {idx : Nat} (hts : ∀ w ∈ TB, w.before args s = true) (hl : Cond.methodLink own idx yX6_noteRing ∈ TB) (hR : 1 + 1 ≤ R.frames ∧ 8 + (5 + 11) + 40 * 1 ≤ R.locals) : CallW R s args own RX6 idx yX6_noteRing cX6_noteRing 5 none (Cond.code yX6_noteRing cX6_noteRing 5 none :: TB) (rmN 1) 0 0 3 := cwV 3 hts (TB_V hl tw_521 tw_522 tw_4 tw_523) rfl rfl rfl (by decide +kernel) hR
set_option maxHeartbeats 4000000 in
set_option maxRecDepth 100000 in
/-- extendPrefix -/
theorem c_X2_extendPrefix (l : Launch) (D : va_G) (cy : Nat → ClassId) (sz : Nat) (cs : List Nat) (ad : Nat → Nat) (en : Nat → va_E) (hI : SX cy cs ad en) (dp le : Nat) (hdp : dp < 8) (hle : le < 6)   : Met l yX2_extendPrefix (Cond.code yX2_extendPrefix cX2_extendPrefix 3 none :: TB) (rmN 2) (va_Pc [.ref (ad 12), .int (nI dp), .int (nI le)] (Pre D cy cs ad en sz)) (va_Qv (S := Nat → va_E) (fun en1 => SX cy cs ad en1 ∧ (∀ c, (c < 12 ∨ 70 ≤ c) → en1 c = en c)) (PostM D cs ad) (Af cs ad sz)) 0 0 (Af cs ad sz) := by
  refine Met.ofW (cc := cX2_extendPrefix) (maxL := 3) (ret := none) (by decide) rfl ?_
  intro p e s m args below meth c s₁ B hml hv
  obtain ⟨rfl, hsz, hP, hK, hD0⟩ := hv
  have hx := B.exec
  have hb := B.bytes
  have hr := B.returns
  have hts : ∀ w ∈ TB, w.before _ s = true := fun w h => atoms_spec (ws := _ :: TB) B.pre w (List.mem_cons_of_mem _ h)
  have hown : s.vm.findClass RX2 = some m.cls := findClass_of_methodNamed B.named
  have hlocks := B.notSynchronized
  have hh : Hp D (Af cs ad sz) (Af cs ad sz) s.heap s.heap [] cs ad en := ⟨hP, Af_self hD0, va_S.rf⟩
  have hA : ∀ q : Nat, s.heap.size ≤ q → Af cs ad sz q := fun q h => Or.inr (by rw [hsz] at h; exact h)
  have hl := lv_entry ([.ref (ad 12), .int (nI dp), .int (nI le)]) (n := 3) (Nat.le_of_ble_eq_true rfl)
  rw [lg_entry_eq]
  generalize (lg_sl ([.ref (ad 12), .int (nI dp), .int (nI le)]) ++ List.replicate (3 - (lg_sl ([.ref (ad 12), .int (nI dp), .int (nI le)])).length) Slot.unset).toArray = ls at hl ⊢
  have hl : lv_has ls 3 [(0, .ref (ad 12)), (1, .int (nI dp)), (2, .int (nI le))] := hl
  have hf0 : ∀ c, (c < 12 ∨ 70 ≤ c) → en c = en c := fun _ _ => rfl
  obtain ⟨cnt, d, mm, es276, hcnt, hd2, hd3, hmm⟩ := get_T hI
  refine lv_aload_n hx hb dX2_extendPrefix_0 rfl (lv_at hl 0 rfl) ?_
  obtain ⟨hw_277, es277, p0_277⟩ := get_L hI
  refine hp_get hx hb hts ix2 hown hK hh (q := 12) rfl (hI.1 _ (by decide)) es277 rfl 4 (by decide) (hts _ tw_126) (fun _ h9 => h9) rfl dX2_extendPrefix_1 ?_
  refine lv_iload_n hx hb dX2_extendPrefix_4 rfl (lv_at hl 1 rfl) ?_
  refine lv_iload_n hx hb dX2_extendPrefix_5 rfl (lv_at hl 2 rfl) ?_
  obtain ⟨f_278, es278, p0_278⟩ := get_let hI
  refine hp_iast hx hb hK hh (q := 33) rfl (hI.1 _ (by decide)) es278 (vp_in_nI (n := dp) (by omega) (by decide)) dX2_extendPrefix_6 (fun H locs en_279 hen_279 hh => ?_)
  rw [nI_clamp (n := dp) (by omega)] at hen_279
  have es276_279 : en_279 1 = .inr (7, [.ref (ad 2), .ref (ad 3), .ref (ad 10), .ref (ad 11), .int (nI cnt), .int (nI d), .int (nI mm)]) := by rw [hen_279, va_up_ne _ _ (by decide)]; exact es276
  have es277_279 : en_279 12 = .inr (2, [.ref (ad 1), .ref (ad 13), .ref (ad 14), .ref (ad 24), .ref (ad 33), .int (nI hw_277)]) := by rw [hen_279, va_up_ne _ _ (by decide)]; exact es277
  have es278_279 : en_279 33 = .inl (cy 0, 8, .inl (upd f_278 dp (nI le))) := by rw [hen_279]; exact va_up_self _ _ _
  have hI_279 : SX cy cs ad en_279 := by rw [hen_279]; exact up_let hI ⟨(upd f_278 dp (nI le)), rfl, (vals_upd p0_278 hle)⟩
  have hf_279 : ∀ c, (c < 12 ∨ 70 ≤ c) → en_279 c = en c := fun c hc => Eq.trans (show en_279 c = en c from by rw [hen_279, va_up_ne _ _ (by omega)]) (hf0 c hc)
  refine lv_iload_n hx hb dX2_extendPrefix_7 rfl (lv_at hl 1 rfl) ?_
  refine lv_if_ne (tgt := 35) hx hb dX2_extendPrefix_8 (by decide) (fun c_280 => ?_) (fun c_280 => ?_)
  · have n_280 : dp ≠ 0 := n_neq (a := dp) (b := 0) c_280 (by omega) (by decide)
    refine lv_aload_n hx hb dX2_extendPrefix_35 rfl (lv_at hl 0 rfl) ?_
    refine hp_get hx hb hts ix2 hown hK hh (q := 12) rfl (hI.1 _ (by decide)) es277_279 rfl 0 (by decide) (hts _ tw_122) (fun _ h9 => h9) rfl dX2_extendPrefix_36 ?_
    refine lv_aload_n hx hb dX2_extendPrefix_39 rfl (lv_at hl 0 rfl) ?_
    refine hp_get hx hb hts ix2 hown hK hh (q := 12) rfl (hI.1 _ (by decide)) es277_279 rfl 3 (by decide) (hts _ tw_125) (fun _ h9 => h9) rfl dX2_extendPrefix_40 ?_
    refine lv_iload_n hx hb dX2_extendPrefix_43 rfl (lv_at hl 1 rfl) ?_
    refine lv_iconst (v := 1) hx hb dX2_extendPrefix_44 (by decide) ?_
    refine lv_isub hx hb dX2_extendPrefix_45 ?_
    rw [show (1 : Int32) = nI 1 from rfl, pk_sub (a := dp) (b := 1) (by omega)]
    have es281 := get_pfs hI_279
    unfold P_pfs at es281
    refine hp_aald hx hb hK hh (q := 24) rfl (hI.1 _ (by decide)) 8 es281 rfl rfl (vp_in_nI (n := (dp - 1)) (by omega) (by decide)) (v := .ref (ad (25 + (dp - 1)))) (by rw [nI_clamp (n := (dp - 1)) (by omega)]; rfl) dX2_extendPrefix_46 ?_
    refine lv_aload_n hx hb dX2_extendPrefix_47 rfl (lv_at hl 0 rfl) ?_
    refine hp_get hx hb hts ix2 hown hK hh (q := 12) rfl (hI.1 _ (by decide)) es277_279 rfl 0 (by decide) (hts _ tw_122) (fun _ h9 => h9) rfl dX2_extendPrefix_48 ?_
    refine lv_iload_n hx hb dX2_extendPrefix_51 rfl (lv_at hl 2 rfl) ?_
    have es282 := get_rows hI_279
    unfold P_rows at es282
    refine hp_callRq (va_runV (As := [.int (nI le)]) (rest := [.ref (ad (25 + (dp - 1))), .ref (ad 1)]) ⟨hx, hb, hml, hown, hts⟩ (c_X8_rowOf l D cy _ cs ad en_279 (hI.1 _ (by decide)) (hI.1 _ (by decide)) cnt d mm hcnt hd2 hd3 hmm le (by omega) es276_279 es282) (kw_X8_rowOf hts tw_532 ⟨by decide, by decide⟩) (preV_of hh hK (hI.1 _ (by decide)) es276_279 rfl) rfl rfl hl.1 rfl (lv_room (Nat.le_of_ble_eq_true rfl)) dX2_extendPrefix_52 ⟨Nat.le_of_ble_eq_true rfl, Nat.le_of_ble_eq_true rfl⟩) hh hA (fun r_283 H locs hw_283 hh => ?_)
    obtain rfl : r_283 = some (ad (4 + le)) := hw_283
    refine W.eq (g2 := F0 m 55 ls [.ref (ad (4 + le)), .ref (ad (25 + (dp - 1))), .ref (ad 1)]) rfl ?_
    refine lv_aload_n hx hb dX2_extendPrefix_55 rfl (lv_at hl 0 rfl) ?_
    refine hp_get hx hb hts ix2 hown hK hh (q := 12) rfl (hI.1 _ (by decide)) es277_279 rfl 3 (by decide) (hts _ tw_125) (fun _ h9 => h9) rfl dX2_extendPrefix_56 ?_
    refine lv_iload_n hx hb dX2_extendPrefix_59 rfl (lv_at hl 1 rfl) ?_
    refine hp_aald hx hb hK hh (q := 24) rfl (hI.1 _ (by decide)) 8 es281 rfl rfl (vp_in_nI (n := dp) (by omega) (by decide)) (v := .ref (ad (25 + dp))) (by rw [nI_clamp (n := dp) (by omega)]; rfl) dX2_extendPrefix_60 ?_
    obtain ⟨f_284, es284⟩ := get_pfx hI_279 (j := dp) (by omega)
    obtain ⟨f_285, es285⟩ := get_row hI_279 (j := le) (by omega)
    obtain ⟨f_286, es286⟩ := get_pfx hI_279 (j := (dp - 1)) (by omega)
    refine hp_callMv (va_runV (As := [.ref (ad (25 + (dp - 1))), .ref (ad (4 + le)), .ref (ad (25 + dp))]) (rest := []) ⟨hx, hb, hml, hown, hts⟩ (c_X8_multiply l D cy _ cs ad en_279 (hI.1 _ (by decide)) cnt d mm hcnt hd2 hd3 hmm (25 + (dp - 1)) (4 + le) (25 + dp) (hI.1 _ (by omega)) (hI.1 _ (by omega)) (hI.1 _ (by omega)) (by omega) (by omega) (by omega) f_286 f_285 f_284 es276_279 es286 es285 es284) (kw_X8_multiply hts tw_537 ⟨by decide, by decide⟩) (preV_of hh hK (hI.1 _ (by decide)) es276_279 rfl) rfl rfl hl.1 rfl (lv_room (Nat.le_of_ble_eq_true rfl)) dX2_extendPrefix_61 ⟨Nat.le_of_ble_eq_true rfl, Nat.le_of_ble_eq_true rfl⟩) hh hA (fun H locs en_287 hw_287 hh => ?_)
    obtain ⟨g_287, hen_287, hg_287⟩ := hw_287
    have es276_287 : en_287 1 = .inr (7, [.ref (ad 2), .ref (ad 3), .ref (ad 10), .ref (ad 11), .int (nI cnt), .int (nI d), .int (nI mm)]) := by rw [hen_287, va_up_ne _ _ (by omega)]; exact es276_279
    have es277_287 : en_287 12 = .inr (2, [.ref (ad 1), .ref (ad 13), .ref (ad 14), .ref (ad 24), .ref (ad 33), .int (nI hw_277)]) := by rw [hen_287, va_up_ne _ _ (by omega)]; exact es277_279
    have es278_287 : en_287 33 = .inl (cy 0, 8, .inl (upd f_278 dp (nI le))) := by rw [hen_287, va_up_ne _ _ (by omega)]; exact es278_279
    have es281_287 : en_287 24 = .inl (cy 8, 8, .inr (.inr (.inr (.inr (fun j => some (ad (25 + j))))))) := by rw [hen_287, va_up_ne _ _ (by omega)]; exact es281
    have es282_287 : en_287 3 = .inl (cy 8, 6, .inr (.inr (.inr (.inr (fun j => some (ad (4 + j))))))) := by rw [hen_287, va_up_ne _ _ (by omega)]; exact es282
    have es285_287 : en_287 (4 + le) = .inl (cy 1, 9, .inr (.inl f_285)) := by rw [hen_287, va_up_ne _ _ (by omega)]; exact es285
    have es286_287 : en_287 (25 + (dp - 1)) = .inl (cy 1, 9, .inr (.inl f_286)) := by rw [hen_287, va_up_ne _ _ (by omega)]; exact es286
    have es284_287 : en_287 (25 + dp) = .inl (cy 1, 9, .inr (.inl g_287)) := by rw [hen_287]; exact va_up_self _ _ _
    have hI_287 : SX cy cs ad en_287 := by rw [hen_287]; exact up_pfx hI_279 (j := dp) (by omega) ⟨g_287, rfl⟩
    have hf_287 : ∀ c, (c < 12 ∨ 70 ≤ c) → en_287 c = en c := fun c hc => Eq.trans (show en_287 c = en_279 c from by rw [hen_287, va_up_ne _ _ (by omega)]) (hf_279 c hc)
    exact hp_vretM hx hb hr hlocks hh (⟨hI_287, hf_287⟩) dX2_extendPrefix_64
  · have n_280 : dp = 0 := n_eq (a := dp) (b := 0) c_280 (by omega) (by decide)
    refine lv_aload_n hx hb dX2_extendPrefix_11 rfl (lv_at hl 0 rfl) ?_
    refine hp_get hx hb hts ix2 hown hK hh (q := 12) rfl (hI.1 _ (by decide)) es277_279 rfl 0 (by decide) (hts _ tw_122) (fun _ h9 => h9) rfl dX2_extendPrefix_12 ?_
    refine lv_iload_n hx hb dX2_extendPrefix_15 rfl (lv_at hl 2 rfl) ?_
    have es288 := get_rows hI_279
    unfold P_rows at es288
    refine hp_callRq (va_runV (As := [.int (nI le)]) (rest := []) ⟨hx, hb, hml, hown, hts⟩ (c_X8_rowOf l D cy _ cs ad en_279 (hI.1 _ (by decide)) (hI.1 _ (by decide)) cnt d mm hcnt hd2 hd3 hmm le (by omega) es276_279 es288) (kw_X8_rowOf hts tw_532 ⟨by decide, by decide⟩) (preV_of hh hK (hI.1 _ (by decide)) es276_279 rfl) rfl rfl hl.1 rfl (lv_room (Nat.le_of_ble_eq_true rfl)) dX2_extendPrefix_16 ⟨Nat.le_of_ble_eq_true rfl, Nat.le_of_ble_eq_true rfl⟩) hh hA (fun r_289 H locs hw_289 hh => ?_)
    obtain rfl : r_289 = some (ad (4 + le)) := hw_289
    refine W.eq (g2 := F0 m 19 ls [.ref (ad (4 + le))]) rfl ?_
    refine lv_iconst (v := 0) hx hb dX2_extendPrefix_19 (by decide) ?_
    refine lv_aload_n hx hb dX2_extendPrefix_20 rfl (lv_at hl 0 rfl) ?_
    refine hp_get hx hb hts ix2 hown hK hh (q := 12) rfl (hI.1 _ (by decide)) es277_279 rfl 3 (by decide) (hts _ tw_125) (fun _ h9 => h9) rfl dX2_extendPrefix_21 ?_
    refine lv_iconst (v := 0) hx hb dX2_extendPrefix_24 (by decide) ?_
    have es290 := get_pfs hI_279
    unfold P_pfs at es290
    rw [show (0 : Int32) = nI 0 from rfl]
    refine hp_aald hx hb hK hh (q := 24) rfl (hI.1 _ (by decide)) 8 es290 rfl rfl (vp_in_nI (n := 0) (by decide) (by decide)) (v := .ref (ad (25 + 0))) (by rw [nI_clamp (n := 0) (by decide)]; rfl) dX2_extendPrefix_25 ?_
    refine lv_iconst (v := 0) hx hb dX2_extendPrefix_26 (by decide) ?_
    refine lv_bipush (v := 9) hx hb dX2_extendPrefix_27 (by decide) ?_
    obtain ⟨f_291, es291⟩ := get_pfx hI_279 (j := 0) (by decide)
    obtain ⟨f_292, es292⟩ := get_row hI_279 (j := le) (by omega)
    refine W.eq (g2 := F0 m 29 ls [.int (nI 9), .int (nI 0), .ref (ad (25 + 0)), .int (nI 0), .ref (ad (4 + le))]) rfl ?_
    refine hp_copyl hx hb (hml.trans hl.1.symm) hown (hts _ tw_536) (hts _ tw_340) (hts _ tw_339) (hts _ tw_12) hK hh (hI.1 _ (by omega)) (hI.1 _ (by omega)) es292 es291 0 0 9 (by decide) (by decide) (by decide) (by decide) (by decide) (Nat.le_of_ble_eq_true rfl) (Nat.le_of_ble_eq_true rfl) dX2_extendPrefix_29 (fun H locs en_293 hen_293 hh => ?_)
    have es276_293 : en_293 1 = .inr (7, [.ref (ad 2), .ref (ad 3), .ref (ad 10), .ref (ad 11), .int (nI cnt), .int (nI d), .int (nI mm)]) := by rw [hen_293, va_up_ne _ _ (by omega)]; exact es276_279
    have es277_293 : en_293 12 = .inr (2, [.ref (ad 1), .ref (ad 13), .ref (ad 14), .ref (ad 24), .ref (ad 33), .int (nI hw_277)]) := by rw [hen_293, va_up_ne _ _ (by omega)]; exact es277_279
    have es278_293 : en_293 33 = .inl (cy 0, 8, .inl (upd f_278 dp (nI le))) := by rw [hen_293, va_up_ne _ _ (by omega)]; exact es278_279
    have es288_293 : en_293 3 = .inl (cy 8, 6, .inr (.inr (.inr (.inr (fun j => some (ad (4 + j))))))) := by rw [hen_293, va_up_ne _ _ (by omega)]; exact es288
    have es290_293 : en_293 24 = .inl (cy 8, 8, .inr (.inr (.inr (.inr (fun j => some (ad (25 + j))))))) := by rw [hen_293, va_up_ne _ _ (by omega)]; exact es290
    have es292_293 : en_293 (4 + le) = .inl (cy 1, 9, .inr (.inl f_292)) := by rw [hen_293, va_up_ne _ _ (by omega)]; exact es292
    have es291_293 : en_293 (25 + 0) = .inl (cy 1, 9, .inr (.inl (va_cpy f_292 f_291 0 0 9))) := by rw [hen_293]; exact va_up_self _ _ _
    have hI_293 : SX cy cs ad en_293 := by rw [hen_293]; exact up_pfx hI_279 (j := 0) (by decide) ⟨(va_cpy f_292 f_291 0 0 9), rfl⟩
    have hf_293 : ∀ c, (c < 12 ∨ 70 ≤ c) → en_293 c = en c := fun c hc => Eq.trans (show en_293 c = en_279 c from by rw [hen_293, va_up_ne _ _ (by omega)]) (hf_279 c hc)
    refine lv_goto (tgt := 64) hx hb dX2_extendPrefix_32 (by decide) ?_
    exact hp_vretM hx hb hr hlocks hh (⟨hI_293, hf_293⟩) dX2_extendPrefix_64
theorem kw_X2_extendPrefix {R : Room} {s : State} {args : Array Value} {own : String} {idx : Nat} (hts : ∀ w ∈ TB, w.before args s = true) (hl : Cond.methodLink own idx yX2_extendPrefix ∈ TB) (hR : 2 + 1 ≤ R.frames ∧ 8 + (3 + 11) + 40 * 2 ≤ R.locals) : CallW R s args own RX2 idx yX2_extendPrefix cX2_extendPrefix 3 none (Cond.code yX2_extendPrefix cX2_extendPrefix 3 none :: TB) (rmN 2) 0 0 2 := cwV 2 hts (TB_V hl tw_530 ts_12 tw_3 tw_531) rfl rfl rfl (by decide +kernel) hR
set_option maxHeartbeats 4000000 in
set_option maxRecDepth 100000 in
/-- noteWord -/
theorem c_X2_noteWord (l : Launch) (D : va_G) (cy : Nat → ClassId) (sz : Nat) (cs : List Nat) (ad : Nat → Nat) (en : Nat → va_E) (hI : SX cy cs ad en) (J : Nat) (hJ : J < 9) (n : Nat) (hn1 : 1 ≤ n) (hn : n ≤ 8)   : Met l yX2_noteWord (Cond.code yX2_noteWord cX2_noteWord 6 none :: TB) (rmN 3) (va_Pc [.ref (ad 12), .ref (ad (34 + 4 * J)), .int (nI n)] (Pre D cy cs ad en sz)) (va_Qv (S := Nat → va_E) (fun en1 => SX cy cs ad en1 ∧ (∀ c, (c < 12 ∨ 70 ≤ c) → en1 c = en c)) (PostM D cs ad) (Af cs ad sz)) 0 0 (Af cs ad sz) := by
  refine Met.ofW (cc := cX2_noteWord) (maxL := 6) (ret := none) (by decide) rfl ?_
  intro p e s m args below meth c s₁ B hml hv
  obtain ⟨rfl, hsz, hP, hK, hD0⟩ := hv
  have hx := B.exec
  have hb := B.bytes
  have hr := B.returns
  have hts : ∀ w ∈ TB, w.before _ s = true := fun w h => atoms_spec (ws := _ :: TB) B.pre w (List.mem_cons_of_mem _ h)
  have hown : s.vm.findClass RX2 = some m.cls := findClass_of_methodNamed B.named
  have hlocks := B.notSynchronized
  have hh : Hp D (Af cs ad sz) (Af cs ad sz) s.heap s.heap [] cs ad en := ⟨hP, Af_self hD0, va_S.rf⟩
  have hA : ∀ q : Nat, s.heap.size ≤ q → Af cs ad sz q := fun q h => Or.inr (by rw [hsz] at h; exact h)
  have hl := lv_entry ([.ref (ad 12), .ref (ad (34 + 4 * J)), .int (nI n)]) (n := 6) (Nat.le_of_ble_eq_true rfl)
  rw [lg_entry_eq]
  generalize (lg_sl ([.ref (ad 12), .ref (ad (34 + 4 * J)), .int (nI n)]) ++ List.replicate (6 - (lg_sl ([.ref (ad 12), .ref (ad (34 + 4 * J)), .int (nI n)])).length) Slot.unset).toArray = ls at hl ⊢
  have hl : lv_has ls 6 [(0, .ref (ad 12)), (1, .ref (ad (34 + 4 * J))), (2, .int (nI n))] := hl
  have hf0 : ∀ c, (c < 12 ∨ 70 ≤ c) → en c = en c := fun _ _ => rfl
  obtain ⟨cnt, d, mm, es294, hcnt, hd2, hd3, hmm⟩ := get_T hI
  obtain ⟨f10, es295, hb10⟩ := get_alw hI
  refine lv_aload_n hx hb dX2_noteWord_0 rfl (lv_at hl 0 rfl) ?_
  obtain ⟨hw_296, es296, p0_296⟩ := get_L hI
  refine hp_get hx hb hts ix2 hown hK hh (q := 12) rfl (hI.1 _ (by decide)) es296 rfl 3 (by decide) (hts _ tw_125) (fun _ h9 => h9) rfl dX2_noteWord_1 ?_
  refine lv_iload_n hx hb dX2_noteWord_4 rfl (lv_at hl 2 rfl) ?_
  refine lv_iconst (v := 1) hx hb dX2_noteWord_5 (by decide) ?_
  refine lv_isub hx hb dX2_noteWord_6 ?_
  rw [show (1 : Int32) = nI 1 from rfl, pk_sub (a := n) (b := 1) (by omega)]
  have es297 := get_pfs hI
  unfold P_pfs at es297
  refine hp_aald hx hb hK hh (q := 24) rfl (hI.1 _ (by decide)) 8 es297 rfl rfl (vp_in_nI (n := (n - 1)) (by omega) (by decide)) (v := .ref (ad (25 + (n - 1)))) (by rw [nI_clamp (n := (n - 1)) (by omega)]; rfl) dX2_noteWord_7 ?_
  refine lv_astore_n (lv' := [(3, .ref (ad (25 + (n - 1)))), (0, .ref (ad 12)), (1, .ref (ad (34 + 4 * J))), (2, .int (nI n))]) hx hb dX2_noteWord_8 rfl hl (by decide) rfl (fun ls hl => ?_)
  refine lv_aload_n hx hb dX2_noteWord_9 rfl (lv_at hl 2 rfl) ?_
  refine lv_aload_n hx hb dX2_noteWord_10 rfl (lv_at hl 1 rfl) ?_
  refine hp_get hx hb hts ix2 hown hK hh (q := 12) rfl (hI.1 _ (by decide)) es296 rfl 4 (by decide) (hts _ tw_126) (fun _ h9 => h9) rfl dX2_noteWord_11 ?_
  refine lv_iload_n hx hb dX2_noteWord_14 rfl (lv_at hl 3 rfl) ?_
  refine lv_aload_n hx hb dX2_noteWord_15 rfl (lv_at hl 1 rfl) ?_
  refine hp_get hx hb hts ix2 hown hK hh (q := 12) rfl (hI.1 _ (by decide)) es296 rfl 0 (by decide) (hts _ tw_122) (fun _ h9 => h9) rfl dX2_noteWord_16 ?_
  refine lv_aload_n hx hb dX2_noteWord_19 rfl (lv_at hl 0 rfl) ?_
  obtain ⟨f_298, es298⟩ := get_pfx hI (j := (n - 1)) (by omega)
  refine hp_callRl (va_runV (As := [.ref (ad (25 + (n - 1)))]) (rest := [.int (nI n), .ref (ad 33), .ref (ad (34 + 4 * J))]) ⟨hx, hb, hml, hown, hts⟩ (c_X8_norm l D cy _ cs ad en (hI.1 _ (by decide)) cnt d mm hcnt hd2 hd3 hmm (25 + (n - 1)) (hI.1 _ (by omega)) f_298 es294 es298) (kw_X8_norm hts tw_484 ⟨by decide, by decide⟩) (preV_of hh hK (hI.1 _ (by decide)) es294 rfl) rfl rfl hl.1 rfl (lv_room (Nat.le_of_ble_eq_true rfl)) dX2_noteWord_20 ⟨Nat.le_of_ble_eq_true rfl, Nat.le_of_ble_eq_true rfl⟩) hh hA (fun r_299 H locs hw_299 hh => ?_)
  obtain rfl : r_299 = (normT d f_298 d) := hw_299
  obtain ⟨f_300, es300, p0_300⟩ := get_let hI
  obtain ⟨dn_301, no_301, rc_301, gr_301, le_301, rt_301, tt_301, es301, p0_301⟩ := get_sv hI (j := J) (by omega)
  refine hp_callMv (va_runV (As := [.ref (ad 33), .int (nI n), .long (normT d f_298 d)]) (rest := []) ⟨hx, hb, hml, hown, hts⟩ (c_X6_noteNorm l D cy _ cs ad en hI J (by omega) n (by omega) (normT d f_298 d) ) (kw_X6_noteNorm hts tw_494 ⟨by decide, by decide⟩) (preV_of hh hK (hI.1 _ (by omega)) es301 rfl) rfl rfl hl.1 rfl (lv_room (Nat.le_of_ble_eq_true rfl)) dX2_noteWord_23 ⟨Nat.le_of_ble_eq_true rfl, Nat.le_of_ble_eq_true rfl⟩) hh hA (fun H locs en_302 hw_302 hh => ?_)
  obtain ⟨hI_302, hu_302⟩ := hw_302
  have hf_302 : ∀ c, (c < 12 ∨ 70 ≤ c) → en_302 c = en c := fun c hc => (hu_302 c (by omega)).trans (hf0 c hc)
  refine lv_aload_n hx hb dX2_noteWord_26 rfl (lv_at hl 1 rfl) ?_
  obtain ⟨hw_303, es303, p0_303⟩ := get_L hI_302
  refine hp_get hx hb hts ix2 hown hK hh (q := 12) rfl (hI.1 _ (by decide)) es303 rfl 0 (by decide) (hts _ tw_122) (fun _ h9 => h9) rfl dX2_noteWord_27 ?_
  refine lv_aload_n hx hb dX2_noteWord_30 rfl (lv_at hl 1 rfl) ?_
  refine hp_get hx hb hts ix2 hown hK hh (q := 12) rfl (hI.1 _ (by decide)) es303 rfl 4 (by decide) (hts _ tw_126) (fun _ h9 => h9) rfl dX2_noteWord_31 ?_
  refine lv_iload_n hx hb dX2_noteWord_34 rfl (lv_at hl 3 rfl) ?_
  obtain ⟨f_304, es304, p0_304⟩ := get_let hI_302
  have es294_305 : en_302 1 = .inr (7, [.ref (ad 2), .ref (ad 3), .ref (ad 10), .ref (ad 11), .int (nI cnt), .int (nI d), .int (nI mm)]) := (hf_302 1 (by omega)).trans es294
  have es295_306 : en_302 10 = .inl (cy 2, 36, .inl f10) := (hf_302 10 (by omega)).trans es295
  refine hp_callRi (va_runV (As := [.ref (ad 33), .int (nI n)]) (rest := []) ⟨hx, hb, hml, hown, hts⟩ (c_X8_isTurnable l D cy _ cs ad en_302 (hI.1 _ (by decide)) cnt d mm hcnt hd2 hd3 hmm (hI.1 _ (by decide)) f10 hb10 33 8 n (hI.1 _ (by decide)) (by decide) f_304 p0_304 (by omega) (by omega) es294_305 es295_306 es304) (kw_X8_isTurnable hts tw_499 ⟨by decide, by decide⟩) (preV_of hh hK (hI.1 _ (by decide)) es294_305 rfl) rfl rfl hl.1 rfl (lv_room (Nat.le_of_ble_eq_true rfl)) dX2_noteWord_35 ⟨Nat.le_of_ble_eq_true rfl, Nat.le_of_ble_eq_true rfl⟩) hh hA (fun r_307 H locs hw_307 hh => ?_)
  rcases hw_307 with hb_307 | hb_307
  · obtain rfl : r_307 = 0 := hb_307
    refine lv_if_ne (tgt := 42) hx hb dX2_noteWord_38 (by decide) (fun c_0 => absurd c_0 (by decide)) (fun _ => ?_)
    exact hp_vretM hx hb hr hlocks hh (⟨hI_302, hf_302⟩) dX2_noteWord_41
  · obtain rfl : r_307 = 1 := hb_307
    refine lv_if_ne (tgt := 42) hx hb dX2_noteWord_38 (by decide) (fun _ => ?_) (fun c_0 => absurd c_0 (by decide))
    refine lv_aload_n hx hb dX2_noteWord_42 rfl (lv_at hl 1 rfl) ?_
    refine hp_get hx hb hts ix2 hown hK hh (q := 12) rfl (hI.1 _ (by decide)) es303 rfl 0 (by decide) (hts _ tw_122) (fun _ h9 => h9) rfl dX2_noteWord_43 ?_
    refine lv_aload_n hx hb dX2_noteWord_46 rfl (lv_at hl 0 rfl) ?_
    obtain ⟨f_308, es308⟩ := get_pfx hI_302 (j := (n - 1)) (by omega)
    refine hp_callRl (va_runV (As := [.ref (ad (25 + (n - 1)))]) (rest := []) ⟨hx, hb, hml, hown, hts⟩ (c_X8_track l D cy _ cs ad en_302 (hI.1 _ (by decide)) cnt d mm hcnt hd2 hd3 hmm (25 + (n - 1)) (hI.1 _ (by omega)) f_308 es294_305 es308) (kw_X8_track hts tw_504 ⟨by decide, by decide⟩) (preV_of hh hK (hI.1 _ (by decide)) es294_305 rfl) rfl rfl hl.1 rfl (lv_room (Nat.le_of_ble_eq_true rfl)) dX2_noteWord_47 ⟨Nat.le_of_ble_eq_true rfl, Nat.le_of_ble_eq_true rfl⟩) hh hA (fun r_309 H locs hw_309 hh => ?_)
    refine lv_lstore (lv' := [(4, .long r_309), (3, .ref (ad (25 + (n - 1)))), (0, .ref (ad 12)), (1, .ref (ad (34 + 4 * J))), (2, .int (nI n))]) hx hb dX2_noteWord_50 hl (by decide) rfl (fun ls hl => ?_)
    refine lv_aload_n hx hb dX2_noteWord_52 rfl (lv_at hl 3 rfl) ?_
    refine lv_lload hx hb dX2_noteWord_53 (lv_at hl 0 rfl) ?_
    obtain ⟨dn_310, no_310, rc_310, gr_310, le_310, rt_310, tt_310, es310, p0_310⟩ := get_sv hI_302 (j := J) (by omega)
    refine hp_callMv (va_runV (As := [.long r_309]) (rest := []) ⟨hx, hb, hml, hown, hts⟩ (c_X6_noteTurnable l D cy _ cs ad en_302 hI_302 J (by omega) r_309 ) (kw_X6_noteTurnable hts tw_508 ⟨by decide, by decide⟩) (preV_of hh hK (hI.1 _ (by omega)) es310 rfl) rfl rfl hl.1 rfl (lv_room (Nat.le_of_ble_eq_true rfl)) dX2_noteWord_55 ⟨Nat.le_of_ble_eq_true rfl, Nat.le_of_ble_eq_true rfl⟩) hh hA (fun H locs en_311 hw_311 hh => ?_)
    obtain ⟨hI_311, hu_311⟩ := hw_311
    have hf_311 : ∀ c, (c < 12 ∨ 70 ≤ c) → en_311 c = en c := fun c hc => (hu_311 c (by omega)).trans (hf_302 c hc)
    refine lv_aload_n hx hb dX2_noteWord_58 rfl (lv_at hl 2 rfl) ?_
    obtain ⟨hw_312, es312, p0_312⟩ := get_L hI_311
    refine hp_get hx hb hts ix2 hown hK hh (q := 12) rfl (hI.1 _ (by decide)) es312 rfl 4 (by decide) (hts _ tw_126) (fun _ h9 => h9) rfl dX2_noteWord_59 ?_
    refine lv_iload_n hx hb dX2_noteWord_62 rfl (lv_at hl 4 rfl) ?_
    obtain ⟨f_313, es313, p0_313⟩ := get_let hI_311
    refine hp_callRi (va_runS (As := [.ref (ad 33), .int (nI n)]) (rest := []) ⟨hx, hb, hml, hown, hts⟩ (c_X5_isAheadOfItsTurns l D cy _ cs ad en_311 33 8 (hI.1 _ (by decide)) (by decide) f_313 n (by omega) (by omega) (by omega) es313) (kw_X5_isAheadOfItsTurns hts tw_514 ⟨by decide, by decide⟩) (preS_of hh hK) rfl rfl hl.1 rfl (lv_room (Nat.le_of_ble_eq_true rfl)) dX2_noteWord_63 ⟨Nat.le_of_ble_eq_true rfl, Nat.le_of_ble_eq_true rfl⟩) hh hA (fun r_314 H locs hw_314 hh => ?_)
    rcases hw_314 with hb_314 | hb_314
    · obtain rfl : r_314 = 0 := hb_314
      refine lv_if_eq (tgt := 80) hx hb dX2_noteWord_66 (by decide) (fun _ => ?_) (fun c_0 => absurd c_0 (by decide))
      exact hp_vretM hx hb hr hlocks hh (⟨hI_311, hf_311⟩) dX2_noteWord_80
    · obtain rfl : r_314 = 1 := hb_314
      refine lv_if_eq (tgt := 80) hx hb dX2_noteWord_66 (by decide) (fun c_0 => absurd c_0 (by decide)) (fun _ => ?_)
      refine lv_aload_n hx hb dX2_noteWord_69 rfl (lv_at hl 3 rfl) ?_
      refine lv_aload_n hx hb dX2_noteWord_70 rfl (lv_at hl 2 rfl) ?_
      refine hp_get hx hb hts ix2 hown hK hh (q := 12) rfl (hI.1 _ (by decide)) es312 rfl 4 (by decide) (hts _ tw_126) (fun _ h9 => h9) rfl dX2_noteWord_71 ?_
      refine lv_iload_n hx hb dX2_noteWord_74 rfl (lv_at hl 4 rfl) ?_
      refine lv_lload hx hb dX2_noteWord_75 (lv_at hl 0 rfl) ?_
      obtain ⟨dn_315, no_315, rc_315, gr_315, le_315, rt_315, tt_315, es315, p0_315⟩ := get_sv hI_311 (j := J) (by omega)
      refine hp_callMv (va_runV (As := [.ref (ad 33), .int (nI n), .long r_309]) (rest := []) ⟨hx, hb, hml, hown, hts⟩ (c_X6_noteRing l D cy _ cs ad en_311 hI_311 J (by omega) n (by omega) r_309 ) (kw_X6_noteRing hts tw_520 ⟨by decide, by decide⟩) (preV_of hh hK (hI.1 _ (by omega)) es315 rfl) rfl rfl hl.1 rfl (lv_room (Nat.le_of_ble_eq_true rfl)) dX2_noteWord_77 ⟨Nat.le_of_ble_eq_true rfl, Nat.le_of_ble_eq_true rfl⟩) hh hA (fun H locs en_316 hw_316 hh => ?_)
      obtain ⟨hI_316, hu_316⟩ := hw_316
      have hf_316 : ∀ c, (c < 12 ∨ 70 ≤ c) → en_316 c = en c := fun c hc => (hu_316 c (by omega)).trans (hf_311 c hc)
      exact hp_vretM hx hb hr hlocks hh (⟨hI_316, hf_316⟩) dX2_noteWord_80
theorem kw_X2_noteWord {R : Room} {s : State} {args : Array Value} {own : String} {idx : Nat} (hts : ∀ w ∈ TB, w.before args s = true) (hl : Cond.methodLink own idx yX2_noteWord ∈ TB) (hR : 3 + 1 ≤ R.frames ∧ 8 + (6 + 11) + 40 * 3 ≤ R.locals) : CallW R s args own RX2 idx yX2_noteWord cX2_noteWord 6 none (Cond.code yX2_noteWord cX2_noteWord 6 none :: TB) (rmN 3) 0 0 2 := cwV 2 hts (TB_V hl tw_482 ts_10 tw_3 tw_483) rfl rfl rfl (by decide +kernel) hR
