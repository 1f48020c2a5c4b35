theorem kw_X2_walk {R : Room} {s : State} {args : Array Value} {idx : Nat} {dd : Nat} (hts : ∀ w ∈ TB, w.before args s = true) (hl : Cond.methodLink RX2 idx yX2_walk ∈ TB) (hR : dd + 1 ≤ R.frames ∧ 8 + (5 + 11) + 40 * dd ≤ R.locals) : CallB R s args RX2 idx yX2_walk cX2_walk 5 none (Cond.code yX2_walk cX2_walk 5 none :: TB) (rmN dd) 0 0 4 ∧ (Cond.static yX2_walk).before args s = true := cwS 4 hts (TB_S hl tw_478 tw_3 tw_479) rfl rfl rfl (by decide +kernel) hR
set_option maxHeartbeats 8000000 in
set_option maxRecDepth 100000 in
/-- walk -/
theorem c_X2_walk (l : Launch) (D : va_G) (cy : Nat → ClassId) (cs : List Nat) (ad : Nat → Nat) (J : Nat) (hJ : J < 9) (n : Nat) (hn1 : 1 ≤ n) (hn8 : n ≤ 8) : ∀ (f dp : Nat), dp + f = n → ∀ (sz : Nat) (en : Nat → va_E) (hI : SX cy cs ad en), Met l yX2_walk (Cond.code yX2_walk cX2_walk 5 none :: TB) (rmN (5 + f)) (va_Pc [.ref (ad 12), .ref (ad (34 + 4 * J)), .int (nI n), .int (nI dp)] (Pre D cy cs ad en sz)) (va_Qv (S := Nat → va_E) (fun en1 => SX cy cs ad en1 ∧ (∀ c, (c < 12 ∨ 70 ≤ c) → en1 c = en c)) (PostM D cs ad) (Af cs ad sz)) 0 0 (Af cs ad sz) := by
  intro f
  induction f with
  | zero =>
    intro dp hdp sz en hI
    refine Met.ofW (cc := cX2_walk) (maxL := 5) (ret := none) (by decide) rfl ?_
    intro p e s m args below meth c s₁ B hml hv
    obtain ⟨rfl, hsz, hP, hK, hD0⟩ := hv
    have hx := B.exec
    have hb := B.bytes
    have hr := B.returns
    have hts : ∀ w ∈ TB, w.before _ s = true := fun w h => atoms_spec (ws := _ :: TB) B.pre w (List.mem_cons_of_mem _ h)
    have hown : s.vm.findClass RX2 = some m.cls := findClass_of_methodNamed B.named
    have hlocks := B.notSynchronized
    have hh : Hp D (Af cs ad sz) (Af cs ad sz) s.heap s.heap [] cs ad en := ⟨hP, Af_self hD0, va_S.rf⟩
    have hA : ∀ q : Nat, s.heap.size ≤ q → Af cs ad sz q := fun q h => Or.inr (by rw [hsz] at h; exact h)
    have hl := lv_entry ([.ref (ad 12), .ref (ad (34 + 4 * J)), .int (nI n), .int (nI dp)]) (n := 5) (Nat.le_of_ble_eq_true rfl)
    rw [lg_entry_eq]
    generalize (lg_sl ([.ref (ad 12), .ref (ad (34 + 4 * J)), .int (nI n), .int (nI dp)]) ++ List.replicate (5 - (lg_sl ([.ref (ad 12), .ref (ad (34 + 4 * J)), .int (nI n), .int (nI dp)])).length) Slot.unset).toArray = ls at hl ⊢
    have hl : lv_has ls 5 [(0, .ref (ad 12)), (1, .ref (ad (34 + 4 * J))), (2, .int (nI n)), (3, .int (nI dp))] := hl
    have hf0 : ∀ c, (c < 12 ∨ 70 ≤ c) → en c = en c := fun _ _ => rfl
    obtain ⟨cnt, d, mm, es247, hcnt, hd2, hd3, hmm⟩ := get_T hI
    obtain ⟨f10, es248, hb10⟩ := get_alw hI
    refine lv_iload_n hx hb dX2_walk_0 rfl (lv_at hl 3 rfl) ?_
    refine lv_iload_n hx hb dX2_walk_1 rfl (lv_at hl 2 rfl) ?_
    refine lv_icmp_lt (tgt := 12) hx hb dX2_walk_2 (by decide) (fun c_249 => ?_) (fun c_249 => ?_)
    · have n_249 : dp < n := n_lt (a := dp) (b := n) c_249 (by omega) (by omega)
      exact absurd n_249 (by omega)
    · have n_249 : n ≤ dp := n_nlt (a := dp) (b := n) c_249 (by omega) (by omega)
      refine lv_aload_n hx hb dX2_walk_5 rfl (lv_at hl 0 rfl) ?_
      refine lv_aload_n hx hb dX2_walk_6 rfl (lv_at hl 1 rfl) ?_
      refine lv_iload_n hx hb dX2_walk_7 rfl (lv_at hl 2 rfl) ?_
      obtain ⟨dn_250, no_250, rc_250, gr_250, le_250, rt_250, tt_250, es250, p0_250⟩ := get_sv hI (j := J) (by omega)
      obtain ⟨hw_251, es251, p0_251⟩ := get_L hI
      refine hp_callMv (va_runV (As := [.ref (ad (34 + 4 * J)), .int (nI n)]) (rest := []) ⟨hx, hb, hml, hown, hts⟩ (c_X2_noteWord l D cy _ cs ad en hI J (by omega) n (by omega) (by omega)) (kw_X2_noteWord hts tw_480 ⟨by decide, by decide⟩) (preV_of hh hK (hI.1 _ (by decide)) es251 rfl) rfl rfl hl.1 rfl (lv_room (Nat.le_of_ble_eq_true rfl)) dX2_walk_8 ⟨Nat.le_of_ble_eq_true rfl, Nat.le_of_ble_eq_true rfl⟩) hh hA (fun H locs en_252 hw_252 hh => ?_)
      obtain ⟨hI_252, hu_252⟩ := hw_252
      have hf_252 : ∀ c, (c < 12 ∨ 70 ≤ c) → en_252 c = en c := fun c hc => (hu_252 c (by omega)).trans (hf0 c hc)
      exact hp_vretM hx hb hr hlocks hh (⟨hI_252, hf_252⟩) dX2_walk_11
  | succ f ih =>
    intro dp hdp sz en hI
    refine Met.ofW (cc := cX2_walk) (maxL := 5) (ret := none) (by decide) rfl ?_
    intro p e s m args below meth c s₁ B hml hv
    obtain ⟨rfl, hsz, hP, hK, hD0⟩ := hv
    have hx := B.exec
    have hb := B.bytes
    have hr := B.returns
    have hts : ∀ w ∈ TB, w.before _ s = true := fun w h => atoms_spec (ws := _ :: TB) B.pre w (List.mem_cons_of_mem _ h)
    have hown : s.vm.findClass RX2 = some m.cls := findClass_of_methodNamed B.named
    have hlocks := B.notSynchronized
    have hh : Hp D (Af cs ad sz) (Af cs ad sz) s.heap s.heap [] cs ad en := ⟨hP, Af_self hD0, va_S.rf⟩
    have hA : ∀ q : Nat, s.heap.size ≤ q → Af cs ad sz q := fun q h => Or.inr (by rw [hsz] at h; exact h)
    have hl := lv_entry ([.ref (ad 12), .ref (ad (34 + 4 * J)), .int (nI n), .int (nI dp)]) (n := 5) (Nat.le_of_ble_eq_true rfl)
    rw [lg_entry_eq]
    generalize (lg_sl ([.ref (ad 12), .ref (ad (34 + 4 * J)), .int (nI n), .int (nI dp)]) ++ List.replicate (5 - (lg_sl ([.ref (ad 12), .ref (ad (34 + 4 * J)), .int (nI n), .int (nI dp)])).length) Slot.unset).toArray = ls at hl ⊢
    have hl : lv_has ls 5 [(0, .ref (ad 12)), (1, .ref (ad (34 + 4 * J))), (2, .int (nI n)), (3, .int (nI dp))] := hl
    have hf0 : ∀ c, (c < 12 ∨ 70 ≤ c) → en c = en c := fun _ _ => rfl
    obtain ⟨cnt, d, mm, es253, hcnt, hd2, hd3, hmm⟩ := get_T hI
    obtain ⟨f10, es254, hb10⟩ := get_alw hI
    refine lv_iload_n hx hb dX2_walk_0 rfl (lv_at hl 3 rfl) ?_
    refine lv_iload_n hx hb dX2_walk_1 rfl (lv_at hl 2 rfl) ?_
    refine lv_icmp_lt (tgt := 12) hx hb dX2_walk_2 (by decide) (fun c_255 => ?_) (fun c_255 => ?_)
    · have n_255 : dp < n := n_lt (a := dp) (b := n) c_255 (by omega) (by omega)
      refine lv_iconst (v := 0) hx hb dX2_walk_12 (by decide) ?_
      refine lv_istore (lv' := [(4, .int 0), (0, .ref (ad 12)), (1, .ref (ad (34 + 4 * J))), (2, .int (nI n)), (3, .int (nI dp))]) hx hb dX2_walk_13 hl (by decide) rfl (fun ls hl => ?_)
      have loop_256 : ∀ (fu j256 : Nat)  (en_256 : Nat → va_E) (ls : Array Slot) (H : Heap) (locs : List Loc), 0 ≤ j256 → j256 ≤ cnt → cnt < j256 + fu → SX cy cs ad en_256 → (∀ c, (c < 12 ∨ 70 ≤ c) → en_256 c = en c) →  lv_has ls 5 [(4, .int (nI j256)), (0, .ref (ad 12)), (1, .ref (ad (34 + 4 * J))), (2, .int (nI n)), (3, .int (nI dp))] → Hp D (Af cs ad sz) (Af cs ad sz) s.heap H locs cs ad en_256 → W p l e (headSpec (Cond.code yX2_walk cX2_walk 5 none :: TB) (rmN (5 + (f + 1)))).room s m ([.ref (ad 12), .ref (ad (34 + 4 * J)), .int (nI n), .int (nI dp)] : List Value).toArray below meth c H locs 0 0 (MQ below (va_Qv (S := Nat → va_E) (fun en1 => SX cy cs ad en1 ∧ (∀ c, (c < 12 ∨ 70 ≤ c) → en1 c = en c)) (PostM D cs ad) (Af cs ad sz)) ([.ref (ad 12), .ref (ad (34 + 4 * J)), .int (nI n), .int (nI dp)] : List Value).toArray s 0 0 (Af cs ad sz)) (F0 m 15 ls []) := by
        intro fu
        induction fu with
        | zero => intro j256  en_256 ls H locs h0 h1 h2; exact absurd h2 (by omega)
        | succ fu ih_256 =>
          intro j256  en_256 ls H locs hj0_256 hj_256 hfu_256 hI_256 hf_256  hl hh
          refine lv_iload hx hb dX2_walk_15 (lv_at hl 0 rfl) ?_
          refine lv_aload_n hx hb dX2_walk_17 rfl (lv_at hl 1 rfl) ?_
          obtain ⟨hw_257, es257, p0_257⟩ := get_L hI_256
          refine hp_get hx hb hts ix2 hown hK hh (q := 12) rfl (hI.1 _ (by decide)) es257 rfl 0 (by decide) (hts _ tw_122) (fun _ h9 => h9) rfl dX2_walk_18 ?_
          have es253_258 : en_256 1 = .inr (7, [.ref (ad 2), .ref (ad 3), .ref (ad 10), .ref (ad 11), .int (nI cnt), .int (nI d), .int (nI mm)]) := (hf_256 1 (by omega)).trans es253
          refine hp_callRi (va_runV (As := []) (rest := [.int (nI j256)]) ⟨hx, hb, hml, hown, hts⟩ (c_X8_count l D cy _ cs ad en_256 (hI.1 _ (by decide)) cnt d mm hcnt hd2 hd3 hmm  es253_258) (kw_X8_count hts tw_460 ⟨by show _ ≤ 5 + (f + 1); omega, by show _ ≤ 40 * (5 + (f + 1)); omega⟩) (preV_of hh hK (hI.1 _ (by decide)) es253_258 rfl) rfl rfl hl.1 rfl (lv_room (Nat.le_of_ble_eq_true rfl)) dX2_walk_21 ⟨Nat.le_of_ble_eq_true rfl, Nat.le_of_ble_eq_true rfl⟩) hh hA (fun r_259 H locs hw_259 hh => ?_)
          obtain rfl : r_259 = (nI cnt) := hw_259
          refine lv_icmp_ge (tgt := 60) hx hb dX2_walk_24 (by decide) (fun c_260 => ?_) (fun c_260 => ?_)
          · have n_260 : cnt ≤ j256 := n_le (a := cnt) (b := j256) c_260 (by omega) (by omega)
            exact hp_vretM hx hb hr hlocks hh (⟨hI_256, hf_256⟩) dX2_walk_60
          · have n_260 : j256 < cnt := n_nle (a := cnt) (b := j256) c_260 (by omega) (by omega)
            refine lv_aload_n hx hb dX2_walk_27 rfl (lv_at hl 1 rfl) ?_
            refine lv_iload_n hx hb dX2_walk_28 rfl (lv_at hl 3 rfl) ?_
            refine lv_iload_n hx hb dX2_walk_29 rfl (lv_at hl 4 rfl) ?_
            refine lv_iload hx hb dX2_walk_30 (lv_at hl 0 rfl) ?_
            refine hp_callRi (va_runV (As := [.int (nI n), .int (nI dp), .int (nI j256)]) (rest := []) ⟨hx, hb, hml, hown, hts⟩ (c_X2_leadsOn l D cy _ cs ad en_256 hI_256 n dp j256 (by omega) (by omega) (by omega)) (kw_X2_leadsOn hts tw_524 ⟨by show _ ≤ 5 + (f + 1); omega, by show _ ≤ 40 * (5 + (f + 1)); omega⟩) (preV_of hh hK (hI.1 _ (by decide)) es257 rfl) rfl rfl hl.1 rfl (lv_room (Nat.le_of_ble_eq_true rfl)) dX2_walk_32 ⟨Nat.le_of_ble_eq_true rfl, Nat.le_of_ble_eq_true rfl⟩) hh hA (fun r_261 H locs hw_261 hh => ?_)
            rcases hw_261 with hb_261 | hb_261
            · obtain rfl : r_261 = 0 := hb_261
              refine lv_if_eq (tgt := 54) hx hb dX2_walk_35 (by decide) (fun _ => ?_) (fun c_0 => absurd c_0 (by decide))
              refine lv_iinc (v := (nI (j256 + 1))) (lv' := [(4, .int (nI (j256 + 1))), (0, .ref (ad 12)), (1, .ref (ad (34 + 4 * J))), (2, .int (nI n)), (3, .int (nI dp))]) hx hb dX2_walk_54 hl (k := 0) rfl (nI_1 _) (by decide) rfl (fun ls hl => ?_)
              refine lv_goto (tgt := 15) hx hb dX2_walk_57 (by decide) ?_
              exact ih_256 ((j256 + 1))  en_256 ls H locs (by omega) (by omega) (by omega) hI_256 hf_256  (lv_sub hl [0, 1, 2, 3, 4] rfl) hh
            · obtain rfl : r_261 = 1 := hb_261
              refine lv_if_eq (tgt := 54) hx hb dX2_walk_35 (by decide) (fun c_0 => absurd c_0 (by decide)) (fun _ => ?_)
              refine lv_aload_n hx hb dX2_walk_38 rfl (lv_at hl 1 rfl) ?_
              refine lv_iload_n hx hb dX2_walk_39 rfl (lv_at hl 4 rfl) ?_
              refine lv_iload hx hb dX2_walk_40 (lv_at hl 0 rfl) ?_
              refine hp_callMv (va_runV (As := [.int (nI dp), .int (nI j256)]) (rest := []) ⟨hx, hb, hml, hown, hts⟩ (c_X2_extendPrefix l D cy _ cs ad en_256 hI_256 dp j256 (by omega) (by omega)) (kw_X2_extendPrefix hts tw_528 ⟨by show _ ≤ 5 + (f + 1); omega, by show _ ≤ 40 * (5 + (f + 1)); omega⟩) (preV_of hh hK (hI.1 _ (by decide)) es257 rfl) rfl rfl hl.1 rfl (lv_room (Nat.le_of_ble_eq_true rfl)) dX2_walk_42 ⟨Nat.le_of_ble_eq_true rfl, Nat.le_of_ble_eq_true rfl⟩) hh hA (fun H locs en_262 hw_262 hh => ?_)
              obtain ⟨hI_262, hu_262⟩ := hw_262
              have hf_262 : ∀ c, (c < 12 ∨ 70 ≤ c) → en_262 c = en c := fun c hc => (hu_262 c (by omega)).trans (hf_256 c hc)
              refine lv_aload_n hx hb dX2_walk_45 rfl (lv_at hl 1 rfl) ?_
              refine lv_aload_n hx hb dX2_walk_46 rfl (lv_at hl 2 rfl) ?_
              refine lv_iload_n hx hb dX2_walk_47 rfl (lv_at hl 3 rfl) ?_
              refine lv_iload_n hx hb dX2_walk_48 rfl (lv_at hl 4 rfl) ?_
              refine lv_iconst (v := 1) hx hb dX2_walk_49 (by decide) ?_
              refine lv_iadd hx hb dX2_walk_50 ?_
              rw [show (1 : Int32) = nI 1 from rfl, nI_add dp 1]
              obtain ⟨dn_263, no_263, rc_263, gr_263, le_263, rt_263, tt_263, es263, p0_263⟩ := get_sv hI_262 (j := J) (by omega)
              obtain ⟨hw_264, es264, p0_264⟩ := get_L hI_262
              refine hp_callMv (va_runS (As := [.ref (ad 12), .ref (ad (34 + 4 * J)), .int (nI n), .int (nI (dp + 1))]) (rest := []) ⟨hx, hb, hml, hown, hts⟩ (ih ((dp + 1)) (by omega) _ en_262 hI_262) (kw_X2_walk hts tw_477 ⟨by show _ ≤ 5 + (f + 1); omega, by show _ ≤ 40 * (5 + (f + 1)); omega⟩) (preS_of hh hK) rfl rfl hl.1 rfl (lv_room (Nat.le_of_ble_eq_true rfl)) dX2_walk_51 ⟨Nat.le_of_ble_eq_true rfl, Nat.le_of_ble_eq_true rfl⟩) hh hA (fun H locs en_265 hw_265 hh => ?_)
              obtain ⟨hI_265, hu_265⟩ := hw_265
              have hf_265 : ∀ c, (c < 12 ∨ 70 ≤ c) → en_265 c = en c := fun c hc => (hu_265 c (by omega)).trans (hf_262 c hc)
              refine lv_iinc (v := (nI (j256 + 1))) (lv' := [(4, .int (nI (j256 + 1))), (0, .ref (ad 12)), (1, .ref (ad (34 + 4 * J))), (2, .int (nI n)), (3, .int (nI dp))]) hx hb dX2_walk_54 hl (k := 0) rfl (nI_1 _) (by decide) rfl (fun ls hl => ?_)
              refine lv_goto (tgt := 15) hx hb dX2_walk_57 (by decide) ?_
              exact ih_256 ((j256 + 1))  en_265 ls H locs (by omega) (by omega) (by omega) hI_265 hf_265  (lv_sub hl [0, 1, 2, 3, 4] rfl) hh
      exact loop_256 (cnt + 1) 0  en ls _ _ (Nat.le_refl _) (by omega) (by omega) hI hf0  (lv_sub hl [0, 1, 2, 3, 4] rfl) hh
    · have n_255 : n ≤ dp := n_nlt (a := dp) (b := n) c_255 (by omega) (by omega)
      exact absurd n_255 (by omega)
set_option maxHeartbeats 4000000 in
set_option maxRecDepth 100000 in
/-- surveyOf -/
theorem c_X2_surveyOf (l : Launch) (D : va_G) (cy : Nat → ClassId) (sz : Nat) (cs : List Nat) (ad : Nat → Nat) (en : Nat → va_E) (hI : SX cy cs ad en) (n : Nat) (hn1 : 1 ≤ n) (hn8 : n ≤ 8)   : Met l yX2_surveyOf (Cond.code yX2_surveyOf cX2_surveyOf 3 (some (.object "AnyOrder$Survey")) :: TB) (rmN 20) (va_Pc [.ref (ad 12), .int (nI n)] (Pre D cy cs ad en sz)) (va_Qq (S := Nat → va_E) (fun r en1 => SX cy cs ad en1 ∧ (∀ c, (c < 12 ∨ 70 ≤ c) → en1 c = en c) ∧ r = some (ad (34 + 4 * n))) (PostM D cs ad) (Af cs ad sz)) 0 0 (Af cs ad sz) := by
  refine Met.ofW (cc := cX2_surveyOf) (maxL := 3) (ret := (some (.object "AnyOrder$Survey"))) (by decide) rfl ?_
  intro p e s m args below meth c s₁ B hml hv
  obtain ⟨rfl, hsz, hP, hK, hD0⟩ := hv
  have hx := B.exec
  have hb := B.bytes
  have hr := B.returns
  have hts : ∀ w ∈ TB, w.before _ s = true := fun w h => atoms_spec (ws := _ :: TB) B.pre w (List.mem_cons_of_mem _ h)
  have hown : s.vm.findClass RX2 = some m.cls := findClass_of_methodNamed B.named
  have hlocks := B.notSynchronized
  have hh : Hp D (Af cs ad sz) (Af cs ad sz) s.heap s.heap [] cs ad en := ⟨hP, Af_self hD0, va_S.rf⟩
  have hA : ∀ q : Nat, s.heap.size ≤ q → Af cs ad sz q := fun q h => Or.inr (by rw [hsz] at h; exact h)
  have hl := lv_entry ([.ref (ad 12), .int (nI n)]) (n := 3) (Nat.le_of_ble_eq_true rfl)
  rw [lg_entry_eq]
  generalize (lg_sl ([.ref (ad 12), .int (nI n)]) ++ List.replicate (3 - (lg_sl ([.ref (ad 12), .int (nI n)])).length) Slot.unset).toArray = ls at hl ⊢
  have hl : lv_has ls 3 [(0, .ref (ad 12)), (1, .int (nI n))] := hl
  have hf0 : ∀ c, (c < 12 ∨ 70 ≤ c) → en c = en c := fun _ _ => rfl
  obtain ⟨cnt, d, mm, es266, hcnt, hd2, hd3, hmm⟩ := get_T hI
  refine lv_aload_n hx hb dX2_surveyOf_0 rfl (lv_at hl 0 rfl) ?_
  obtain ⟨hw_267, es267, p0_267⟩ := get_L hI
  refine hp_get hx hb hts ix2 hown hK hh (q := 12) rfl (hI.1 _ (by decide)) es267 rfl 1 (by decide) (hts _ tw_123) (fun _ h9 => h9) rfl dX2_surveyOf_1 ?_
  refine lv_iload_n hx hb dX2_surveyOf_4 rfl (lv_at hl 1 rfl) ?_
  have es268 := get_svs hI
  unfold P_svs at es268
  refine hp_aald hx hb hK hh (q := 13) rfl (hI.1 _ (by decide)) 4 es268 rfl rfl (vp_in_nI (n := n) (by omega) (by decide)) (v := .ref (ad (34 + 4 * n))) (by rw [nI_clamp (n := n) (by omega)]; exact rfB_v (by omega)) dX2_surveyOf_5 ?_
  refine lv_astore_n (lv' := [(2, .ref (ad (34 + 4 * n))), (0, .ref (ad 12)), (1, .int (nI n))]) hx hb dX2_surveyOf_6 rfl hl (by decide) rfl (fun ls hl => ?_)
  refine lv_aload_n hx hb dX2_surveyOf_7 rfl (lv_at hl 0 rfl) ?_
  obtain ⟨dn_269, no_269, rc_269, gr_269, le_269, rt_269, tt_269, es269, p0_269⟩ := get_sv hI (j := n) (by omega)
  refine hp_get hx hb hts ix6 hown hK hh (q := (34 + 4 * n)) rfl (hI.1 _ (by omega)) es269 rfl 3 (by decide) (hts _ tw_86) (fun _ h9 => h9) rfl dX2_surveyOf_8 ?_
  refine lv_if_ne (tgt := 34) hx hb dX2_surveyOf_11 (by decide) (fun c_270 => ?_) (fun c_270 => ?_)
  · have n_270 : dn_269 ≠ 0 := n_neq (a := dn_269) (b := 0) c_270 (by omega) (by decide)
    refine lv_aload_n hx hb dX2_surveyOf_34 rfl (lv_at hl 0 rfl) ?_
    exact hp_aretM (v := some (ad (34 + 4 * n))) rfl hx hb hr (Or.inl ⟨_, rfl⟩) hlocks hh (⟨hI, hf0, rfl⟩) dX2_surveyOf_35
  · have n_270 : dn_269 = 0 := n_eq (a := dn_269) (b := 0) c_270 (by omega) (by decide)
    refine lv_aload_n hx hb dX2_surveyOf_14 rfl (lv_at hl 1 rfl) ?_
    refine hp_callMv (va_runV (As := []) (rest := []) ⟨hx, hb, hml, hown, hts⟩ (c_X2_findWays l D cy _ cs ad en hI  ) (kw_X2_findWays hts tw_453 ⟨by show _ ≤ 20; omega, by show _ ≤ 40 * 20; omega⟩) (preV_of hh hK (hI.1 _ (by decide)) es267 rfl) rfl rfl hl.1 rfl (lv_room (Nat.le_of_ble_eq_true rfl)) dX2_surveyOf_15 ⟨Nat.le_of_ble_eq_true rfl, Nat.le_of_ble_eq_true rfl⟩) hh hA (fun H locs en_271 hw_271 hh => ?_)
    obtain ⟨hI_271, hu_271⟩ := hw_271
    have hf_271 : ∀ c, (c < 12 ∨ 70 ≤ c) → en_271 c = en c := fun c hc => (hu_271 c (by omega)).trans (hf0 c hc)
    refine lv_aload_n hx hb dX2_surveyOf_18 rfl (lv_at hl 0 rfl) ?_
    obtain ⟨dn_272, no_272, rc_272, gr_272, le_272, rt_272, tt_272, es272, p0_272⟩ := get_sv hI_271 (j := n) (by omega)
    refine hp_callMv (va_runV (As := []) (rest := []) ⟨hx, hb, hml, hown, hts⟩ (c_X6_restart l D cy _ cs ad en_271 hI_271 n (by omega)  ) (kw_X6_restart hts tw_471 ⟨by show _ ≤ 20; omega, by show _ ≤ 40 * 20; omega⟩) (preV_of hh hK (hI.1 _ (by omega)) es272 rfl) rfl rfl hl.1 rfl (lv_room (Nat.le_of_ble_eq_true rfl)) dX2_surveyOf_19 ⟨Nat.le_of_ble_eq_true rfl, Nat.le_of_ble_eq_true rfl⟩) hh hA (fun H locs en_273 hw_273 hh => ?_)
    obtain ⟨hI_273, hu_273⟩ := hw_273
    have hf_273 : ∀ c, (c < 12 ∨ 70 ≤ c) → en_273 c = en c := fun c hc => (hu_273 c (by omega)).trans (hf_271 c hc)
    refine lv_aload_n hx hb dX2_surveyOf_22 rfl (lv_at hl 1 rfl) ?_
    refine lv_aload_n hx hb dX2_surveyOf_23 rfl (lv_at hl 0 rfl) ?_
    refine lv_iload_n hx hb dX2_surveyOf_24 rfl (lv_at hl 2 rfl) ?_
    refine lv_iconst (v := 0) hx hb dX2_surveyOf_25 (by decide) ?_
    obtain ⟨dn_274, no_274, rc_274, gr_274, le_274, rt_274, tt_274, es274, p0_274⟩ := get_sv hI_273 (j := n) (by omega)
    obtain ⟨hw_275, es275, p0_275⟩ := get_L hI_273
    refine hp_callMv (va_runS (As := [.ref (ad 12), .ref (ad (34 + 4 * n)), .int (nI n), .int 0]) (rest := []) ⟨hx, hb, hml, hown, hts⟩ (c_X2_walk l D cy cs ad n (by omega) n (by omega) (by omega) n 0 (by omega) _ en_273 hI_273) (kw_X2_walk hts tw_477 ⟨by show _ ≤ 20; omega, by show _ ≤ 40 * 20; omega⟩) (preS_of hh hK) rfl rfl hl.1 rfl (lv_room (Nat.le_of_ble_eq_true rfl)) dX2_surveyOf_26 ⟨Nat.le_of_ble_eq_true rfl, Nat.le_of_ble_eq_true rfl⟩) hh hA (fun H locs en_276 hw_276 hh => ?_)
    obtain ⟨hI_276, hu_276⟩ := hw_276
    have hf_276 : ∀ c, (c < 12 ∨ 70 ≤ c) → en_276 c = en c := fun c hc => (hu_276 c (by omega)).trans (hf_273 c hc)
    refine lv_aload_n hx hb dX2_surveyOf_29 rfl (lv_at hl 0 rfl) ?_
    refine lv_iconst (v := 1) hx hb dX2_surveyOf_30 (by decide) ?_
    obtain ⟨dn_277, no_277, rc_277, gr_277, le_277, rt_277, tt_277, es277, p0_277⟩ := get_sv hI_276 (j := n) (by omega)
    refine hp_put hx hb hts ix6 tyX6 tyX6_ok nmX6 hown hK hh (q := (34 + 4 * n)) rfl (hI.1 _ (by omega)) es277 rfl 3 (by decide) (hts _ tw_86) (fun _ h9 => h9) rfl (ty := .boolean) (by decide +kernel) rfl rfl (Nat.le_of_ble_eq_true rfl) dX2_surveyOf_31 (fun H locs en_278 hen_278 hh => ?_)
    have es277_278 : en_278 (34 + 4 * n) = .inr (5, [.ref (ad (35 + 4 * n)), .ref (ad (36 + 4 * n)), .ref (ad (37 + 4 * n)), .int 1, .int no_277, .int rc_277, .long gr_277, .long le_277, .long rt_277, .long tt_277]) := by rw [hen_278]; exact va_up_self _ _ _
    have hI_278 : SX cy cs ad en_278 := by rw [hen_278]; exact up_sv hI_276 (j := n) (by omega) ⟨1, no_277, rc_277, gr_277, le_277, rt_277, tt_277, rfl, (by omega)⟩
    have hf_278 : ∀ c, (c < 12 ∨ 70 ≤ c) → en_278 c = en c := fun c hc => Eq.trans (show en_278 c = en_276 c from by rw [hen_278, va_up_ne _ _ (by omega)]) (hf_276 c hc)
    refine lv_aload_n hx hb dX2_surveyOf_34 rfl (lv_at hl 0 rfl) ?_
    exact hp_aretM (v := some (ad (34 + 4 * n))) rfl hx hb hr (Or.inl ⟨_, rfl⟩) hlocks hh (⟨hI_278, hf_278, rfl⟩) dX2_surveyOf_35
theorem kw_X2_surveyOf {R : Room} {s : State} {args : Array Value} {own : String} {idx : Nat} (hts : ∀ w ∈ TB, w.before args s = true) (hl : Cond.methodLink own idx yX2_surveyOf ∈ TB) (hR : 20 + 1 ≤ R.frames ∧ 8 + (3 + 11) + 40 * 20 ≤ R.locals) : CallW R s args own RX2 idx yX2_surveyOf cX2_surveyOf 3 (some (.object "AnyOrder$Survey")) (Cond.code yX2_surveyOf cX2_surveyOf 3 (some (.object "AnyOrder$Survey")) :: TB) (rmN 20) 0 0 1 := cwV 1 hts (TB_V hl tw_468 tw_469 tw_3 tw_470) rfl rfl rfl (by decide +kernel) hR
