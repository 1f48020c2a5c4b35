theorem kw_X2_walk {R : Room} {s : State} {args : Array Value} {idx : Nat} {dd : Nat} (hts : ∀ w ∈ TB, w.before args s = true) (hl : Cond.methodLink RX2 idx yX2_walk ∈ TB) (hR : dd + 1 ≤ R.frames ∧ 8 + (5 + 11) + 40 * dd ≤ R.locals) : CallB R s args RX2 idx yX2_walk cX2_walk 5 none (Cond.code yX2_walk cX2_walk 5 none :: TB) (rmN dd) 0 0 4 ∧ (Cond.static yX2_walk).before args s = true := cwS 4 hts (TB_S hl tw_478 tw_3 tw_479) rfl rfl rfl (by decide +kernel) hR
set_option maxHeartbeats 8000000 in
set_option maxRecDepth 100000 in
/-- walk -/
theorem c_X2_walk (l : Launch) (D : va_G) (cy : Nat → ClassId) (cs : List Nat) (ad : Nat → Nat) (J : Nat) (hJ : J < 9) (n : Nat) (hn1 : 1 ≤ n) (hn8 : n ≤ 8) (Q : List Nat → Bool) : ∀ (f dp : Nat), dp + f = n → ∀ (sz : Nat) (en : Nat → va_E) (hI : SX cy cs ad en) (hW : WYX en) (hPF : PFX en dp) (hQ : hQQ Q (rdF (en 10)) n), Met l yX2_walk (Cond.code yX2_walk cX2_walk 5 none :: TB) (rmN (5 + f)) (va_Pc [.ref (ad 12), .ref (ad (34 + 4 * J)), .int (nI n), .int (nI dp)] (Pre D cy cs ad en sz)) (va_Qv (S := Nat → va_E) (fun en1 => SX cy cs ad en1 ∧ (∀ c, (c ≠ 33 ∧ ¬ (25 ≤ c ∧ c ≤ 32) ∧ c ≠ 34 + 4 * J ∧ c ≠ 35 + 4 * J ∧ c ≠ 36 + 4 * J ∧ c ≠ 37 + 4 * J) → en1 c = en c) ∧ SVL en en1 J n Q ((wds (kX en) (aX en) (n - dp) (pv (gX en) dp)).map (fun w => pre (gX en) dp ++ w)) ∧ WKP en en1 dp) (PostM D cs ad) (Af cs ad sz)) 0 0 (Af cs ad sz) := by
  intro f
  induction f with
  | zero =>
    intro dp hdp sz en hI hW hPF hQ
    refine Met.ofW (cc := cX2_walk) (maxL := 5) (ret := none) (by decide) rfl ?_
    intro p e s m args below meth c s₁ B hml hv
    obtain ⟨rfl, hsz, hP, hK, hD0⟩ := hv
    have hx := B.exec
    have hb := B.bytes
    have hr := B.returns
    have hts : ∀ w ∈ TB, w.before _ s = true := fun w h => atoms_spec (ws := _ :: TB) B.pre w (List.mem_cons_of_mem _ h)
    have hown : s.vm.findClass RX2 = some m.cls := findClass_of_methodNamed B.named
    have hlocks := B.notSynchronized
    have hh : Hp D (Af cs ad sz) (Af cs ad sz) s.heap s.heap [] cs ad en := ⟨hP, Af_self hD0, va_S.rf⟩
    have hA : ∀ q : Nat, s.heap.size ≤ q → Af cs ad sz q := fun q h => Or.inr (by rw [hsz] at h; exact h)
    have hl := lv_entry ([.ref (ad 12), .ref (ad (34 + 4 * J)), .int (nI n), .int (nI dp)]) (n := 5) (Nat.le_of_ble_eq_true rfl)
    rw [lg_entry_eq]
    generalize (lg_sl ([.ref (ad 12), .ref (ad (34 + 4 * J)), .int (nI n), .int (nI dp)]) ++ List.replicate (5 - (lg_sl ([.ref (ad 12), .ref (ad (34 + 4 * J)), .int (nI n), .int (nI dp)])).length) Slot.unset).toArray = ls at hl ⊢
    have hl : lv_has ls 5 [(0, .ref (ad 12)), (1, .ref (ad (34 + 4 * J))), (2, .int (nI n)), (3, .int (nI dp))] := hl
    have hf0 : ∀ c, (c ≠ 33 ∧ ¬ (25 ≤ c ∧ c ≤ 32) ∧ c ≠ 34 + 4 * J ∧ c ≠ 35 + 4 * J ∧ c ≠ 36 + 4 * J ∧ c ≠ 37 + 4 * J) → en c = en c := fun _ _ => rfl
    obtain ⟨cnt, d, mm, es237, hcnt, hd2, hd3, hmm⟩ := get_T hI
    obtain ⟨f10, es238, hb10⟩ := get_alw hI
    have hk9 : kX en = cnt := by unfold kX; rw [show rdI (en 1) 4 = nI cnt from by rw [es237]; rfl]; exact nI_clamp (by omega)
    have ha9 : aX en = (alX f10) := by unfold aX; rw [show rdF (en 10) = f10 from by rw [es238]; rfl]
    refine lv_iload_n hx hb dX2_walk_0 rfl (lv_at hl 3 rfl) ?_
    refine lv_iload_n hx hb dX2_walk_1 rfl (lv_at hl 2 rfl) ?_
    refine lv_icmp_lt (tgt := 12) hx hb dX2_walk_2 (by decide) (fun c_239 => ?_) (fun c_239 => ?_)
    · have n_239 : dp < n := n_lt (a := dp) (b := n) c_239 (by omega) (by omega)
      exact absurd n_239 (by omega)
    · have n_239 : n ≤ dp := n_nlt (a := dp) (b := n) c_239 (by omega) (by omega)
      refine lv_aload_n hx hb dX2_walk_5 rfl (lv_at hl 0 rfl) ?_
      refine lv_aload_n hx hb dX2_walk_6 rfl (lv_at hl 1 rfl) ?_
      refine lv_iload_n hx hb dX2_walk_7 rfl (lv_at hl 2 rfl) ?_
      obtain ⟨dn_240, no_240, rc_240, gr_240, le_240, rt_240, tt_240, es240, p0_240⟩ := get_sv hI (j := J) (by omega)
      obtain ⟨hw_241, es241, p0_241⟩ := get_L hI
      refine hp_callMv (va_runV (As := [.ref (ad (34 + 4 * J)), .int (nI n)]) (rest := []) ⟨hx, hb, hml, hown, hts⟩ (c_X2_noteWord l D cy _ cs ad en hI J (by omega) n (by omega) (by omega) (show PFX en n from by rw [show n = dp by omega]; exact hPF) Q hQ) (kw_X2_noteWord hts tw_480 ⟨by decide, by decide⟩) (preV_of hh hK (hI.1 _ (by decide)) es241 rfl) rfl rfl hl.1 rfl (lv_room (Nat.le_of_ble_eq_true rfl)) dX2_walk_8 ⟨Nat.le_of_ble_eq_true rfl, Nat.le_of_ble_eq_true rfl⟩) hh hA (fun H locs en_242 hw_242 hh => ?_)
      obtain ⟨hI_242, hu_242, hx_242⟩ := hw_242
      have hf_242 : ∀ c, (c ≠ 33 ∧ ¬ (25 ≤ c ∧ c ≤ 32) ∧ c ≠ 34 + 4 * J ∧ c ≠ 35 + 4 * J ∧ c ≠ 36 + 4 * J ∧ c ≠ 37 + 4 * J) → en_242 c = en c := fun c hc => (hu_242 c (by omega)).trans (hf0 c hc)
      exact hp_vretM hx hb hr hlocks hh (⟨hI_242, hf_242, ⟨by rw [show n - dp = 0 by omega, show dp = n by omega, wds_end]; exact hx_242, ⟨fun x hx => by rw [hu_242 33 (by omega)], fun k hk => hu_242 _ (by omega)⟩⟩⟩) dX2_walk_11
  | succ f ih =>
    intro dp hdp sz en hI hW hPF hQ
    refine Met.ofW (cc := cX2_walk) (maxL := 5) (ret := none) (by decide) rfl ?_
    intro p e s m args below meth c s₁ B hml hv
    obtain ⟨rfl, hsz, hP, hK, hD0⟩ := hv
    have hx := B.exec
    have hb := B.bytes
    have hr := B.returns
    have hts : ∀ w ∈ TB, w.before _ s = true := fun w h => atoms_spec (ws := _ :: TB) B.pre w (List.mem_cons_of_mem _ h)
    have hown : s.vm.findClass RX2 = some m.cls := findClass_of_methodNamed B.named
    have hlocks := B.notSynchronized
    have hh : Hp D (Af cs ad sz) (Af cs ad sz) s.heap s.heap [] cs ad en := ⟨hP, Af_self hD0, va_S.rf⟩
    have hA : ∀ q : Nat, s.heap.size ≤ q → Af cs ad sz q := fun q h => Or.inr (by rw [hsz] at h; exact h)
    have hl := lv_entry ([.ref (ad 12), .ref (ad (34 + 4 * J)), .int (nI n), .int (nI dp)]) (n := 5) (Nat.le_of_ble_eq_true rfl)
    rw [lg_entry_eq]
    generalize (lg_sl ([.ref (ad 12), .ref (ad (34 + 4 * J)), .int (nI n), .int (nI dp)]) ++ List.replicate (5 - (lg_sl ([.ref (ad 12), .ref (ad (34 + 4 * J)), .int (nI n), .int (nI dp)])).length) Slot.unset).toArray = ls at hl ⊢
    have hl : lv_has ls 5 [(0, .ref (ad 12)), (1, .ref (ad (34 + 4 * J))), (2, .int (nI n)), (3, .int (nI dp))] := hl
    have hf0 : ∀ c, (c ≠ 33 ∧ ¬ (25 ≤ c ∧ c ≤ 32) ∧ c ≠ 34 + 4 * J ∧ c ≠ 35 + 4 * J ∧ c ≠ 36 + 4 * J ∧ c ≠ 37 + 4 * J) → en c = en c := fun _ _ => rfl
    obtain ⟨cnt, d, mm, es243, hcnt, hd2, hd3, hmm⟩ := get_T hI
    obtain ⟨f10, es244, hb10⟩ := get_alw hI
    have hk9 : kX en = cnt := by unfold kX; rw [show rdI (en 1) 4 = nI cnt from by rw [es243]; rfl]; exact nI_clamp (by omega)
    have ha9 : aX en = (alX f10) := by unfold aX; rw [show rdF (en 10) = f10 from by rw [es244]; rfl]
    refine lv_iload_n hx hb dX2_walk_0 rfl (lv_at hl 3 rfl) ?_
    refine lv_iload_n hx hb dX2_walk_1 rfl (lv_at hl 2 rfl) ?_
    refine lv_icmp_lt (tgt := 12) hx hb dX2_walk_2 (by decide) (fun c_245 => ?_) (fun c_245 => ?_)
    · have n_245 : dp < n := n_lt (a := dp) (b := n) c_245 (by omega) (by omega)
      refine lv_iconst (v := 0) hx hb dX2_walk_12 (by decide) ?_
      refine lv_istore (lv' := [(4, .int 0), (0, .ref (ad 12)), (1, .ref (ad (34 + 4 * J))), (2, .int (nI n)), (3, .int (nI dp))]) hx hb dX2_walk_13 hl (by decide) rfl (fun ls hl => ?_)
      have loop_246 : ∀ (fu j246 : Nat)  (en_246 : Nat → va_E) (ls : Array Slot) (H : Heap) (locs : List Loc), 0 ≤ j246 → j246 ≤ cnt → cnt < j246 + fu → SX cy cs ad en_246 → (∀ c, (c ≠ 33 ∧ ¬ (25 ≤ c ∧ c ≤ 32) ∧ c ≠ 34 + 4 * J ∧ c ≠ 35 + 4 * J ∧ c ≠ 36 + 4 * J ∧ c ≠ 37 + 4 * J) → en_246 c = en c) → (SVL en en_246 J n Q (wpx cnt (alX f10) (n - dp - 1) (gX en) dp j246)) → (WKP en en_246 dp) → lv_has ls 5 [(4, .int (nI j246)), (0, .ref (ad 12)), (1, .ref (ad (34 + 4 * J))), (2, .int (nI n)), (3, .int (nI dp))] → Hp D (Af cs ad sz) (Af cs ad sz) s.heap H locs cs ad en_246 → W p l e (headSpec (Cond.code yX2_walk cX2_walk 5 none :: TB) (rmN (5 + (f + 1)))).room s m ([.ref (ad 12), .ref (ad (34 + 4 * J)), .int (nI n), .int (nI dp)] : List Value).toArray below meth c H locs 0 0 (MQ below (va_Qv (S := Nat → va_E) (fun en1 => SX cy cs ad en1 ∧ (∀ c, (c ≠ 33 ∧ ¬ (25 ≤ c ∧ c ≤ 32) ∧ c ≠ 34 + 4 * J ∧ c ≠ 35 + 4 * J ∧ c ≠ 36 + 4 * J ∧ c ≠ 37 + 4 * J) → en1 c = en c) ∧ SVL en en1 J n Q ((wds (kX en) (aX en) (n - dp) (pv (gX en) dp)).map (fun w => pre (gX en) dp ++ w)) ∧ WKP en en1 dp) (PostM D cs ad) (Af cs ad sz)) ([.ref (ad 12), .ref (ad (34 + 4 * J)), .int (nI n), .int (nI dp)] : List Value).toArray s 0 0 (Af cs ad sz)) (F0 m 15 ls []) := by
        intro fu
        induction fu with
        | zero => intro j246  en_246 ls H locs h0 h1 h2; exact absurd h2 (by omega)
        | succ fu ih_246 =>
          intro j246  en_246 ls H locs hj0_246 hj_246 hfu_246 hI_246 hf_246 i0_246 i1_246 hl hh
          refine lv_iload hx hb dX2_walk_15 (lv_at hl 0 rfl) ?_
          refine lv_aload_n hx hb dX2_walk_17 rfl (lv_at hl 1 rfl) ?_
          obtain ⟨hw_247, es247, p0_247⟩ := get_L hI_246
          refine hp_get hx hb hts ix2 hown hK hh (q := 12) rfl (hI.1 _ (by decide)) es247 rfl 0 (by decide) (hts _ tw_122) (fun _ h9 => h9) rfl dX2_walk_18 ?_
          have es243_248 : en_246 1 = .inr (7, [.ref (ad 2), .ref (ad 3), .ref (ad 10), .ref (ad 11), .int (nI cnt), .int (nI d), .int (nI mm)]) := (hf_246 1 (by omega)).trans es243
          refine hp_callRi (va_runV (As := []) (rest := [.int (nI j246)]) ⟨hx, hb, hml, hown, hts⟩ (c_X8_count l D cy _ cs ad en_246 (hI.1 _ (by decide)) cnt d mm hcnt hd2 hd3 hmm  es243_248) (kw_X8_count hts tw_460 ⟨by show _ ≤ 5 + (f + 1); omega, by show _ ≤ 40 * (5 + (f + 1)); omega⟩) (preV_of hh hK (hI.1 _ (by decide)) es243_248 rfl) rfl rfl hl.1 rfl (lv_room (Nat.le_of_ble_eq_true rfl)) dX2_walk_21 ⟨Nat.le_of_ble_eq_true rfl, Nat.le_of_ble_eq_true rfl⟩) hh hA (fun r_249 H locs hw_249 hh => ?_)
          obtain rfl : r_249 = (nI cnt) := hw_249
          refine lv_icmp_ge (tgt := 60) hx hb dX2_walk_24 (by decide) (fun c_250 => ?_) (fun c_250 => ?_)
          · have n_250 : cnt ≤ j246 := n_le (a := cnt) (b := j246) c_250 (by omega) (by omega)
            exact hp_vretM hx hb hr hlocks hh (⟨hI_246, hf_246, ⟨by have e9 : j246 = cnt := (by omega); have h9 := i0_246; rw [e9, ← hk9] at h9; rw [show n - dp = (n - dp - 1) + 1 by omega, ← wpx_K, ha9]; exact h9, i1_246⟩⟩) dX2_walk_60
          · have n_250 : j246 < cnt := n_nle (a := cnt) (b := j246) c_250 (by omega) (by omega)
            refine lv_aload_n hx hb dX2_walk_27 rfl (lv_at hl 1 rfl) ?_
            refine lv_iload_n hx hb dX2_walk_28 rfl (lv_at hl 3 rfl) ?_
            refine lv_iload_n hx hb dX2_walk_29 rfl (lv_at hl 4 rfl) ?_
            refine lv_iload hx hb dX2_walk_30 (lv_at hl 0 rfl) ?_
            refine hp_callRi (va_runV (As := [.int (nI n), .int (nI dp), .int (nI j246)]) (rest := []) ⟨hx, hb, hml, hown, hts⟩ (c_X2_leadsOn l D cy _ cs ad en_246 hI_246 n dp j246 (by omega) (by omega) (by omega) (by rw [kX_c (hf_246 1 (by omega)), hk9]; omega) (WYX_c hW (hf_246 1 (by omega)) (hf_246 10 (by omega)) (fun c h1 h2 => hf_246 c (by omega)))) (kw_X2_leadsOn hts tw_524 ⟨by show _ ≤ 5 + (f + 1); omega, by show _ ≤ 40 * (5 + (f + 1)); omega⟩) (preV_of hh hK (hI.1 _ (by decide)) es247 rfl) rfl rfl hl.1 rfl (lv_room (Nat.le_of_ble_eq_true rfl)) dX2_walk_32 ⟨Nat.le_of_ble_eq_true rfl, Nat.le_of_ble_eq_true rfl⟩) hh hA (fun r_251 H locs hw_251 hh => ?_)
            rcases hw_251 with ⟨hb_251, hy_251⟩ | ⟨hb_251, hy_251⟩
            · obtain rfl : r_251 = 1 := hb_251
              refine lv_if_eq (tgt := 54) hx hb dX2_walk_35 (by decide) (fun c_0 => absurd c_0 (by decide)) (fun _ => ?_)
              refine lv_aload_n hx hb dX2_walk_38 rfl (lv_at hl 1 rfl) ?_
              refine lv_iload_n hx hb dX2_walk_39 rfl (lv_at hl 4 rfl) ?_
              refine lv_iload hx hb dX2_walk_40 (lv_at hl 0 rfl) ?_
              refine hp_callMv (va_runV (As := [.int (nI dp), .int (nI j246)]) (rest := []) ⟨hx, hb, hml, hown, hts⟩ (c_X2_extendPrefix l D cy _ cs ad en_246 hI_246 dp j246 (by omega) (by omega) (PFX_c hPF (hf_246 1 (by omega)) (fun c h1 h2 => hf_246 c (by omega)) i1_246.2 i1_246.1)) (kw_X2_extendPrefix hts tw_528 ⟨by show _ ≤ 5 + (f + 1); omega, by show _ ≤ 40 * (5 + (f + 1)); omega⟩) (preV_of hh hK (hI.1 _ (by decide)) es247 rfl) rfl rfl hl.1 rfl (lv_room (Nat.le_of_ble_eq_true rfl)) dX2_walk_42 ⟨Nat.le_of_ble_eq_true rfl, Nat.le_of_ble_eq_true rfl⟩) hh hA (fun H locs en_252 hw_252 hh => ?_)
              obtain ⟨hI_252, hu_252, hx_252⟩ := hw_252
              have hf_252 : ∀ c, (c ≠ 33 ∧ ¬ (25 ≤ c ∧ c ≤ 32) ∧ c ≠ 34 + 4 * J ∧ c ≠ 35 + 4 * J ∧ c ≠ 36 + 4 * J ∧ c ≠ 37 + 4 * J) → en_252 c = en c := fun c hc => (hu_252 c (by omega)).trans (hf_246 c hc)
              refine lv_aload_n hx hb dX2_walk_45 rfl (lv_at hl 1 rfl) ?_
              refine lv_aload_n hx hb dX2_walk_46 rfl (lv_at hl 2 rfl) ?_
              refine lv_iload_n hx hb dX2_walk_47 rfl (lv_at hl 3 rfl) ?_
              refine lv_iload_n hx hb dX2_walk_48 rfl (lv_at hl 4 rfl) ?_
              refine lv_iconst (v := 1) hx hb dX2_walk_49 (by decide) ?_
              refine lv_iadd hx hb dX2_walk_50 ?_
              rw [show (1 : Int32) = nI 1 from rfl, nI_add dp 1]
              obtain ⟨dn_253, no_253, rc_253, gr_253, le_253, rt_253, tt_253, es253, p0_253⟩ := get_sv hI_252 (j := J) (by omega)
              obtain ⟨hw_254, es254, p0_254⟩ := get_L hI_252
              refine hp_callMv (va_runS (As := [.ref (ad 12), .ref (ad (34 + 4 * J)), .int (nI n), .int (nI (dp + 1))]) (rest := []) ⟨hx, hb, hml, hown, hts⟩ (ih ((dp + 1)) (by omega) _ en_252 hI_252 (WYX_c hW (hf_252 1 (by omega)) (hf_252 10 (by omega)) (fun c h1 h2 => hf_252 c (by omega))) hx_252.1 (by rw [hf_252 10 (by omega)]; exact hQ)) (kw_X2_walk hts tw_477 ⟨by show _ ≤ 5 + (f + 1); omega, by show _ ≤ 40 * (5 + (f + 1)); omega⟩) (preS_of hh hK) rfl rfl hl.1 rfl (lv_room (Nat.le_of_ble_eq_true rfl)) dX2_walk_51 ⟨Nat.le_of_ble_eq_true rfl, Nat.le_of_ble_eq_true rfl⟩) hh hA (fun H locs en_255 hw_255 hh => ?_)
              obtain ⟨hI_255, hu_255, hx_255⟩ := hw_255
              have hf_255 : ∀ c, (c ≠ 33 ∧ ¬ (25 ≤ c ∧ c ≤ 32) ∧ c ≠ 34 + 4 * J ∧ c ≠ 35 + 4 * J ∧ c ≠ 36 + 4 * J ∧ c ≠ 37 + 4 * J) → en_255 c = en c := fun c hc => (hu_255 c (by omega)).trans (hf_252 c hc)
              refine lv_iinc (v := (nI (j246 + 1))) (lv' := [(4, .int (nI (j246 + 1))), (0, .ref (ad 12)), (1, .ref (ad (34 + 4 * J))), (2, .int (nI n)), (3, .int (nI dp))]) hx hb dX2_walk_54 hl (k := 0) rfl (nI_1 _) (by decide) rfl (fun ls hl => ?_)
              refine lv_goto (tgt := 15) hx hb dX2_walk_57 (by decide) ?_
              have hgd_255 : gX en_252 dp = j246 := by unfold gX; rw [hx_252.2.2]; exact nI_clamp (by omega)
              have hge_255 : ∀ x, x < dp → gX en_252 x = gX en x := fun x hx => by unfold gX; rw [hx_252.2.1 x (by omega), i1_246.1 x hx]
              have hsv_255 : SVL en_252 en_255 J n Q ((wds cnt (alX f10) (n - dp - 1) (pv (gX en_252) (dp + 1))).map (fun w => pre (gX en_252) (dp + 1) ++ w)) := by have h9 := hx_255.1; rw [kX_c (hf_252 1 (by omega)), aX_c (hf_252 10 (by omega)), hk9, ha9, show n - (dp + 1) = n - dp - 1 by omega] at h9; exact h9
              have hsa_255 : SVL en_246 en_255 J n Q ((wds cnt (alX f10) (n - dp - 1) (pv (gX en_252) (dp + 1))).map (fun w => pre (gX en_252) (dp + 1) ++ w)) := by unfold SVL; rw [← svN_c (J := J) (a := en_246) (b := en_252) (hu_252 _ (by omega)) (hu_252 _ (by omega)) (hu_252 _ (by omega)), ← svT_c (J := J) (a := en_246) (b := en_252) (hu_252 _ (by omega)), ← svR_c (J := J) (a := en_246) (b := en_252) (hu_252 _ (by omega)) (hu_252 _ (by omega)), ← dX_c (a := en_246) (b := en_252) (hu_252 1 (by omega)), ← mX_c (a := en_246) (b := en_252) (hu_252 1 (by omega)), ← rX_c (a := en_246) (b := en_252) (fun c h1 h2 => hu_252 c (by omega)), ← hu_252 10 (by omega)]; exact hsv_255
              exact ih_246 ((j246 + 1))  en_255 ls H locs (by omega) (by omega) (by omega) hI_255 hf_255 (by rw [wpx_yes (h := gX en_252) (by have h9 := hy_251.2; rw [aX_c (hf_246 10 (by omega)), ha9, pv_c (gX_w i1_246)] at h9; exact h9) hge_255 hgd_255]; exact SVL_tr i0_246 hsa_255 (hf_246 1 (by omega)) (fun c h1 h2 => hf_246 c (by omega)) (hf_246 10 (by omega))) (WKP_tr i1_246 (WKP_tr (b := en_252) ⟨fun x hx => hx_252.2.1 x (by omega), fun q hq => hu_252 _ (by omega)⟩ (WKP_le hx_255.2))) (lv_sub hl [0, 1, 2, 3, 4] rfl) hh
            · obtain rfl : r_251 = 0 := hb_251
              refine lv_if_eq (tgt := 54) hx hb dX2_walk_35 (by decide) (fun _ => ?_) (fun c_0 => absurd c_0 (by decide))
              refine lv_iinc (v := (nI (j246 + 1))) (lv' := [(4, .int (nI (j246 + 1))), (0, .ref (ad 12)), (1, .ref (ad (34 + 4 * J))), (2, .int (nI n)), (3, .int (nI dp))]) hx hb dX2_walk_54 hl (k := 0) rfl (nI_1 _) (by decide) rfl (fun ls hl => ?_)
              refine lv_goto (tgt := 15) hx hb dX2_walk_57 (by decide) ?_
              exact ih_246 ((j246 + 1))  en_246 ls H locs (by omega) (by omega) (by omega) hI_246 hf_246 (by rw [wpx_no (by have h9 := hy_251; rw [kX_c (hf_246 1 (by omega)), aX_c (hf_246 10 (by omega)), hk9, ha9, pv_c (gX_w i1_246)] at h9; exact h9)]; exact i0_246) (i1_246) (lv_sub hl [0, 1, 2, 3, 4] rfl) hh
      exact loop_246 (cnt + 1) 0  en ls _ _ (Nat.le_refl _) (by omega) (by omega) hI hf0 (SVL_0) (WKP_rf en dp) (lv_sub hl [0, 1, 2, 3, 4] rfl) hh
    · have n_245 : n ≤ dp := n_nlt (a := dp) (b := n) c_245 (by omega) (by omega)
      exact absurd n_245 (by omega)
set_option maxHeartbeats 4000000 in
set_option maxRecDepth 100000 in
/-- surveyOf -/
theorem c_X2_surveyOf (l : Launch) (D : va_G) (cy : Nat → ClassId) (sz : Nat) (cs : List Nat) (ad : Nat → Nat) (en : Nat → va_E) (hI : SX cy cs ad en) (n : Nat) (hn1 : 1 ≤ n) (hn8 : n ≤ 8) (hLN : LNX en)   : Met l yX2_surveyOf (Cond.code yX2_surveyOf cX2_surveyOf 3 (some (.object "AnyOrder$Survey")) :: TB) (rmN 20) (va_Pc [.ref (ad 12), .int (nI n)] (Pre D cy cs ad en sz)) (va_Qq (S := Nat → va_E) (fun r en1 => SX cy cs ad en1 ∧ (∀ c, (c < 12 ∨ 70 ≤ c) → en1 c = en c) ∧ (r = some (ad (34 + 4 * n)) ∧ LNX en1 ∧ SVF en1 n)) (PostM D cs ad) (Af cs ad sz)) 0 0 (Af cs ad sz) := by
  refine Met.ofW (cc := cX2_surveyOf) (maxL := 3) (ret := (some (.object "AnyOrder$Survey"))) (by decide) rfl ?_
  intro p e s m args below meth c s₁ B hml hv
  obtain ⟨rfl, hsz, hP, hK, hD0⟩ := hv
  have hx := B.exec
  have hb := B.bytes
  have hr := B.returns
  have hts : ∀ w ∈ TB, w.before _ s = true := fun w h => atoms_spec (ws := _ :: TB) B.pre w (List.mem_cons_of_mem _ h)
  have hown : s.vm.findClass RX2 = some m.cls := findClass_of_methodNamed B.named
  have hlocks := B.notSynchronized
  have hh : Hp D (Af cs ad sz) (Af cs ad sz) s.heap s.heap [] cs ad en := ⟨hP, Af_self hD0, va_S.rf⟩
  have hA : ∀ q : Nat, s.heap.size ≤ q → Af cs ad sz q := fun q h => Or.inr (by rw [hsz] at h; exact h)
  have hl := lv_entry ([.ref (ad 12), .int (nI n)]) (n := 3) (Nat.le_of_ble_eq_true rfl)
  rw [lg_entry_eq]
  generalize (lg_sl ([.ref (ad 12), .int (nI n)]) ++ List.replicate (3 - (lg_sl ([.ref (ad 12), .int (nI n)])).length) Slot.unset).toArray = ls at hl ⊢
  have hl : lv_has ls 3 [(0, .ref (ad 12)), (1, .int (nI n))] := hl
  have hf0 : ∀ c, (c < 12 ∨ 70 ≤ c) → en c = en c := fun _ _ => rfl
  obtain ⟨cnt, d, mm, es256, hcnt, hd2, hd3, hmm⟩ := get_T hI
  obtain ⟨f10, es257, hb10⟩ := get_alw hI
  obtain ⟨dn_258, no_258, rc_258, gr_258, le_258, rt_258, tt_258, es258, p0_258⟩ := get_sv hI (j := n) (by omega)
  have hk9 : kX en = cnt := by unfold kX; rw [show rdI (en 1) 4 = nI cnt from by rw [es256]; rfl]; exact nI_clamp (by omega)
  have ha9 : aX en = (alX f10) := by unfold aX; rw [show rdF (en 10) = f10 from by rw [es257]; rfl]
  have hWO := hLN.1
  obtain ⟨Q, hQ⟩ := exQ (fun w => tuP (rdF (en 10)) (lF w) n ∧ ahA (lF w) n)
  refine lv_aload_n hx hb dX2_surveyOf_0 rfl (lv_at hl 0 rfl) ?_
  obtain ⟨hw_259, es259, p0_259⟩ := get_L hI
  refine hp_get hx hb hts ix2 hown hK hh (q := 12) rfl (hI.1 _ (by decide)) es259 rfl 1 (by decide) (hts _ tw_123) (fun _ h9 => h9) rfl dX2_surveyOf_1 ?_
  refine lv_iload_n hx hb dX2_surveyOf_4 rfl (lv_at hl 1 rfl) ?_
  have es260 := get_svs hI
  unfold P_svs at es260
  refine hp_aald hx hb hK hh (q := 13) rfl (hI.1 _ (by decide)) 4 es260 rfl rfl (vp_in_nI (n := n) (by omega) (by decide)) (v := .ref (ad (34 + 4 * n))) (by rw [nI_clamp (n := n) (by omega)]; exact rfB_v (by omega)) dX2_surveyOf_5 ?_
  refine lv_astore_n (lv' := [(2, .ref (ad (34 + 4 * n))), (0, .ref (ad 12)), (1, .int (nI n))]) hx hb dX2_surveyOf_6 rfl hl (by decide) rfl (fun ls hl => ?_)
  refine lv_aload_n hx hb dX2_surveyOf_7 rfl (lv_at hl 0 rfl) ?_
  refine hp_get hx hb hts ix6 hown hK hh (q := (34 + 4 * n)) rfl (hI.1 _ (by omega)) es258 rfl 3 (by decide) (hts _ tw_86) (fun _ h9 => h9) rfl dX2_surveyOf_8 ?_
  refine lv_if_ne (tgt := 34) hx hb dX2_surveyOf_11 (by decide) (fun c_261 => ?_) (fun c_261 => ?_)
  · have n_261 : dn_258 ≠ 0 := n_neq (a := dn_258) (b := 0) c_261 (by omega) (by decide)
    refine lv_aload_n hx hb dX2_surveyOf_34 rfl (lv_at hl 0 rfl) ?_
    exact hp_aretM (v := some (ad (34 + 4 * n))) rfl hx hb hr (Or.inl ⟨_, rfl⟩) hlocks hh (⟨hI, hf0, ⟨rfl, hLN, hLN.2 n hn1 hn8 (by have e9 : dn_258 = 1 := (by omega); rw [es258, e9]; rfl)⟩⟩) dX2_surveyOf_35
  · have n_261 : dn_258 = 0 := n_eq (a := dn_258) (b := 0) c_261 (by omega) (by decide)
    refine lv_aload_n hx hb dX2_surveyOf_14 rfl (lv_at hl 1 rfl) ?_
    refine hp_callMv (va_runV (As := []) (rest := []) ⟨hx, hb, hml, hown, hts⟩ (c_X2_findWays l D cy _ cs ad en hI hWO) (kw_X2_findWays hts tw_453 ⟨by show _ ≤ 20; omega, by show _ ≤ 40 * 20; omega⟩) (preV_of hh hK (hI.1 _ (by decide)) es259 rfl) rfl rfl hl.1 rfl (lv_room (Nat.le_of_ble_eq_true rfl)) dX2_surveyOf_15 ⟨Nat.le_of_ble_eq_true rfl, Nat.le_of_ble_eq_true rfl⟩) hh hA (fun H locs en_262 hw_262 hh => ?_)
    obtain ⟨hI_262, hu_262, hx_262⟩ := hw_262
    have hf_262 : ∀ c, (c < 12 ∨ 70 ≤ c) → en_262 c = en c := fun c hc => (hu_262 c (by omega)).trans (hf0 c hc)
    refine lv_aload_n hx hb dX2_surveyOf_18 rfl (lv_at hl 0 rfl) ?_
    obtain ⟨dn_263, no_263, rc_263, gr_263, le_263, rt_263, tt_263, es263, p0_263⟩ := get_sv hI_262 (j := n) (by omega)
    refine hp_callMv (va_runV (As := []) (rest := []) ⟨hx, hb, hml, hown, hts⟩ (c_X6_restart l D cy _ cs ad en_262 hI_262 n (by omega)  ) (kw_X6_restart hts tw_471 ⟨by show _ ≤ 20; omega, by show _ ≤ 40 * 20; omega⟩) (preV_of hh hK (hI.1 _ (by omega)) es263 rfl) rfl rfl hl.1 rfl (lv_room (Nat.le_of_ble_eq_true rfl)) dX2_surveyOf_19 ⟨Nat.le_of_ble_eq_true rfl, Nat.le_of_ble_eq_true rfl⟩) hh hA (fun H locs en_264 hw_264 hh => ?_)
    obtain ⟨hI_264, hu_264, hx_264⟩ := hw_264
    have hf_264 : ∀ c, (c < 12 ∨ 70 ≤ c) → en_264 c = en c := fun c hc => (hu_264 c (by omega)).trans (hf_262 c hc)
    refine lv_aload_n hx hb dX2_surveyOf_22 rfl (lv_at hl 1 rfl) ?_
    refine lv_aload_n hx hb dX2_surveyOf_23 rfl (lv_at hl 0 rfl) ?_
    refine lv_iload_n hx hb dX2_surveyOf_24 rfl (lv_at hl 2 rfl) ?_
    refine lv_iconst (v := 0) hx hb dX2_surveyOf_25 (by decide) ?_
    obtain ⟨dn_265, no_265, rc_265, gr_265, le_265, rt_265, tt_265, es265, p0_265⟩ := get_sv hI_264 (j := n) (by omega)
    obtain ⟨hw_266, es266, p0_266⟩ := get_L hI_264
    refine hp_callMv (va_runS (As := [.ref (ad 12), .ref (ad (34 + 4 * n)), .int (nI n), .int 0]) (rest := []) ⟨hx, hb, hml, hown, hts⟩ (c_X2_walk l D cy cs ad n (by omega) n (by omega) (by omega) Q n 0 (by omega) _ en_264 hI_264 (WYX_c hx_262.1 (hu_264 1 (by omega)) (hu_264 10 (by omega)) (fun c h1 h2 => hu_264 c (by omega))) (fun k hk => absurd hk (Nat.not_lt_zero k)) (by rw [hf_264 10 (by omega)]; exact hQ)) (kw_X2_walk hts tw_477 ⟨by show _ ≤ 20; omega, by show _ ≤ 40 * 20; omega⟩) (preS_of hh hK) rfl rfl hl.1 rfl (lv_room (Nat.le_of_ble_eq_true rfl)) dX2_surveyOf_26 ⟨Nat.le_of_ble_eq_true rfl, Nat.le_of_ble_eq_true rfl⟩) hh hA (fun H locs en_267 hw_267 hh => ?_)
    obtain ⟨hI_267, hu_267, hx_267⟩ := hw_267
    have hf_267 : ∀ c, (c < 12 ∨ 70 ≤ c) → en_267 c = en c := fun c hc => (hu_267 c (by omega)).trans (hf_264 c hc)
    refine lv_aload_n hx hb dX2_surveyOf_29 rfl (lv_at hl 0 rfl) ?_
    refine lv_iconst (v := 1) hx hb dX2_surveyOf_30 (by decide) ?_
    obtain ⟨dn_268, no_268, rc_268, gr_268, le_268, rt_268, tt_268, es268, p0_268⟩ := get_sv hI_267 (j := n) (by omega)
    refine hp_put hx hb hts ix6 tyX6 tyX6_ok nmX6 hown hK hh (q := (34 + 4 * n)) rfl (hI.1 _ (by omega)) es268 rfl 3 (by decide) (hts _ tw_86) (fun _ h9 => h9) rfl (ty := .boolean) (by decide +kernel) rfl rfl (Nat.le_of_ble_eq_true rfl) dX2_surveyOf_31 (fun H locs en_269 hen_269 hh => ?_)
    have es268_269 : en_269 (34 + 4 * n) = .inr (5, [.ref (ad (35 + 4 * n)), .ref (ad (36 + 4 * n)), .ref (ad (37 + 4 * n)), .int 1, .int no_268, .int rc_268, .long gr_268, .long le_268, .long rt_268, .long tt_268]) := by rw [hen_269]; exact va_up_self _ _ _
    have hI_269 : SX cy cs ad en_269 := by rw [hen_269]; exact up_sv hI_267 (j := n) (by omega) ⟨1, no_268, rc_268, gr_268, le_268, rt_268, tt_268, rfl, (by omega)⟩
    have hf_269 : ∀ c, (c < 12 ∨ 70 ≤ c) → en_269 c = en c := fun c hc => Eq.trans (show en_269 c = en_267 c from by rw [hen_269, va_up_ne _ _ (by omega)]) (hf_267 c hc)
    refine lv_aload_n hx hb dX2_surveyOf_34 rfl (lv_at hl 0 rfl) ?_
    have hwl : SVL en_264 en_267 n n Q (wds cnt (alX f10) n none) := by have h9 := hx_267.1; rw [Nat.sub_zero, wds_all, kX_c (hf_264 1 (by omega)), aX_c (hf_264 10 (by omega)), hk9, ha9] at h9; exact h9
    unfold SVL at hwl
    rw [hx_264.1, hx_264.2.1, hx_264.2.2, dX_c (hf_264 1 (by omega)), mX_c (hf_264 1 (by omega)), rX_c (a := en) (fun c h1 h2 => hf_264 c (by omega)), hf_264 10 (by omega)] at hwl
    have hsN : svN en_269 n = svN en_267 n := by unfold svN; rw [es268_269, es268]; rw [show en_269 (35 + 4 * n) = en_267 (35 + 4 * n) from by rw [hen_269, va_up_ne _ _ (by omega)], show en_269 (36 + 4 * n) = en_267 (36 + 4 * n) from by rw [hen_269, va_up_ne _ _ (by omega)]]; rfl
    have hsT : svT en_269 n = svT en_267 n := by unfold svT; rw [es268_269, es268]; rfl
    have hsR : svR en_269 n = svR en_267 n := by unfold svR; rw [es268_269, es268]; rw [show en_269 (37 + 4 * n) = en_267 (37 + 4 * n) from by rw [hen_269, va_up_ne _ _ (by omega)]]; rfl
    have hsf : SVF en_269 n := by unfold SVF; rw [kX_c (hf_269 1 (by omega)), dX_c (hf_269 1 (by omega)), mX_c (hf_269 1 (by omega)), rX_c (a := en) (fun c h1 h2 => hf_269 c (by omega)), aX_c (hf_269 10 (by omega)), hf_269 10 (by omega), hsN, hsT, hsR, hk9, ha9]; exact ⟨⟨_, _, hwl.1⟩, hwl.2.1, fun Q2 h2 => by rw [Q_eq h2 hQ]; exact ⟨_, hwl.2.2⟩⟩
    have hln : LNX en_269 := ⟨fun _ => WYX_c hx_262.1 (by rw [hf_269 1 (by omega), hf_262 1 (by omega)]) (by rw [hf_269 10 (by omega), hf_262 10 (by omega)]) (fun c h1 h2 => by rw [show en_269 c = en_267 c from by rw [hen_269, va_up_ne _ _ (by omega)], hu_267 c (by omega), hu_264 c (by omega)]), fun m h1 h2 => (Decidable.em (m = n)).elim (fun e => by rw [e]; exact fun _ => hsf) (fun e => SOK_c (hLN.2 m h1 h2) (hf_269 1 (by omega)) (fun c h3 h4 => hf_269 c (by omega)) (hf_269 10 (by omega)) (fun c h3 h4 => by rw [show en_269 c = en_267 c from by rw [hen_269, va_up_ne _ _ (by omega)], hu_267 c (by omega), hu_264 c (by omega), hu_262 c (by omega)]))⟩
    exact hp_aretM (v := some (ad (34 + 4 * n))) rfl hx hb hr (Or.inl ⟨_, rfl⟩) hlocks hh (⟨hI_269, hf_269, ⟨rfl, hln, hsf⟩⟩) dX2_surveyOf_35
theorem kw_X2_surveyOf {R : Room} {s : State} {args : Array Value} {own : String} {idx : Nat} (hts : ∀ w ∈ TB, w.before args s = true) (hl : Cond.methodLink own idx yX2_surveyOf ∈ TB) (hR : 20 + 1 ≤ R.frames ∧ 8 + (3 + 11) + 40 * 20 ≤ R.locals) : CallW R s args own RX2 idx yX2_surveyOf cX2_surveyOf 3 (some (.object "AnyOrder$Survey")) (Cond.code yX2_surveyOf cX2_surveyOf 3 (some (.object "AnyOrder$Survey")) :: TB) (rmN 20) 0 0 1 := cwV 1 hts (TB_V hl tw_468 tw_469 tw_3 tw_470) rfl rfl rfl (by decide +kernel) hR
