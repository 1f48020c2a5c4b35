set_option maxHeartbeats 4000000 in
set_option maxRecDepth 100000 in
/-- countWays -/
theorem c_X2_countWays (l : Launch) (D : va_G) (cy : Nat → ClassId) (sz : Nat) (cs : List Nat) (ad : Nat → Nat) (en : Nat → va_E) (hI : SX cy cs ad en) (n le : Nat) (hn2 : 2 ≤ n) (hn8 : n ≤ 8) (hle : le < 6) (hW : WYp (kX en) (aX en) en (n - 1))   : Met l yX2_countWays (Cond.code yX2_countWays cX2_countWays 5 (some .int) :: TB) (rmN 2) (va_Pc [.ref (ad 12), .int (nI n), .int (nI le)] (Pre D cy cs ad en sz)) (va_Qi (S := Unit) (fun r _ => r = nI (bw (kX en) (aX en) (n - 1) le)) (fun _ _ => True) (Nf sz)) 0 0 (Nf sz) := by
  refine Met.ofW (cc := cX2_countWays) (maxL := 5) (ret := (some .int)) (by decide) rfl ?_
  intro p e s m args below meth c s₁ B hml hv
  obtain ⟨rfl, hsz, hP, hK, hD0⟩ := hv
  have hx := B.exec
  have hb := B.bytes
  have hr := B.returns
  have hts : ∀ w ∈ TB, w.before _ s = true := fun w h => atoms_spec (ws := _ :: TB) B.pre w (List.mem_cons_of_mem _ h)
  have hown : s.vm.findClass RX2 = some m.cls := findClass_of_methodNamed B.named
  have hlocks := B.notSynchronized
  have hh : Hp D (Nf sz) (fun _ => True) s.heap s.heap [] cs ad en := ⟨hP, hD0, va_S.rf⟩
  have hA : ∀ q : Nat, s.heap.size ≤ q → Nf sz q := fun q h => by rw [hsz] at h; exact h
  have hl := lv_entry ([.ref (ad 12), .int (nI n), .int (nI le)]) (n := 5) (Nat.le_of_ble_eq_true rfl)
  rw [lg_entry_eq]
  generalize (lg_sl ([.ref (ad 12), .int (nI n), .int (nI le)]) ++ List.replicate (5 - (lg_sl ([.ref (ad 12), .int (nI n), .int (nI le)])).length) Slot.unset).toArray = ls at hl ⊢
  have hl : lv_has ls 5 [(0, .ref (ad 12)), (1, .int (nI n)), (2, .int (nI le))] := hl
  obtain ⟨cnt, d, mm, es89, hcnt, hd2, hd3, hmm⟩ := get_T hI
  obtain ⟨f10, es90, hb10⟩ := get_alw hI
  obtain ⟨hw_91, es91, p0_91⟩ := get_L hI
  have es92 := get_wys hI
  unfold P_wys at es92
  have hk9 : kX en = cnt := by unfold kX; rw [show rdI (en 1) 4 = nI cnt from by rw [es89]; rfl]; exact nI_clamp (by omega)
  have ha9 : aX en = (alX f10) := by unfold aX; rw [show rdF (en 10) = f10 from by rw [es90]; rfl]
  rw [hk9, ha9] at hW
  refine lv_iconst (v := 0) hx hb dX2_countWays_0 (by decide) ?_
  refine lv_istore_n (lv' := [(3, .int 0), (0, .ref (ad 12)), (1, .int (nI n)), (2, .int (nI le))]) hx hb dX2_countWays_1 rfl hl (by decide) rfl (fun ls hl => ?_)
  refine lv_iconst (v := 0) hx hb dX2_countWays_2 (by decide) ?_
  refine lv_istore (lv' := [(4, .int 0), (3, .int 0), (0, .ref (ad 12)), (1, .int (nI n)), (2, .int (nI le))]) hx hb dX2_countWays_3 hl (by decide) rfl (fun ls hl => ?_)
  have loop_93 : ∀ (fu j93 : Nat) (ac93 : Int32)  (ls : Array Slot) (H : Heap) (locs : List Loc), 0 ≤ j93 → j93 ≤ cnt → cnt < j93 + fu →  (ac93 = nI (sumN (fun u => if (alX f10) le u then bw cnt (alX f10) (n - 1 - 1) u else 0) j93)) → lv_has ls 5 [(4, .int (nI j93)), (3, .int ac93), (0, .ref (ad 12)), (1, .int (nI n)), (2, .int (nI le))] → Hp D (Nf sz) (fun _ => True) s.heap H locs cs ad en → W p l e (headSpec (Cond.code yX2_countWays cX2_countWays 5 (some .int) :: TB) (rmN 2)).room s m ([.ref (ad 12), .int (nI n), .int (nI le)] : List Value).toArray below meth c H locs 0 0 (MQ below (va_Qi (S := Unit) (fun r _ => r = nI (bw (kX en) (aX en) (n - 1) le)) (fun _ _ => True) (Nf sz)) ([.ref (ad 12), .int (nI n), .int (nI le)] : List Value).toArray s 0 0 (Nf sz)) (F0 m 5 ls []) := by
    intro fu
    induction fu with
    | zero => intro j93 ac93 ls H locs h0 h1 h2; exact absurd h2 (by omega)
    | succ fu ih_93 =>
      intro j93 ac93 ls H locs hj0_93 hj_93 hfu_93 i0_93 hl hh
      refine lv_iload hx hb dX2_countWays_5 (lv_at hl 0 rfl) ?_
      refine lv_aload_n hx hb dX2_countWays_7 rfl (lv_at hl 2 rfl) ?_
      refine hp_get hx hb hts ix2 hown hK hh (q := 12) rfl (hI.1 _ (by decide)) es91 rfl 0 (by decide) (hts _ tw_122) (fun _ h9 => h9) rfl dX2_countWays_8 ?_
      refine hp_callRi (va_runV (As := []) (rest := [.int (nI j93)]) ⟨hx, hb, hml, hown, hts⟩ (c_X8_count l D cy _ cs ad en (hI.1 _ (by decide)) cnt d mm hcnt hd2 hd3 hmm  es89) (kw_X8_count hts tw_460 ⟨by decide, by decide⟩) (preV_of hh hK (hI.1 _ (by decide)) es89 rfl) rfl rfl hl.1 rfl (lv_room (Nat.le_of_ble_eq_true rfl)) dX2_countWays_11 ⟨Nat.le_of_ble_eq_true rfl, Nat.le_of_ble_eq_true rfl⟩) hh hA (fun r_94 H locs hw_94 hh => ?_)
      obtain rfl : r_94 = (nI cnt) := hw_94
      refine lv_icmp_ge (tgt := 50) hx hb dX2_countWays_14 (by decide) (fun c_95 => ?_) (fun c_95 => ?_)
      · have n_95 : cnt ≤ j93 := n_le (a := cnt) (b := j93) c_95 (by omega) (by omega)
        refine lv_iload_n hx hb dX2_countWays_50 rfl (lv_at hl 1 rfl) ?_
        exact hp_iretR hx hb hr rfl hlocks hsz hh (by rw [hk9, ha9]; have e9 : j93 = cnt := (by omega); rw [e9] at i0_93; exact i0_93.trans (congrArg nI (bw_s (by omega)).symm)) dX2_countWays_51
      · have n_95 : j93 < cnt := n_nle (a := cnt) (b := j93) c_95 (by omega) (by omega)
        refine lv_aload_n hx hb dX2_countWays_17 rfl (lv_at hl 2 rfl) ?_
        refine hp_get hx hb hts ix2 hown hK hh (q := 12) rfl (hI.1 _ (by decide)) es91 rfl 0 (by decide) (hts _ tw_122) (fun _ h9 => h9) rfl dX2_countWays_18 ?_
        refine lv_iload_n hx hb dX2_countWays_21 rfl (lv_at hl 4 rfl) ?_
        refine lv_iload hx hb dX2_countWays_22 (lv_at hl 0 rfl) ?_
        refine hp_callRi (va_runV (As := [.int (nI le), .int (nI j93)]) (rest := []) ⟨hx, hb, hml, hown, hts⟩ (c_X8_mayFollow l D cy _ cs ad en (hI.1 _ (by decide)) cnt d mm hcnt hd2 hd3 hmm (hI.1 _ (by decide)) f10 hb10 le j93 (by omega) (by omega) es89 es90) (kw_X8_mayFollow hts tw_465 ⟨by decide, by decide⟩) (preV_of hh hK (hI.1 _ (by decide)) es89 rfl) rfl rfl hl.1 rfl (lv_room (Nat.le_of_ble_eq_true rfl)) dX2_countWays_24 ⟨Nat.le_of_ble_eq_true rfl, Nat.le_of_ble_eq_true rfl⟩) hh hA (fun r_96 H locs hw_96 hh => ?_)
        rcases hb10 (le * 6 + j93) (a6 (by omega) (by omega)) with hz_96 | hz_96
        · obtain rfl : r_96 = 0 := Eq.trans hw_96 hz_96
          refine lv_if_eq (tgt := 44) hx hb dX2_countWays_27 (by decide) (fun _ => ?_) (fun c_0 => absurd c_0 (by decide))
          refine lv_iinc (v := (nI (j93 + 1))) (lv' := [(4, .int (nI (j93 + 1))), (3, .int ac93), (0, .ref (ad 12)), (1, .int (nI n)), (2, .int (nI le))]) hx hb dX2_countWays_44 hl (k := 0) rfl (nI_1 _) (by decide) rfl (fun ls hl => ?_)
          refine lv_goto (tgt := 5) hx hb dX2_countWays_47 (by decide) ?_
          exact ih_93 ((j93 + 1)) ac93 ls H locs (by omega) (by omega) (by omega) (i0_93.trans (NS_0 (if_neg (fun q => absurd ((of_decide_eq_true (p := f10 (le * 6 + j93) = 1) q).symm.trans hz_96) (by decide))))) (lv_sub hl [0, 1, 2, 3, 4] rfl) hh
        · obtain rfl : r_96 = 1 := Eq.trans hw_96 hz_96
          refine lv_if_eq (tgt := 44) hx hb dX2_countWays_27 (by decide) (fun c_0 => absurd c_0 (by decide)) (fun _ => ?_)
          refine lv_iload_n hx hb dX2_countWays_30 rfl (lv_at hl 1 rfl) ?_
          refine lv_aload_n hx hb dX2_countWays_31 rfl (lv_at hl 2 rfl) ?_
          refine hp_get hx hb hts ix2 hown hK hh (q := 12) rfl (hI.1 _ (by decide)) es91 rfl 2 (by decide) (hts _ tw_124) (fun _ h9 => h9) rfl dX2_countWays_32 ?_
          refine lv_iload_n hx hb dX2_countWays_35 rfl (lv_at hl 3 rfl) ?_
          refine lv_iconst (v := 1) hx hb dX2_countWays_36 (by decide) ?_
          refine lv_isub hx hb dX2_countWays_37 ?_
          rw [show (1 : Int32) = nI 1 from rfl, pk_sub (a := n) (b := 1) (by omega)]
          refine hp_aald hx hb hK hh (q := 14) rfl (hI.1 _ (by decide)) 7 es92 rfl rfl (vp_in_nI (n := (n - 1)) (by omega) (by decide)) (v := .ref (ad (15 + (n - 1)))) (by rw [nI_clamp (n := (n - 1)) (by omega)]; exact rfA_v (by omega)) dX2_countWays_38 ?_
          refine lv_iload hx hb dX2_countWays_39 (lv_at hl 0 rfl) ?_
          obtain ⟨f_97, es97⟩ := get_way hI (j := (n - 1)) (by omega)
          refine hp_iald hx hb hK hh (q := (15 + (n - 1))) rfl (hI.1 _ (by omega)) es97 (vp_in_nI (n := j93) (by omega) (by decide)) dX2_countWays_41 ?_
          rw [nI_clamp (n := j93) (by omega)]
          refine lv_iadd hx hb dX2_countWays_42 ?_
          refine lv_istore_n (lv' := [(3, .int (ac93 + (f_97 j93))), (4, .int (nI j93)), (0, .ref (ad 12)), (1, .int (nI n)), (2, .int (nI le))]) hx hb dX2_countWays_43 rfl hl (by decide) rfl (fun ls hl => ?_)
          refine lv_iinc (v := (nI (j93 + 1))) (lv' := [(4, .int (nI (j93 + 1))), (3, .int (ac93 + (f_97 j93))), (0, .ref (ad 12)), (1, .int (nI n)), (2, .int (nI le))]) hx hb dX2_countWays_44 hl (k := 1) rfl (nI_1 _) (by decide) rfl (fun ls hl => ?_)
          refine lv_goto (tgt := 5) hx hb dX2_countWays_47 (by decide) ?_
          exact ih_93 ((j93 + 1)) (ac93 + (f_97 j93)) ls H locs (by omega) (by omega) (by omega) (by rw [i0_93]; exact NS_s ((show f_97 j93 = rdF (en (15 + (n - 1))) j93 from by rw [es97]; rfl).trans ((hW j93 (by omega)).trans (congrArg nI (if_pos (decide_eq_true hz_96)).symm)))) (lv_sub hl [0, 1, 2, 3, 4] rfl) hh
  exact loop_93 (cnt + 1) 0 0 ls _ _ (Nat.le_refl _) (by omega) (by omega) (rfl) (lv_sub hl [0, 1, 2, 3, 4] rfl) hh
theorem kw_X2_countWays {R : Room} {s : State} {args : Array Value} {own : String} {idx : Nat} (hts : ∀ w ∈ TB, w.before args s = true) (hl : Cond.methodLink own idx yX2_countWays ∈ TB) (hR : 2 + 1 ≤ R.frames ∧ 8 + (5 + 11) + 40 * 2 ≤ R.locals) : CallW R s args own RX2 idx yX2_countWays cX2_countWays 5 (some .int) (Cond.code yX2_countWays cX2_countWays 5 (some .int) :: TB) (rmN 2) 0 0 2 := cwV 2 hts (TB_V hl tw_463 ts_9 tw_3 tw_464) rfl rfl rfl (by decide +kernel) hR
set_option maxHeartbeats 4000000 in
set_option maxRecDepth 100000 in
/-- Arrays.fill -/
theorem c_J7_fill_53178 (l : Launch) (D : va_G) (cy : Nat → ClassId) (sz : Nat) (cs : List Nat) (ad : Nat → Nat) (en : Nat → va_E) (q n : Nat) (hq : q ∈ cs) (hnb : n < 2 ^ 31) (f0 : Nat → Int32) (v : Int32) (eq : en q = .inl (cy 0, n, .inl f0))  : Met l yJ7_fill_53178 (Cond.code yJ7_fill_53178 cJ7_fill_53178 4 none :: TB) (rmN 0) (va_Pc [.ref (ad q), .int v] (Pre D cy cs ad en sz)) (va_Qv (S := Nat → va_E) (fun en1 => ∃ f : Nat → Int32, en1 = va_up en q (.inl (cy 0, n, .inl f)) ∧ ∀ i, i < n → f i = v) (PostM D cs ad) (Af cs ad sz)) 0 0 (Af cs ad sz) := by
  refine Met.ofW (cc := cJ7_fill_53178) (maxL := 4) (ret := none) (by decide) rfl ?_
  intro p e s m args below meth c s₁ B hml hv
  obtain ⟨rfl, hsz, hP, hK, hD0⟩ := hv
  have hx := B.exec
  have hb := B.bytes
  have hr := B.returns
  have hts : ∀ w ∈ TB, w.before _ s = true := fun w h => atoms_spec (ws := _ :: TB) B.pre w (List.mem_cons_of_mem _ h)
  have hown : s.vm.findClass RJ7 = some m.cls := findClass_of_methodNamed B.named
  have hlocks := B.notSynchronized
  have hh : Hp D (Af cs ad sz) (Af cs ad sz) s.heap s.heap [] cs ad en := ⟨hP, Af_self hD0, va_S.rf⟩
  have hA : ∀ q : Nat, s.heap.size ≤ q → Af cs ad sz q := fun q h => Or.inr (by rw [hsz] at h; exact h)
  have hl := lv_entry ([.ref (ad q), .int v]) (n := 4) (Nat.le_of_ble_eq_true rfl)
  rw [lg_entry_eq]
  generalize (lg_sl ([.ref (ad q), .int v]) ++ List.replicate (4 - (lg_sl ([.ref (ad q), .int v])).length) Slot.unset).toArray = ls at hl ⊢
  have hl : lv_has ls 4 [(0, .ref (ad q)), (1, .int v)] := hl
  refine lv_iconst (v := 0) hx hb dJ7_fill_53178_0 (by decide) ?_
  refine lv_istore_n (lv' := [(2, .int 0), (0, .ref (ad q)), (1, .int v)]) hx hb dJ7_fill_53178_1 rfl hl (by decide) rfl (fun ls hl => ?_)
  refine lv_aload_n hx hb dJ7_fill_53178_2 rfl (lv_at hl 1 rfl) ?_
  refine hp_alen hx hb hK hh (q := q) rfl hq 0 eq rfl (v := nI n) (rfl) dJ7_fill_53178_3 ?_
  refine lv_istore_n (lv' := [(3, .int (nI n)), (2, .int 0), (0, .ref (ad q)), (1, .int v)]) hx hb dJ7_fill_53178_4 rfl hl (by decide) rfl (fun ls hl => ?_)
  have loop_69 : ∀ (fu j : Nat) (g : Nat → Int32) (ls : Array Slot) (H : Heap) (locs : List Loc) (en_69 : Nat → va_E), j ≤ n → n < j + fu → en_69 = va_up en q (.inl (cy 0, n, .inl g)) → (∀ i, i < j → g i = v) → lv_has ls 4 [(3, .int (nI n)), (2, .int (nI j)), (0, .ref (ad q)), (1, .int v)] → Hp D (Af cs ad sz) (Af cs ad sz) s.heap H locs cs ad en_69 → W p l e (headSpec (Cond.code yJ7_fill_53178 cJ7_fill_53178 4 none :: TB) (rmN 0)).room s m ([.ref (ad q), .int v] : List Value).toArray below meth c H locs 0 0 (MQ below (va_Qv (S := Nat → va_E) (fun en1 => ∃ f : Nat → Int32, en1 = va_up en q (.inl (cy 0, n, .inl f)) ∧ ∀ i, i < n → f i = v) (PostM D cs ad) (Af cs ad sz)) ([.ref (ad q), .int v] : List Value).toArray s 0 0 (Af cs ad sz)) (F0 m 5 ls []) := by
    intro fu
    induction fu with
    | zero => intro j g ls H locs en_69 h1 h2; exact absurd h2 (by omega)
    | succ fu ih =>
      intro j g ls H locs en_69 hj hn hen_69 hg hl hh
      have eq_69 : en_69 q = .inl (cy 0, n, .inl g) := by rw [hen_69]; exact va_up_self _ _ _
      rcases Nat.lt_or_ge j n with hjN | hjN
      · refine lv_iload_n hx hb dJ7_fill_53178_5 rfl (lv_at hl 1 rfl) ?_
        refine lv_iload_n hx hb dJ7_fill_53178_6 rfl (lv_at hl 0 rfl) ?_
        refine lv_icmp_ge (tgt := 20) hx hb dJ7_fill_53178_7 (by decide) (fun c_0 => absurd c_0 (nI_ge (b := n) hjN hnb)) (fun _ => ?_)
        refine lv_aload_n hx hb dJ7_fill_53178_10 rfl (lv_at hl 2 rfl) ?_
        refine lv_iload_n hx hb dJ7_fill_53178_11 rfl (lv_at hl 1 rfl) ?_
        refine lv_iload_n hx hb dJ7_fill_53178_12 rfl (lv_at hl 3 rfl) ?_
        refine hp_iast hx hb hK hh (q := q) rfl hq eq_69 (vp_in_nI hjN hnb) dJ7_fill_53178_13 (fun H locs en_70 hen_70 hh => ?_)
        have eq_70 : en_70 q = .inl (cy 0, n, .inl (upd g (nI j).toNatClampNeg v)) := by rw [hen_70]; exact va_up_self _ _ _
        refine lv_iinc (v := nI (j + 1)) (lv' := [(2, .int (nI (j + 1))), (3, .int (nI n)), (0, .ref (ad q)), (1, .int v)]) hx hb dJ7_fill_53178_14 hl (k := 1) rfl (nI_1 _) (by decide) rfl (fun ls hl => ?_)
        refine lv_goto (tgt := 5) hx hb dJ7_fill_53178_17 (by decide) ?_
        exact ih (j + 1) _ ls H locs en_70 (by omega) (by omega) (by rw [hen_70, hen_69, bx_uu]; try rfl) (up_lt hjN hnb hg) (lv_sub hl [1, 0, 2, 3] rfl) hh
      · have hgN : ∀ i, i < n → g i = v := fun i hi => hg i (by omega)
        refine lv_iload_n hx hb dJ7_fill_53178_5 rfl (lv_at hl 1 rfl) ?_
        refine lv_iload_n hx hb dJ7_fill_53178_6 rfl (lv_at hl 0 rfl) ?_
        refine lv_icmp_ge (tgt := 20) hx hb dJ7_fill_53178_7 (by decide) (fun _ => ?_) (fun c_0 => absurd (nI_le (a := n) hjN (by omega)) c_0)
        exact hp_vretM hx hb hr hlocks hh (⟨g, hen_69, hgN⟩) dJ7_fill_53178_20
  exact loop_69 (n + 1) 0 f0 ls _ _ en (Nat.zero_le _) (by omega) (va_up_id eq).symm (fun i hi => absurd hi (Nat.not_lt_zero i)) (lv_sub hl [0, 1, 2, 3] rfl) hh
theorem kw_J7_fill_53178 {R : Room} {s : State} {args : Array Value} {own : String} {idx : Nat} (hts : ∀ w ∈ TB, w.before args s = true) (hl : Cond.methodLink own idx yJ7_fill_53178 ∈ TB) (hR : 0 + 1 ≤ R.frames ∧ 8 + (4 + 11) + 40 * 0 ≤ R.locals) : CallB R s args own idx yJ7_fill_53178 cJ7_fill_53178 4 none (Cond.code yJ7_fill_53178 cJ7_fill_53178 4 none :: TB) (rmN 0) 0 0 2 ∧ (Cond.static yJ7_fill_53178).before args s = true := va_cwS 2 hts (TB_S2 hl tw_458 tw_10 tw_459) rfl rfl rfl (by decide +kernel) hR
set_option maxHeartbeats 4000000 in
set_option maxRecDepth 100000 in
/-- findWays -/
theorem c_X2_findWays (l : Launch) (D : va_G) (cy : Nat → ClassId) (sz : Nat) (cs : List Nat) (ad : Nat → Nat) (en : Nat → va_E) (hI : SX cy cs ad en) (hWO : WOK en)   : Met l yX2_findWays (Cond.code yX2_findWays cX2_findWays 3 none :: TB) (rmN 3) (va_Pc [.ref (ad 12)] (Pre D cy cs ad en sz)) (va_Qv (S := Nat → va_E) (fun en1 => SX cy cs ad en1 ∧ (∀ c, (c ≠ 12 ∧ ¬ (15 ≤ c ∧ c ≤ 23)) → en1 c = en c) ∧ (WYX en1 ∧ rdI (en1 12) 5 = 1)) (PostM D cs ad) (Af cs ad sz)) 0 0 (Af cs ad sz) := by
  refine Met.ofW (cc := cX2_findWays) (maxL := 3) (ret := none) (by decide) rfl ?_
  intro p e s m args below meth c s₁ B hml hv
  obtain ⟨rfl, hsz, hP, hK, hD0⟩ := hv
  have hx := B.exec
  have hb := B.bytes
  have hr := B.returns
  have hts : ∀ w ∈ TB, w.before _ s = true := fun w h => atoms_spec (ws := _ :: TB) B.pre w (List.mem_cons_of_mem _ h)
  have hown : s.vm.findClass RX2 = some m.cls := findClass_of_methodNamed B.named
  have hlocks := B.notSynchronized
  have hh : Hp D (Af cs ad sz) (Af cs ad sz) s.heap s.heap [] cs ad en := ⟨hP, Af_self hD0, va_S.rf⟩
  have hA : ∀ q : Nat, s.heap.size ≤ q → Af cs ad sz q := fun q h => Or.inr (by rw [hsz] at h; exact h)
  have hl := lv_entry ([.ref (ad 12)]) (n := 3) (Nat.le_of_ble_eq_true rfl)
  rw [lg_entry_eq]
  generalize (lg_sl ([.ref (ad 12)]) ++ List.replicate (3 - (lg_sl ([.ref (ad 12)])).length) Slot.unset).toArray = ls at hl ⊢
  have hl : lv_has ls 3 [(0, .ref (ad 12))] := hl
  have hf0 : ∀ c, (c ≠ 12 ∧ ¬ (15 ≤ c ∧ c ≤ 23)) → en c = en c := fun _ _ => rfl
  obtain ⟨cnt, d, mm, es98, hcnt, hd2, hd3, hmm⟩ := get_T hI
  obtain ⟨f10, es99, hb10⟩ := get_alw hI
  have hk9 : kX en = cnt := by unfold kX; rw [show rdI (en 1) 4 = nI cnt from by rw [es98]; rfl]; exact nI_clamp (by omega)
  have ha9 : aX en = (alX f10) := by unfold aX; rw [show rdF (en 10) = f10 from by rw [es99]; rfl]
  refine lv_aload_n hx hb dX2_findWays_0 rfl (lv_at hl 0 rfl) ?_
  obtain ⟨hw_100, es100, p0_100⟩ := get_L hI
  refine hp_get hx hb hts ix2 hown hK hh (q := 12) rfl (hI.1 _ (by decide)) es100 rfl 5 (by decide) (hts _ tw_127) (fun _ h9 => h9) rfl dX2_findWays_1 ?_
  refine lv_if_eq (tgt := 8) hx hb dX2_findWays_4 (by decide) (fun c_101 => ?_) (fun c_101 => ?_)
  · have n_101 : hw_100 = 0 := n_eq (a := hw_100) (b := 0) c_101 (by omega) (by decide)
    refine lv_aload_n hx hb dX2_findWays_8 rfl (lv_at hl 0 rfl) ?_
    refine hp_get hx hb hts ix2 hown hK hh (q := 12) rfl (hI.1 _ (by decide)) es100 rfl 2 (by decide) (hts _ tw_124) (fun _ h9 => h9) rfl dX2_findWays_9 ?_
    refine lv_iconst (v := 1) hx hb dX2_findWays_12 (by decide) ?_
    have es102 := get_wys hI
    unfold P_wys at es102
    rw [show (1 : Int32) = nI 1 from rfl]
    refine hp_aald hx hb hK hh (q := 14) rfl (hI.1 _ (by decide)) 7 es102 rfl rfl (vp_in_nI (n := 1) (by decide) (by decide)) (v := .ref (ad (15 + 1))) (by rw [nI_clamp (n := 1) (by decide)]; exact rfA_v (by decide)) dX2_findWays_13 ?_
    refine lv_iconst (v := 1) hx hb dX2_findWays_14 (by decide) ?_
    obtain ⟨f_103, es103⟩ := get_way hI (j := 1) (by decide)
    refine hp_callMv (va_runS (As := [.ref (ad (15 + 1)), .int 1]) (rest := []) ⟨hx, hb, hml, hown, hts⟩ (c_J7_fill_53178 l D cy _ cs ad en (15 + 1) 6 (hI.1 _ (by omega)) (by decide) f_103 1 es103) (kw_J7_fill_53178 hts tw_457 ⟨by decide, by decide⟩) (preS_of hh hK) rfl rfl hl.1 rfl (lv_room (Nat.le_of_ble_eq_true rfl)) dX2_findWays_15 ⟨Nat.le_of_ble_eq_true rfl, Nat.le_of_ble_eq_true rfl⟩) hh hA (fun H locs en_104 hw_104 hh => ?_)
    obtain ⟨f_104, hen_104, hf9_104⟩ := hw_104
    have es98_104 : en_104 1 = .inr (7, [.ref (ad 2), .ref (ad 3), .ref (ad 10), .ref (ad 11), .int (nI cnt), .int (nI d), .int (nI mm)]) := by rw [hen_104, va_up_ne _ _ (by omega)]; exact es98
    have es99_104 : en_104 10 = .inl (cy 2, 36, .inl f10) := by rw [hen_104, va_up_ne _ _ (by omega)]; exact es99
    have es100_104 : en_104 12 = .inr (2, [.ref (ad 1), .ref (ad 13), .ref (ad 14), .ref (ad 24), .ref (ad 33), .int (nI hw_100)]) := by rw [hen_104, va_up_ne _ _ (by omega)]; exact es100
    have es102_104 : en_104 14 = .inl (cy 7, 9, .inr (.inr (.inr (.inr (rfA ad 9 15))))) := by rw [hen_104, va_up_ne _ _ (by omega)]; exact es102
    have es103_104 : en_104 (15 + 1) = .inl (cy 0, 6, .inl f_104) := by rw [hen_104]; exact va_up_self _ _ _
    have hI_104 : SX cy cs ad en_104 := by rw [hen_104]; exact up_way hI (j := 1) (by decide) ⟨f_104, rfl⟩
    have hf_104 : ∀ c, (c ≠ 12 ∧ ¬ (15 ≤ c ∧ c ≤ 23)) → en_104 c = en c := fun c hc => Eq.trans (show en_104 c = en c from by rw [hen_104, va_up_ne _ _ (by omega)]) (hf0 c hc)
    refine lv_iconst (v := 2) hx hb dX2_findWays_18 (by decide) ?_
    refine lv_istore_n (lv' := [(1, .int 2), (0, .ref (ad 12))]) hx hb dX2_findWays_19 rfl hl (by decide) rfl (fun ls hl => ?_)
    have loop_105 : ∀ (fu j105 : Nat)  (en_105 : Nat → va_E) (ls : Array Slot) (H : Heap) (locs : List Loc), 2 ≤ j105 → j105 ≤ 9 → 9 < j105 + fu → SX cy cs ad en_105 → (∀ c, (c ≠ 12 ∧ ¬ (15 ≤ c ∧ c ≤ 23)) → en_105 c = en c) → (∀ m, 1 ≤ m → m < j105 → WYp cnt (alX f10) en_105 m) → lv_has ls 3 [(1, .int (nI j105)), (0, .ref (ad 12))] → Hp D (Af cs ad sz) (Af cs ad sz) s.heap H locs cs ad en_105 → W p l e (headSpec (Cond.code yX2_findWays cX2_findWays 3 none :: TB) (rmN 3)).room s m ([.ref (ad 12)] : List Value).toArray below meth c H locs 0 0 (MQ below (va_Qv (S := Nat → va_E) (fun en1 => SX cy cs ad en1 ∧ (∀ c, (c ≠ 12 ∧ ¬ (15 ≤ c ∧ c ≤ 23)) → en1 c = en c) ∧ (WYX en1 ∧ rdI (en1 12) 5 = 1)) (PostM D cs ad) (Af cs ad sz)) ([.ref (ad 12)] : List Value).toArray s 0 0 (Af cs ad sz)) (F0 m 20 ls []) := by
      intro fu
      induction fu with
      | zero => intro j105  en_105 ls H locs h0 h1 h2; exact absurd h2 (by omega)
      | succ fu ih_105 =>
        intro j105  en_105 ls H locs hj0_105 hj_105 hfu_105 hI_105 hf_105 i0_105 hl hh
        refine lv_iload_n hx hb dX2_findWays_20 rfl (lv_at hl 0 rfl) ?_
        refine lv_bipush (v := 8) hx hb dX2_findWays_21 (by decide) ?_
        refine lv_icmp_gt (tgt := 65) hx hb dX2_findWays_23 (by decide) (fun c_106 => ?_) (fun c_106 => ?_)
        · have n_106 : 8 < j105 := n_lt (a := 8) (b := j105) c_106 (by decide) (by omega)
          refine lv_aload_n hx hb dX2_findWays_65 rfl (lv_at hl 1 rfl) ?_
          refine lv_iconst (v := 1) hx hb dX2_findWays_66 (by decide) ?_
          obtain ⟨hw_107, es107, p0_107⟩ := get_L hI_105
          refine hp_put hx hb hts ix2 tyX2 tyX2_ok nmX2 hown hK hh (q := 12) rfl (hI.1 _ (by decide)) es107 rfl 5 (by decide) (hts _ tw_127) (fun _ h9 => h9) rfl (ty := .boolean) (by decide +kernel) rfl rfl (Nat.le_of_ble_eq_true rfl) dX2_findWays_67 (fun H locs en_108 hen_108 hh => ?_)
          have es107_108 : en_108 12 = .inr (2, [.ref (ad 1), .ref (ad 13), .ref (ad 14), .ref (ad 24), .ref (ad 33), .int 1]) := by rw [hen_108]; exact va_up_self _ _ _
          have hI_108 : SX cy cs ad en_108 := by rw [hen_108]; exact up_L hI_105 ⟨1, rfl, (by omega)⟩
          have hf_108 : ∀ c, (c ≠ 12 ∧ ¬ (15 ≤ c ∧ c ≤ 23)) → en_108 c = en c := fun c hc => Eq.trans (show en_108 c = en_105 c from by rw [hen_108, va_up_ne _ _ (by omega)]) (hf_105 c hc)
          exact hp_vretM hx hb hr hlocks hh (⟨hI_108, hf_108, ⟨fun m h1 h2 t ht => by rw [kX_c (hf_108 1 (by omega)), hk9] at ht; rw [kX_c (hf_108 1 (by omega)), aX_c (hf_108 10 (by omega)), hk9, ha9]; rw [show en_108 (15 + m) = en_105 (15 + m) from by rw [hen_108, va_up_ne _ _ (by omega)]]; exact i0_105 m h1 (by omega) t ht, by rw [es107_108]; rfl⟩⟩) dX2_findWays_70
        · have n_106 : j105 ≤ 8 := n_nlt (a := 8) (b := j105) c_106 (by decide) (by omega)
          refine lv_iconst (v := 0) hx hb dX2_findWays_26 (by decide) ?_
          refine lv_istore_n (lv' := [(2, .int 0), (1, .int (nI j105)), (0, .ref (ad 12))]) hx hb dX2_findWays_27 rfl hl (by decide) rfl (fun ls hl => ?_)
          have loop_109 : ∀ (fu j109 : Nat)  (en_109 : Nat → va_E) (ls : Array Slot) (H : Heap) (locs : List Loc), 0 ≤ j109 → j109 ≤ cnt → cnt < j109 + fu → SX cy cs ad en_109 → (∀ c, (c ≠ 12 ∧ ¬ (15 ≤ c ∧ c ≤ 23)) → en_109 c = en c) → (∀ m, 1 ≤ m → m < j105 → WYp cnt (alX f10) en_109 m) → (∀ t, t < j109 → rdF (en_109 (15 + j105)) t = nI (bw cnt (alX f10) (j105 - 1) t)) → lv_has ls 3 [(2, .int (nI j109)), (1, .int (nI j105)), (0, .ref (ad 12))] → Hp D (Af cs ad sz) (Af cs ad sz) s.heap H locs cs ad en_109 → W p l e (headSpec (Cond.code yX2_findWays cX2_findWays 3 none :: TB) (rmN 3)).room s m ([.ref (ad 12)] : List Value).toArray below meth c H locs 0 0 (MQ below (va_Qv (S := Nat → va_E) (fun en1 => SX cy cs ad en1 ∧ (∀ c, (c ≠ 12 ∧ ¬ (15 ≤ c ∧ c ≤ 23)) → en1 c = en c) ∧ (WYX en1 ∧ rdI (en1 12) 5 = 1)) (PostM D cs ad) (Af cs ad sz)) ([.ref (ad 12)] : List Value).toArray s 0 0 (Af cs ad sz)) (F0 m 28 ls []) := by
            intro fu
            induction fu with
            | zero => intro j109  en_109 ls H locs h0 h1 h2; exact absurd h2 (by omega)
            | succ fu ih_109 =>
              intro j109  en_109 ls H locs hj0_109 hj_109 hfu_109 hI_109 hf_109 i0_109 i1_109 hl hh
              refine lv_iload_n hx hb dX2_findWays_28 rfl (lv_at hl 0 rfl) ?_
              refine lv_aload_n hx hb dX2_findWays_29 rfl (lv_at hl 2 rfl) ?_
              obtain ⟨hw_110, es110, p0_110⟩ := get_L hI_109
              refine hp_get hx hb hts ix2 hown hK hh (q := 12) rfl (hI.1 _ (by decide)) es110 rfl 0 (by decide) (hts _ tw_122) (fun _ h9 => h9) rfl dX2_findWays_30 ?_
              have es98_111 : en_109 1 = .inr (7, [.ref (ad 2), .ref (ad 3), .ref (ad 10), .ref (ad 11), .int (nI cnt), .int (nI d), .int (nI mm)]) := (hf_109 1 (by omega)).trans es98
              refine hp_callRi (va_runV (As := []) (rest := [.int (nI j109)]) ⟨hx, hb, hml, hown, hts⟩ (c_X8_count l D cy _ cs ad en_109 (hI.1 _ (by decide)) cnt d mm hcnt hd2 hd3 hmm  es98_111) (kw_X8_count hts tw_460 ⟨by decide, by decide⟩) (preV_of hh hK (hI.1 _ (by decide)) es98_111 rfl) rfl rfl hl.1 rfl (lv_room (Nat.le_of_ble_eq_true rfl)) dX2_findWays_33 ⟨Nat.le_of_ble_eq_true rfl, Nat.le_of_ble_eq_true rfl⟩) hh hA (fun r_112 H locs hw_112 hh => ?_)
              obtain rfl : r_112 = (nI cnt) := hw_112
              refine lv_icmp_ge (tgt := 59) hx hb dX2_findWays_36 (by decide) (fun c_113 => ?_) (fun c_113 => ?_)
              · have n_113 : cnt ≤ j109 := n_le (a := cnt) (b := j109) c_113 (by omega) (by omega)
                refine lv_iinc (v := (nI (j105 + 1))) (lv' := [(1, .int (nI (j105 + 1))), (2, .int (nI j109)), (0, .ref (ad 12))]) hx hb dX2_findWays_59 hl (k := 1) rfl (nI_1 _) (by decide) rfl (fun ls hl => ?_)
                refine lv_goto (tgt := 20) hx hb dX2_findWays_62 (by decide) ?_
                exact ih_105 ((j105 + 1))  en_109 ls H locs (by omega) (by omega) (by omega) hI_109 hf_109 (fun m h1 h2 => (Nat.lt_or_ge m j105).elim (fun h => i0_109 m h1 h) (fun h => by have e : m = j105 := (by omega); have e9 : j109 = cnt := (by omega); rw [e]; intro t ht; exact i1_109 t (by omega))) (lv_sub hl [0, 2] rfl) hh
              · have n_113 : j109 < cnt := n_nle (a := cnt) (b := j109) c_113 (by omega) (by omega)
                refine lv_aload_n hx hb dX2_findWays_39 rfl (lv_at hl 2 rfl) ?_
                refine hp_get hx hb hts ix2 hown hK hh (q := 12) rfl (hI.1 _ (by decide)) es110 rfl 2 (by decide) (hts _ tw_124) (fun _ h9 => h9) rfl dX2_findWays_40 ?_
                refine lv_iload_n hx hb dX2_findWays_43 rfl (lv_at hl 1 rfl) ?_
                have es102_114 : en_109 14 = .inl (cy 7, 9, .inr (.inr (.inr (.inr (rfA ad 9 15))))) := (hf_109 14 (by omega)).trans es102
                refine hp_aald hx hb hK hh (q := 14) rfl (hI.1 _ (by decide)) 7 es102_114 rfl rfl (vp_in_nI (n := j105) (by omega) (by decide)) (v := .ref (ad (15 + j105))) (by rw [nI_clamp (n := j105) (by omega)]; exact rfA_v (by omega)) dX2_findWays_44 ?_
                refine lv_iload_n hx hb dX2_findWays_45 rfl (lv_at hl 0 rfl) ?_
                refine lv_aload_n hx hb dX2_findWays_46 rfl (lv_at hl 2 rfl) ?_
                refine lv_iload_n hx hb dX2_findWays_47 rfl (lv_at hl 1 rfl) ?_
                refine lv_iload_n hx hb dX2_findWays_48 rfl (lv_at hl 0 rfl) ?_
                refine hp_callRi (va_runV (As := [.int (nI j105), .int (nI j109)]) (rest := [.int (nI j109), .ref (ad (15 + j105))]) ⟨hx, hb, hml, hown, hts⟩ (c_X2_countWays l D cy _ cs ad en_109 hI_109 j105 j109 (by omega) (by omega) (by omega) (by rw [kX_c (hf_109 1 (by omega)), aX_c (hf_109 10 (by omega)), hk9, ha9]; exact i0_109 (j105 - 1) (by omega) (by omega))) (kw_X2_countWays hts tw_461 ⟨by decide, by decide⟩) (preV_of hh hK (hI.1 _ (by decide)) es110 rfl) rfl rfl hl.1 rfl (lv_room (Nat.le_of_ble_eq_true rfl)) dX2_findWays_49 ⟨Nat.le_of_ble_eq_true rfl, Nat.le_of_ble_eq_true rfl⟩) hh hA (fun r_115 H locs hw_115 hh => ?_)
                rw [kX_c (hf_109 1 (by omega)), aX_c (hf_109 10 (by omega)), hk9, ha9] at hw_115
                obtain ⟨f_116, es116⟩ := get_way hI_109 (j := j105) (by omega)
                refine hp_iast hx hb hK hh (q := (15 + j105)) rfl (hI.1 _ (by omega)) es116 (vp_in_nI (n := j109) (by omega) (by decide)) dX2_findWays_52 (fun H locs en_117 hen_117 hh => ?_)
                rw [nI_clamp (n := j109) (by omega)] at hen_117
                have es110_117 : en_117 12 = .inr (2, [.ref (ad 1), .ref (ad 13), .ref (ad 14), .ref (ad 24), .ref (ad 33), .int (nI hw_110)]) := by rw [hen_117, va_up_ne _ _ (by omega)]; exact es110
                have es98_117 : en_117 1 = .inr (7, [.ref (ad 2), .ref (ad 3), .ref (ad 10), .ref (ad 11), .int (nI cnt), .int (nI d), .int (nI mm)]) := by rw [hen_117, va_up_ne _ _ (by omega)]; exact es98_111
                have es102_117 : en_117 14 = .inl (cy 7, 9, .inr (.inr (.inr (.inr (rfA ad 9 15))))) := by rw [hen_117, va_up_ne _ _ (by omega)]; exact es102_114
                have es116_117 : en_117 (15 + j105) = .inl (cy 0, 6, .inl (upd f_116 j109 r_115)) := by rw [hen_117]; exact va_up_self _ _ _
                have hI_117 : SX cy cs ad en_117 := by rw [hen_117]; exact up_way hI_109 (j := j105) (by omega) ⟨(upd f_116 j109 r_115), rfl⟩
                have hf_117 : ∀ c, (c ≠ 12 ∧ ¬ (15 ≤ c ∧ c ≤ 23)) → en_117 c = en c := fun c hc => Eq.trans (show en_117 c = en_109 c from by rw [hen_117, va_up_ne _ _ (by omega)]) (hf_109 c hc)
                refine lv_iinc (v := (nI (j109 + 1))) (lv' := [(2, .int (nI (j109 + 1))), (1, .int (nI j105)), (0, .ref (ad 12))]) hx hb dX2_findWays_53 hl (k := 0) rfl (nI_1 _) (by decide) rfl (fun ls hl => ?_)
                refine lv_goto (tgt := 28) hx hb dX2_findWays_56 (by decide) ?_
                exact ih_109 ((j109 + 1))  en_117 ls H locs (by omega) (by omega) (by omega) hI_117 hf_117 (fun m h1 h2 t ht => by rw [show en_117 (15 + m) = en_109 (15 + m) from by rw [hen_117, va_up_ne _ _ (by omega)]]; exact i0_109 m h1 h2 t ht) (fun t ht => by rw [es116_117]; exact lw_up (g := fun t => nI (bw cnt (alX f10) (j105 - 1) t)) (fun y hy => (show f_116 y = rdF (en_109 (15 + j105)) y from by rw [es116]; rfl).trans (i1_109 y hy)) hw_115.symm t ht) (lv_sub hl [0, 1, 2] rfl) hh
          exact loop_109 (cnt + 1) 0  en_105 ls _ _ (Nat.le_refl _) (by omega) (by omega) hI_105 hf_105 (i0_105) (fun t h => absurd h (Nat.not_lt_zero t)) (lv_sub hl [0, 1, 2] rfl) hh
    exact loop_105 (9 + 1) 2  en_104 ls _ _ (Nat.le_refl _) (by omega) (by omega) hI_104 hf_104 (fun m h1 h2 t ht => by have e : m = 1 := (by omega); rw [e, es103_104]; exact hf9_104 t (by omega)) (lv_sub hl [0, 1] rfl) hh
  · have n_101 : hw_100 ≠ 0 := n_neq (a := hw_100) (b := 0) c_101 (by omega) (by decide)
    exact hp_vretM hx hb hr hlocks hh (⟨hI, hf0, (by have e9 : hw_100 = 1 := (by omega); have e8 : rdI (en 12) 5 = 1 := (by rw [es100, e9]; rfl); exact ⟨hWO e8, e8⟩)⟩) dX2_findWays_7
theorem kw_X2_findWays {R : Room} {s : State} {args : Array Value} {own : String} {idx : Nat} (hts : ∀ w ∈ TB, w.before args s = true) (hl : Cond.methodLink own idx yX2_findWays ∈ TB) (hR : 3 + 1 ≤ R.frames ∧ 8 + (3 + 11) + 40 * 3 ≤ R.locals) : CallW R s args own RX2 idx yX2_findWays cX2_findWays 3 none (Cond.code yX2_findWays cX2_findWays 3 none :: TB) (rmN 3) 0 0 0 := cwV 0 hts (TB_V hl tw_455 ts_8 tw_3 tw_456) rfl rfl rfl (by decide +kernel) hR
set_option maxHeartbeats 4000000 in
set_option maxRecDepth 100000 in
/-- countOf -/
theorem c_X2_countOf (l : Launch) (D : va_G) (cy : Nat → ClassId) (sz : Nat) (cs : List Nat) (ad : Nat → Nat) (en : Nat → va_E) (hI : SX cy cs ad en) (n : Nat) (hn1 : 1 ≤ n) (hn : n ≤ 8) (hWO : WOK en)   : Met l yX2_countOf (Cond.code yX2_countOf cX2_countOf 4 (some .int) :: TB) (rmN 4) (va_Pc [.ref (ad 12), .int (nI n)] (Pre D cy cs ad en sz)) (va_Qi (S := Nat → va_E) (fun r en1 => SX cy cs ad en1 ∧ (∀ c, (c ≠ 12 ∧ ¬ (15 ≤ c ∧ c ≤ 23)) → en1 c = en c) ∧ (r = nI (CNX en n) ∧ WYX en1 ∧ rdI (en1 12) 5 = 1)) (PostM D cs ad) (Af cs ad sz)) 0 0 (Af cs ad sz) := by
  refine Met.ofW (cc := cX2_countOf) (maxL := 4) (ret := (some .int)) (by decide) rfl ?_
  intro p e s m args below meth c s₁ B hml hv
  obtain ⟨rfl, hsz, hP, hK, hD0⟩ := hv
  have hx := B.exec
  have hb := B.bytes
  have hr := B.returns
  have hts : ∀ w ∈ TB, w.before _ s = true := fun w h => atoms_spec (ws := _ :: TB) B.pre w (List.mem_cons_of_mem _ h)
  have hown : s.vm.findClass RX2 = some m.cls := findClass_of_methodNamed B.named
  have hlocks := B.notSynchronized
  have hh : Hp D (Af cs ad sz) (Af cs ad sz) s.heap s.heap [] cs ad en := ⟨hP, Af_self hD0, va_S.rf⟩
  have hA : ∀ q : Nat, s.heap.size ≤ q → Af cs ad sz q := fun q h => Or.inr (by rw [hsz] at h; exact h)
  have hl := lv_entry ([.ref (ad 12), .int (nI n)]) (n := 4) (Nat.le_of_ble_eq_true rfl)
  rw [lg_entry_eq]
  generalize (lg_sl ([.ref (ad 12), .int (nI n)]) ++ List.replicate (4 - (lg_sl ([.ref (ad 12), .int (nI n)])).length) Slot.unset).toArray = ls at hl ⊢
  have hl : lv_has ls 4 [(0, .ref (ad 12)), (1, .int (nI n))] := hl
  have hf0 : ∀ c, (c ≠ 12 ∧ ¬ (15 ≤ c ∧ c ≤ 23)) → en c = en c := fun _ _ => rfl
  obtain ⟨cnt, d, mm, es118, hcnt, hd2, hd3, hmm⟩ := get_T hI
  obtain ⟨f10, es119, hb10⟩ := get_alw hI
  have hk9 : kX en = cnt := by unfold kX; rw [show rdI (en 1) 4 = nI cnt from by rw [es118]; rfl]; exact nI_clamp (by omega)
  have ha9 : aX en = (alX f10) := by unfold aX; rw [show rdF (en 10) = f10 from by rw [es119]; rfl]
  refine lv_aload_n hx hb dX2_countOf_0 rfl (lv_at hl 0 rfl) ?_
  obtain ⟨hw_120, es120, p0_120⟩ := get_L hI
  refine hp_callMv (va_runV (As := []) (rest := []) ⟨hx, hb, hml, hown, hts⟩ (c_X2_findWays l D cy _ cs ad en hI hWO) (kw_X2_findWays hts tw_453 ⟨by decide, by decide⟩) (preV_of hh hK (hI.1 _ (by decide)) es120 rfl) rfl rfl hl.1 rfl (lv_room (Nat.le_of_ble_eq_true rfl)) dX2_countOf_1 ⟨Nat.le_of_ble_eq_true rfl, Nat.le_of_ble_eq_true rfl⟩) hh hA (fun H locs en_121 hw_121 hh => ?_)
  obtain ⟨hI_121, hu_121, hx_121⟩ := hw_121
  have hf_121 : ∀ c, (c ≠ 12 ∧ ¬ (15 ≤ c ∧ c ≤ 23)) → en_121 c = en c := fun c hc => (hu_121 c (by omega)).trans (hf0 c hc)
  refine lv_iconst (v := 0) hx hb dX2_countOf_4 (by decide) ?_
  refine lv_istore_n (lv' := [(2, .int 0), (0, .ref (ad 12)), (1, .int (nI n))]) hx hb dX2_countOf_5 rfl hl (by decide) rfl (fun ls hl => ?_)
  refine lv_iconst (v := 0) hx hb dX2_countOf_6 (by decide) ?_
  refine lv_istore_n (lv' := [(3, .int 0), (2, .int 0), (0, .ref (ad 12)), (1, .int (nI n))]) hx hb dX2_countOf_7 rfl hl (by decide) rfl (fun ls hl => ?_)
  have hwy : WYp cnt (alX f10) en_121 n := by have h9 := hx_121.1 n (by omega) (by omega); rw [kX_c (hf_121 1 (by omega)), aX_c (hf_121 10 (by omega)), hk9, ha9] at h9; exact h9
  have loop_122 : ∀ (fu j122 : Nat) (ac122 : Int32)  (ls : Array Slot) (H : Heap) (locs : List Loc), 0 ≤ j122 → j122 ≤ cnt → cnt < j122 + fu →  (ac122 = nI (sumN (fun t => bw cnt (alX f10) (n - 1) t) j122)) → lv_has ls 4 [(3, .int (nI j122)), (2, .int ac122), (0, .ref (ad 12)), (1, .int (nI n))] → Hp D (Af cs ad sz) (Af cs ad sz) s.heap H locs cs ad en_121 → W p l e (headSpec (Cond.code yX2_countOf cX2_countOf 4 (some .int) :: TB) (rmN 4)).room s m ([.ref (ad 12), .int (nI n)] : List Value).toArray below meth c H locs 0 0 (MQ below (va_Qi (S := Nat → va_E) (fun r en1 => SX cy cs ad en1 ∧ (∀ c, (c ≠ 12 ∧ ¬ (15 ≤ c ∧ c ≤ 23)) → en1 c = en c) ∧ (r = nI (CNX en n) ∧ WYX en1 ∧ rdI (en1 12) 5 = 1)) (PostM D cs ad) (Af cs ad sz)) ([.ref (ad 12), .int (nI n)] : List Value).toArray s 0 0 (Af cs ad sz)) (F0 m 8 ls []) := by
    intro fu
    induction fu with
    | zero => intro j122 ac122 ls H locs h0 h1 h2; exact absurd h2 (by omega)
    | succ fu ih_122 =>
      intro j122 ac122 ls H locs hj0_122 hj_122 hfu_122 i0_122 hl hh
      refine lv_iload_n hx hb dX2_countOf_8 rfl (lv_at hl 0 rfl) ?_
      refine lv_aload_n hx hb dX2_countOf_9 rfl (lv_at hl 2 rfl) ?_
      obtain ⟨hw_123, es123, p0_123⟩ := get_L hI_121
      refine hp_get hx hb hts ix2 hown hK hh (q := 12) rfl (hI.1 _ (by decide)) es123 rfl 0 (by decide) (hts _ tw_122) (fun _ h9 => h9) rfl dX2_countOf_10 ?_
      have es118_124 : en_121 1 = .inr (7, [.ref (ad 2), .ref (ad 3), .ref (ad 10), .ref (ad 11), .int (nI cnt), .int (nI d), .int (nI mm)]) := (hf_121 1 (by omega)).trans es118
      refine hp_callRi (va_runV (As := []) (rest := [.int (nI j122)]) ⟨hx, hb, hml, hown, hts⟩ (c_X8_count l D cy _ cs ad en_121 (hI.1 _ (by decide)) cnt d mm hcnt hd2 hd3 hmm  es118_124) (kw_X8_count hts tw_460 ⟨by decide, by decide⟩) (preV_of hh hK (hI.1 _ (by decide)) es118_124 rfl) rfl rfl hl.1 rfl (lv_room (Nat.le_of_ble_eq_true rfl)) dX2_countOf_13 ⟨Nat.le_of_ble_eq_true rfl, Nat.le_of_ble_eq_true rfl⟩) hh hA (fun r_125 H locs hw_125 hh => ?_)
      obtain rfl : r_125 = (nI cnt) := hw_125
      refine lv_icmp_ge (tgt := 36) hx hb dX2_countOf_16 (by decide) (fun c_126 => ?_) (fun c_126 => ?_)
      · have n_126 : cnt ≤ j122 := n_le (a := cnt) (b := j122) c_126 (by omega) (by omega)
        refine lv_iload_n hx hb dX2_countOf_36 rfl (lv_at hl 1 rfl) ?_
        exact hp_iretM hx hb hr rfl hlocks hh (⟨hI_121, hf_121, ⟨by unfold CNX; rw [hk9, ha9]; have e9 : j122 = cnt := (by omega); rw [e9] at i0_122; exact i0_122, hx_121.1, hx_121.2⟩⟩) dX2_countOf_37
      · have n_126 : j122 < cnt := n_nle (a := cnt) (b := j122) c_126 (by omega) (by omega)
        refine lv_iload_n hx hb dX2_countOf_19 rfl (lv_at hl 1 rfl) ?_
        refine lv_aload_n hx hb dX2_countOf_20 rfl (lv_at hl 2 rfl) ?_
        refine hp_get hx hb hts ix2 hown hK hh (q := 12) rfl (hI.1 _ (by decide)) es123 rfl 2 (by decide) (hts _ tw_124) (fun _ h9 => h9) rfl dX2_countOf_21 ?_
        refine lv_iload_n hx hb dX2_countOf_24 rfl (lv_at hl 3 rfl) ?_
        have es127 := get_wys hI_121
        unfold P_wys at es127
        refine hp_aald hx hb hK hh (q := 14) rfl (hI.1 _ (by decide)) 7 es127 rfl rfl (vp_in_nI (n := n) (by omega) (by decide)) (v := .ref (ad (15 + n))) (by rw [nI_clamp (n := n) (by omega)]; exact rfA_v (by omega)) dX2_countOf_25 ?_
        refine lv_iload_n hx hb dX2_countOf_26 rfl (lv_at hl 0 rfl) ?_
        obtain ⟨f_128, es128⟩ := get_way hI_121 (j := n) (by omega)
        refine hp_iald hx hb hK hh (q := (15 + n)) rfl (hI.1 _ (by omega)) es128 (vp_in_nI (n := j122) (by omega) (by decide)) dX2_countOf_27 ?_
        rw [nI_clamp (n := j122) (by omega)]
        refine lv_iadd hx hb dX2_countOf_28 ?_
        refine lv_istore_n (lv' := [(2, .int (ac122 + (f_128 j122))), (3, .int (nI j122)), (0, .ref (ad 12)), (1, .int (nI n))]) hx hb dX2_countOf_29 rfl hl (by decide) rfl (fun ls hl => ?_)
        refine lv_iinc (v := (nI (j122 + 1))) (lv' := [(3, .int (nI (j122 + 1))), (2, .int (ac122 + (f_128 j122))), (0, .ref (ad 12)), (1, .int (nI n))]) hx hb dX2_countOf_30 hl (k := 1) rfl (nI_1 _) (by decide) rfl (fun ls hl => ?_)
        refine lv_goto (tgt := 8) hx hb dX2_countOf_33 (by decide) ?_
        exact ih_122 ((j122 + 1)) (ac122 + (f_128 j122)) ls H locs (by omega) (by omega) (by omega) (by rw [i0_122]; exact NS_s ((show f_128 j122 = rdF (en_121 (15 + n)) j122 from by rw [es128]; rfl).trans (hwy j122 (by omega)))) (lv_sub hl [0, 1, 2, 3] rfl) hh
  exact loop_122 (cnt + 1) 0 0 ls _ _ (Nat.le_refl _) (by omega) (by omega) (rfl) (lv_sub hl [0, 1, 2, 3] rfl) hh
theorem kw_X2_countOf {R : Room} {s : State} {args : Array Value} {own : String} {idx : Nat} (hts : ∀ w ∈ TB, w.before args s = true) (hl : Cond.methodLink own idx yX2_countOf ∈ TB) (hR : 4 + 1 ≤ R.frames ∧ 8 + (4 + 11) + 40 * 4 ≤ R.locals) : CallW R s args own RX2 idx yX2_countOf cX2_countOf 4 (some .int) (Cond.code yX2_countOf cX2_countOf 4 (some .int) :: TB) (rmN 4) 0 0 1 := cwV 1 hts (TB_V hl tw_450 tw_451 tw_3 tw_452) rfl rfl rfl (by decide +kernel) hR
set_option maxHeartbeats 4000000 in
set_option maxRecDepth 100000 in
/-- isSpent -/
theorem c_X2_isSpent (l : Launch) (D : va_G) (cy : Nat → ClassId) (sz : Nat) (cs : List Nat) (ad : Nat → Nat) (en : Nat → va_E) (hI : SX cy cs ad en) (n : Nat) (hn1 : 1 ≤ n) (hn : n ≤ 8) (hWO : WOK en)   : Met l yX2_isSpent (Cond.code yX2_isSpent cX2_isSpent 2 (some .boolean) :: TB) (rmN 5) (va_Pc [.ref (ad 12), .int (nI n)] (Pre D cy cs ad en sz)) (va_Qi (S := Nat → va_E) (fun r en1 => SX cy cs ad en1 ∧ (∀ c, (c ≠ 12 ∧ ¬ (15 ≤ c ∧ c ≤ 23)) → en1 c = en c) ∧ (bI r (20000 < CNX en n) ∧ WYX en1 ∧ rdI (en1 12) 5 = 1)) (PostM D cs ad) (Af cs ad sz)) 0 0 (Af cs ad sz) := by
  refine Met.ofW (cc := cX2_isSpent) (maxL := 2) (ret := (some .boolean)) (by decide) rfl ?_
  intro p e s m args below meth c s₁ B hml hv
  obtain ⟨rfl, hsz, hP, hK, hD0⟩ := hv
  have hx := B.exec
  have hb := B.bytes
  have hr := B.returns
  have hts : ∀ w ∈ TB, w.before _ s = true := fun w h => atoms_spec (ws := _ :: TB) B.pre w (List.mem_cons_of_mem _ h)
  have hown : s.vm.findClass RX2 = some m.cls := findClass_of_methodNamed B.named
  have hlocks := B.notSynchronized
  have hh : Hp D (Af cs ad sz) (Af cs ad sz) s.heap s.heap [] cs ad en := ⟨hP, Af_self hD0, va_S.rf⟩
  have hA : ∀ q : Nat, s.heap.size ≤ q → Af cs ad sz q := fun q h => Or.inr (by rw [hsz] at h; exact h)
  have hl := lv_entry ([.ref (ad 12), .int (nI n)]) (n := 2) (Nat.le_of_ble_eq_true rfl)
  rw [lg_entry_eq]
  generalize (lg_sl ([.ref (ad 12), .int (nI n)]) ++ List.replicate (2 - (lg_sl ([.ref (ad 12), .int (nI n)])).length) Slot.unset).toArray = ls at hl ⊢
  have hl : lv_has ls 2 [(0, .ref (ad 12)), (1, .int (nI n))] := hl
  have hf0 : ∀ c, (c ≠ 12 ∧ ¬ (15 ≤ c ∧ c ≤ 23)) → en c = en c := fun _ _ => rfl
  obtain ⟨cnt, d, mm, es129, hcnt, hd2, hd3, hmm⟩ := get_T hI
  obtain ⟨f10, es130, hb10⟩ := get_alw hI
  have hk9 : kX en = cnt := by unfold kX; rw [show rdI (en 1) 4 = nI cnt from by rw [es129]; rfl]; exact nI_clamp (by omega)
  have ha9 : aX en = (alX f10) := by unfold aX; rw [show rdF (en 10) = f10 from by rw [es130]; rfl]
  refine lv_aload_n hx hb dX2_isSpent_0 rfl (lv_at hl 0 rfl) ?_
  refine lv_iload_n hx hb dX2_isSpent_1 rfl (lv_at hl 1 rfl) ?_
  obtain ⟨hw_131, es131, p0_131⟩ := get_L hI
  refine hp_callMi (va_runV (As := [.int (nI n)]) (rest := []) ⟨hx, hb, hml, hown, hts⟩ (c_X2_countOf l D cy _ cs ad en hI n (by omega) (by omega) hWO) (kw_X2_countOf hts tw_449 ⟨by decide, by decide⟩) (preV_of hh hK (hI.1 _ (by decide)) es131 rfl) rfl rfl hl.1 rfl (lv_room (Nat.le_of_ble_eq_true rfl)) dX2_isSpent_2 ⟨Nat.le_of_ble_eq_true rfl, Nat.le_of_ble_eq_true rfl⟩) hh hA (fun r_132 H locs en_132 hw_132 hh => ?_)
  obtain ⟨hI_132, hu_132, hx_132⟩ := hw_132
  have hf_132 : ∀ c, (c ≠ 12 ∧ ¬ (15 ≤ c ∧ c ≤ 23)) → en_132 c = en c := fun c hc => (hu_132 c (by omega)).trans (hf0 c hc)
  have hcb_132 : CNX en n ≤ 1679616 := cnt_le (al := aX en) (by rw [hk9]; omega) (by omega)
  obtain rfl : r_132 = nI (CNX en n) := hx_132.1
  refine lv_sipush (v := 20000) hx hb dX2_isSpent_5 (by decide) ?_
  refine lv_icmp_le (tgt := 15) hx hb dX2_isSpent_8 (by decide) (fun c_133 => ?_) (fun c_133 => ?_)
  · have n_133 : (CNX en n) ≤ 20000 := n_le (a := (CNX en n)) (b := 20000) c_133 (by omega) (by decide)
    refine lv_iconst (v := 0) hx hb dX2_isSpent_15 (by decide) ?_
    exact hp_iretM hx hb hr rfl hlocks hh (⟨hI_132, hf_132, ⟨Or.inr ⟨rfl, by omega⟩, hx_132.2.1, hx_132.2.2⟩⟩) dX2_isSpent_16
  · have n_133 : 20000 < (CNX en n) := n_nle (a := (CNX en n)) (b := 20000) c_133 (by omega) (by decide)
    refine lv_iconst (v := 1) hx hb dX2_isSpent_11 (by decide) ?_
    refine lv_goto (tgt := 16) hx hb dX2_isSpent_12 (by decide) ?_
    exact hp_iretM hx hb hr rfl hlocks hh (⟨hI_132, hf_132, ⟨Or.inl ⟨rfl, by omega⟩, hx_132.2.1, hx_132.2.2⟩⟩) dX2_isSpent_16
theorem kw_X2_isSpent {R : Room} {s : State} {args : Array Value} {own : String} {idx : Nat} (hts : ∀ w ∈ TB, w.before args s = true) (hl : Cond.methodLink own idx yX2_isSpent ∈ TB) (hR : 5 + 1 ≤ R.frames ∧ 8 + (2 + 11) + 40 * 5 ≤ R.locals) : CallW R s args own RX2 idx yX2_isSpent cX2_isSpent 2 (some .boolean) (Cond.code yX2_isSpent cX2_isSpent 2 (some .boolean) :: TB) (rmN 5) 0 0 1 := cwV 1 hts (TB_V hl tw_446 tw_447 tw_3 tw_448) rfl rfl rfl (by decide +kernel) hR
set_option maxHeartbeats 4000000 in
set_option maxRecDepth 100000 in
/-- forget -/
theorem c_X2_forget (l : Launch) (D : va_G) (cy : Nat → ClassId) (sz : Nat) (cs : List Nat) (ad : Nat → Nat) (en : Nat → va_E) (hI : SX cy cs ad en)    : Met l yX2_forget (Cond.code yX2_forget cX2_forget 2 none :: TB) (rmN 0) (va_Pc [.ref (ad 12)] (Pre D cy cs ad en sz)) (va_Qv (S := Nat → va_E) (fun en1 => SX cy cs ad en1 ∧ (∀ c, (c < 12 ∨ 70 ≤ c) → en1 c = en c) ∧ (rdI (en1 12) 5 = 0 ∧ ∀ m, m ≤ 8 → rdI (en1 (34 + 4 * m)) 3 = 0)) (PostM D cs ad) (Af cs ad sz)) 0 0 (Af cs ad sz) := by
  refine Met.ofW (cc := cX2_forget) (maxL := 2) (ret := none) (by decide) rfl ?_
  intro p e s m args below meth c s₁ B hml hv
  obtain ⟨rfl, hsz, hP, hK, hD0⟩ := hv
  have hx := B.exec
  have hb := B.bytes
  have hr := B.returns
  have hts : ∀ w ∈ TB, w.before _ s = true := fun w h => atoms_spec (ws := _ :: TB) B.pre w (List.mem_cons_of_mem _ h)
  have hown : s.vm.findClass RX2 = some m.cls := findClass_of_methodNamed B.named
  have hlocks := B.notSynchronized
  have hh : Hp D (Af cs ad sz) (Af cs ad sz) s.heap s.heap [] cs ad en := ⟨hP, Af_self hD0, va_S.rf⟩
  have hA : ∀ q : Nat, s.heap.size ≤ q → Af cs ad sz q := fun q h => Or.inr (by rw [hsz] at h; exact h)
  have hl := lv_entry ([.ref (ad 12)]) (n := 2) (Nat.le_of_ble_eq_true rfl)
  rw [lg_entry_eq]
  generalize (lg_sl ([.ref (ad 12)]) ++ List.replicate (2 - (lg_sl ([.ref (ad 12)])).length) Slot.unset).toArray = ls at hl ⊢
  have hl : lv_has ls 2 [(0, .ref (ad 12))] := hl
  have hf0 : ∀ c, (c < 12 ∨ 70 ≤ c) → en c = en c := fun _ _ => rfl
  refine lv_aload_n hx hb dX2_forget_0 rfl (lv_at hl 0 rfl) ?_
  refine lv_iconst (v := 0) hx hb dX2_forget_1 (by decide) ?_
  obtain ⟨hw_134, es134, p0_134⟩ := get_L hI
  refine hp_put hx hb hts ix2 tyX2 tyX2_ok nmX2 hown hK hh (q := 12) rfl (hI.1 _ (by decide)) es134 rfl 5 (by decide) (hts _ tw_127) (fun _ h9 => h9) rfl (ty := .boolean) (by decide +kernel) rfl rfl (Nat.le_of_ble_eq_true rfl) dX2_forget_2 (fun H locs en_135 hen_135 hh => ?_)
  have es134_135 : en_135 12 = .inr (2, [.ref (ad 1), .ref (ad 13), .ref (ad 14), .ref (ad 24), .ref (ad 33), .int 0]) := by rw [hen_135]; exact va_up_self _ _ _
  have hI_135 : SX cy cs ad en_135 := by rw [hen_135]; exact up_L hI ⟨0, rfl, (by omega)⟩
  have hf_135 : ∀ c, (c < 12 ∨ 70 ≤ c) → en_135 c = en c := fun c hc => Eq.trans (show en_135 c = en c from by rw [hen_135, va_up_ne _ _ (by omega)]) (hf0 c hc)
  refine lv_iconst (v := 0) hx hb dX2_forget_5 (by decide) ?_
  refine lv_istore_n (lv' := [(1, .int 0), (0, .ref (ad 12))]) hx hb dX2_forget_6 rfl hl (by decide) rfl (fun ls hl => ?_)
  have loop_136 : ∀ (fu j136 : Nat)  (en_136 : Nat → va_E) (ls : Array Slot) (H : Heap) (locs : List Loc), 0 ≤ j136 → j136 ≤ 9 → 9 < j136 + fu → SX cy cs ad en_136 → (∀ c, (c < 12 ∨ 70 ≤ c) → en_136 c = en c) → (rdI (en_136 12) 5 = 0) → (∀ m, m < j136 → rdI (en_136 (34 + 4 * m)) 3 = 0) → lv_has ls 2 [(1, .int (nI j136)), (0, .ref (ad 12))] → Hp D (Af cs ad sz) (Af cs ad sz) s.heap H locs cs ad en_136 → W p l e (headSpec (Cond.code yX2_forget cX2_forget 2 none :: TB) (rmN 0)).room s m ([.ref (ad 12)] : List Value).toArray below meth c H locs 0 0 (MQ below (va_Qv (S := Nat → va_E) (fun en1 => SX cy cs ad en1 ∧ (∀ c, (c < 12 ∨ 70 ≤ c) → en1 c = en c) ∧ (rdI (en1 12) 5 = 0 ∧ ∀ m, m ≤ 8 → rdI (en1 (34 + 4 * m)) 3 = 0)) (PostM D cs ad) (Af cs ad sz)) ([.ref (ad 12)] : List Value).toArray s 0 0 (Af cs ad sz)) (F0 m 7 ls []) := by
    intro fu
    induction fu with
    | zero => intro j136  en_136 ls H locs h0 h1 h2; exact absurd h2 (by omega)
    | succ fu ih_136 =>
      intro j136  en_136 ls H locs hj0_136 hj_136 hfu_136 hI_136 hf_136 i0_136 i1_136 hl hh
      refine lv_iload_n hx hb dX2_forget_7 rfl (lv_at hl 0 rfl) ?_
      refine lv_bipush (v := 8) hx hb dX2_forget_8 (by decide) ?_
      refine lv_icmp_gt (tgt := 29) hx hb dX2_forget_10 (by decide) (fun c_137 => ?_) (fun c_137 => ?_)
      · have n_137 : 8 < j136 := n_lt (a := 8) (b := j136) c_137 (by decide) (by omega)
        exact hp_vretM hx hb hr hlocks hh (⟨hI_136, hf_136, ⟨i0_136, fun m hm => i1_136 m (by omega)⟩⟩) dX2_forget_29
      · have n_137 : j136 ≤ 8 := n_nlt (a := 8) (b := j136) c_137 (by decide) (by omega)
        refine lv_aload_n hx hb dX2_forget_13 rfl (lv_at hl 1 rfl) ?_
        obtain ⟨hw_138, es138, p0_138⟩ := get_L hI_136
        refine hp_get hx hb hts ix2 hown hK hh (q := 12) rfl (hI.1 _ (by decide)) es138 rfl 1 (by decide) (hts _ tw_123) (fun _ h9 => h9) rfl dX2_forget_14 ?_
        refine lv_iload_n hx hb dX2_forget_17 rfl (lv_at hl 0 rfl) ?_
        have es139 := get_svs hI_136
        unfold P_svs at es139
        refine hp_aald hx hb hK hh (q := 13) rfl (hI.1 _ (by decide)) 4 es139 rfl rfl (vp_in_nI (n := j136) (by omega) (by decide)) (v := .ref (ad (34 + 4 * j136))) (by rw [nI_clamp (n := j136) (by omega)]; exact rfB_v (by omega)) dX2_forget_18 ?_
        refine lv_iconst (v := 0) hx hb dX2_forget_19 (by decide) ?_
        obtain ⟨dn_140, no_140, rc_140, gr_140, le_140, rt_140, tt_140, es140, p0_140⟩ := get_sv hI_136 (j := j136) (by omega)
        refine hp_put hx hb hts ix6 tyX6 tyX6_ok nmX6 hown hK hh (q := (34 + 4 * j136)) rfl (hI.1 _ (by omega)) es140 rfl 3 (by decide) (hts _ tw_86) (fun _ h9 => h9) rfl (ty := .boolean) (by decide +kernel) rfl rfl (Nat.le_of_ble_eq_true rfl) dX2_forget_20 (fun H locs en_141 hen_141 hh => ?_)
        have es138_141 : en_141 12 = .inr (2, [.ref (ad 1), .ref (ad 13), .ref (ad 14), .ref (ad 24), .ref (ad 33), .int (nI hw_138)]) := by rw [hen_141, va_up_ne _ _ (by omega)]; exact es138
        have es139_141 : en_141 13 = .inl (cy 4, 9, .inr (.inr (.inr (.inr (rfB ad 9 34 4))))) := by rw [hen_141, va_up_ne _ _ (by omega)]; exact es139
        have es140_141 : en_141 (34 + 4 * j136) = .inr (5, [.ref (ad (35 + 4 * j136)), .ref (ad (36 + 4 * j136)), .ref (ad (37 + 4 * j136)), .int 0, .int no_140, .int rc_140, .long gr_140, .long le_140, .long rt_140, .long tt_140]) := by rw [hen_141]; exact va_up_self _ _ _
        have hI_141 : SX cy cs ad en_141 := by rw [hen_141]; exact up_sv hI_136 (j := j136) (by omega) ⟨0, no_140, rc_140, gr_140, le_140, rt_140, tt_140, rfl, (by omega)⟩
        have hf_141 : ∀ c, (c < 12 ∨ 70 ≤ c) → en_141 c = en c := fun c hc => Eq.trans (show en_141 c = en_136 c from by rw [hen_141, va_up_ne _ _ (by omega)]) (hf_136 c hc)
        refine lv_iinc (v := (nI (j136 + 1))) (lv' := [(1, .int (nI (j136 + 1))), (0, .ref (ad 12))]) hx hb dX2_forget_23 hl (k := 0) rfl (nI_1 _) (by decide) rfl (fun ls hl => ?_)
        refine lv_goto (tgt := 7) hx hb dX2_forget_26 (by decide) ?_
        exact ih_136 ((j136 + 1))  en_141 ls H locs (by omega) (by omega) (by omega) hI_141 hf_141 (by rw [show en_141 12 = en_136 12 from by rw [hen_141, va_up_ne _ _ (by omega)]]; exact i0_136) (fun m hm => (Nat.lt_or_ge m j136).elim (fun h => by rw [show en_141 (34 + 4 * m) = en_136 (34 + 4 * m) from by rw [hen_141, va_up_ne _ _ (by omega)]]; exact i1_136 m h) (fun h => by have e : m = j136 := (by omega); rw [e, es140_141]; rfl)) (lv_sub hl [0, 1] rfl) hh
  exact loop_136 (9 + 1) 0  en_135 ls _ _ (Nat.le_refl _) (by omega) (by omega) hI_135 hf_135 (by rw [es134_135]; rfl) (fun m h => absurd h (Nat.not_lt_zero m)) (lv_sub hl [0, 1] rfl) hh
theorem kw_X2_forget {R : Room} {s : State} {args : Array Value} {own : String} {idx : Nat} (hts : ∀ w ∈ TB, w.before args s = true) (hl : Cond.methodLink own idx yX2_forget ∈ TB) (hR : 0 + 1 ≤ R.frames ∧ 8 + (2 + 11) + 40 * 0 ≤ R.locals) : CallW R s args own RX2 idx yX2_forget cX2_forget 2 none (Cond.code yX2_forget cX2_forget 2 none :: TB) (rmN 0) 0 0 0 := cwV 0 hts (TB_V hl tw_282 tw_283 tw_3 tw_284) rfl rfl rfl (by decide +kernel) hR
set_option maxHeartbeats 4000000 in
set_option maxRecDepth 100000 in
/-- leadsOn -/
theorem c_X2_leadsOn (l : Launch) (D : va_G) (cy : Nat → ClassId) (sz : Nat) (cs : List Nat) (ad : Nat → Nat) (en : Nat → va_E) (hI : SX cy cs ad en) (n dp le : Nat) (hn8 : n ≤ 8) (hdp : dp < n) (hle : le < 6) (hlk : le < kX en) (hW : WYX en)   : Met l yX2_leadsOn (Cond.code yX2_leadsOn cX2_leadsOn 4 (some .boolean) :: TB) (rmN 2) (va_Pc [.ref (ad 12), .int (nI n), .int (nI dp), .int (nI le)] (Pre D cy cs ad en sz)) (va_Qi (S := Unit) (fun r _ => bI r (0 < bw (kX en) (aX en) (n - dp - 1) le ∧ okk (aX en) (pv (gX en) dp) le = true)) (fun _ _ => True) (Nf sz)) 0 0 (Nf sz) := by
  refine Met.ofW (cc := cX2_leadsOn) (maxL := 4) (ret := (some .boolean)) (by decide) rfl ?_
  intro p e s m args below meth c s₁ B hml hv
  obtain ⟨rfl, hsz, hP, hK, hD0⟩ := hv
  have hx := B.exec
  have hb := B.bytes
  have hr := B.returns
  have hts : ∀ w ∈ TB, w.before _ s = true := fun w h => atoms_spec (ws := _ :: TB) B.pre w (List.mem_cons_of_mem _ h)
  have hown : s.vm.findClass RX2 = some m.cls := findClass_of_methodNamed B.named
  have hlocks := B.notSynchronized
  have hh : Hp D (Nf sz) (fun _ => True) s.heap s.heap [] cs ad en := ⟨hP, hD0, va_S.rf⟩
  have hA : ∀ q : Nat, s.heap.size ≤ q → Nf sz q := fun q h => by rw [hsz] at h; exact h
  have hl := lv_entry ([.ref (ad 12), .int (nI n), .int (nI dp), .int (nI le)]) (n := 4) (Nat.le_of_ble_eq_true rfl)
  rw [lg_entry_eq]
  generalize (lg_sl ([.ref (ad 12), .int (nI n), .int (nI dp), .int (nI le)]) ++ List.replicate (4 - (lg_sl ([.ref (ad 12), .int (nI n), .int (nI dp), .int (nI le)])).length) Slot.unset).toArray = ls at hl ⊢
  have hl : lv_has ls 4 [(0, .ref (ad 12)), (1, .int (nI n)), (2, .int (nI dp)), (3, .int (nI le))] := hl
  obtain ⟨cnt, d, mm, es142, hcnt, hd2, hd3, hmm⟩ := get_T hI
  obtain ⟨f10, es143, hb10⟩ := get_alw hI
  have hk9 : kX en = cnt := by unfold kX; rw [show rdI (en 1) 4 = nI cnt from by rw [es142]; rfl]; exact nI_clamp (by omega)
  have ha9 : aX en = (alX f10) := by unfold aX; rw [show rdF (en 10) = f10 from by rw [es143]; rfl]
  have hW9 : WYp cnt (alX f10) en (n - dp) := by have h9 := hW (n - dp) (by omega) (by omega); rw [hk9, ha9] at h9; exact h9
  rw [hk9] at hlk
  refine lv_aload_n hx hb dX2_leadsOn_0 rfl (lv_at hl 0 rfl) ?_
  obtain ⟨hw_144, es144, p0_144⟩ := get_L hI
  refine hp_get hx hb hts ix2 hown hK hh (q := 12) rfl (hI.1 _ (by decide)) es144 rfl 2 (by decide) (hts _ tw_124) (fun _ h9 => h9) rfl dX2_leadsOn_1 ?_
  refine lv_iload_n hx hb dX2_leadsOn_4 rfl (lv_at hl 1 rfl) ?_
  refine lv_iload_n hx hb dX2_leadsOn_5 rfl (lv_at hl 2 rfl) ?_
  refine lv_isub hx hb dX2_leadsOn_6 ?_
  rw [pk_sub (a := n) (b := dp) (by omega)]
  have es145 := get_wys hI
  unfold P_wys at es145
  refine hp_aald hx hb hK hh (q := 14) rfl (hI.1 _ (by decide)) 7 es145 rfl rfl (vp_in_nI (n := (n - dp)) (by omega) (by decide)) (v := .ref (ad (15 + (n - dp)))) (by rw [nI_clamp (n := (n - dp)) (by omega)]; exact rfA_v (by omega)) dX2_leadsOn_7 ?_
  refine lv_iload_n hx hb dX2_leadsOn_8 rfl (lv_at hl 3 rfl) ?_
  obtain ⟨f_146, es146⟩ := get_way hI (j := (n - dp)) (by omega)
  refine hp_iald hx hb hK hh (q := (15 + (n - dp))) rfl (hI.1 _ (by omega)) es146 (vp_in_nI (n := le) (by omega) (by decide)) dX2_leadsOn_9 ?_
  rw [nI_clamp (n := le) (by omega)]
  rw [show f_146 le = nI (bw cnt (alX f10) (n - dp - 1) le) from (show f_146 le = rdF (en (15 + (n - dp))) le from by rw [es146]; rfl).trans (hW9 le (by omega))]
  have hbb : (bw cnt (alX f10) (n - dp - 1) le) ≤ 279936 := bw_le7 (by omega) (by omega)
  refine lv_if_le (tgt := 40) hx hb dX2_leadsOn_10 (by decide) (fun c_147 => ?_) (fun c_147 => ?_)
  · have n_147 : (bw cnt (alX f10) (n - dp - 1) le) ≤ 0 := n_le (a := (bw cnt (alX f10) (n - dp - 1) le)) (b := 0) c_147 (by omega) (by decide)
    refine lv_iconst (v := 0) hx hb dX2_leadsOn_40 (by decide) ?_
    exact hp_iretR hx hb hr rfl hlocks hsz hh (by rw [hk9, ha9]; exact Or.inr ⟨rfl, fun q => absurd q.1 (by omega)⟩) dX2_leadsOn_41
  · have n_147 : 0 < (bw cnt (alX f10) (n - dp - 1) le) := n_nle (a := (bw cnt (alX f10) (n - dp - 1) le)) (b := 0) c_147 (by omega) (by decide)
    refine lv_iload_n hx hb dX2_leadsOn_13 rfl (lv_at hl 2 rfl) ?_
    refine lv_if_eq (tgt := 36) hx hb dX2_leadsOn_14 (by decide) (fun c_148 => ?_) (fun c_148 => ?_)
    · have n_148 : dp = 0 := n_eq (a := dp) (b := 0) c_148 (by omega) (by decide)
      refine lv_iconst (v := 1) hx hb dX2_leadsOn_36 (by decide) ?_
      refine lv_goto (tgt := 41) hx hb dX2_leadsOn_37 (by decide) ?_
      exact hp_iretR hx hb hr rfl hlocks hsz hh (by rw [hk9, ha9]; exact Or.inl ⟨rfl, by omega, by rw [n_148]; rfl⟩) dX2_leadsOn_41
    · have n_148 : dp ≠ 0 := n_neq (a := dp) (b := 0) c_148 (by omega) (by decide)
      refine lv_aload_n hx hb dX2_leadsOn_17 rfl (lv_at hl 0 rfl) ?_
      refine hp_get hx hb hts ix2 hown hK hh (q := 12) rfl (hI.1 _ (by decide)) es144 rfl 0 (by decide) (hts _ tw_122) (fun _ h9 => h9) rfl dX2_leadsOn_18 ?_
      refine lv_aload_n hx hb dX2_leadsOn_21 rfl (lv_at hl 0 rfl) ?_
      refine hp_get hx hb hts ix2 hown hK hh (q := 12) rfl (hI.1 _ (by decide)) es144 rfl 4 (by decide) (hts _ tw_126) (fun _ h9 => h9) rfl dX2_leadsOn_22 ?_
      refine lv_iload_n hx hb dX2_leadsOn_25 rfl (lv_at hl 2 rfl) ?_
      refine lv_iconst (v := 1) hx hb dX2_leadsOn_26 (by decide) ?_
      refine lv_isub hx hb dX2_leadsOn_27 ?_
      rw [show (1 : Int32) = nI 1 from rfl, pk_sub (a := dp) (b := 1) (by omega)]
      obtain ⟨f_149, es149, p0_149⟩ := get_let hI
      refine hp_iald hx hb hK hh (q := 33) rfl (hI.1 _ (by decide)) es149 (vp_in_nI (n := (dp - 1)) (by omega) (by decide)) dX2_leadsOn_28 ?_
      rw [nI_clamp (n := (dp - 1)) (by omega)]
      obtain ⟨v_150, hv_150, hfv_150⟩ := p0_149 (dp - 1) (by omega)
      rw [hfv_150]
      refine lv_iload_n hx hb dX2_leadsOn_29 rfl (lv_at hl 3 rfl) ?_
      refine hp_callRi (va_runV (As := [.int (nI v_150), .int (nI le)]) (rest := []) ⟨hx, hb, hml, hown, hts⟩ (c_X8_mayFollow l D cy _ cs ad en (hI.1 _ (by decide)) cnt d mm hcnt hd2 hd3 hmm (hI.1 _ (by decide)) f10 hb10 v_150 le (by omega) (by omega) es142 es143) (kw_X8_mayFollow hts tw_465 ⟨by decide, by decide⟩) (preV_of hh hK (hI.1 _ (by decide)) es142 rfl) rfl rfl hl.1 rfl (lv_room (Nat.le_of_ble_eq_true rfl)) dX2_leadsOn_30 ⟨Nat.le_of_ble_eq_true rfl, Nat.le_of_ble_eq_true rfl⟩) hh hA (fun r_151 H locs hw_151 hh => ?_)
      rcases hb10 (v_150 * 6 + le) (a6 (by omega) (by omega)) with hz_151 | hz_151
      · obtain rfl : r_151 = 0 := Eq.trans hw_151 hz_151
        refine lv_if_eq (tgt := 40) hx hb dX2_leadsOn_33 (by decide) (fun _ => ?_) (fun c_0 => absurd c_0 (by decide))
        refine lv_iconst (v := 0) hx hb dX2_leadsOn_40 (by decide) ?_
        exact hp_iretR hx hb hr rfl hlocks hsz hh (by rw [hk9, ha9]; exact Or.inr ⟨rfl, fun q => absurd q.2 (by rw [(pv_X (v := v_150) (by omega) (by unfold gX; rw [show rdF (en 33) = f_149 from by rw [es149]; rfl, hfv_150]; exact nI_clamp (by omega)))]; exact fun w => absurd ((of_decide_eq_true (p := f10 (v_150 * 6 + le) = 1) w).symm.trans hz_151) (by decide))⟩) dX2_leadsOn_41
      · obtain rfl : r_151 = 1 := Eq.trans hw_151 hz_151
        refine lv_if_eq (tgt := 40) hx hb dX2_leadsOn_33 (by decide) (fun c_0 => absurd c_0 (by decide)) (fun _ => ?_)
        refine lv_iconst (v := 1) hx hb dX2_leadsOn_36 (by decide) ?_
        refine lv_goto (tgt := 41) hx hb dX2_leadsOn_37 (by decide) ?_
        exact hp_iretR hx hb hr rfl hlocks hsz hh (by rw [hk9, ha9]; exact Or.inl ⟨rfl, by omega, by rw [(pv_X (v := v_150) (by omega) (by unfold gX; rw [show rdF (en 33) = f_149 from by rw [es149]; rfl, hfv_150]; exact nI_clamp (by omega)))]; exact decide_eq_true hz_151⟩) dX2_leadsOn_41
theorem kw_X2_leadsOn {R : Room} {s : State} {args : Array Value} {own : String} {idx : Nat} (hts : ∀ w ∈ TB, w.before args s = true) (hl : Cond.methodLink own idx yX2_leadsOn ∈ TB) (hR : 2 + 1 ≤ R.frames ∧ 8 + (4 + 11) + 40 * 2 ≤ R.locals) : CallW R s args own RX2 idx yX2_leadsOn cX2_leadsOn 4 (some .boolean) (Cond.code yX2_leadsOn cX2_leadsOn 4 (some .boolean) :: TB) (rmN 2) 0 0 3 := cwV 3 hts (TB_V hl tw_526 ts_11 tw_3 tw_527) rfl rfl rfl (by decide +kernel) hR
