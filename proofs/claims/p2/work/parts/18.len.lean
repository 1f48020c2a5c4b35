set_option maxHeartbeats 4000000 in
set_option maxRecDepth 100000 in
/-- countWays -/
theorem c_X2_countWays (l : Launch) (D : va_G) (cy : Nat → ClassId) (sz : Nat) (cs : List Nat) (ad : Nat → Nat) (en : Nat → va_E) (hI : SX cy cs ad en) (n le : Nat) (hn2 : 2 ≤ n) (hn8 : n ≤ 8) (hle : le < 6)   : Met l yX2_countWays (Cond.code yX2_countWays cX2_countWays 5 (some .int) :: TB) (rmN 2) (va_Pc [.ref (ad 12), .int (nI n), .int (nI le)] (Pre D cy cs ad en sz)) (va_Qi (S := Unit) (fun _ _ => True) (fun _ _ => True) (Nf sz)) 0 0 (Nf sz) := by
  refine Met.ofW (cc := cX2_countWays) (maxL := 5) (ret := (some .int)) (by decide) rfl ?_
  intro p e s m args below meth c s₁ B hml hv
  obtain ⟨rfl, hsz, hP, hK, hD0⟩ := hv
  have hx := B.exec
  have hb := B.bytes
  have hr := B.returns
  have hts : ∀ w ∈ TB, w.before _ s = true := fun w h => atoms_spec (ws := _ :: TB) B.pre w (List.mem_cons_of_mem _ h)
  have hown : s.vm.findClass RX2 = some m.cls := findClass_of_methodNamed B.named
  have hlocks := B.notSynchronized
  have hh : Hp D (Nf sz) (fun _ => True) s.heap s.heap [] cs ad en := ⟨hP, hD0, va_S.rf⟩
  have hA : ∀ q : Nat, s.heap.size ≤ q → Nf sz q := fun q h => by rw [hsz] at h; exact h
  have hl := lv_entry ([.ref (ad 12), .int (nI n), .int (nI le)]) (n := 5) (Nat.le_of_ble_eq_true rfl)
  rw [lg_entry_eq]
  generalize (lg_sl ([.ref (ad 12), .int (nI n), .int (nI le)]) ++ List.replicate (5 - (lg_sl ([.ref (ad 12), .int (nI n), .int (nI le)])).length) Slot.unset).toArray = ls at hl ⊢
  have hl : lv_has ls 5 [(0, .ref (ad 12)), (1, .int (nI n)), (2, .int (nI le))] := hl
  obtain ⟨cnt, d, mm, es89, hcnt, hd2, hd3, hmm⟩ := get_T hI
  obtain ⟨f10, es90, hb10⟩ := get_alw hI
  obtain ⟨hw_91, es91, p0_91⟩ := get_L hI
  have es92 := get_wys hI
  unfold P_wys at es92
  refine lv_iconst (v := 0) hx hb dX2_countWays_0 (by decide) ?_
  refine lv_istore_n (lv' := [(3, .int 0), (0, .ref (ad 12)), (1, .int (nI n)), (2, .int (nI le))]) hx hb dX2_countWays_1 rfl hl (by decide) rfl (fun ls hl => ?_)
  refine lv_iconst (v := 0) hx hb dX2_countWays_2 (by decide) ?_
  refine lv_istore (lv' := [(4, .int 0), (3, .int 0), (0, .ref (ad 12)), (1, .int (nI n)), (2, .int (nI le))]) hx hb dX2_countWays_3 hl (by decide) rfl (fun ls hl => ?_)
  have loop_93 : ∀ (fu j93 : Nat) (ac93 : Int32)  (ls : Array Slot) (H : Heap) (locs : List Loc), 0 ≤ j93 → j93 ≤ cnt → cnt < j93 + fu →   lv_has ls 5 [(4, .int (nI j93)), (3, .int ac93), (0, .ref (ad 12)), (1, .int (nI n)), (2, .int (nI le))] → Hp D (Nf sz) (fun _ => True) s.heap H locs cs ad en → W p l e (headSpec (Cond.code yX2_countWays cX2_countWays 5 (some .int) :: TB) (rmN 2)).room s m ([.ref (ad 12), .int (nI n), .int (nI le)] : List Value).toArray below meth c H locs 0 0 (MQ below (va_Qi (S := Unit) (fun _ _ => True) (fun _ _ => True) (Nf sz)) ([.ref (ad 12), .int (nI n), .int (nI le)] : List Value).toArray s 0 0 (Nf sz)) (F0 m 5 ls []) := by
    intro fu
    induction fu with
    | zero => intro j93 ac93 ls H locs h0 h1 h2; exact absurd h2 (by omega)
    | succ fu ih_93 =>
      intro j93 ac93 ls H locs hj0_93 hj_93 hfu_93  hl hh
      refine lv_iload hx hb dX2_countWays_5 (lv_at hl 0 rfl) ?_
      refine lv_aload_n hx hb dX2_countWays_7 rfl (lv_at hl 2 rfl) ?_
      refine hp_get hx hb hts ix2 hown hK hh (q := 12) rfl (hI.1 _ (by decide)) es91 rfl 0 (by decide) (hts _ tw_122) (fun _ h9 => h9) rfl dX2_countWays_8 ?_
      refine hp_callRi (va_runV (As := []) (rest := [.int (nI j93)]) ⟨hx, hb, hml, hown, hts⟩ (c_X8_count l D cy _ cs ad en (hI.1 _ (by decide)) cnt d mm hcnt hd2 hd3 hmm  es89) (kw_X8_count hts tw_460 ⟨by decide, by decide⟩) (preV_of hh hK (hI.1 _ (by decide)) es89 rfl) rfl rfl hl.1 rfl (lv_room (Nat.le_of_ble_eq_true rfl)) dX2_countWays_11 ⟨Nat.le_of_ble_eq_true rfl, Nat.le_of_ble_eq_true rfl⟩) hh hA (fun r_94 H locs hw_94 hh => ?_)
      obtain rfl : r_94 = (nI cnt) := hw_94
      refine lv_icmp_ge (tgt := 50) hx hb dX2_countWays_14 (by decide) (fun c_95 => ?_) (fun c_95 => ?_)
      · have n_95 : cnt ≤ j93 := n_le (a := cnt) (b := j93) c_95 (by omega) (by omega)
        refine lv_iload_n hx hb dX2_countWays_50 rfl (lv_at hl 1 rfl) ?_
        exact hp_iretR hx hb hr rfl hlocks hsz hh (trivial) dX2_countWays_51
      · have n_95 : j93 < cnt := n_nle (a := cnt) (b := j93) c_95 (by omega) (by omega)
        refine lv_aload_n hx hb dX2_countWays_17 rfl (lv_at hl 2 rfl) ?_
        refine hp_get hx hb hts ix2 hown hK hh (q := 12) rfl (hI.1 _ (by decide)) es91 rfl 0 (by decide) (hts _ tw_122) (fun _ h9 => h9) rfl dX2_countWays_18 ?_
        refine lv_iload_n hx hb dX2_countWays_21 rfl (lv_at hl 4 rfl) ?_
        refine lv_iload hx hb dX2_countWays_22 (lv_at hl 0 rfl) ?_
        refine hp_callRi (va_runV (As := [.int (nI le), .int (nI j93)]) (rest := []) ⟨hx, hb, hml, hown, hts⟩ (c_X8_mayFollow l D cy _ cs ad en (hI.1 _ (by decide)) cnt d mm hcnt hd2 hd3 hmm (hI.1 _ (by decide)) f10 hb10 le j93 (by omega) (by omega) es89 es90) (kw_X8_mayFollow hts tw_465 ⟨by decide, by decide⟩) (preV_of hh hK (hI.1 _ (by decide)) es89 rfl) rfl rfl hl.1 rfl (lv_room (Nat.le_of_ble_eq_true rfl)) dX2_countWays_24 ⟨Nat.le_of_ble_eq_true rfl, Nat.le_of_ble_eq_true rfl⟩) hh hA (fun r_96 H locs hw_96 hh => ?_)
        rcases hb10 (le * 6 + j93) (a6 (by omega) (by omega)) with hz_96 | hz_96
        · obtain rfl : r_96 = 0 := Eq.trans hw_96 hz_96
          refine lv_if_eq (tgt := 44) hx hb dX2_countWays_27 (by decide) (fun _ => ?_) (fun c_0 => absurd c_0 (by decide))
          refine lv_iinc (v := (nI (j93 + 1))) (lv' := [(4, .int (nI (j93 + 1))), (3, .int ac93), (0, .ref (ad 12)), (1, .int (nI n)), (2, .int (nI le))]) hx hb dX2_countWays_44 hl (k := 0) rfl (nI_1 _) (by decide) rfl (fun ls hl => ?_)
          refine lv_goto (tgt := 5) hx hb dX2_countWays_47 (by decide) ?_
          exact ih_93 ((j93 + 1)) ac93 ls H locs (by omega) (by omega) (by omega)  (lv_sub hl [0, 1, 2, 3, 4] rfl) hh
        · obtain rfl : r_96 = 1 := Eq.trans hw_96 hz_96
          refine lv_if_eq (tgt := 44) hx hb dX2_countWays_27 (by decide) (fun c_0 => absurd c_0 (by decide)) (fun _ => ?_)
          refine lv_iload_n hx hb dX2_countWays_30 rfl (lv_at hl 1 rfl) ?_
          refine lv_aload_n hx hb dX2_countWays_31 rfl (lv_at hl 2 rfl) ?_
          refine hp_get hx hb hts ix2 hown hK hh (q := 12) rfl (hI.1 _ (by decide)) es91 rfl 2 (by decide) (hts _ tw_124) (fun _ h9 => h9) rfl dX2_countWays_32 ?_
          refine lv_iload_n hx hb dX2_countWays_35 rfl (lv_at hl 3 rfl) ?_
          refine lv_iconst (v := 1) hx hb dX2_countWays_36 (by decide) ?_
          refine lv_isub hx hb dX2_countWays_37 ?_
          rw [show (1 : Int32) = nI 1 from rfl, pk_sub (a := n) (b := 1) (by omega)]
          refine hp_aald hx hb hK hh (q := 14) rfl (hI.1 _ (by decide)) 7 es92 rfl rfl (vp_in_nI (n := (n - 1)) (by omega) (by decide)) (v := .ref (ad (15 + (n - 1)))) (by rw [nI_clamp (n := (n - 1)) (by omega)]; rfl) dX2_countWays_38 ?_
          refine lv_iload hx hb dX2_countWays_39 (lv_at hl 0 rfl) ?_
          obtain ⟨f_97, es97⟩ := get_way hI (j := (n - 1)) (by omega)
          refine hp_iald hx hb hK hh (q := (15 + (n - 1))) rfl (hI.1 _ (by omega)) es97 (vp_in_nI (n := j93) (by omega) (by decide)) dX2_countWays_41 ?_
          rw [nI_clamp (n := j93) (by omega)]
          refine lv_iadd hx hb dX2_countWays_42 ?_
          refine lv_istore_n (lv' := [(3, .int (ac93 + (f_97 j93))), (4, .int (nI j93)), (0, .ref (ad 12)), (1, .int (nI n)), (2, .int (nI le))]) hx hb dX2_countWays_43 rfl hl (by decide) rfl (fun ls hl => ?_)
          refine lv_iinc (v := (nI (j93 + 1))) (lv' := [(4, .int (nI (j93 + 1))), (3, .int (ac93 + (f_97 j93))), (0, .ref (ad 12)), (1, .int (nI n)), (2, .int (nI le))]) hx hb dX2_countWays_44 hl (k := 1) rfl (nI_1 _) (by decide) rfl (fun ls hl => ?_)
          refine lv_goto (tgt := 5) hx hb dX2_countWays_47 (by decide) ?_
          exact ih_93 ((j93 + 1)) (ac93 + (f_97 j93)) ls H locs (by omega) (by omega) (by omega)  (lv_sub hl [0, 1, 2, 3, 4] rfl) hh
  exact loop_93 (cnt + 1) 0 0 ls _ _ (Nat.le_refl _) (by omega) (by omega)  (lv_sub hl [0, 1, 2, 3, 4] rfl) hh
theorem kw_X2_countWays {R : Room} {s : State} {args : Array Value} {own : String} {idx : Nat} (hts : ∀ w ∈ TB, w.before args s = true) (hl : Cond.methodLink own idx yX2_countWays ∈ TB) (hR : 2 + 1 ≤ R.frames ∧ 8 + (5 + 11) + 40 * 2 ≤ R.locals) : CallW R s args own RX2 idx yX2_countWays cX2_countWays 5 (some .int) (Cond.code yX2_countWays cX2_countWays 5 (some .int) :: TB) (rmN 2) 0 0 2 := cwV 2 hts (TB_V hl tw_463 ts_9 tw_3 tw_464) rfl rfl rfl (by decide +kernel) hR
set_option maxHeartbeats 4000000 in
set_option maxRecDepth 100000 in
/-- Arrays.fill -/
theorem c_J7_fill_53178 (l : Launch) (D : va_G) (cy : Nat → ClassId) (sz : Nat) (cs : List Nat) (ad : Nat → Nat) (en : Nat → va_E) (q n : Nat) (hq : q ∈ cs) (hnb : n < 2 ^ 31) (f0 : Nat → Int32) (v : Int32) (eq : en q = .inl (cy 0, n, .inl f0))  : Met l yJ7_fill_53178 (Cond.code yJ7_fill_53178 cJ7_fill_53178 4 none :: TB) (rmN 0) (va_Pc [.ref (ad q), .int v] (Pre D cy cs ad en sz)) (va_Qv (S := Nat → va_E) (fun en1 => ∃ f : Nat → Int32, en1 = va_up en q (.inl (cy 0, n, .inl f)) ∧ ∀ i, i < n → f i = v) (PostM D cs ad) (Af cs ad sz)) 0 0 (Af cs ad sz) := by
  refine Met.ofW (cc := cJ7_fill_53178) (maxL := 4) (ret := none) (by decide) rfl ?_
  intro p e s m args below meth c s₁ B hml hv
  obtain ⟨rfl, hsz, hP, hK, hD0⟩ := hv
  have hx := B.exec
  have hb := B.bytes
  have hr := B.returns
  have hts : ∀ w ∈ TB, w.before _ s = true := fun w h => atoms_spec (ws := _ :: TB) B.pre w (List.mem_cons_of_mem _ h)
  have hown : s.vm.findClass RJ7 = some m.cls := findClass_of_methodNamed B.named
  have hlocks := B.notSynchronized
  have hh : Hp D (Af cs ad sz) (Af cs ad sz) s.heap s.heap [] cs ad en := ⟨hP, Af_self hD0, va_S.rf⟩
  have hA : ∀ q : Nat, s.heap.size ≤ q → Af cs ad sz q := fun q h => Or.inr (by rw [hsz] at h; exact h)
  have hl := lv_entry ([.ref (ad q), .int v]) (n := 4) (Nat.le_of_ble_eq_true rfl)
  rw [lg_entry_eq]
  generalize (lg_sl ([.ref (ad q), .int v]) ++ List.replicate (4 - (lg_sl ([.ref (ad q), .int v])).length) Slot.unset).toArray = ls at hl ⊢
  have hl : lv_has ls 4 [(0, .ref (ad q)), (1, .int v)] := hl
  refine lv_iconst (v := 0) hx hb dJ7_fill_53178_0 (by decide) ?_
  refine lv_istore_n (lv' := [(2, .int 0), (0, .ref (ad q)), (1, .int v)]) hx hb dJ7_fill_53178_1 rfl hl (by decide) rfl (fun ls hl => ?_)
  refine lv_aload_n hx hb dJ7_fill_53178_2 rfl (lv_at hl 1 rfl) ?_
  refine hp_alen hx hb hK hh (q := q) rfl hq 0 eq rfl (v := nI n) (rfl) dJ7_fill_53178_3 ?_
  refine lv_istore_n (lv' := [(3, .int (nI n)), (2, .int 0), (0, .ref (ad q)), (1, .int v)]) hx hb dJ7_fill_53178_4 rfl hl (by decide) rfl (fun ls hl => ?_)
  have loop_166 : ∀ (fu j : Nat) (g : Nat → Int32) (ls : Array Slot) (H : Heap) (locs : List Loc) (en_166 : Nat → va_E), j ≤ n → n < j + fu → en_166 = va_up en q (.inl (cy 0, n, .inl g)) → (∀ i, i < j → g i = v) → lv_has ls 4 [(3, .int (nI n)), (2, .int (nI j)), (0, .ref (ad q)), (1, .int v)] → Hp D (Af cs ad sz) (Af cs ad sz) s.heap H locs cs ad en_166 → W p l e (headSpec (Cond.code yJ7_fill_53178 cJ7_fill_53178 4 none :: TB) (rmN 0)).room s m ([.ref (ad q), .int v] : List Value).toArray below meth c H locs 0 0 (MQ below (va_Qv (S := Nat → va_E) (fun en1 => ∃ f : Nat → Int32, en1 = va_up en q (.inl (cy 0, n, .inl f)) ∧ ∀ i, i < n → f i = v) (PostM D cs ad) (Af cs ad sz)) ([.ref (ad q), .int v] : List Value).toArray s 0 0 (Af cs ad sz)) (F0 m 5 ls []) := by
    intro fu
    induction fu with
    | zero => intro j g ls H locs en_166 h1 h2; exact absurd h2 (by omega)
    | succ fu ih =>
      intro j g ls H locs en_166 hj hn hen_166 hg hl hh
      have eq_166 : en_166 q = .inl (cy 0, n, .inl g) := by rw [hen_166]; exact va_up_self _ _ _
      rcases Nat.lt_or_ge j n with hjN | hjN
      · refine lv_iload_n hx hb dJ7_fill_53178_5 rfl (lv_at hl 1 rfl) ?_
        refine lv_iload_n hx hb dJ7_fill_53178_6 rfl (lv_at hl 0 rfl) ?_
        refine lv_icmp_ge (tgt := 20) hx hb dJ7_fill_53178_7 (by decide) (fun c_0 => absurd c_0 (nI_ge (b := n) hjN hnb)) (fun _ => ?_)
        refine lv_aload_n hx hb dJ7_fill_53178_10 rfl (lv_at hl 2 rfl) ?_
        refine lv_iload_n hx hb dJ7_fill_53178_11 rfl (lv_at hl 1 rfl) ?_
        refine lv_iload_n hx hb dJ7_fill_53178_12 rfl (lv_at hl 3 rfl) ?_
        refine hp_iast hx hb hK hh (q := q) rfl hq eq_166 (vp_in_nI hjN hnb) dJ7_fill_53178_13 (fun H locs en_167 hen_167 hh => ?_)
        have eq_167 : en_167 q = .inl (cy 0, n, .inl (upd g (nI j).toNatClampNeg v)) := by rw [hen_167]; exact va_up_self _ _ _
        refine lv_iinc (v := nI (j + 1)) (lv' := [(2, .int (nI (j + 1))), (3, .int (nI n)), (0, .ref (ad q)), (1, .int v)]) hx hb dJ7_fill_53178_14 hl (k := 1) rfl (nI_1 _) (by decide) rfl (fun ls hl => ?_)
        refine lv_goto (tgt := 5) hx hb dJ7_fill_53178_17 (by decide) ?_
        exact ih (j + 1) _ ls H locs en_167 (by omega) (by omega) (by rw [hen_167, hen_166, bx_uu]; try rfl) (up_lt hjN hnb hg) (lv_sub hl [1, 0, 2, 3] rfl) hh
      · have hgN : ∀ i, i < n → g i = v := fun i hi => hg i (by omega)
        refine lv_iload_n hx hb dJ7_fill_53178_5 rfl (lv_at hl 1 rfl) ?_
        refine lv_iload_n hx hb dJ7_fill_53178_6 rfl (lv_at hl 0 rfl) ?_
        refine lv_icmp_ge (tgt := 20) hx hb dJ7_fill_53178_7 (by decide) (fun _ => ?_) (fun c_0 => absurd (nI_le (a := n) hjN (by omega)) c_0)
        exact hp_vretM hx hb hr hlocks hh (⟨g, hen_166, hgN⟩) dJ7_fill_53178_20
  exact loop_166 (n + 1) 0 f0 ls _ _ en (Nat.zero_le _) (by omega) (va_up_id eq).symm (fun i hi => absurd hi (Nat.not_lt_zero i)) (lv_sub hl [0, 1, 2, 3] rfl) hh
theorem kw_J7_fill_53178 {R : Room} {s : State} {args : Array Value} {own : String} {idx : Nat} (hts : ∀ w ∈ TB, w.before args s = true) (hl : Cond.methodLink own idx yJ7_fill_53178 ∈ TB) (hR : 0 + 1 ≤ R.frames ∧ 8 + (4 + 11) + 40 * 0 ≤ R.locals) : CallB R s args own idx yJ7_fill_53178 cJ7_fill_53178 4 none (Cond.code yJ7_fill_53178 cJ7_fill_53178 4 none :: TB) (rmN 0) 0 0 2 ∧ (Cond.static yJ7_fill_53178).before args s = true := va_cwS 2 hts (TB_S2 hl tw_458 tw_10 tw_459) rfl rfl rfl (by decide +kernel) hR
set_option maxHeartbeats 4000000 in
set_option maxRecDepth 100000 in
/-- findWays -/
theorem c_X2_findWays (l : Launch) (D : va_G) (cy : Nat → ClassId) (sz : Nat) (cs : List Nat) (ad : Nat → Nat) (en : Nat → va_E) (hI : SX cy cs ad en)    : Met l yX2_findWays (Cond.code yX2_findWays cX2_findWays 3 none :: TB) (rmN 3) (va_Pc [.ref (ad 12)] (Pre D cy cs ad en sz)) (va_Qv (S := Nat → va_E) (fun en1 => SX cy cs ad en1 ∧ (∀ c, (c < 12 ∨ 70 ≤ c) → en1 c = en c)) (PostM D cs ad) (Af cs ad sz)) 0 0 (Af cs ad sz) := by
  refine Met.ofW (cc := cX2_findWays) (maxL := 3) (ret := none) (by decide) rfl ?_
  intro p e s m args below meth c s₁ B hml hv
  obtain ⟨rfl, hsz, hP, hK, hD0⟩ := hv
  have hx := B.exec
  have hb := B.bytes
  have hr := B.returns
  have hts : ∀ w ∈ TB, w.before _ s = true := fun w h => atoms_spec (ws := _ :: TB) B.pre w (List.mem_cons_of_mem _ h)
  have hown : s.vm.findClass RX2 = some m.cls := findClass_of_methodNamed B.named
  have hlocks := B.notSynchronized
  have hh : Hp D (Af cs ad sz) (Af cs ad sz) s.heap s.heap [] cs ad en := ⟨hP, Af_self hD0, va_S.rf⟩
  have hA : ∀ q : Nat, s.heap.size ≤ q → Af cs ad sz q := fun q h => Or.inr (by rw [hsz] at h; exact h)
  have hl := lv_entry ([.ref (ad 12)]) (n := 3) (Nat.le_of_ble_eq_true rfl)
  rw [lg_entry_eq]
  generalize (lg_sl ([.ref (ad 12)]) ++ List.replicate (3 - (lg_sl ([.ref (ad 12)])).length) Slot.unset).toArray = ls at hl ⊢
  have hl : lv_has ls 3 [(0, .ref (ad 12))] := hl
  have hf0 : ∀ c, (c < 12 ∨ 70 ≤ c) → en c = en c := fun _ _ => rfl
  obtain ⟨cnt, d, mm, es168, hcnt, hd2, hd3, hmm⟩ := get_T hI
  obtain ⟨f10, es169, hb10⟩ := get_alw hI
  refine lv_aload_n hx hb dX2_findWays_0 rfl (lv_at hl 0 rfl) ?_
  obtain ⟨hw_170, es170, p0_170⟩ := get_L hI
  refine hp_get hx hb hts ix2 hown hK hh (q := 12) rfl (hI.1 _ (by decide)) es170 rfl 5 (by decide) (hts _ tw_127) (fun _ h9 => h9) rfl dX2_findWays_1 ?_
  refine lv_if_eq (tgt := 8) hx hb dX2_findWays_4 (by decide) (fun c_171 => ?_) (fun c_171 => ?_)
  · have n_171 : hw_170 = 0 := n_eq (a := hw_170) (b := 0) c_171 (by omega) (by decide)
    refine lv_aload_n hx hb dX2_findWays_8 rfl (lv_at hl 0 rfl) ?_
    refine hp_get hx hb hts ix2 hown hK hh (q := 12) rfl (hI.1 _ (by decide)) es170 rfl 2 (by decide) (hts _ tw_124) (fun _ h9 => h9) rfl dX2_findWays_9 ?_
    refine lv_iconst (v := 1) hx hb dX2_findWays_12 (by decide) ?_
    have es172 := get_wys hI
    unfold P_wys at es172
    rw [show (1 : Int32) = nI 1 from rfl]
    refine hp_aald hx hb hK hh (q := 14) rfl (hI.1 _ (by decide)) 7 es172 rfl rfl (vp_in_nI (n := 1) (by decide) (by decide)) (v := .ref (ad (15 + 1))) (by rw [nI_clamp (n := 1) (by decide)]; rfl) dX2_findWays_13 ?_
    refine lv_iconst (v := 1) hx hb dX2_findWays_14 (by decide) ?_
    obtain ⟨f_173, es173⟩ := get_way hI (j := 1) (by decide)
    refine hp_callMv (va_runS (As := [.ref (ad (15 + 1)), .int 1]) (rest := []) ⟨hx, hb, hml, hown, hts⟩ (c_J7_fill_53178 l D cy _ cs ad en (15 + 1) 6 (hI.1 _ (by omega)) (by decide) f_173 1 es173) (kw_J7_fill_53178 hts tw_457 ⟨by decide, by decide⟩) (preS_of hh hK) rfl rfl hl.1 rfl (lv_room (Nat.le_of_ble_eq_true rfl)) dX2_findWays_15 ⟨Nat.le_of_ble_eq_true rfl, Nat.le_of_ble_eq_true rfl⟩) hh hA (fun H locs en_174 hw_174 hh => ?_)
    obtain ⟨f_174, hen_174, hf9_174⟩ := hw_174
    have es168_174 : en_174 1 = .inr (7, [.ref (ad 2), .ref (ad 3), .ref (ad 10), .ref (ad 11), .int (nI cnt), .int (nI d), .int (nI mm)]) := by rw [hen_174, va_up_ne _ _ (by omega)]; exact es168
    have es169_174 : en_174 10 = .inl (cy 2, 36, .inl f10) := by rw [hen_174, va_up_ne _ _ (by omega)]; exact es169
    have es170_174 : en_174 12 = .inr (2, [.ref (ad 1), .ref (ad 13), .ref (ad 14), .ref (ad 24), .ref (ad 33), .int (nI hw_170)]) := by rw [hen_174, va_up_ne _ _ (by omega)]; exact es170
    have es172_174 : en_174 14 = .inl (cy 7, 9, .inr (.inr (.inr (.inr (fun j => some (ad (15 + j))))))) := by rw [hen_174, va_up_ne _ _ (by omega)]; exact es172
    have es173_174 : en_174 (15 + 1) = .inl (cy 0, 6, .inl f_174) := by rw [hen_174]; exact va_up_self _ _ _
    have hI_174 : SX cy cs ad en_174 := by rw [hen_174]; exact up_way hI (j := 1) (by decide) ⟨f_174, rfl⟩
    have hf_174 : ∀ c, (c < 12 ∨ 70 ≤ c) → en_174 c = en c := fun c hc => Eq.trans (show en_174 c = en c from by rw [hen_174, va_up_ne _ _ (by omega)]) (hf0 c hc)
    refine lv_iconst (v := 2) hx hb dX2_findWays_18 (by decide) ?_
    refine lv_istore_n (lv' := [(1, .int 2), (0, .ref (ad 12))]) hx hb dX2_findWays_19 rfl hl (by decide) rfl (fun ls hl => ?_)
    have loop_175 : ∀ (fu j175 : Nat)  (en_175 : Nat → va_E) (ls : Array Slot) (H : Heap) (locs : List Loc), 2 ≤ j175 → j175 ≤ 9 → 9 < j175 + fu → SX cy cs ad en_175 → (∀ c, (c < 12 ∨ 70 ≤ c) → en_175 c = en c) →  lv_has ls 3 [(1, .int (nI j175)), (0, .ref (ad 12))] → Hp D (Af cs ad sz) (Af cs ad sz) s.heap H locs cs ad en_175 → W p l e (headSpec (Cond.code yX2_findWays cX2_findWays 3 none :: TB) (rmN 3)).room s m ([.ref (ad 12)] : List Value).toArray below meth c H locs 0 0 (MQ below (va_Qv (S := Nat → va_E) (fun en1 => SX cy cs ad en1 ∧ (∀ c, (c < 12 ∨ 70 ≤ c) → en1 c = en c)) (PostM D cs ad) (Af cs ad sz)) ([.ref (ad 12)] : List Value).toArray s 0 0 (Af cs ad sz)) (F0 m 20 ls []) := by
      intro fu
      induction fu with
      | zero => intro j175  en_175 ls H locs h0 h1 h2; exact absurd h2 (by omega)
      | succ fu ih_175 =>
        intro j175  en_175 ls H locs hj0_175 hj_175 hfu_175 hI_175 hf_175  hl hh
        refine lv_iload_n hx hb dX2_findWays_20 rfl (lv_at hl 0 rfl) ?_
        refine lv_bipush (v := 8) hx hb dX2_findWays_21 (by decide) ?_
        refine lv_icmp_gt (tgt := 65) hx hb dX2_findWays_23 (by decide) (fun c_176 => ?_) (fun c_176 => ?_)
        · have n_176 : 8 < j175 := n_lt (a := 8) (b := j175) c_176 (by decide) (by omega)
          refine lv_aload_n hx hb dX2_findWays_65 rfl (lv_at hl 1 rfl) ?_
          refine lv_iconst (v := 1) hx hb dX2_findWays_66 (by decide) ?_
          obtain ⟨hw_177, es177, p0_177⟩ := get_L hI_175
          refine hp_put hx hb hts ix2 tyX2 tyX2_ok nmX2 hown hK hh (q := 12) rfl (hI.1 _ (by decide)) es177 rfl 5 (by decide) (hts _ tw_127) (fun _ h9 => h9) rfl (ty := .boolean) (by decide +kernel) rfl rfl (Nat.le_of_ble_eq_true rfl) dX2_findWays_67 (fun H locs en_178 hen_178 hh => ?_)
          have es177_178 : en_178 12 = .inr (2, [.ref (ad 1), .ref (ad 13), .ref (ad 14), .ref (ad 24), .ref (ad 33), .int 1]) := by rw [hen_178]; exact va_up_self _ _ _
          have hI_178 : SX cy cs ad en_178 := by rw [hen_178]; exact up_L hI_175 ⟨1, rfl, (by omega)⟩
          have hf_178 : ∀ c, (c < 12 ∨ 70 ≤ c) → en_178 c = en c := fun c hc => Eq.trans (show en_178 c = en_175 c from by rw [hen_178, va_up_ne _ _ (by omega)]) (hf_175 c hc)
          exact hp_vretM hx hb hr hlocks hh (⟨hI_178, hf_178⟩) dX2_findWays_70
        · have n_176 : j175 ≤ 8 := n_nlt (a := 8) (b := j175) c_176 (by decide) (by omega)
          refine lv_iconst (v := 0) hx hb dX2_findWays_26 (by decide) ?_
          refine lv_istore_n (lv' := [(2, .int 0), (1, .int (nI j175)), (0, .ref (ad 12))]) hx hb dX2_findWays_27 rfl hl (by decide) rfl (fun ls hl => ?_)
          have loop_179 : ∀ (fu j179 : Nat)  (en_179 : Nat → va_E) (ls : Array Slot) (H : Heap) (locs : List Loc), 0 ≤ j179 → j179 ≤ cnt → cnt < j179 + fu → SX cy cs ad en_179 → (∀ c, (c < 12 ∨ 70 ≤ c) → en_179 c = en c) →  lv_has ls 3 [(2, .int (nI j179)), (1, .int (nI j175)), (0, .ref (ad 12))] → Hp D (Af cs ad sz) (Af cs ad sz) s.heap H locs cs ad en_179 → W p l e (headSpec (Cond.code yX2_findWays cX2_findWays 3 none :: TB) (rmN 3)).room s m ([.ref (ad 12)] : List Value).toArray below meth c H locs 0 0 (MQ below (va_Qv (S := Nat → va_E) (fun en1 => SX cy cs ad en1 ∧ (∀ c, (c < 12 ∨ 70 ≤ c) → en1 c = en c)) (PostM D cs ad) (Af cs ad sz)) ([.ref (ad 12)] : List Value).toArray s 0 0 (Af cs ad sz)) (F0 m 28 ls []) := by
            intro fu
            induction fu with
            | zero => intro j179  en_179 ls H locs h0 h1 h2; exact absurd h2 (by omega)
            | succ fu ih_179 =>
              intro j179  en_179 ls H locs hj0_179 hj_179 hfu_179 hI_179 hf_179  hl hh
              refine lv_iload_n hx hb dX2_findWays_28 rfl (lv_at hl 0 rfl) ?_
              refine lv_aload_n hx hb dX2_findWays_29 rfl (lv_at hl 2 rfl) ?_
              obtain ⟨hw_180, es180, p0_180⟩ := get_L hI_179
              refine hp_get hx hb hts ix2 hown hK hh (q := 12) rfl (hI.1 _ (by decide)) es180 rfl 0 (by decide) (hts _ tw_122) (fun _ h9 => h9) rfl dX2_findWays_30 ?_
              have es168_181 : en_179 1 = .inr (7, [.ref (ad 2), .ref (ad 3), .ref (ad 10), .ref (ad 11), .int (nI cnt), .int (nI d), .int (nI mm)]) := (hf_179 1 (by omega)).trans es168
              refine hp_callRi (va_runV (As := []) (rest := [.int (nI j179)]) ⟨hx, hb, hml, hown, hts⟩ (c_X8_count l D cy _ cs ad en_179 (hI.1 _ (by decide)) cnt d mm hcnt hd2 hd3 hmm  es168_181) (kw_X8_count hts tw_460 ⟨by decide, by decide⟩) (preV_of hh hK (hI.1 _ (by decide)) es168_181 rfl) rfl rfl hl.1 rfl (lv_room (Nat.le_of_ble_eq_true rfl)) dX2_findWays_33 ⟨Nat.le_of_ble_eq_true rfl, Nat.le_of_ble_eq_true rfl⟩) hh hA (fun r_182 H locs hw_182 hh => ?_)
              obtain rfl : r_182 = (nI cnt) := hw_182
              refine lv_icmp_ge (tgt := 59) hx hb dX2_findWays_36 (by decide) (fun c_183 => ?_) (fun c_183 => ?_)
              · have n_183 : cnt ≤ j179 := n_le (a := cnt) (b := j179) c_183 (by omega) (by omega)
                refine lv_iinc (v := (nI (j175 + 1))) (lv' := [(1, .int (nI (j175 + 1))), (2, .int (nI j179)), (0, .ref (ad 12))]) hx hb dX2_findWays_59 hl (k := 1) rfl (nI_1 _) (by decide) rfl (fun ls hl => ?_)
                refine lv_goto (tgt := 20) hx hb dX2_findWays_62 (by decide) ?_
                exact ih_175 ((j175 + 1))  en_179 ls H locs (by omega) (by omega) (by omega) hI_179 hf_179  (lv_sub hl [0, 2] rfl) hh
              · have n_183 : j179 < cnt := n_nle (a := cnt) (b := j179) c_183 (by omega) (by omega)
                refine lv_aload_n hx hb dX2_findWays_39 rfl (lv_at hl 2 rfl) ?_
                refine hp_get hx hb hts ix2 hown hK hh (q := 12) rfl (hI.1 _ (by decide)) es180 rfl 2 (by decide) (hts _ tw_124) (fun _ h9 => h9) rfl dX2_findWays_40 ?_
                refine lv_iload_n hx hb dX2_findWays_43 rfl (lv_at hl 1 rfl) ?_
                have es184 := get_wys hI_179
                unfold P_wys at es184
                refine hp_aald hx hb hK hh (q := 14) rfl (hI.1 _ (by decide)) 7 es184 rfl rfl (vp_in_nI (n := j175) (by omega) (by decide)) (v := .ref (ad (15 + j175))) (by rw [nI_clamp (n := j175) (by omega)]; rfl) dX2_findWays_44 ?_
                refine lv_iload_n hx hb dX2_findWays_45 rfl (lv_at hl 0 rfl) ?_
                refine lv_aload_n hx hb dX2_findWays_46 rfl (lv_at hl 2 rfl) ?_
                refine lv_iload_n hx hb dX2_findWays_47 rfl (lv_at hl 1 rfl) ?_
                refine lv_iload_n hx hb dX2_findWays_48 rfl (lv_at hl 0 rfl) ?_
                refine hp_callRi (va_runV (As := [.int (nI j175), .int (nI j179)]) (rest := [.int (nI j179), .ref (ad (15 + j175))]) ⟨hx, hb, hml, hown, hts⟩ (c_X2_countWays l D cy _ cs ad en_179 hI_179 j175 j179 (by omega) (by omega) (by omega)) (kw_X2_countWays hts tw_461 ⟨by decide, by decide⟩) (preV_of hh hK (hI.1 _ (by decide)) es180 rfl) rfl rfl hl.1 rfl (lv_room (Nat.le_of_ble_eq_true rfl)) dX2_findWays_49 ⟨Nat.le_of_ble_eq_true rfl, Nat.le_of_ble_eq_true rfl⟩) hh hA (fun r_185 H locs hw_185 hh => ?_)
                obtain ⟨f_186, es186⟩ := get_way hI_179 (j := j175) (by omega)
                refine hp_iast hx hb hK hh (q := (15 + j175)) rfl (hI.1 _ (by omega)) es186 (vp_in_nI (n := j179) (by omega) (by decide)) dX2_findWays_52 (fun H locs en_187 hen_187 hh => ?_)
                rw [nI_clamp (n := j179) (by omega)] at hen_187
                have es180_187 : en_187 12 = .inr (2, [.ref (ad 1), .ref (ad 13), .ref (ad 14), .ref (ad 24), .ref (ad 33), .int (nI hw_180)]) := by rw [hen_187, va_up_ne _ _ (by omega)]; exact es180
                have es168_187 : en_187 1 = .inr (7, [.ref (ad 2), .ref (ad 3), .ref (ad 10), .ref (ad 11), .int (nI cnt), .int (nI d), .int (nI mm)]) := by rw [hen_187, va_up_ne _ _ (by omega)]; exact es168_181
                have es184_187 : en_187 14 = .inl (cy 7, 9, .inr (.inr (.inr (.inr (fun j => some (ad (15 + j))))))) := by rw [hen_187, va_up_ne _ _ (by omega)]; exact es184
                have es186_187 : en_187 (15 + j175) = .inl (cy 0, 6, .inl (upd f_186 j179 r_185)) := by rw [hen_187]; exact va_up_self _ _ _
                have hI_187 : SX cy cs ad en_187 := by rw [hen_187]; exact up_way hI_179 (j := j175) (by omega) ⟨(upd f_186 j179 r_185), rfl⟩
                have hf_187 : ∀ c, (c < 12 ∨ 70 ≤ c) → en_187 c = en c := fun c hc => Eq.trans (show en_187 c = en_179 c from by rw [hen_187, va_up_ne _ _ (by omega)]) (hf_179 c hc)
                refine lv_iinc (v := (nI (j179 + 1))) (lv' := [(2, .int (nI (j179 + 1))), (1, .int (nI j175)), (0, .ref (ad 12))]) hx hb dX2_findWays_53 hl (k := 0) rfl (nI_1 _) (by decide) rfl (fun ls hl => ?_)
                refine lv_goto (tgt := 28) hx hb dX2_findWays_56 (by decide) ?_
                exact ih_179 ((j179 + 1))  en_187 ls H locs (by omega) (by omega) (by omega) hI_187 hf_187  (lv_sub hl [0, 1, 2] rfl) hh
          exact loop_179 (cnt + 1) 0  en_175 ls _ _ (Nat.le_refl _) (by omega) (by omega) hI_175 hf_175  (lv_sub hl [0, 1, 2] rfl) hh
    exact loop_175 (9 + 1) 2  en_174 ls _ _ (Nat.le_refl _) (by omega) (by omega) hI_174 hf_174  (lv_sub hl [0, 1] rfl) hh
  · have n_171 : hw_170 ≠ 0 := n_neq (a := hw_170) (b := 0) c_171 (by omega) (by decide)
    exact hp_vretM hx hb hr hlocks hh (⟨hI, hf0⟩) dX2_findWays_7
theorem kw_X2_findWays {R : Room} {s : State} {args : Array Value} {own : String} {idx : Nat} (hts : ∀ w ∈ TB, w.before args s = true) (hl : Cond.methodLink own idx yX2_findWays ∈ TB) (hR : 3 + 1 ≤ R.frames ∧ 8 + (3 + 11) + 40 * 3 ≤ R.locals) : CallW R s args own RX2 idx yX2_findWays cX2_findWays 3 none (Cond.code yX2_findWays cX2_findWays 3 none :: TB) (rmN 3) 0 0 0 := cwV 0 hts (TB_V hl tw_455 ts_8 tw_3 tw_456) rfl rfl rfl (by decide +kernel) hR
set_option maxHeartbeats 4000000 in
set_option maxRecDepth 100000 in
/-- countOf -/
theorem c_X2_countOf (l : Launch) (D : va_G) (cy : Nat → ClassId) (sz : Nat) (cs : List Nat) (ad : Nat → Nat) (en : Nat → va_E) (hI : SX cy cs ad en) (n : Nat) (hn : n ≤ 8)   : Met l yX2_countOf (Cond.code yX2_countOf cX2_countOf 4 (some .int) :: TB) (rmN 4) (va_Pc [.ref (ad 12), .int (nI n)] (Pre D cy cs ad en sz)) (va_Qi (S := Nat → va_E) (fun r en1 => SX cy cs ad en1 ∧ (∀ c, (c < 12 ∨ 70 ≤ c) → en1 c = en c)) (PostM D cs ad) (Af cs ad sz)) 0 0 (Af cs ad sz) := by
  refine Met.ofW (cc := cX2_countOf) (maxL := 4) (ret := (some .int)) (by decide) rfl ?_
  intro p e s m args below meth c s₁ B hml hv
  obtain ⟨rfl, hsz, hP, hK, hD0⟩ := hv
  have hx := B.exec
  have hb := B.bytes
  have hr := B.returns
  have hts : ∀ w ∈ TB, w.before _ s = true := fun w h => atoms_spec (ws := _ :: TB) B.pre w (List.mem_cons_of_mem _ h)
  have hown : s.vm.findClass RX2 = some m.cls := findClass_of_methodNamed B.named
  have hlocks := B.notSynchronized
  have hh : Hp D (Af cs ad sz) (Af cs ad sz) s.heap s.heap [] cs ad en := ⟨hP, Af_self hD0, va_S.rf⟩
  have hA : ∀ q : Nat, s.heap.size ≤ q → Af cs ad sz q := fun q h => Or.inr (by rw [hsz] at h; exact h)
  have hl := lv_entry ([.ref (ad 12), .int (nI n)]) (n := 4) (Nat.le_of_ble_eq_true rfl)
  rw [lg_entry_eq]
  generalize (lg_sl ([.ref (ad 12), .int (nI n)]) ++ List.replicate (4 - (lg_sl ([.ref (ad 12), .int (nI n)])).length) Slot.unset).toArray = ls at hl ⊢
  have hl : lv_has ls 4 [(0, .ref (ad 12)), (1, .int (nI n))] := hl
  have hf0 : ∀ c, (c < 12 ∨ 70 ≤ c) → en c = en c := fun _ _ => rfl
  obtain ⟨cnt, d, mm, es188, hcnt, hd2, hd3, hmm⟩ := get_T hI
  obtain ⟨f10, es189, hb10⟩ := get_alw hI
  refine lv_aload_n hx hb dX2_countOf_0 rfl (lv_at hl 0 rfl) ?_
  obtain ⟨hw_190, es190, p0_190⟩ := get_L hI
  refine hp_callMv (va_runV (As := []) (rest := []) ⟨hx, hb, hml, hown, hts⟩ (c_X2_findWays l D cy _ cs ad en hI  ) (kw_X2_findWays hts tw_453 ⟨by decide, by decide⟩) (preV_of hh hK (hI.1 _ (by decide)) es190 rfl) rfl rfl hl.1 rfl (lv_room (Nat.le_of_ble_eq_true rfl)) dX2_countOf_1 ⟨Nat.le_of_ble_eq_true rfl, Nat.le_of_ble_eq_true rfl⟩) hh hA (fun H locs en_191 hw_191 hh => ?_)
  obtain ⟨hI_191, hu_191⟩ := hw_191
  have hf_191 : ∀ c, (c < 12 ∨ 70 ≤ c) → en_191 c = en c := fun c hc => (hu_191 c (by omega)).trans (hf0 c hc)
  refine lv_iconst (v := 0) hx hb dX2_countOf_4 (by decide) ?_
  refine lv_istore_n (lv' := [(2, .int 0), (0, .ref (ad 12)), (1, .int (nI n))]) hx hb dX2_countOf_5 rfl hl (by decide) rfl (fun ls hl => ?_)
  refine lv_iconst (v := 0) hx hb dX2_countOf_6 (by decide) ?_
  refine lv_istore_n (lv' := [(3, .int 0), (2, .int 0), (0, .ref (ad 12)), (1, .int (nI n))]) hx hb dX2_countOf_7 rfl hl (by decide) rfl (fun ls hl => ?_)
  have loop_192 : ∀ (fu j192 : Nat) (ac192 : Int32) (en_192 : Nat → va_E) (ls : Array Slot) (H : Heap) (locs : List Loc), 0 ≤ j192 → j192 ≤ cnt → cnt < j192 + fu → SX cy cs ad en_192 → (∀ c, (c < 12 ∨ 70 ≤ c) → en_192 c = en c) →  lv_has ls 4 [(3, .int (nI j192)), (2, .int ac192), (0, .ref (ad 12)), (1, .int (nI n))] → Hp D (Af cs ad sz) (Af cs ad sz) s.heap H locs cs ad en_192 → W p l e (headSpec (Cond.code yX2_countOf cX2_countOf 4 (some .int) :: TB) (rmN 4)).room s m ([.ref (ad 12), .int (nI n)] : List Value).toArray below meth c H locs 0 0 (MQ below (va_Qi (S := Nat → va_E) (fun r en1 => SX cy cs ad en1 ∧ (∀ c, (c < 12 ∨ 70 ≤ c) → en1 c = en c)) (PostM D cs ad) (Af cs ad sz)) ([.ref (ad 12), .int (nI n)] : List Value).toArray s 0 0 (Af cs ad sz)) (F0 m 8 ls []) := by
    intro fu
    induction fu with
    | zero => intro j192 ac192 en_192 ls H locs h0 h1 h2; exact absurd h2 (by omega)
    | succ fu ih_192 =>
      intro j192 ac192 en_192 ls H locs hj0_192 hj_192 hfu_192 hI_192 hf_192  hl hh
      refine lv_iload_n hx hb dX2_countOf_8 rfl (lv_at hl 0 rfl) ?_
      refine lv_aload_n hx hb dX2_countOf_9 rfl (lv_at hl 2 rfl) ?_
      obtain ⟨hw_193, es193, p0_193⟩ := get_L hI_192
      refine hp_get hx hb hts ix2 hown hK hh (q := 12) rfl (hI.1 _ (by decide)) es193 rfl 0 (by decide) (hts _ tw_122) (fun _ h9 => h9) rfl dX2_countOf_10 ?_
      have es188_194 : en_192 1 = .inr (7, [.ref (ad 2), .ref (ad 3), .ref (ad 10), .ref (ad 11), .int (nI cnt), .int (nI d), .int (nI mm)]) := (hf_192 1 (by omega)).trans es188
      refine hp_callRi (va_runV (As := []) (rest := [.int (nI j192)]) ⟨hx, hb, hml, hown, hts⟩ (c_X8_count l D cy _ cs ad en_192 (hI.1 _ (by decide)) cnt d mm hcnt hd2 hd3 hmm  es188_194) (kw_X8_count hts tw_460 ⟨by decide, by decide⟩) (preV_of hh hK (hI.1 _ (by decide)) es188_194 rfl) rfl rfl hl.1 rfl (lv_room (Nat.le_of_ble_eq_true rfl)) dX2_countOf_13 ⟨Nat.le_of_ble_eq_true rfl, Nat.le_of_ble_eq_true rfl⟩) hh hA (fun r_195 H locs hw_195 hh => ?_)
      obtain rfl : r_195 = (nI cnt) := hw_195
      refine lv_icmp_ge (tgt := 36) hx hb dX2_countOf_16 (by decide) (fun c_196 => ?_) (fun c_196 => ?_)
      · have n_196 : cnt ≤ j192 := n_le (a := cnt) (b := j192) c_196 (by omega) (by omega)
        refine lv_iload_n hx hb dX2_countOf_36 rfl (lv_at hl 1 rfl) ?_
        exact hp_iretM hx hb hr rfl hlocks hh (⟨hI_192, hf_192⟩) dX2_countOf_37
      · have n_196 : j192 < cnt := n_nle (a := cnt) (b := j192) c_196 (by omega) (by omega)
        refine lv_iload_n hx hb dX2_countOf_19 rfl (lv_at hl 1 rfl) ?_
        refine lv_aload_n hx hb dX2_countOf_20 rfl (lv_at hl 2 rfl) ?_
        refine hp_get hx hb hts ix2 hown hK hh (q := 12) rfl (hI.1 _ (by decide)) es193 rfl 2 (by decide) (hts _ tw_124) (fun _ h9 => h9) rfl dX2_countOf_21 ?_
        refine lv_iload_n hx hb dX2_countOf_24 rfl (lv_at hl 3 rfl) ?_
        have es197 := get_wys hI_192
        unfold P_wys at es197
        refine hp_aald hx hb hK hh (q := 14) rfl (hI.1 _ (by decide)) 7 es197 rfl rfl (vp_in_nI (n := n) (by omega) (by decide)) (v := .ref (ad (15 + n))) (by rw [nI_clamp (n := n) (by omega)]; rfl) dX2_countOf_25 ?_
        refine lv_iload_n hx hb dX2_countOf_26 rfl (lv_at hl 0 rfl) ?_
        obtain ⟨f_198, es198⟩ := get_way hI_192 (j := n) (by omega)
        refine hp_iald hx hb hK hh (q := (15 + n)) rfl (hI.1 _ (by omega)) es198 (vp_in_nI (n := j192) (by omega) (by decide)) dX2_countOf_27 ?_
        rw [nI_clamp (n := j192) (by omega)]
        refine lv_iadd hx hb dX2_countOf_28 ?_
        refine lv_istore_n (lv' := [(2, .int (ac192 + (f_198 j192))), (3, .int (nI j192)), (0, .ref (ad 12)), (1, .int (nI n))]) hx hb dX2_countOf_29 rfl hl (by decide) rfl (fun ls hl => ?_)
        refine lv_iinc (v := (nI (j192 + 1))) (lv' := [(3, .int (nI (j192 + 1))), (2, .int (ac192 + (f_198 j192))), (0, .ref (ad 12)), (1, .int (nI n))]) hx hb dX2_countOf_30 hl (k := 1) rfl (nI_1 _) (by decide) rfl (fun ls hl => ?_)
        refine lv_goto (tgt := 8) hx hb dX2_countOf_33 (by decide) ?_
        exact ih_192 ((j192 + 1)) (ac192 + (f_198 j192)) en_192 ls H locs (by omega) (by omega) (by omega) hI_192 hf_192  (lv_sub hl [0, 1, 2, 3] rfl) hh
  exact loop_192 (cnt + 1) 0 0 en_191 ls _ _ (Nat.le_refl _) (by omega) (by omega) hI_191 hf_191  (lv_sub hl [0, 1, 2, 3] rfl) hh
theorem kw_X2_countOf {R : Room} {s : State} {args : Array Value} {own : String} {idx : Nat} (hts : ∀ w ∈ TB, w.before args s = true) (hl : Cond.methodLink own idx yX2_countOf ∈ TB) (hR : 4 + 1 ≤ R.frames ∧ 8 + (4 + 11) + 40 * 4 ≤ R.locals) : CallW R s args own RX2 idx yX2_countOf cX2_countOf 4 (some .int) (Cond.code yX2_countOf cX2_countOf 4 (some .int) :: TB) (rmN 4) 0 0 1 := cwV 1 hts (TB_V hl tw_450 tw_451 tw_3 tw_452) rfl rfl rfl (by decide +kernel) hR
set_option maxHeartbeats 4000000 in
set_option maxRecDepth 100000 in
/-- isSpent -/
theorem c_X2_isSpent (l : Launch) (D : va_G) (cy : Nat → ClassId) (sz : Nat) (cs : List Nat) (ad : Nat → Nat) (en : Nat → va_E) (hI : SX cy cs ad en) (n : Nat) (hn : n ≤ 8)   : Met l yX2_isSpent (Cond.code yX2_isSpent cX2_isSpent 2 (some .boolean) :: TB) (rmN 5) (va_Pc [.ref (ad 12), .int (nI n)] (Pre D cy cs ad en sz)) (va_Qi (S := Nat → va_E) (fun r en1 => SX cy cs ad en1 ∧ (∀ c, (c < 12 ∨ 70 ≤ c) → en1 c = en c) ∧ (r = 0 ∨ r = 1)) (PostM D cs ad) (Af cs ad sz)) 0 0 (Af cs ad sz) := by
  refine Met.ofW (cc := cX2_isSpent) (maxL := 2) (ret := (some .boolean)) (by decide) rfl ?_
  intro p e s m args below meth c s₁ B hml hv
  obtain ⟨rfl, hsz, hP, hK, hD0⟩ := hv
  have hx := B.exec
  have hb := B.bytes
  have hr := B.returns
  have hts : ∀ w ∈ TB, w.before _ s = true := fun w h => atoms_spec (ws := _ :: TB) B.pre w (List.mem_cons_of_mem _ h)
  have hown : s.vm.findClass RX2 = some m.cls := findClass_of_methodNamed B.named
  have hlocks := B.notSynchronized
  have hh : Hp D (Af cs ad sz) (Af cs ad sz) s.heap s.heap [] cs ad en := ⟨hP, Af_self hD0, va_S.rf⟩
  have hA : ∀ q : Nat, s.heap.size ≤ q → Af cs ad sz q := fun q h => Or.inr (by rw [hsz] at h; exact h)
  have hl := lv_entry ([.ref (ad 12), .int (nI n)]) (n := 2) (Nat.le_of_ble_eq_true rfl)
  rw [lg_entry_eq]
  generalize (lg_sl ([.ref (ad 12), .int (nI n)]) ++ List.replicate (2 - (lg_sl ([.ref (ad 12), .int (nI n)])).length) Slot.unset).toArray = ls at hl ⊢
  have hl : lv_has ls 2 [(0, .ref (ad 12)), (1, .int (nI n))] := hl
  have hf0 : ∀ c, (c < 12 ∨ 70 ≤ c) → en c = en c := fun _ _ => rfl
  obtain ⟨cnt, d, mm, es199, hcnt, hd2, hd3, hmm⟩ := get_T hI
  obtain ⟨f10, es200, hb10⟩ := get_alw hI
  refine lv_aload_n hx hb dX2_isSpent_0 rfl (lv_at hl 0 rfl) ?_
  refine lv_iload_n hx hb dX2_isSpent_1 rfl (lv_at hl 1 rfl) ?_
  obtain ⟨hw_201, es201, p0_201⟩ := get_L hI
  refine hp_callMi (va_runV (As := [.int (nI n)]) (rest := []) ⟨hx, hb, hml, hown, hts⟩ (c_X2_countOf l D cy _ cs ad en hI n (by omega)) (kw_X2_countOf hts tw_449 ⟨by decide, by decide⟩) (preV_of hh hK (hI.1 _ (by decide)) es201 rfl) rfl rfl hl.1 rfl (lv_room (Nat.le_of_ble_eq_true rfl)) dX2_isSpent_2 ⟨Nat.le_of_ble_eq_true rfl, Nat.le_of_ble_eq_true rfl⟩) hh hA (fun r_202 H locs en_202 hw_202 hh => ?_)
  obtain ⟨hI_202, hu_202⟩ := hw_202
  have hf_202 : ∀ c, (c < 12 ∨ 70 ≤ c) → en_202 c = en c := fun c hc => (hu_202 c (by omega)).trans (hf0 c hc)
  refine lv_sipush (v := 20000) hx hb dX2_isSpent_5 (by decide) ?_
  refine lv_icmp_le (tgt := 15) hx hb dX2_isSpent_8 (by decide) (fun c_203 => ?_) (fun c_203 => ?_)
  · refine lv_iconst (v := 0) hx hb dX2_isSpent_15 (by decide) ?_
    exact hp_iretM hx hb hr rfl hlocks hh (⟨hI_202, hf_202, Or.inl rfl⟩) dX2_isSpent_16
  · refine lv_iconst (v := 1) hx hb dX2_isSpent_11 (by decide) ?_
    refine lv_goto (tgt := 16) hx hb dX2_isSpent_12 (by decide) ?_
    exact hp_iretM hx hb hr rfl hlocks hh (⟨hI_202, hf_202, Or.inr rfl⟩) dX2_isSpent_16
theorem kw_X2_isSpent {R : Room} {s : State} {args : Array Value} {own : String} {idx : Nat} (hts : ∀ w ∈ TB, w.before args s = true) (hl : Cond.methodLink own idx yX2_isSpent ∈ TB) (hR : 5 + 1 ≤ R.frames ∧ 8 + (2 + 11) + 40 * 5 ≤ R.locals) : CallW R s args own RX2 idx yX2_isSpent cX2_isSpent 2 (some .boolean) (Cond.code yX2_isSpent cX2_isSpent 2 (some .boolean) :: TB) (rmN 5) 0 0 1 := cwV 1 hts (TB_V hl tw_446 tw_447 tw_3 tw_448) rfl rfl rfl (by decide +kernel) hR
set_option maxHeartbeats 4000000 in
set_option maxRecDepth 100000 in
/-- forget -/
theorem c_X2_forget (l : Launch) (D : va_G) (cy : Nat → ClassId) (sz : Nat) (cs : List Nat) (ad : Nat → Nat) (en : Nat → va_E) (hI : SX cy cs ad en)    : Met l yX2_forget (Cond.code yX2_forget cX2_forget 2 none :: TB) (rmN 0) (va_Pc [.ref (ad 12)] (Pre D cy cs ad en sz)) (va_Qv (S := Nat → va_E) (fun en1 => SX cy cs ad en1 ∧ (∀ c, (c < 12 ∨ 70 ≤ c) → en1 c = en c)) (PostM D cs ad) (Af cs ad sz)) 0 0 (Af cs ad sz) := by
  refine Met.ofW (cc := cX2_forget) (maxL := 2) (ret := none) (by decide) rfl ?_
  intro p e s m args below meth c s₁ B hml hv
  obtain ⟨rfl, hsz, hP, hK, hD0⟩ := hv
  have hx := B.exec
  have hb := B.bytes
  have hr := B.returns
  have hts : ∀ w ∈ TB, w.before _ s = true := fun w h => atoms_spec (ws := _ :: TB) B.pre w (List.mem_cons_of_mem _ h)
  have hown : s.vm.findClass RX2 = some m.cls := findClass_of_methodNamed B.named
  have hlocks := B.notSynchronized
  have hh : Hp D (Af cs ad sz) (Af cs ad sz) s.heap s.heap [] cs ad en := ⟨hP, Af_self hD0, va_S.rf⟩
  have hA : ∀ q : Nat, s.heap.size ≤ q → Af cs ad sz q := fun q h => Or.inr (by rw [hsz] at h; exact h)
  have hl := lv_entry ([.ref (ad 12)]) (n := 2) (Nat.le_of_ble_eq_true rfl)
  rw [lg_entry_eq]
  generalize (lg_sl ([.ref (ad 12)]) ++ List.replicate (2 - (lg_sl ([.ref (ad 12)])).length) Slot.unset).toArray = ls at hl ⊢
  have hl : lv_has ls 2 [(0, .ref (ad 12))] := hl
  have hf0 : ∀ c, (c < 12 ∨ 70 ≤ c) → en c = en c := fun _ _ => rfl
  refine lv_aload_n hx hb dX2_forget_0 rfl (lv_at hl 0 rfl) ?_
  refine lv_iconst (v := 0) hx hb dX2_forget_1 (by decide) ?_
  obtain ⟨hw_204, es204, p0_204⟩ := get_L hI
  refine hp_put hx hb hts ix2 tyX2 tyX2_ok nmX2 hown hK hh (q := 12) rfl (hI.1 _ (by decide)) es204 rfl 5 (by decide) (hts _ tw_127) (fun _ h9 => h9) rfl (ty := .boolean) (by decide +kernel) rfl rfl (Nat.le_of_ble_eq_true rfl) dX2_forget_2 (fun H locs en_205 hen_205 hh => ?_)
  have es204_205 : en_205 12 = .inr (2, [.ref (ad 1), .ref (ad 13), .ref (ad 14), .ref (ad 24), .ref (ad 33), .int 0]) := by rw [hen_205]; exact va_up_self _ _ _
  have hI_205 : SX cy cs ad en_205 := by rw [hen_205]; exact up_L hI ⟨0, rfl, (by omega)⟩
  have hf_205 : ∀ c, (c < 12 ∨ 70 ≤ c) → en_205 c = en c := fun c hc => Eq.trans (show en_205 c = en c from by rw [hen_205, va_up_ne _ _ (by omega)]) (hf0 c hc)
  refine lv_iconst (v := 0) hx hb dX2_forget_5 (by decide) ?_
  refine lv_istore_n (lv' := [(1, .int 0), (0, .ref (ad 12))]) hx hb dX2_forget_6 rfl hl (by decide) rfl (fun ls hl => ?_)
  have loop_206 : ∀ (fu j206 : Nat)  (en_206 : Nat → va_E) (ls : Array Slot) (H : Heap) (locs : List Loc), 0 ≤ j206 → j206 ≤ 9 → 9 < j206 + fu → SX cy cs ad en_206 → (∀ c, (c < 12 ∨ 70 ≤ c) → en_206 c = en c) →  lv_has ls 2 [(1, .int (nI j206)), (0, .ref (ad 12))] → Hp D (Af cs ad sz) (Af cs ad sz) s.heap H locs cs ad en_206 → W p l e (headSpec (Cond.code yX2_forget cX2_forget 2 none :: TB) (rmN 0)).room s m ([.ref (ad 12)] : List Value).toArray below meth c H locs 0 0 (MQ below (va_Qv (S := Nat → va_E) (fun en1 => SX cy cs ad en1 ∧ (∀ c, (c < 12 ∨ 70 ≤ c) → en1 c = en c)) (PostM D cs ad) (Af cs ad sz)) ([.ref (ad 12)] : List Value).toArray s 0 0 (Af cs ad sz)) (F0 m 7 ls []) := by
    intro fu
    induction fu with
    | zero => intro j206  en_206 ls H locs h0 h1 h2; exact absurd h2 (by omega)
    | succ fu ih_206 =>
      intro j206  en_206 ls H locs hj0_206 hj_206 hfu_206 hI_206 hf_206  hl hh
      refine lv_iload_n hx hb dX2_forget_7 rfl (lv_at hl 0 rfl) ?_
      refine lv_bipush (v := 8) hx hb dX2_forget_8 (by decide) ?_
      refine lv_icmp_gt (tgt := 29) hx hb dX2_forget_10 (by decide) (fun c_207 => ?_) (fun c_207 => ?_)
      · have n_207 : 8 < j206 := n_lt (a := 8) (b := j206) c_207 (by decide) (by omega)
        exact hp_vretM hx hb hr hlocks hh (⟨hI_206, hf_206⟩) dX2_forget_29
      · have n_207 : j206 ≤ 8 := n_nlt (a := 8) (b := j206) c_207 (by decide) (by omega)
        refine lv_aload_n hx hb dX2_forget_13 rfl (lv_at hl 1 rfl) ?_
        obtain ⟨hw_208, es208, p0_208⟩ := get_L hI_206
        refine hp_get hx hb hts ix2 hown hK hh (q := 12) rfl (hI.1 _ (by decide)) es208 rfl 1 (by decide) (hts _ tw_123) (fun _ h9 => h9) rfl dX2_forget_14 ?_
        refine lv_iload_n hx hb dX2_forget_17 rfl (lv_at hl 0 rfl) ?_
        have es209 := get_svs hI_206
        unfold P_svs at es209
        refine hp_aald hx hb hK hh (q := 13) rfl (hI.1 _ (by decide)) 4 es209 rfl rfl (vp_in_nI (n := j206) (by omega) (by decide)) (v := .ref (ad (34 + 4 * j206))) (by rw [nI_clamp (n := j206) (by omega)]; rfl) dX2_forget_18 ?_
        refine lv_iconst (v := 0) hx hb dX2_forget_19 (by decide) ?_
        obtain ⟨dn_210, no_210, rc_210, gr_210, le_210, rt_210, tt_210, es210, p0_210⟩ := get_sv hI_206 (j := j206) (by omega)
        refine hp_put hx hb hts ix6 tyX6 tyX6_ok nmX6 hown hK hh (q := (34 + 4 * j206)) rfl (hI.1 _ (by omega)) es210 rfl 3 (by decide) (hts _ tw_86) (fun _ h9 => h9) rfl (ty := .boolean) (by decide +kernel) rfl rfl (Nat.le_of_ble_eq_true rfl) dX2_forget_20 (fun H locs en_211 hen_211 hh => ?_)
        have es208_211 : en_211 12 = .inr (2, [.ref (ad 1), .ref (ad 13), .ref (ad 14), .ref (ad 24), .ref (ad 33), .int (nI hw_208)]) := by rw [hen_211, va_up_ne _ _ (by omega)]; exact es208
        have es209_211 : en_211 13 = .inl (cy 4, 9, .inr (.inr (.inr (.inr (fun j => some (ad (34 + 4 * j))))))) := by rw [hen_211, va_up_ne _ _ (by omega)]; exact es209
        have es210_211 : en_211 (34 + 4 * j206) = .inr (5, [.ref (ad (35 + 4 * j206)), .ref (ad (36 + 4 * j206)), .ref (ad (37 + 4 * j206)), .int 0, .int no_210, .int rc_210, .long gr_210, .long le_210, .long rt_210, .long tt_210]) := by rw [hen_211]; exact va_up_self _ _ _
        have hI_211 : SX cy cs ad en_211 := by rw [hen_211]; exact up_sv hI_206 (j := j206) (by omega) ⟨0, no_210, rc_210, gr_210, le_210, rt_210, tt_210, rfl, (by omega)⟩
        have hf_211 : ∀ c, (c < 12 ∨ 70 ≤ c) → en_211 c = en c := fun c hc => Eq.trans (show en_211 c = en_206 c from by rw [hen_211, va_up_ne _ _ (by omega)]) (hf_206 c hc)
        refine lv_iinc (v := (nI (j206 + 1))) (lv' := [(1, .int (nI (j206 + 1))), (0, .ref (ad 12))]) hx hb dX2_forget_23 hl (k := 0) rfl (nI_1 _) (by decide) rfl (fun ls hl => ?_)
        refine lv_goto (tgt := 7) hx hb dX2_forget_26 (by decide) ?_
        exact ih_206 ((j206 + 1))  en_211 ls H locs (by omega) (by omega) (by omega) hI_211 hf_211  (lv_sub hl [0, 1] rfl) hh
  exact loop_206 (9 + 1) 0  en_205 ls _ _ (Nat.le_refl _) (by omega) (by omega) hI_205 hf_205  (lv_sub hl [0, 1] rfl) hh
theorem kw_X2_forget {R : Room} {s : State} {args : Array Value} {own : String} {idx : Nat} (hts : ∀ w ∈ TB, w.before args s = true) (hl : Cond.methodLink own idx yX2_forget ∈ TB) (hR : 0 + 1 ≤ R.frames ∧ 8 + (2 + 11) + 40 * 0 ≤ R.locals) : CallW R s args own RX2 idx yX2_forget cX2_forget 2 none (Cond.code yX2_forget cX2_forget 2 none :: TB) (rmN 0) 0 0 0 := cwV 0 hts (TB_V hl tw_282 tw_283 tw_3 tw_284) rfl rfl rfl (by decide +kernel) hR
set_option maxHeartbeats 4000000 in
set_option maxRecDepth 100000 in
/-- leadsOn -/
theorem c_X2_leadsOn (l : Launch) (D : va_G) (cy : Nat → ClassId) (sz : Nat) (cs : List Nat) (ad : Nat → Nat) (en : Nat → va_E) (hI : SX cy cs ad en) (n dp le : Nat) (hn8 : n ≤ 8) (hdp : dp < n) (hle : le < 6)   : Met l yX2_leadsOn (Cond.code yX2_leadsOn cX2_leadsOn 4 (some .boolean) :: TB) (rmN 2) (va_Pc [.ref (ad 12), .int (nI n), .int (nI dp), .int (nI le)] (Pre D cy cs ad en sz)) (va_Qi (S := Unit) (fun r _ => r = 0 ∨ r = 1) (fun _ _ => True) (Nf sz)) 0 0 (Nf sz) := by
  refine Met.ofW (cc := cX2_leadsOn) (maxL := 4) (ret := (some .boolean)) (by decide) rfl ?_
  intro p e s m args below meth c s₁ B hml hv
  obtain ⟨rfl, hsz, hP, hK, hD0⟩ := hv
  have hx := B.exec
  have hb := B.bytes
  have hr := B.returns
  have hts : ∀ w ∈ TB, w.before _ s = true := fun w h => atoms_spec (ws := _ :: TB) B.pre w (List.mem_cons_of_mem _ h)
  have hown : s.vm.findClass RX2 = some m.cls := findClass_of_methodNamed B.named
  have hlocks := B.notSynchronized
  have hh : Hp D (Nf sz) (fun _ => True) s.heap s.heap [] cs ad en := ⟨hP, hD0, va_S.rf⟩
  have hA : ∀ q : Nat, s.heap.size ≤ q → Nf sz q := fun q h => by rw [hsz] at h; exact h
  have hl := lv_entry ([.ref (ad 12), .int (nI n), .int (nI dp), .int (nI le)]) (n := 4) (Nat.le_of_ble_eq_true rfl)
  rw [lg_entry_eq]
  generalize (lg_sl ([.ref (ad 12), .int (nI n), .int (nI dp), .int (nI le)]) ++ List.replicate (4 - (lg_sl ([.ref (ad 12), .int (nI n), .int (nI dp), .int (nI le)])).length) Slot.unset).toArray = ls at hl ⊢
  have hl : lv_has ls 4 [(0, .ref (ad 12)), (1, .int (nI n)), (2, .int (nI dp)), (3, .int (nI le))] := hl
  obtain ⟨cnt, d, mm, es212, hcnt, hd2, hd3, hmm⟩ := get_T hI
  obtain ⟨f10, es213, hb10⟩ := get_alw hI
  refine lv_aload_n hx hb dX2_leadsOn_0 rfl (lv_at hl 0 rfl) ?_
  obtain ⟨hw_214, es214, p0_214⟩ := get_L hI
  refine hp_get hx hb hts ix2 hown hK hh (q := 12) rfl (hI.1 _ (by decide)) es214 rfl 2 (by decide) (hts _ tw_124) (fun _ h9 => h9) rfl dX2_leadsOn_1 ?_
  refine lv_iload_n hx hb dX2_leadsOn_4 rfl (lv_at hl 1 rfl) ?_
  refine lv_iload_n hx hb dX2_leadsOn_5 rfl (lv_at hl 2 rfl) ?_
  refine lv_isub hx hb dX2_leadsOn_6 ?_
  rw [pk_sub (a := n) (b := dp) (by omega)]
  have es215 := get_wys hI
  unfold P_wys at es215
  refine hp_aald hx hb hK hh (q := 14) rfl (hI.1 _ (by decide)) 7 es215 rfl rfl (vp_in_nI (n := (n - dp)) (by omega) (by decide)) (v := .ref (ad (15 + (n - dp)))) (by rw [nI_clamp (n := (n - dp)) (by omega)]; rfl) dX2_leadsOn_7 ?_
  refine lv_iload_n hx hb dX2_leadsOn_8 rfl (lv_at hl 3 rfl) ?_
  obtain ⟨f_216, es216⟩ := get_way hI (j := (n - dp)) (by omega)
  refine hp_iald hx hb hK hh (q := (15 + (n - dp))) rfl (hI.1 _ (by omega)) es216 (vp_in_nI (n := le) (by omega) (by decide)) dX2_leadsOn_9 ?_
  rw [nI_clamp (n := le) (by omega)]
  refine lv_if_le (tgt := 40) hx hb dX2_leadsOn_10 (by decide) (fun c_217 => ?_) (fun c_217 => ?_)
  · refine lv_iconst (v := 0) hx hb dX2_leadsOn_40 (by decide) ?_
    exact hp_iretR hx hb hr rfl hlocks hsz hh (Or.inl rfl) dX2_leadsOn_41
  · refine lv_iload_n hx hb dX2_leadsOn_13 rfl (lv_at hl 2 rfl) ?_
    refine lv_if_eq (tgt := 36) hx hb dX2_leadsOn_14 (by decide) (fun c_218 => ?_) (fun c_218 => ?_)
    · have n_218 : dp = 0 := n_eq (a := dp) (b := 0) c_218 (by omega) (by decide)
      refine lv_iconst (v := 1) hx hb dX2_leadsOn_36 (by decide) ?_
      refine lv_goto (tgt := 41) hx hb dX2_leadsOn_37 (by decide) ?_
      exact hp_iretR hx hb hr rfl hlocks hsz hh (Or.inr rfl) dX2_leadsOn_41
    · have n_218 : dp ≠ 0 := n_neq (a := dp) (b := 0) c_218 (by omega) (by decide)
      refine lv_aload_n hx hb dX2_leadsOn_17 rfl (lv_at hl 0 rfl) ?_
      refine hp_get hx hb hts ix2 hown hK hh (q := 12) rfl (hI.1 _ (by decide)) es214 rfl 0 (by decide) (hts _ tw_122) (fun _ h9 => h9) rfl dX2_leadsOn_18 ?_
      refine lv_aload_n hx hb dX2_leadsOn_21 rfl (lv_at hl 0 rfl) ?_
      refine hp_get hx hb hts ix2 hown hK hh (q := 12) rfl (hI.1 _ (by decide)) es214 rfl 4 (by decide) (hts _ tw_126) (fun _ h9 => h9) rfl dX2_leadsOn_22 ?_
      refine lv_iload_n hx hb dX2_leadsOn_25 rfl (lv_at hl 2 rfl) ?_
      refine lv_iconst (v := 1) hx hb dX2_leadsOn_26 (by decide) ?_
      refine lv_isub hx hb dX2_leadsOn_27 ?_
      rw [show (1 : Int32) = nI 1 from rfl, pk_sub (a := dp) (b := 1) (by omega)]
      obtain ⟨f_219, es219, p0_219⟩ := get_let hI
      refine hp_iald hx hb hK hh (q := 33) rfl (hI.1 _ (by decide)) es219 (vp_in_nI (n := (dp - 1)) (by omega) (by decide)) dX2_leadsOn_28 ?_
      rw [nI_clamp (n := (dp - 1)) (by omega)]
      obtain ⟨v_220, hv_220, hfv_220⟩ := p0_219 (dp - 1) (by omega)
      rw [hfv_220]
      refine lv_iload_n hx hb dX2_leadsOn_29 rfl (lv_at hl 3 rfl) ?_
      refine hp_callRi (va_runV (As := [.int (nI v_220), .int (nI le)]) (rest := []) ⟨hx, hb, hml, hown, hts⟩ (c_X8_mayFollow l D cy _ cs ad en (hI.1 _ (by decide)) cnt d mm hcnt hd2 hd3 hmm (hI.1 _ (by decide)) f10 hb10 v_220 le (by omega) (by omega) es212 es213) (kw_X8_mayFollow hts tw_465 ⟨by decide, by decide⟩) (preV_of hh hK (hI.1 _ (by decide)) es212 rfl) rfl rfl hl.1 rfl (lv_room (Nat.le_of_ble_eq_true rfl)) dX2_leadsOn_30 ⟨Nat.le_of_ble_eq_true rfl, Nat.le_of_ble_eq_true rfl⟩) hh hA (fun r_221 H locs hw_221 hh => ?_)
      rcases hb10 (v_220 * 6 + le) (a6 (by omega) (by omega)) with hz_221 | hz_221
      · obtain rfl : r_221 = 0 := Eq.trans hw_221 hz_221
        refine lv_if_eq (tgt := 40) hx hb dX2_leadsOn_33 (by decide) (fun _ => ?_) (fun c_0 => absurd c_0 (by decide))
        refine lv_iconst (v := 0) hx hb dX2_leadsOn_40 (by decide) ?_
        exact hp_iretR hx hb hr rfl hlocks hsz hh (Or.inl rfl) dX2_leadsOn_41
      · obtain rfl : r_221 = 1 := Eq.trans hw_221 hz_221
        refine lv_if_eq (tgt := 40) hx hb dX2_leadsOn_33 (by decide) (fun c_0 => absurd c_0 (by decide)) (fun _ => ?_)
        refine lv_iconst (v := 1) hx hb dX2_leadsOn_36 (by decide) ?_
        refine lv_goto (tgt := 41) hx hb dX2_leadsOn_37 (by decide) ?_
        exact hp_iretR hx hb hr rfl hlocks hsz hh (Or.inr rfl) dX2_leadsOn_41
theorem kw_X2_leadsOn {R : Room} {s : State} {args : Array Value} {own : String} {idx : Nat} (hts : ∀ w ∈ TB, w.before args s = true) (hl : Cond.methodLink own idx yX2_leadsOn ∈ TB) (hR : 2 + 1 ≤ R.frames ∧ 8 + (4 + 11) + 40 * 2 ≤ R.locals) : CallW R s args own RX2 idx yX2_leadsOn cX2_leadsOn 4 (some .boolean) (Cond.code yX2_leadsOn cX2_leadsOn 4 (some .boolean) :: TB) (rmN 2) 0 0 3 := cwV 3 hts (TB_V hl tw_526 ts_11 tw_3 tw_527) rfl rfl rfl (by decide +kernel) hR
