set_option maxHeartbeats 4000000 in
set_option maxRecDepth 100000 in
/-- isUnit -/
theorem c_X8_isUnit (l : Launch) (D : va_G) (cy : Nat → ClassId) (sz : Nat) (cs : List Nat) (ad : Nat → Nat) (en : Nat → va_E) (hm1 : 1 ∈ cs) (cnt d mm : Nat) (hcnt : cnt ≤ 6) (hd2 : 2 ≤ d) (hd3 : d ≤ 3) (hmm : mm ≤ 97) (q : Nat) (hq : q ∈ cs) (fa : Nat → Int64) (e1 : en 1 = .inr (7, [.ref (ad 2), .ref (ad 3), .ref (ad 10), .ref (ad 11), .int (nI cnt), .int (nI d), .int (nI mm)])) (eq : en q = .inl (cy 1, 9, .inr (.inl fa)))  : Met l yX8_isUnit (Cond.code yX8_isUnit cX8_isUnit 4 (some .boolean) :: TB) (rmN 0) (va_Pc [.ref (ad 1), .ref (ad q)] (Pre D cy cs ad en sz)) (va_Qi (S := Unit) (fun r _ => r = 0 ∨ r = 1) (fun _ _ => True) (Nf sz)) 0 0 (Nf sz) := by
  refine Met.ofW (cc := cX8_isUnit) (maxL := 4) (ret := (some .boolean)) (by decide) rfl ?_
  intro p e s m args below meth c s₁ B hml hv
  obtain ⟨rfl, hsz, hP, hK, hD0⟩ := hv
  have hx := B.exec
  have hb := B.bytes
  have hr := B.returns
  have hts : ∀ w ∈ TB, w.before _ s = true := fun w h => atoms_spec (ws := _ :: TB) B.pre w (List.mem_cons_of_mem _ h)
  have hown : s.vm.findClass RX8 = some m.cls := findClass_of_methodNamed B.named
  have hlocks := B.notSynchronized
  have hh : Hp D (Nf sz) (fun _ => True) s.heap s.heap [] cs ad en := ⟨hP, hD0, va_S.rf⟩
  have hA : ∀ q : Nat, s.heap.size ≤ q → Nf sz q := fun q h => by rw [hsz] at h; exact h
  have hl := lv_entry ([.ref (ad 1), .ref (ad q)]) (n := 4) (Nat.le_of_ble_eq_true rfl)
  rw [lg_entry_eq]
  generalize (lg_sl ([.ref (ad 1), .ref (ad q)]) ++ List.replicate (4 - (lg_sl ([.ref (ad 1), .ref (ad q)])).length) Slot.unset).toArray = ls at hl ⊢
  have hl : lv_has ls 4 [(0, .ref (ad 1)), (1, .ref (ad q))] := hl
  refine lv_iconst (v := 0) hx hb dX8_isUnit_0 (by decide) ?_
  refine lv_istore_n (lv' := [(2, .int 0), (0, .ref (ad 1)), (1, .ref (ad q))]) hx hb dX8_isUnit_1 rfl hl (by decide) rfl (fun ls hl => ?_)
  have loop_54 : ∀ (fu j54 : Nat)   (ls : Array Slot) (H : Heap) (locs : List Loc), 0 ≤ j54 → j54 ≤ d → d < j54 + fu →  lv_has ls 4 [(2, .int (nI j54)), (0, .ref (ad 1)), (1, .ref (ad q))] → Hp D (Nf sz) (fun _ => True) s.heap H locs cs ad en → W p l e (headSpec (Cond.code yX8_isUnit cX8_isUnit 4 (some .boolean) :: TB) (rmN 0)).room s m ([.ref (ad 1), .ref (ad q)] : List Value).toArray below meth c H locs 0 0 (MQ below (va_Qi (S := Unit) (fun r _ => r = 0 ∨ r = 1) (fun _ _ => True) (Nf sz)) ([.ref (ad 1), .ref (ad q)] : List Value).toArray s 0 0 (Nf sz)) (F0 m 2 ls []) := by
    intro fu
    induction fu with
    | zero => intro j54  ls H locs h0 h1 h2; exact absurd h2 (by omega)
    | succ fu ih_54 =>
      intro j54  ls H locs hj0_54 hj_54 hfu_54  hl hh
      refine lv_iload_n hx hb dX8_isUnit_2 rfl (lv_at hl 0 rfl) ?_
      refine lv_aload_n hx hb dX8_isUnit_3 rfl (lv_at hl 1 rfl) ?_
      refine hp_get hx hb hts ix8 hown hK hh (q := 1) rfl hm1 e1 rfl 5 (by decide) (hts _ tw_44) (fun _ h9 => h9) rfl dX8_isUnit_4 ?_
      refine lv_icmp_ge (tgt := 59) hx hb dX8_isUnit_7 (by decide) (fun c_55 => ?_) (fun c_55 => ?_)
      · have n_55 : d ≤ j54 := n_le (a := d) (b := j54) c_55 (by omega) (by omega)
        refine lv_iconst (v := 1) hx hb dX8_isUnit_59 (by decide) ?_
        exact hp_iretR hx hb hr rfl hlocks hsz hh (Or.inr rfl) dX8_isUnit_60
      · have n_55 : j54 < d := n_nle (a := d) (b := j54) c_55 (by omega) (by omega)
        refine lv_iconst (v := 0) hx hb dX8_isUnit_10 (by decide) ?_
        refine lv_istore_n (lv' := [(3, .int 0), (2, .int (nI j54)), (0, .ref (ad 1)), (1, .ref (ad q))]) hx hb dX8_isUnit_11 rfl hl (by decide) rfl (fun ls hl => ?_)
        have loop_56 : ∀ (fu j56 : Nat)   (ls : Array Slot) (H : Heap) (locs : List Loc), 0 ≤ j56 → j56 ≤ d → d < j56 + fu →  lv_has ls 4 [(3, .int (nI j56)), (2, .int (nI j54)), (0, .ref (ad 1)), (1, .ref (ad q))] → Hp D (Nf sz) (fun _ => True) s.heap H locs cs ad en → W p l e (headSpec (Cond.code yX8_isUnit cX8_isUnit 4 (some .boolean) :: TB) (rmN 0)).room s m ([.ref (ad 1), .ref (ad q)] : List Value).toArray below meth c H locs 0 0 (MQ below (va_Qi (S := Unit) (fun r _ => r = 0 ∨ r = 1) (fun _ _ => True) (Nf sz)) ([.ref (ad 1), .ref (ad q)] : List Value).toArray s 0 0 (Nf sz)) (F0 m 12 ls []) := by
          intro fu
          induction fu with
          | zero => intro j56  ls H locs h0 h1 h2; exact absurd h2 (by omega)
          | succ fu ih_56 =>
            intro j56  ls H locs hj0_56 hj_56 hfu_56  hl hh
            refine lv_iload_n hx hb dX8_isUnit_12 rfl (lv_at hl 0 rfl) ?_
            refine lv_aload_n hx hb dX8_isUnit_13 rfl (lv_at hl 2 rfl) ?_
            refine hp_get hx hb hts ix8 hown hK hh (q := 1) rfl hm1 e1 rfl 5 (by decide) (hts _ tw_44) (fun _ h9 => h9) rfl dX8_isUnit_14 ?_
            refine lv_icmp_ge (tgt := 53) hx hb dX8_isUnit_17 (by decide) (fun c_57 => ?_) (fun c_57 => ?_)
            · have n_57 : d ≤ j56 := n_le (a := d) (b := j56) c_57 (by omega) (by omega)
              refine lv_iinc (v := (nI (j54 + 1))) (lv' := [(2, .int (nI (j54 + 1))), (3, .int (nI j56)), (0, .ref (ad 1)), (1, .ref (ad q))]) hx hb dX8_isUnit_53 hl (k := 1) rfl (nI_1 _) (by decide) rfl (fun ls hl => ?_)
              refine lv_goto (tgt := 2) hx hb dX8_isUnit_56 (by decide) ?_
              exact ih_54 ((j54 + 1))  ls H locs (by omega) (by omega) (by omega)  (lv_sub hl [0, 2, 3] rfl) hh
            · have n_57 : j56 < d := n_nle (a := d) (b := j56) c_57 (by omega) (by omega)
              refine lv_aload_n hx hb dX8_isUnit_20 rfl (lv_at hl 3 rfl) ?_
              refine lv_iload_n hx hb dX8_isUnit_21 rfl (lv_at hl 1 rfl) ?_
              refine lv_aload_n hx hb dX8_isUnit_22 rfl (lv_at hl 2 rfl) ?_
              refine hp_get hx hb hts ix8 hown hK hh (q := 1) rfl hm1 e1 rfl 5 (by decide) (hts _ tw_44) (fun _ h9 => h9) rfl dX8_isUnit_23 ?_
              refine lv_imul hx hb dX8_isUnit_26 ?_
              rw [pk_mul j54 d]
              refine lv_iload_n hx hb dX8_isUnit_27 rfl (lv_at hl 0 rfl) ?_
              refine lv_iadd hx hb dX8_isUnit_28 ?_
              rw [nI_add (j54 * d) j56]
              have hi_58 : ((j54 * d) + j56) < 9 := md3 (by omega) (by omega) hd3
              refine hp_lald hx hb hK hh (q := q) rfl hq eq (vp_in_nI (n := ((j54 * d) + j56)) (by omega) (by decide)) dX8_isUnit_29 ?_
              rw [nI_clamp (n := ((j54 * d) + j56)) (by omega)]
              refine lv_iload_n hx hb dX8_isUnit_30 rfl (lv_at hl 1 rfl) ?_
              refine lv_iload_n hx hb dX8_isUnit_31 rfl (lv_at hl 0 rfl) ?_
              refine lv_icmp_ne (tgt := 39) hx hb dX8_isUnit_32 (by decide) (fun c_59 => ?_) (fun c_59 => ?_)
              · have n_59 : j54 ≠ j56 := n_neq (a := j54) (b := j56) c_59 (by omega) (by omega)
                refine lv_iconst (v := 0) hx hb dX8_isUnit_39 (by decide) ?_
                refine lv_i2l (v := 0) hx hb dX8_isUnit_40 (by decide) ?_
                refine W.lcmp hx hb dX8_isUnit_41 ?_
                refine lv_if_eq (tgt := 47) hx hb dX8_isUnit_42 (by decide) (fun c_60 => ?_) (fun c_60 => ?_)
                · refine lv_iinc (v := (nI (j56 + 1))) (lv' := [(3, .int (nI (j56 + 1))), (2, .int (nI j54)), (0, .ref (ad 1)), (1, .ref (ad q))]) hx hb dX8_isUnit_47 hl (k := 0) rfl (nI_1 _) (by decide) rfl (fun ls hl => ?_)
                  refine lv_goto (tgt := 12) hx hb dX8_isUnit_50 (by decide) ?_
                  exact ih_56 ((j56 + 1))  ls H locs (by omega) (by omega) (by omega)  (lv_sub hl [0, 1, 2, 3] rfl) hh
                · refine lv_iconst (v := 0) hx hb dX8_isUnit_45 (by decide) ?_
                  exact hp_iretR hx hb hr rfl hlocks hsz hh (Or.inl rfl) dX8_isUnit_46
              · have n_59 : j54 = j56 := n_eq (a := j54) (b := j56) c_59 (by omega) (by omega)
                refine lv_iconst (v := 1) hx hb dX8_isUnit_35 (by decide) ?_
                refine lv_goto (tgt := 40) hx hb dX8_isUnit_36 (by decide) ?_
                refine lv_i2l (v := 1) hx hb dX8_isUnit_40 (by decide) ?_
                refine W.lcmp hx hb dX8_isUnit_41 ?_
                refine lv_if_eq (tgt := 47) hx hb dX8_isUnit_42 (by decide) (fun c_61 => ?_) (fun c_61 => ?_)
                · refine lv_iinc (v := (nI (j56 + 1))) (lv' := [(3, .int (nI (j56 + 1))), (2, .int (nI j54)), (0, .ref (ad 1)), (1, .ref (ad q))]) hx hb dX8_isUnit_47 hl (k := 0) rfl (nI_1 _) (by decide) rfl (fun ls hl => ?_)
                  refine lv_goto (tgt := 12) hx hb dX8_isUnit_50 (by decide) ?_
                  exact ih_56 ((j56 + 1))  ls H locs (by omega) (by omega) (by omega)  (lv_sub hl [0, 1, 2, 3] rfl) hh
                · refine lv_iconst (v := 0) hx hb dX8_isUnit_45 (by decide) ?_
                  exact hp_iretR hx hb hr rfl hlocks hsz hh (Or.inl rfl) dX8_isUnit_46
        exact loop_56 (d + 1) 0  ls _ _ (Nat.le_refl _) (by omega) (by omega)  (lv_sub hl [0, 1, 2, 3] rfl) hh
  exact loop_54 (d + 1) 0  ls _ _ (Nat.le_refl _) (by omega) (by omega)  (lv_sub hl [0, 1, 2] rfl) hh
theorem kw_X8_isUnit {R : Room} {s : State} {args : Array Value} {own : String} {idx : Nat} (hts : ∀ w ∈ TB, w.before args s = true) (hl : Cond.methodLink own idx yX8_isUnit ∈ TB) (hR : 0 + 1 ≤ R.frames ∧ 8 + (4 + 11) + 40 * 0 ≤ R.locals) : CallW R s args own RX8 idx yX8_isUnit cX8_isUnit 4 (some .boolean) (Cond.code yX8_isUnit cX8_isUnit 4 (some .boolean) :: TB) (rmN 0) 0 0 1 := cwV 1 hts (TB_V hl tw_636 tw_637 tw_2 tw_638) rfl rfl rfl (by decide +kernel) hR
set_option maxHeartbeats 4000000 in
set_option maxRecDepth 100000 in
/-- isAllowed -/
theorem c_X8_isAllowed (l : Launch) (D : va_G) (cy : Nat → ClassId) (sz : Nat) (cs : List Nat) (ad : Nat → Nat) (en : Nat → va_E) (hm1 : 1 ∈ cs) (cnt d mm : Nat) (hcnt : cnt ≤ 6) (hd2 : 2 ≤ d) (hd3 : d ≤ 3) (hmm : mm ≤ 97) (hm10 : 10 ∈ cs) (f10 : Nat → Int32) (hb10 : ∀ i, i < 36 → (f10 i = 0 ∨ f10 i = 1)) (q NL n : Nat) (hq : q ∈ cs) (hNL : NL < 2 ^ 31) (f0 : Nat → Int32) (hvl : ∀ i, i < NL → ∃ v, v < 6 ∧ f0 i = nI v) (h1 : 1 ≤ n) (h2 : n ≤ NL) (e1 : en 1 = .inr (7, [.ref (ad 2), .ref (ad 3), .ref (ad 10), .ref (ad 11), .int (nI cnt), .int (nI d), .int (nI mm)])) (e10 : en 10 = .inl (cy 2, 36, .inl f10)) (eq : en q = .inl (cy 0, NL, .inl f0))  : Met l yX8_isAllowed (Cond.code yX8_isAllowed cX8_isAllowed 4 (some .boolean) :: TB) (rmN 1) (va_Pc [.ref (ad 1), .ref (ad q), .int (nI n)] (Pre D cy cs ad en sz)) (va_Qi (S := Unit) (fun r _ => r = 0 ∨ r = 1) (fun _ _ => True) (Nf sz)) 0 0 (Nf sz) := by
  refine Met.ofW (cc := cX8_isAllowed) (maxL := 4) (ret := (some .boolean)) (by decide) rfl ?_
  intro p e s m args below meth c s₁ B hml hv
  obtain ⟨rfl, hsz, hP, hK, hD0⟩ := hv
  have hx := B.exec
  have hb := B.bytes
  have hr := B.returns
  have hts : ∀ w ∈ TB, w.before _ s = true := fun w h => atoms_spec (ws := _ :: TB) B.pre w (List.mem_cons_of_mem _ h)
  have hown : s.vm.findClass RX8 = some m.cls := findClass_of_methodNamed B.named
  have hlocks := B.notSynchronized
  have hh : Hp D (Nf sz) (fun _ => True) s.heap s.heap [] cs ad en := ⟨hP, hD0, va_S.rf⟩
  have hA : ∀ q : Nat, s.heap.size ≤ q → Nf sz q := fun q h => by rw [hsz] at h; exact h
  have hl := lv_entry ([.ref (ad 1), .ref (ad q), .int (nI n)]) (n := 4) (Nat.le_of_ble_eq_true rfl)
  rw [lg_entry_eq]
  generalize (lg_sl ([.ref (ad 1), .ref (ad q), .int (nI n)]) ++ List.replicate (4 - (lg_sl ([.ref (ad 1), .ref (ad q), .int (nI n)])).length) Slot.unset).toArray = ls at hl ⊢
  have hl : lv_has ls 4 [(0, .ref (ad 1)), (1, .ref (ad q)), (2, .int (nI n))] := hl
  refine lv_iconst (v := 1) hx hb dX8_isAllowed_0 (by decide) ?_
  refine lv_istore_n (lv' := [(3, .int 1), (0, .ref (ad 1)), (1, .ref (ad q)), (2, .int (nI n))]) hx hb dX8_isAllowed_1 rfl hl (by decide) rfl (fun ls hl => ?_)
  have loop_62 : ∀ (fu j62 : Nat)   (ls : Array Slot) (H : Heap) (locs : List Loc), 1 ≤ j62 → j62 ≤ n → n < j62 + fu →  lv_has ls 4 [(3, .int (nI j62)), (0, .ref (ad 1)), (1, .ref (ad q)), (2, .int (nI n))] → Hp D (Nf sz) (fun _ => True) s.heap H locs cs ad en → W p l e (headSpec (Cond.code yX8_isAllowed cX8_isAllowed 4 (some .boolean) :: TB) (rmN 1)).room s m ([.ref (ad 1), .ref (ad q), .int (nI n)] : List Value).toArray below meth c H locs 0 0 (MQ below (va_Qi (S := Unit) (fun r _ => r = 0 ∨ r = 1) (fun _ _ => True) (Nf sz)) ([.ref (ad 1), .ref (ad q), .int (nI n)] : List Value).toArray s 0 0 (Nf sz)) (F0 m 2 ls []) := by
    intro fu
    induction fu with
    | zero => intro j62  ls H locs h0 h1 h2; exact absurd h2 (by omega)
    | succ fu ih_62 =>
      intro j62  ls H locs hj0_62 hj_62 hfu_62  hl hh
      refine lv_iload_n hx hb dX8_isAllowed_2 rfl (lv_at hl 0 rfl) ?_
      refine lv_iload_n hx hb dX8_isAllowed_3 rfl (lv_at hl 3 rfl) ?_
      refine lv_icmp_ge (tgt := 30) hx hb dX8_isAllowed_4 (by decide) (fun c_63 => ?_) (fun c_63 => ?_)
      · have n_63 : n ≤ j62 := n_le (a := n) (b := j62) c_63 (by omega) (by omega)
        refine lv_iconst (v := 1) hx hb dX8_isAllowed_30 (by decide) ?_
        exact hp_iretR hx hb hr rfl hlocks hsz hh (Or.inr rfl) dX8_isAllowed_31
      · have n_63 : j62 < n := n_nle (a := n) (b := j62) c_63 (by omega) (by omega)
        refine lv_aload_n hx hb dX8_isAllowed_7 rfl (lv_at hl 1 rfl) ?_
        refine lv_aload_n hx hb dX8_isAllowed_8 rfl (lv_at hl 2 rfl) ?_
        refine lv_iload_n hx hb dX8_isAllowed_9 rfl (lv_at hl 0 rfl) ?_
        refine lv_iconst (v := 1) hx hb dX8_isAllowed_10 (by decide) ?_
        refine lv_isub hx hb dX8_isAllowed_11 ?_
        rw [show (1 : Int32) = nI 1 from rfl, pk_sub (a := j62) (b := 1) (by omega)]
        refine hp_iald hx hb hK hh (q := q) rfl hq eq (vp_in_nI (n := (j62 - 1)) (by omega) (by omega)) dX8_isAllowed_12 ?_
        rw [nI_clamp (n := (j62 - 1)) (by omega)]
        obtain ⟨v_64, hv_64, hfv_64⟩ := hvl (j62 - 1) (by omega)
        rw [hfv_64]
        refine lv_aload_n hx hb dX8_isAllowed_13 rfl (lv_at hl 2 rfl) ?_
        refine lv_iload_n hx hb dX8_isAllowed_14 rfl (lv_at hl 0 rfl) ?_
        refine hp_iald hx hb hK hh (q := q) rfl hq eq (vp_in_nI (n := j62) (by omega) (by omega)) dX8_isAllowed_15 ?_
        rw [nI_clamp (n := j62) (by omega)]
        obtain ⟨v_65, hv_65, hfv_65⟩ := hvl j62 (by omega)
        rw [hfv_65]
        refine hp_callRi (va_runV (As := [.int (nI v_64), .int (nI v_65)]) (rest := []) ⟨hx, hb, hml, hown, hts⟩ (c_X8_mayFollow l D cy _ cs ad en hm1 cnt d mm hcnt hd2 hd3 hmm hm10 f10 hb10 v_64 v_65 (by omega) (by omega) e1 e10) (kw_X8_mayFollow hts tw_503 ⟨by decide, by decide⟩) (preV_of hh hK hm1 e1 rfl) rfl rfl hl.1 rfl (lv_room (Nat.le_of_ble_eq_true rfl)) dX8_isAllowed_16 ⟨Nat.le_of_ble_eq_true rfl, Nat.le_of_ble_eq_true rfl⟩) hh hA (fun r_66 H locs hw_66 hh => ?_)
        rcases hb10 (v_64 * 6 + v_65) (a6 (by omega) (by omega)) with hz_66 | hz_66
        · obtain rfl : r_66 = 0 := Eq.trans hw_66 hz_66
          refine lv_if_ne (tgt := 24) hx hb dX8_isAllowed_19 (by decide) (fun c_0 => absurd c_0 (by decide)) (fun _ => ?_)
          refine lv_iconst (v := 0) hx hb dX8_isAllowed_22 (by decide) ?_
          exact hp_iretR hx hb hr rfl hlocks hsz hh (Or.inl rfl) dX8_isAllowed_23
        · obtain rfl : r_66 = 1 := Eq.trans hw_66 hz_66
          refine lv_if_ne (tgt := 24) hx hb dX8_isAllowed_19 (by decide) (fun _ => ?_) (fun c_0 => absurd c_0 (by decide))
          refine lv_iinc (v := (nI (j62 + 1))) (lv' := [(3, .int (nI (j62 + 1))), (0, .ref (ad 1)), (1, .ref (ad q)), (2, .int (nI n))]) hx hb dX8_isAllowed_24 hl (k := 0) rfl (nI_1 _) (by decide) rfl (fun ls hl => ?_)
          refine lv_goto (tgt := 2) hx hb dX8_isAllowed_27 (by decide) ?_
          exact ih_62 ((j62 + 1))  ls H locs (by omega) (by omega) (by omega)  (lv_sub hl [0, 1, 2, 3] rfl) hh
  exact loop_62 (n + 1) 1  ls _ _ (Nat.le_refl _) (by omega) (by omega)  (lv_sub hl [0, 1, 2, 3] rfl) hh
theorem kw_X8_isAllowed {R : Room} {s : State} {args : Array Value} {own : String} {idx : Nat} (hts : ∀ w ∈ TB, w.before args s = true) (hl : Cond.methodLink own idx yX8_isAllowed ∈ TB) (hR : 1 + 1 ≤ R.frames ∧ 8 + (4 + 11) + 40 * 1 ≤ R.locals) : CallW R s args own RX8 idx yX8_isAllowed cX8_isAllowed 4 (some .boolean) (Cond.code yX8_isAllowed cX8_isAllowed 4 (some .boolean) :: TB) (rmN 1) 0 0 2 := cwV 2 hts (TB_V hl tw_721 tw_722 tw_2 tw_723) rfl rfl rfl (by decide +kernel) hR
set_option maxHeartbeats 4000000 in
set_option maxRecDepth 100000 in
/-- isTurnable -/
theorem c_X8_isTurnable (l : Launch) (D : va_G) (cy : Nat → ClassId) (sz : Nat) (cs : List Nat) (ad : Nat → Nat) (en : Nat → va_E) (hm1 : 1 ∈ cs) (cnt d mm : Nat) (hcnt : cnt ≤ 6) (hd2 : 2 ≤ d) (hd3 : d ≤ 3) (hmm : mm ≤ 97) (hm10 : 10 ∈ cs) (f10 : Nat → Int32) (hb10 : ∀ i, i < 36 → (f10 i = 0 ∨ f10 i = 1)) (q NL n : Nat) (hq : q ∈ cs) (hNL : NL < 2 ^ 31) (f0 : Nat → Int32) (hvl : ∀ i, i < NL → ∃ v, v < 6 ∧ f0 i = nI v) (h1 : 1 ≤ n) (h2 : n ≤ NL) (e1 : en 1 = .inr (7, [.ref (ad 2), .ref (ad 3), .ref (ad 10), .ref (ad 11), .int (nI cnt), .int (nI d), .int (nI mm)])) (e10 : en 10 = .inl (cy 2, 36, .inl f10)) (eq : en q = .inl (cy 0, NL, .inl f0))  : Met l yX8_isTurnable (Cond.code yX8_isTurnable cX8_isTurnable 3 (some .boolean) :: TB) (rmN 1) (va_Pc [.ref (ad 1), .ref (ad q), .int (nI n)] (Pre D cy cs ad en sz)) (va_Qi (S := Unit) (fun r _ => r = 0 ∨ r = 1) (fun _ _ => True) (Nf sz)) 0 0 (Nf sz) := by
  refine Met.ofW (cc := cX8_isTurnable) (maxL := 3) (ret := (some .boolean)) (by decide) rfl ?_
  intro p e s m args below meth c s₁ B hml hv
  obtain ⟨rfl, hsz, hP, hK, hD0⟩ := hv
  have hx := B.exec
  have hb := B.bytes
  have hr := B.returns
  have hts : ∀ w ∈ TB, w.before _ s = true := fun w h => atoms_spec (ws := _ :: TB) B.pre w (List.mem_cons_of_mem _ h)
  have hown : s.vm.findClass RX8 = some m.cls := findClass_of_methodNamed B.named
  have hlocks := B.notSynchronized
  have hh : Hp D (Nf sz) (fun _ => True) s.heap s.heap [] cs ad en := ⟨hP, hD0, va_S.rf⟩
  have hA : ∀ q : Nat, s.heap.size ≤ q → Nf sz q := fun q h => by rw [hsz] at h; exact h
  have hl := lv_entry ([.ref (ad 1), .ref (ad q), .int (nI n)]) (n := 3) (Nat.le_of_ble_eq_true rfl)
  rw [lg_entry_eq]
  generalize (lg_sl ([.ref (ad 1), .ref (ad q), .int (nI n)]) ++ List.replicate (3 - (lg_sl ([.ref (ad 1), .ref (ad q), .int (nI n)])).length) Slot.unset).toArray = ls at hl ⊢
  have hl : lv_has ls 3 [(0, .ref (ad 1)), (1, .ref (ad q)), (2, .int (nI n))] := hl
  refine lv_aload_n hx hb dX8_isTurnable_0 rfl (lv_at hl 0 rfl) ?_
  refine lv_aload_n hx hb dX8_isTurnable_1 rfl (lv_at hl 1 rfl) ?_
  refine lv_iload_n hx hb dX8_isTurnable_2 rfl (lv_at hl 2 rfl) ?_
  refine lv_iconst (v := 1) hx hb dX8_isTurnable_3 (by decide) ?_
  refine lv_isub hx hb dX8_isTurnable_4 ?_
  rw [show (1 : Int32) = nI 1 from rfl, pk_sub (a := n) (b := 1) (by omega)]
  refine hp_iald hx hb hK hh (q := q) rfl hq eq (vp_in_nI (n := (n - 1)) (by omega) (by omega)) dX8_isTurnable_5 ?_
  rw [nI_clamp (n := (n - 1)) (by omega)]
  obtain ⟨v_67, hv_67, hfv_67⟩ := hvl (n - 1) (by omega)
  rw [hfv_67]
  refine lv_aload_n hx hb dX8_isTurnable_6 rfl (lv_at hl 1 rfl) ?_
  refine lv_iconst (v := 0) hx hb dX8_isTurnable_7 (by decide) ?_
  rw [show (0 : Int32) = nI 0 from rfl]
  refine hp_iald hx hb hK hh (q := q) rfl hq eq (vp_in_nI (n := 0) (by omega) (by omega)) dX8_isTurnable_8 ?_
  rw [nI_clamp (n := 0) (by decide)]
  obtain ⟨v_68, hv_68, hfv_68⟩ := hvl 0 (by omega)
  rw [hfv_68]
  refine hp_callRi (va_runV (As := [.int (nI v_67), .int (nI v_68)]) (rest := []) ⟨hx, hb, hml, hown, hts⟩ (c_X8_mayFollow l D cy _ cs ad en hm1 cnt d mm hcnt hd2 hd3 hmm hm10 f10 hb10 v_67 v_68 (by omega) (by omega) e1 e10) (kw_X8_mayFollow hts tw_503 ⟨by decide, by decide⟩) (preV_of hh hK hm1 e1 rfl) rfl rfl hl.1 rfl (lv_room (Nat.le_of_ble_eq_true rfl)) dX8_isTurnable_9 ⟨Nat.le_of_ble_eq_true rfl, Nat.le_of_ble_eq_true rfl⟩) hh hA (fun r_69 H locs hw_69 hh => ?_)
  rcases hb10 (v_67 * 6 + v_68) (a6 (by omega) (by omega)) with hz_69 | hz_69
  · obtain rfl : r_69 = 0 := Eq.trans hw_69 hz_69
    exact hp_iretR hx hb hr rfl hlocks hsz hh (Or.inl rfl) dX8_isTurnable_12
  · obtain rfl : r_69 = 1 := Eq.trans hw_69 hz_69
    exact hp_iretR hx hb hr rfl hlocks hsz hh (Or.inr rfl) dX8_isTurnable_12
theorem kw_X8_isTurnable {R : Room} {s : State} {args : Array Value} {own : String} {idx : Nat} (hts : ∀ w ∈ TB, w.before args s = true) (hl : Cond.methodLink own idx yX8_isTurnable ∈ TB) (hR : 1 + 1 ≤ R.frames ∧ 8 + (3 + 11) + 40 * 1 ≤ R.locals) : CallW R s args own RX8 idx yX8_isTurnable cX8_isTurnable 3 (some .boolean) (Cond.code yX8_isTurnable cX8_isTurnable 3 (some .boolean) :: TB) (rmN 1) 0 0 2 := cwV 2 hts (TB_V hl tw_500 tw_501 tw_2 tw_502) rfl rfl rfl (by decide +kernel) hR
set_option maxHeartbeats 4000000 in
set_option maxRecDepth 100000 in
/-- has -/
theorem c_X8_has (l : Launch) (D : va_G) (cy : Nat → ClassId) (sz : Nat) (cs : List Nat) (ad : Nat → Nat) (en : Nat → va_E) (hm1 : 1 ∈ cs) (cnt d mm : Nat) (hcnt : cnt ≤ 6) (hd2 : 2 ≤ d) (hd3 : d ≤ 3) (hmm : mm ≤ 97) (t : Int32) (e1 : en 1 = .inr (7, [.ref (ad 2), .ref (ad 3), .ref (ad 10), .ref (ad 11), .int (nI cnt), .int (nI d), .int (nI mm)]))  : Met l yX8_has (Cond.code yX8_has cX8_has 2 (some .boolean) :: TB) (rmN 0) (va_Pc [.ref (ad 1), .int t] (Pre D cy cs ad en sz)) (va_Qi (S := Unit) (fun r _ => r = if (0 ≤ t.toInt ∧ t.toInt < (cnt : Int)) then 1 else 0) (fun _ _ => True) (Nf sz)) 0 0 (Nf sz) := by
  refine Met.ofW (cc := cX8_has) (maxL := 2) (ret := (some .boolean)) (by decide) rfl ?_
  intro p e s m args below meth c s₁ B hml hv
  obtain ⟨rfl, hsz, hP, hK, hD0⟩ := hv
  have hx := B.exec
  have hb := B.bytes
  have hr := B.returns
  have hts : ∀ w ∈ TB, w.before _ s = true := fun w h => atoms_spec (ws := _ :: TB) B.pre w (List.mem_cons_of_mem _ h)
  have hown : s.vm.findClass RX8 = some m.cls := findClass_of_methodNamed B.named
  have hlocks := B.notSynchronized
  have hh : Hp D (Nf sz) (fun _ => True) s.heap s.heap [] cs ad en := ⟨hP, hD0, va_S.rf⟩
  have hA : ∀ q : Nat, s.heap.size ≤ q → Nf sz q := fun q h => by rw [hsz] at h; exact h
  have hl := lv_entry ([.ref (ad 1), .int t]) (n := 2) (Nat.le_of_ble_eq_true rfl)
  rw [lg_entry_eq]
  generalize (lg_sl ([.ref (ad 1), .int t]) ++ List.replicate (2 - (lg_sl ([.ref (ad 1), .int t])).length) Slot.unset).toArray = ls at hl ⊢
  have hl : lv_has ls 2 [(0, .ref (ad 1)), (1, .int t)] := hl
  refine lv_iload_n hx hb dX8_has_0 rfl (lv_at hl 1 rfl) ?_
  refine lv_if_lt (tgt := 16) hx hb dX8_has_1 (by decide) (fun c_70 => ?_) (fun c_70 => ?_)
  · refine lv_iconst (v := 0) hx hb dX8_has_16 (by decide) ?_
    have : (0 : Int32).toInt = 0 := by decide
    have := i_lt c_70
    have hcT : (nI cnt).toInt = (cnt : Int) := nI_toInt (by omega)
    have hdT : (nI d).toInt = (d : Int) := nI_toInt (by omega)
    exact hp_iretR hx hb hr rfl hlocks hsz hh ((if_neg (by omega)).symm) dX8_has_17
  · refine lv_iload_n hx hb dX8_has_4 rfl (lv_at hl 1 rfl) ?_
    refine lv_aload_n hx hb dX8_has_5 rfl (lv_at hl 0 rfl) ?_
    refine hp_get hx hb hts ix8 hown hK hh (q := 1) rfl hm1 e1 rfl 4 (by decide) (hts _ tw_43) (fun _ h9 => h9) rfl dX8_has_6 ?_
    refine lv_icmp_ge (tgt := 16) hx hb dX8_has_9 (by decide) (fun c_71 => ?_) (fun c_71 => ?_)
    · refine lv_iconst (v := 0) hx hb dX8_has_16 (by decide) ?_
      have : (0 : Int32).toInt = 0 := by decide
      have := i_nlt c_70
      have := i_le c_71
      have hcT : (nI cnt).toInt = (cnt : Int) := nI_toInt (by omega)
      have hdT : (nI d).toInt = (d : Int) := nI_toInt (by omega)
      exact hp_iretR hx hb hr rfl hlocks hsz hh ((if_neg (by omega)).symm) dX8_has_17
    · refine lv_iconst (v := 1) hx hb dX8_has_12 (by decide) ?_
      refine lv_goto (tgt := 17) hx hb dX8_has_13 (by decide) ?_
      have : (0 : Int32).toInt = 0 := by decide
      have := i_nlt c_70
      have := i_nle c_71
      have hcT : (nI cnt).toInt = (cnt : Int) := nI_toInt (by omega)
      have hdT : (nI d).toInt = (d : Int) := nI_toInt (by omega)
      exact hp_iretR hx hb hr rfl hlocks hsz hh ((if_pos (by omega)).symm) dX8_has_17
theorem kw_X8_has {R : Room} {s : State} {args : Array Value} {own : String} {idx : Nat} (hts : ∀ w ∈ TB, w.before args s = true) (hl : Cond.methodLink own idx yX8_has ∈ TB) (hR : 0 + 1 ≤ R.frames ∧ 8 + (2 + 11) + 40 * 0 ≤ R.locals) : CallW R s args own RX8 idx yX8_has cX8_has 2 (some .boolean) (Cond.code yX8_has cX8_has 2 (some .boolean) :: TB) (rmN 0) 0 0 1 := cwV 1 hts (TB_V hl tw_413 tw_414 tw_2 tw_415) rfl rfl rfl (by decide +kernel) hR
set_option maxHeartbeats 4000000 in
set_option maxRecDepth 100000 in
/-- isPlace -/
theorem c_X8_isPlace (l : Launch) (D : va_G) (cy : Nat → ClassId) (sz : Nat) (cs : List Nat) (ad : Nat → Nat) (en : Nat → va_E) (hm1 : 1 ∈ cs) (cnt d mm : Nat) (hcnt : cnt ≤ 6) (hd2 : 2 ≤ d) (hd3 : d ≤ 3) (hmm : mm ≤ 97) (a b : Int32) (e1 : en 1 = .inr (7, [.ref (ad 2), .ref (ad 3), .ref (ad 10), .ref (ad 11), .int (nI cnt), .int (nI d), .int (nI mm)]))  : Met l yX8_isPlace (Cond.code yX8_isPlace cX8_isPlace 3 (some .boolean) :: TB) (rmN 0) (va_Pc [.ref (ad 1), .int a, .int b] (Pre D cy cs ad en sz)) (va_Qi (S := Unit) (fun r _ => r = if ((0 ≤ a.toInt ∧ a.toInt < (d : Int)) ∧ 0 ≤ b.toInt ∧ b.toInt < (d : Int)) then 1 else 0) (fun _ _ => True) (Nf sz)) 0 0 (Nf sz) := by
  refine Met.ofW (cc := cX8_isPlace) (maxL := 3) (ret := (some .boolean)) (by decide) rfl ?_
  intro p e s m args below meth c s₁ B hml hv
  obtain ⟨rfl, hsz, hP, hK, hD0⟩ := hv
  have hx := B.exec
  have hb := B.bytes
  have hr := B.returns
  have hts : ∀ w ∈ TB, w.before _ s = true := fun w h => atoms_spec (ws := _ :: TB) B.pre w (List.mem_cons_of_mem _ h)
  have hown : s.vm.findClass RX8 = some m.cls := findClass_of_methodNamed B.named
  have hlocks := B.notSynchronized
  have hh : Hp D (Nf sz) (fun _ => True) s.heap s.heap [] cs ad en := ⟨hP, hD0, va_S.rf⟩
  have hA : ∀ q : Nat, s.heap.size ≤ q → Nf sz q := fun q h => by rw [hsz] at h; exact h
  have hl := lv_entry ([.ref (ad 1), .int a, .int b]) (n := 3) (Nat.le_of_ble_eq_true rfl)
  rw [lg_entry_eq]
  generalize (lg_sl ([.ref (ad 1), .int a, .int b]) ++ List.replicate (3 - (lg_sl ([.ref (ad 1), .int a, .int b])).length) Slot.unset).toArray = ls at hl ⊢
  have hl : lv_has ls 3 [(0, .ref (ad 1)), (1, .int a), (2, .int b)] := hl
  refine lv_iload_n hx hb dX8_isPlace_0 rfl (lv_at hl 1 rfl) ?_
  refine lv_if_lt (tgt := 28) hx hb dX8_isPlace_1 (by decide) (fun c_72 => ?_) (fun c_72 => ?_)
  · refine lv_iconst (v := 0) hx hb dX8_isPlace_28 (by decide) ?_
    have : (0 : Int32).toInt = 0 := by decide
    have := i_lt c_72
    have hcT : (nI cnt).toInt = (cnt : Int) := nI_toInt (by omega)
    have hdT : (nI d).toInt = (d : Int) := nI_toInt (by omega)
    exact hp_iretR hx hb hr rfl hlocks hsz hh ((if_neg (by omega)).symm) dX8_isPlace_29
  · refine lv_iload_n hx hb dX8_isPlace_4 rfl (lv_at hl 1 rfl) ?_
    refine lv_aload_n hx hb dX8_isPlace_5 rfl (lv_at hl 0 rfl) ?_
    refine hp_get hx hb hts ix8 hown hK hh (q := 1) rfl hm1 e1 rfl 5 (by decide) (hts _ tw_44) (fun _ h9 => h9) rfl dX8_isPlace_6 ?_
    refine lv_icmp_ge (tgt := 28) hx hb dX8_isPlace_9 (by decide) (fun c_73 => ?_) (fun c_73 => ?_)
    · refine lv_iconst (v := 0) hx hb dX8_isPlace_28 (by decide) ?_
      have : (0 : Int32).toInt = 0 := by decide
      have := i_nlt c_72
      have := i_le c_73
      have hcT : (nI cnt).toInt = (cnt : Int) := nI_toInt (by omega)
      have hdT : (nI d).toInt = (d : Int) := nI_toInt (by omega)
      exact hp_iretR hx hb hr rfl hlocks hsz hh ((if_neg (by omega)).symm) dX8_isPlace_29
    · refine lv_iload_n hx hb dX8_isPlace_12 rfl (lv_at hl 2 rfl) ?_
      refine lv_if_lt (tgt := 28) hx hb dX8_isPlace_13 (by decide) (fun c_74 => ?_) (fun c_74 => ?_)
      · refine lv_iconst (v := 0) hx hb dX8_isPlace_28 (by decide) ?_
        have : (0 : Int32).toInt = 0 := by decide
        have := i_nlt c_72
        have := i_nle c_73
        have := i_lt c_74
        have hcT : (nI cnt).toInt = (cnt : Int) := nI_toInt (by omega)
        have hdT : (nI d).toInt = (d : Int) := nI_toInt (by omega)
        exact hp_iretR hx hb hr rfl hlocks hsz hh ((if_neg (by omega)).symm) dX8_isPlace_29
      · refine lv_iload_n hx hb dX8_isPlace_16 rfl (lv_at hl 2 rfl) ?_
        refine lv_aload_n hx hb dX8_isPlace_17 rfl (lv_at hl 0 rfl) ?_
        refine hp_get hx hb hts ix8 hown hK hh (q := 1) rfl hm1 e1 rfl 5 (by decide) (hts _ tw_44) (fun _ h9 => h9) rfl dX8_isPlace_18 ?_
        refine lv_icmp_ge (tgt := 28) hx hb dX8_isPlace_21 (by decide) (fun c_75 => ?_) (fun c_75 => ?_)
        · refine lv_iconst (v := 0) hx hb dX8_isPlace_28 (by decide) ?_
          have : (0 : Int32).toInt = 0 := by decide
          have := i_nlt c_72
          have := i_nle c_73
          have := i_nlt c_74
          have := i_le c_75
          have hcT : (nI cnt).toInt = (cnt : Int) := nI_toInt (by omega)
          have hdT : (nI d).toInt = (d : Int) := nI_toInt (by omega)
          exact hp_iretR hx hb hr rfl hlocks hsz hh ((if_neg (by omega)).symm) dX8_isPlace_29
        · refine lv_iconst (v := 1) hx hb dX8_isPlace_24 (by decide) ?_
          refine lv_goto (tgt := 29) hx hb dX8_isPlace_25 (by decide) ?_
          have : (0 : Int32).toInt = 0 := by decide
          have := i_nlt c_72
          have := i_nle c_73
          have := i_nlt c_74
          have := i_nle c_75
          have hcT : (nI cnt).toInt = (cnt : Int) := nI_toInt (by omega)
          have hdT : (nI d).toInt = (d : Int) := nI_toInt (by omega)
          exact hp_iretR hx hb hr rfl hlocks hsz hh ((if_pos (by omega)).symm) dX8_isPlace_29
theorem kw_X8_isPlace {R : Room} {s : State} {args : Array Value} {own : String} {idx : Nat} (hts : ∀ w ∈ TB, w.before args s = true) (hl : Cond.methodLink own idx yX8_isPlace ∈ TB) (hR : 0 + 1 ≤ R.frames ∧ 8 + (3 + 11) + 40 * 0 ≤ R.locals) : CallW R s args own RX8 idx yX8_isPlace cX8_isPlace 3 (some .boolean) (Cond.code yX8_isPlace cX8_isPlace 3 (some .boolean) :: TB) (rmN 0) 0 0 2 := cwV 2 hts (TB_V hl tw_417 tw_418 tw_2 tw_419) rfl rfl rfl (by decide +kernel) hR
set_option maxHeartbeats 4000000 in
set_option maxRecDepth 100000 in
/-- tableOf -/
theorem c_X8_tableOf (l : Launch) (D : va_G) (cy : Nat → ClassId) (sz : Nat) (cs : List Nat) (ad : Nat → Nat) (en : Nat → va_E) (hm1 : 1 ∈ cs) (hm2 : 2 ∈ cs) (cnt d mm : Nat) (hcnt : cnt ≤ 6) (hd2 : 2 ≤ d) (hd3 : d ≤ 3) (hmm : mm ≤ 97) (fal : Nat → Option Nat) (a ta : Nat) (ha : a < 6) (hta : fal a = some ta) (e1 : en 1 = .inr (7, [.ref (ad 2), .ref (ad 3), .ref (ad 10), .ref (ad 11), .int (nI cnt), .int (nI d), .int (nI mm)])) (e2 : en 2 = .inl (cy 3, 6, .inr (.inr (.inr (.inr fal)))))  : Met l yX8_tableOf (Cond.code yX8_tableOf cX8_tableOf 2 (some (.object "AnyOrder$Table")) :: TB) (rmN 0) (va_Pc [.ref (ad 1), .int (nI a)] (Pre D cy cs ad en sz)) (va_Qq (S := Unit) (fun r _ => r = some ta) (fun _ _ => True) (Nf sz)) 0 0 (Nf sz) := by
  refine Met.ofW (cc := cX8_tableOf) (maxL := 2) (ret := (some (.object "AnyOrder$Table"))) (by decide) rfl ?_
  intro p e s m args below meth c s₁ B hml hv
  obtain ⟨rfl, hsz, hP, hK, hD0⟩ := hv
  have hx := B.exec
  have hb := B.bytes
  have hr := B.returns
  have hts : ∀ w ∈ TB, w.before _ s = true := fun w h => atoms_spec (ws := _ :: TB) B.pre w (List.mem_cons_of_mem _ h)
  have hown : s.vm.findClass RX8 = some m.cls := findClass_of_methodNamed B.named
  have hlocks := B.notSynchronized
  have hh : Hp D (Nf sz) (fun _ => True) s.heap s.heap [] cs ad en := ⟨hP, hD0, va_S.rf⟩
  have hA : ∀ q : Nat, s.heap.size ≤ q → Nf sz q := fun q h => by rw [hsz] at h; exact h
  have hl := lv_entry ([.ref (ad 1), .int (nI a)]) (n := 2) (Nat.le_of_ble_eq_true rfl)
  rw [lg_entry_eq]
  generalize (lg_sl ([.ref (ad 1), .int (nI a)]) ++ List.replicate (2 - (lg_sl ([.ref (ad 1), .int (nI a)])).length) Slot.unset).toArray = ls at hl ⊢
  have hl : lv_has ls 2 [(0, .ref (ad 1)), (1, .int (nI a))] := hl
  refine lv_aload_n hx hb dX8_tableOf_0 rfl (lv_at hl 0 rfl) ?_
  refine hp_get hx hb hts ix8 hown hK hh (q := 1) rfl hm1 e1 rfl 0 (by decide) (hts _ tw_39) (fun _ h9 => h9) rfl dX8_tableOf_1 ?_
  refine lv_iload_n hx hb dX8_tableOf_4 rfl (lv_at hl 1 rfl) ?_
  refine hp_aald hx hb hK hh (q := 2) rfl hm2 3 e2 rfl rfl (vp_in_nI (n := a) (by omega) (by decide)) (v := .ref ta) (by rw [nI_clamp (n := a) (by omega), hta]; rfl) dX8_tableOf_5 ?_
  exact hp_aretR (v := some ta) rfl hx hb hr (Or.inl ⟨_, rfl⟩) hlocks hsz hh (rfl) dX8_tableOf_6
theorem kw_X8_tableOf {R : Room} {s : State} {args : Array Value} {own : String} {idx : Nat} (hts : ∀ w ∈ TB, w.before args s = true) (hl : Cond.methodLink own idx yX8_tableOf ∈ TB) (hR : 0 + 1 ≤ R.frames ∧ 8 + (2 + 11) + 40 * 0 ≤ R.locals) : CallW R s args own RX8 idx yX8_tableOf cX8_tableOf 2 (some (.object "AnyOrder$Table")) (Cond.code yX8_tableOf cX8_tableOf 2 (some (.object "AnyOrder$Table")) :: TB) (rmN 0) 0 0 1 := cwV 1 hts (TB_V hl tw_422 tw_423 tw_2 tw_424) rfl rfl rfl (by decide +kernel) hR
set_option maxHeartbeats 4000000 in
set_option maxRecDepth 100000 in
/-- allow -/
theorem c_X8_allow (l : Launch) (D : va_G) (cy : Nat → ClassId) (sz : Nat) (cs : List Nat) (ad : Nat → Nat) (en : Nat → va_E) (hm1 : 1 ∈ cs) (cnt d mm : Nat) (hcnt : cnt ≤ 6) (hd2 : 2 ≤ d) (hd3 : d ≤ 3) (hmm : mm ≤ 97) (hm10 : 10 ∈ cs) (f10 : Nat → Int32) (hb10 : ∀ i, i < 36 → (f10 i = 0 ∨ f10 i = 1)) (a b : Nat) (z : Int32) (ha : a < 6) (hb6 : b < 6) (hz : z = 0 ∨ z = 1) (e1 : en 1 = .inr (7, [.ref (ad 2), .ref (ad 3), .ref (ad 10), .ref (ad 11), .int (nI cnt), .int (nI d), .int (nI mm)])) (e10 : en 10 = .inl (cy 2, 36, .inl f10))  : Met l yX8_allow (Cond.code yX8_allow cX8_allow 4 none :: TB) (rmN 0) (va_Pc [.ref (ad 1), .int (nI a), .int (nI b), .int z] (Pre D cy cs ad en sz)) (va_Qv (S := Nat → va_E) (fun en1 => en1 = va_up en 10 (.inl (cy 2, 36, .inl (upd f10 (a * 6 + b) z)))) (PostM D cs ad) (Af cs ad sz)) 0 0 (Af cs ad sz) := by
  refine Met.ofW (cc := cX8_allow) (maxL := 4) (ret := none) (by decide) rfl ?_
  intro p e s m args below meth c s₁ B hml hv
  obtain ⟨rfl, hsz, hP, hK, hD0⟩ := hv
  have hx := B.exec
  have hb := B.bytes
  have hr := B.returns
  have hts : ∀ w ∈ TB, w.before _ s = true := fun w h => atoms_spec (ws := _ :: TB) B.pre w (List.mem_cons_of_mem _ h)
  have hown : s.vm.findClass RX8 = some m.cls := findClass_of_methodNamed B.named
  have hlocks := B.notSynchronized
  have hh : Hp D (Af cs ad sz) (Af cs ad sz) s.heap s.heap [] cs ad en := ⟨hP, Af_self hD0, va_S.rf⟩
  have hA : ∀ q : Nat, s.heap.size ≤ q → Af cs ad sz q := fun q h => Or.inr (by rw [hsz] at h; exact h)
  have hl := lv_entry ([.ref (ad 1), .int (nI a), .int (nI b), .int z]) (n := 4) (Nat.le_of_ble_eq_true rfl)
  rw [lg_entry_eq]
  generalize (lg_sl ([.ref (ad 1), .int (nI a), .int (nI b), .int z]) ++ List.replicate (4 - (lg_sl ([.ref (ad 1), .int (nI a), .int (nI b), .int z])).length) Slot.unset).toArray = ls at hl ⊢
  have hl : lv_has ls 4 [(0, .ref (ad 1)), (1, .int (nI a)), (2, .int (nI b)), (3, .int z)] := hl
  refine lv_aload_n hx hb dX8_allow_0 rfl (lv_at hl 0 rfl) ?_
  refine hp_get hx hb hts ix8 hown hK hh (q := 1) rfl hm1 e1 rfl 2 (by decide) (hts _ tw_41) (fun _ h9 => h9) rfl dX8_allow_1 ?_
  refine lv_iload_n hx hb dX8_allow_4 rfl (lv_at hl 1 rfl) ?_
  refine lv_bipush (v := 6) hx hb dX8_allow_5 (by decide) ?_
  refine lv_imul hx hb dX8_allow_7 ?_
  rw [show (6 : Int32) = nI 6 from rfl, pk_mul a 6]
  refine lv_iload_n hx hb dX8_allow_8 rfl (lv_at hl 2 rfl) ?_
  refine lv_iadd hx hb dX8_allow_9 ?_
  rw [nI_add (a * 6) b]
  refine lv_iload_n hx hb dX8_allow_10 rfl (lv_at hl 3 rfl) ?_
  refine hp_zast hx hb hK hh (q := 10) rfl hm10 e10 (vp_in_nI (n := ((a * 6) + b)) (by omega) (by decide)) dX8_allow_11 (fun H locs en_76 hen_76 hh => ?_)
  rw [nI_clamp (n := ((a * 6) + b)) (by omega)] at hen_76
  have e1_76 : en_76 1 = .inr (7, [.ref (ad 2), .ref (ad 3), .ref (ad 10), .ref (ad 11), .int (nI cnt), .int (nI d), .int (nI mm)]) := by rw [hen_76, va_up_ne _ _ (by decide)]; exact e1
  have e10_76 : en_76 10 = .inl (cy 2, 36, .inl (upd f10 ((a * 6) + b) (vp_nar .boolean z))) := by rw [hen_76]; exact va_up_self _ _ _
  exact hp_vretM hx hb hr hlocks hh (by rw [hen_76, vpn_bit hz]) dX8_allow_12
theorem kw_X8_allow {R : Room} {s : State} {args : Array Value} {own : String} {idx : Nat} (hts : ∀ w ∈ TB, w.before args s = true) (hl : Cond.methodLink own idx yX8_allow ∈ TB) (hR : 0 + 1 ≤ R.frames ∧ 8 + (4 + 11) + 40 * 0 ≤ R.locals) : CallW R s args own RX8 idx yX8_allow cX8_allow 4 none (Cond.code yX8_allow cX8_allow 4 none :: TB) (rmN 0) 0 0 3 := cwV 3 hts (TB_V hl tw_438 tw_439 tw_2 tw_440) rfl rfl rfl (by decide +kernel) hR
set_option maxHeartbeats 4000000 in
set_option maxRecDepth 100000 in
/-- countAllowedPairs -/
theorem c_X8_countAllowedPairs (l : Launch) (D : va_G) (cy : Nat → ClassId) (sz : Nat) (cs : List Nat) (ad : Nat → Nat) (en : Nat → va_E) (hm1 : 1 ∈ cs) (cnt d mm : Nat) (hcnt : cnt ≤ 6) (hd2 : 2 ≤ d) (hd3 : d ≤ 3) (hmm : mm ≤ 97) (hm10 : 10 ∈ cs) (f10 : Nat → Int32) (hb10 : ∀ i, i < 36 → (f10 i = 0 ∨ f10 i = 1)) (e1 : en 1 = .inr (7, [.ref (ad 2), .ref (ad 3), .ref (ad 10), .ref (ad 11), .int (nI cnt), .int (nI d), .int (nI mm)])) (e10 : en 10 = .inl (cy 2, 36, .inl f10))  : Met l yX8_countAllowedPairs (Cond.code yX8_countAllowedPairs cX8_countAllowedPairs 4 (some .int) :: TB) (rmN 1) (va_Pc [.ref (ad 1)] (Pre D cy cs ad en sz)) (va_Qi (S := Unit) (fun r _ => r = cpO f10 cnt cnt) (fun _ _ => True) (Nf sz)) 0 0 (Nf sz) := by
  refine Met.ofW (cc := cX8_countAllowedPairs) (maxL := 4) (ret := (some .int)) (by decide) rfl ?_
  intro p e s m args below meth c s₁ B hml hv
  obtain ⟨rfl, hsz, hP, hK, hD0⟩ := hv
  have hx := B.exec
  have hb := B.bytes
  have hr := B.returns
  have hts : ∀ w ∈ TB, w.before _ s = true := fun w h => atoms_spec (ws := _ :: TB) B.pre w (List.mem_cons_of_mem _ h)
  have hown : s.vm.findClass RX8 = some m.cls := findClass_of_methodNamed B.named
  have hlocks := B.notSynchronized
  have hh : Hp D (Nf sz) (fun _ => True) s.heap s.heap [] cs ad en := ⟨hP, hD0, va_S.rf⟩
  have hA : ∀ q : Nat, s.heap.size ≤ q → Nf sz q := fun q h => by rw [hsz] at h; exact h
  have hl := lv_entry ([.ref (ad 1)]) (n := 4) (Nat.le_of_ble_eq_true rfl)
  rw [lg_entry_eq]
  generalize (lg_sl ([.ref (ad 1)]) ++ List.replicate (4 - (lg_sl ([.ref (ad 1)])).length) Slot.unset).toArray = ls at hl ⊢
  have hl : lv_has ls 4 [(0, .ref (ad 1))] := hl
  refine lv_iconst (v := 0) hx hb dX8_countAllowedPairs_0 (by decide) ?_
  refine lv_istore_n (lv' := [(1, .int 0), (0, .ref (ad 1))]) hx hb dX8_countAllowedPairs_1 rfl hl (by decide) rfl (fun ls hl => ?_)
  refine lv_iconst (v := 0) hx hb dX8_countAllowedPairs_2 (by decide) ?_
  refine lv_istore_n (lv' := [(2, .int 0), (1, .int 0), (0, .ref (ad 1))]) hx hb dX8_countAllowedPairs_3 rfl hl (by decide) rfl (fun ls hl => ?_)
  have loop_77 : ∀ (fu j77 : Nat) (ac77 : Int32)  (ls : Array Slot) (H : Heap) (locs : List Loc), 0 ≤ j77 → j77 ≤ cnt → cnt < j77 + fu → (ac77 = cpO f10 cnt j77) → lv_has ls 4 [(2, .int (nI j77)), (1, .int ac77), (0, .ref (ad 1))] → Hp D (Nf sz) (fun _ => True) s.heap H locs cs ad en → W p l e (headSpec (Cond.code yX8_countAllowedPairs cX8_countAllowedPairs 4 (some .int) :: TB) (rmN 1)).room s m ([.ref (ad 1)] : List Value).toArray below meth c H locs 0 0 (MQ below (va_Qi (S := Unit) (fun r _ => r = cpO f10 cnt cnt) (fun _ _ => True) (Nf sz)) ([.ref (ad 1)] : List Value).toArray s 0 0 (Nf sz)) (F0 m 4 ls []) := by
    intro fu
    induction fu with
    | zero => intro j77 ac77 ls H locs h0 h1 h2; exact absurd h2 (by omega)
    | succ fu ih_77 =>
      intro j77 ac77 ls H locs hj0_77 hj_77 hfu_77 i0_77 hl hh
      refine lv_iload_n hx hb dX8_countAllowedPairs_4 rfl (lv_at hl 0 rfl) ?_
      refine lv_aload_n hx hb dX8_countAllowedPairs_5 rfl (lv_at hl 2 rfl) ?_
      refine hp_get hx hb hts ix8 hown hK hh (q := 1) rfl hm1 e1 rfl 4 (by decide) (hts _ tw_43) (fun _ h9 => h9) rfl dX8_countAllowedPairs_6 ?_
      refine lv_icmp_ge (tgt := 46) hx hb dX8_countAllowedPairs_9 (by decide) (fun c_78 => ?_) (fun c_78 => ?_)
      · have n_78 : cnt ≤ j77 := n_le (a := cnt) (b := j77) c_78 (by omega) (by omega)
        refine lv_iload_n hx hb dX8_countAllowedPairs_46 rfl (lv_at hl 1 rfl) ?_
        exact hp_iretR hx hb hr rfl hlocks hsz hh (by have e : j77 = cnt := (by omega); rw [e] at i0_77; exact i0_77) dX8_countAllowedPairs_47
      · have n_78 : j77 < cnt := n_nle (a := cnt) (b := j77) c_78 (by omega) (by omega)
        refine lv_iconst (v := 0) hx hb dX8_countAllowedPairs_12 (by decide) ?_
        refine lv_istore_n (lv' := [(3, .int 0), (2, .int (nI j77)), (1, .int ac77), (0, .ref (ad 1))]) hx hb dX8_countAllowedPairs_13 rfl hl (by decide) rfl (fun ls hl => ?_)
        have loop_79 : ∀ (fu j79 : Nat) (ai79 : Int32)  (ls : Array Slot) (H : Heap) (locs : List Loc), 0 ≤ j79 → j79 ≤ cnt → cnt < j79 + fu → (ai79 = cpO f10 cnt j77 + cpI f10 j77 j79) → lv_has ls 4 [(3, .int (nI j79)), (2, .int (nI j77)), (1, .int ai79), (0, .ref (ad 1))] → Hp D (Nf sz) (fun _ => True) s.heap H locs cs ad en → W p l e (headSpec (Cond.code yX8_countAllowedPairs cX8_countAllowedPairs 4 (some .int) :: TB) (rmN 1)).room s m ([.ref (ad 1)] : List Value).toArray below meth c H locs 0 0 (MQ below (va_Qi (S := Unit) (fun r _ => r = cpO f10 cnt cnt) (fun _ _ => True) (Nf sz)) ([.ref (ad 1)] : List Value).toArray s 0 0 (Nf sz)) (F0 m 14 ls []) := by
          intro fu
          induction fu with
          | zero => intro j79 ai79 ls H locs h0 h1 h2; exact absurd h2 (by omega)
          | succ fu ih_79 =>
            intro j79 ai79 ls H locs hj0_79 hj_79 hfu_79 i0_79 hl hh
            refine lv_iload_n hx hb dX8_countAllowedPairs_14 rfl (lv_at hl 0 rfl) ?_
            refine lv_aload_n hx hb dX8_countAllowedPairs_15 rfl (lv_at hl 3 rfl) ?_
            refine hp_get hx hb hts ix8 hown hK hh (q := 1) rfl hm1 e1 rfl 4 (by decide) (hts _ tw_43) (fun _ h9 => h9) rfl dX8_countAllowedPairs_16 ?_
            refine lv_icmp_ge (tgt := 40) hx hb dX8_countAllowedPairs_19 (by decide) (fun c_80 => ?_) (fun c_80 => ?_)
            · have n_80 : cnt ≤ j79 := n_le (a := cnt) (b := j79) c_80 (by omega) (by omega)
              refine lv_iinc (v := (nI (j77 + 1))) (lv' := [(2, .int (nI (j77 + 1))), (3, .int (nI j79)), (1, .int ai79), (0, .ref (ad 1))]) hx hb dX8_countAllowedPairs_40 hl (k := 1) rfl (nI_1 _) (by decide) rfl (fun ls hl => ?_)
              refine lv_goto (tgt := 4) hx hb dX8_countAllowedPairs_43 (by decide) ?_
              exact ih_77 ((j77 + 1)) ai79 ls H locs (by omega) (by omega) (by omega) (by have e : j79 = cnt := (by omega); rw [e] at i0_79; exact i0_79) (lv_sub hl [0, 2, 3] rfl) hh
            · have n_80 : j79 < cnt := n_nle (a := cnt) (b := j79) c_80 (by omega) (by omega)
              refine lv_aload_n hx hb dX8_countAllowedPairs_22 rfl (lv_at hl 3 rfl) ?_
              refine lv_iload_n hx hb dX8_countAllowedPairs_23 rfl (lv_at hl 1 rfl) ?_
              refine lv_iload_n hx hb dX8_countAllowedPairs_24 rfl (lv_at hl 0 rfl) ?_
              refine hp_callRi (va_runV (As := [.int (nI j77), .int (nI j79)]) (rest := []) ⟨hx, hb, hml, hown, hts⟩ (c_X8_mayFollow l D cy _ cs ad en hm1 cnt d mm hcnt hd2 hd3 hmm hm10 f10 hb10 j77 j79 (by omega) (by omega) e1 e10) (kw_X8_mayFollow hts tw_503 ⟨by decide, by decide⟩) (preV_of hh hK hm1 e1 rfl) rfl rfl hl.1 rfl (lv_room (Nat.le_of_ble_eq_true rfl)) dX8_countAllowedPairs_25 ⟨Nat.le_of_ble_eq_true rfl, Nat.le_of_ble_eq_true rfl⟩) hh hA (fun r_81 H locs hw_81 hh => ?_)
              rcases hb10 (j77 * 6 + j79) (a6 (by omega) (by omega)) with hz_81 | hz_81
              · obtain rfl : r_81 = 0 := Eq.trans hw_81 hz_81
                refine lv_if_eq (tgt := 34) hx hb dX8_countAllowedPairs_28 (by decide) (fun _ => ?_) (fun c_0 => absurd c_0 (by decide))
                refine lv_iinc (v := (nI (j79 + 1))) (lv' := [(3, .int (nI (j79 + 1))), (2, .int (nI j77)), (1, .int ai79), (0, .ref (ad 1))]) hx hb dX8_countAllowedPairs_34 hl (k := 0) rfl (nI_1 _) (by decide) rfl (fun ls hl => ?_)
                refine lv_goto (tgt := 14) hx hb dX8_countAllowedPairs_37 (by decide) ?_
                exact ih_79 ((j79 + 1)) ai79 ls H locs (by omega) (by omega) (by omega) (by rw [i0_79]; show _ = cpO f10 cnt j77 + (cpI f10 j77 j79 + f10 (j77 * 6 + j79)); rw [hz_81, Int32.add_zero]) (lv_sub hl [0, 1, 2, 3] rfl) hh
              · obtain rfl : r_81 = 1 := Eq.trans hw_81 hz_81
                refine lv_if_eq (tgt := 34) hx hb dX8_countAllowedPairs_28 (by decide) (fun c_0 => absurd c_0 (by decide)) (fun _ => ?_)
                refine lv_iinc (v := (ai79 + 1)) (lv' := [(1, .int (ai79 + 1)), (3, .int (nI j79)), (2, .int (nI j77)), (0, .ref (ad 1))]) hx hb dX8_countAllowedPairs_31 hl (k := 2) rfl (rfl) (by decide) rfl (fun ls hl => ?_)
                refine lv_iinc (v := (nI (j79 + 1))) (lv' := [(3, .int (nI (j79 + 1))), (1, .int (ai79 + 1)), (2, .int (nI j77)), (0, .ref (ad 1))]) hx hb dX8_countAllowedPairs_34 hl (k := 1) rfl (nI_1 _) (by decide) rfl (fun ls hl => ?_)
                refine lv_goto (tgt := 14) hx hb dX8_countAllowedPairs_37 (by decide) ?_
                exact ih_79 ((j79 + 1)) (ai79 + 1) ls H locs (by omega) (by omega) (by omega) (by rw [i0_79]; show _ = cpO f10 cnt j77 + (cpI f10 j77 j79 + f10 (j77 * 6 + j79)); rw [hz_81, Int32.add_assoc]) (lv_sub hl [0, 2, 1, 3] rfl) hh
        exact loop_79 (cnt + 1) 0 ac77 ls _ _ (Nat.le_refl _) (by omega) (by omega) (by rw [i0_77]; exact (Int32.add_zero _).symm) (lv_sub hl [0, 1, 2, 3] rfl) hh
  exact loop_77 (cnt + 1) 0 0 ls _ _ (Nat.le_refl _) (by omega) (by omega) (rfl) (lv_sub hl [0, 1, 2] rfl) hh
theorem kw_X8_countAllowedPairs {R : Room} {s : State} {args : Array Value} {own : String} {idx : Nat} (hts : ∀ w ∈ TB, w.before args s = true) (hl : Cond.methodLink own idx yX8_countAllowedPairs ∈ TB) (hR : 1 + 1 ≤ R.frames ∧ 8 + (4 + 11) + 40 * 1 ≤ R.locals) : CallW R s args own RX8 idx yX8_countAllowedPairs cX8_countAllowedPairs 4 (some .int) (Cond.code yX8_countAllowedPairs cX8_countAllowedPairs 4 (some .int) :: TB) (rmN 1) 0 0 0 := cwV 0 hts (TB_V hl tw_870 tw_871 tw_2 tw_872) rfl rfl rfl (by decide +kernel) hR
set_option maxHeartbeats 4000000 in
set_option maxRecDepth 100000 in
/-- isEven -/
theorem c_X8_isEven (l : Launch) (D : va_G) (cy : Nat → ClassId) (sz : Nat) (cs : List Nat) (ad : Nat → Nat) (en : Nat → va_E) (hm1 : 1 ∈ cs) (cnt d mm : Nat) (hcnt : cnt ≤ 6) (hd2 : 2 ≤ d) (hd3 : d ≤ 3) (hmm : mm ≤ 97) (hdd : d * d ≤ 9) (q : Nat) (hq : q ∈ cs) (f0 : Nat → Int32) (e1 : en 1 = .inr (7, [.ref (ad 2), .ref (ad 3), .ref (ad 10), .ref (ad 11), .int (nI cnt), .int (nI d), .int (nI mm)])) (eq : en q = .inl (cy 0, (d * d), .inl f0))  : Met l yX8_isEven (Cond.code yX8_isEven cX8_isEven 3 (some .boolean) :: TB) (rmN 0) (va_Pc [.ref (ad 1), .ref (ad q)] (Pre D cy cs ad en sz)) (va_Qi (S := Unit) (fun r _ => r = 0 ∨ r = 1) (fun _ _ => True) (Nf sz)) 0 0 (Nf sz) := by
  refine Met.ofW (cc := cX8_isEven) (maxL := 3) (ret := (some .boolean)) (by decide) rfl ?_
  intro p e s m args below meth c s₁ B hml hv
  obtain ⟨rfl, hsz, hP, hK, hD0⟩ := hv
  have hx := B.exec
  have hb := B.bytes
  have hr := B.returns
  have hts : ∀ w ∈ TB, w.before _ s = true := fun w h => atoms_spec (ws := _ :: TB) B.pre w (List.mem_cons_of_mem _ h)
  have hown : s.vm.findClass RX8 = some m.cls := findClass_of_methodNamed B.named
  have hlocks := B.notSynchronized
  have hh : Hp D (Nf sz) (fun _ => True) s.heap s.heap [] cs ad en := ⟨hP, hD0, va_S.rf⟩
  have hA : ∀ q : Nat, s.heap.size ≤ q → Nf sz q := fun q h => by rw [hsz] at h; exact h
  have hl := lv_entry ([.ref (ad 1), .ref (ad q)]) (n := 3) (Nat.le_of_ble_eq_true rfl)
  rw [lg_entry_eq]
  generalize (lg_sl ([.ref (ad 1), .ref (ad q)]) ++ List.replicate (3 - (lg_sl ([.ref (ad 1), .ref (ad q)])).length) Slot.unset).toArray = ls at hl ⊢
  have hl : lv_has ls 3 [(0, .ref (ad 1)), (1, .ref (ad q))] := hl
  refine lv_iconst (v := 0) hx hb dX8_isEven_0 (by decide) ?_
  refine lv_istore_n (lv' := [(2, .int 0), (0, .ref (ad 1)), (1, .ref (ad q))]) hx hb dX8_isEven_1 rfl hl (by decide) rfl (fun ls hl => ?_)
  have loop_82 : ∀ (fu j82 : Nat)   (ls : Array Slot) (H : Heap) (locs : List Loc), 0 ≤ j82 → j82 ≤ (d * d) → (d * d) < j82 + fu →  lv_has ls 3 [(2, .int (nI j82)), (0, .ref (ad 1)), (1, .ref (ad q))] → Hp D (Nf sz) (fun _ => True) s.heap H locs cs ad en → W p l e (headSpec (Cond.code yX8_isEven cX8_isEven 3 (some .boolean) :: TB) (rmN 0)).room s m ([.ref (ad 1), .ref (ad q)] : List Value).toArray below meth c H locs 0 0 (MQ below (va_Qi (S := Unit) (fun r _ => r = 0 ∨ r = 1) (fun _ _ => True) (Nf sz)) ([.ref (ad 1), .ref (ad q)] : List Value).toArray s 0 0 (Nf sz)) (F0 m 2 ls []) := by
    intro fu
    induction fu with
    | zero => intro j82  ls H locs h0 h1 h2; exact absurd h2 (by omega)
    | succ fu ih_82 =>
      intro j82  ls H locs hj0_82 hj_82 hfu_82  hl hh
      refine lv_iload_n hx hb dX8_isEven_2 rfl (lv_at hl 0 rfl) ?_
      refine lv_aload_n hx hb dX8_isEven_3 rfl (lv_at hl 1 rfl) ?_
      refine hp_get hx hb hts ix8 hown hK hh (q := 1) rfl hm1 e1 rfl 5 (by decide) (hts _ tw_44) (fun _ h9 => h9) rfl dX8_isEven_4 ?_
      refine lv_aload_n hx hb dX8_isEven_7 rfl (lv_at hl 1 rfl) ?_
      refine hp_get hx hb hts ix8 hown hK hh (q := 1) rfl hm1 e1 rfl 5 (by decide) (hts _ tw_44) (fun _ h9 => h9) rfl dX8_isEven_8 ?_
      refine lv_imul hx hb dX8_isEven_11 ?_
      rw [pk_mul d d]
      refine lv_icmp_ge (tgt := 29) hx hb dX8_isEven_12 (by decide) (fun c_83 => ?_) (fun c_83 => ?_)
      · have n_83 : (d * d) ≤ j82 := n_le (a := (d * d)) (b := j82) c_83 (by omega) (by omega)
        refine lv_iconst (v := 1) hx hb dX8_isEven_29 (by decide) ?_
        exact hp_iretR hx hb hr rfl hlocks hsz hh (Or.inr rfl) dX8_isEven_30
      · have n_83 : j82 < (d * d) := n_nle (a := (d * d)) (b := j82) c_83 (by omega) (by omega)
        refine lv_aload_n hx hb dX8_isEven_15 rfl (lv_at hl 2 rfl) ?_
        refine lv_iload_n hx hb dX8_isEven_16 rfl (lv_at hl 0 rfl) ?_
        refine hp_iald hx hb hK hh (q := q) rfl hq eq (vp_in_nI (n := j82) (by omega) (by omega)) dX8_isEven_17 ?_
        rw [nI_clamp (n := j82) (by omega)]
        refine lv_if_ge (tgt := 23) hx hb dX8_isEven_18 (by decide) (fun c_84 => ?_) (fun c_84 => ?_)
        · refine lv_iinc (v := (nI (j82 + 1))) (lv' := [(2, .int (nI (j82 + 1))), (0, .ref (ad 1)), (1, .ref (ad q))]) hx hb dX8_isEven_23 hl (k := 0) rfl (nI_1 _) (by decide) rfl (fun ls hl => ?_)
          refine lv_goto (tgt := 2) hx hb dX8_isEven_26 (by decide) ?_
          exact ih_82 ((j82 + 1))  ls H locs (by omega) (by omega) (by omega)  (lv_sub hl [0, 1, 2] rfl) hh
        · refine lv_iconst (v := 0) hx hb dX8_isEven_21 (by decide) ?_
          exact hp_iretR hx hb hr rfl hlocks hsz hh (Or.inl rfl) dX8_isEven_22
  exact loop_82 ((d * d) + 1) 0  ls _ _ (Nat.le_refl _) (by omega) (by omega)  (lv_sub hl [0, 1, 2] rfl) hh
theorem kw_X8_isEven {R : Room} {s : State} {args : Array Value} {own : String} {idx : Nat} (hts : ∀ w ∈ TB, w.before args s = true) (hl : Cond.methodLink own idx yX8_isEven ∈ TB) (hR : 0 + 1 ≤ R.frames ∧ 8 + (3 + 11) + 40 * 0 ≤ R.locals) : CallW R s args own RX8 idx yX8_isEven cX8_isEven 3 (some .boolean) (Cond.code yX8_isEven cX8_isEven 3 (some .boolean) :: TB) (rmN 0) 0 0 1 := cwV 1 hts (TB_V hl tw_362 ts_6 tw_2 tw_363) rfl rfl rfl (by decide +kernel) hR
set_option maxHeartbeats 4000000 in
set_option maxRecDepth 100000 in
/-- isShuffle -/
theorem c_X8_isShuffle (l : Launch) (D : va_G) (cy : Nat → ClassId) (sz : Nat) (cs : List Nat) (ad : Nat → Nat) (en : Nat → va_E) (hm1 : 1 ∈ cs) (cnt d mm : Nat) (hcnt : cnt ≤ 6) (hd2 : 2 ≤ d) (hd3 : d ≤ 3) (hmm : mm ≤ 97) (hdd : d * d ≤ 9) (q : Nat) (hq : q ∈ cs) (f0 : Nat → Int32) (e1 : en 1 = .inr (7, [.ref (ad 2), .ref (ad 3), .ref (ad 10), .ref (ad 11), .int (nI cnt), .int (nI d), .int (nI mm)])) (eq : en q = .inl (cy 0, (d * d), .inl f0))  : Met l yX8_isShuffle (Cond.code yX8_isShuffle cX8_isShuffle 6 (some .boolean) :: TB) (rmN 1) (va_Pc [.ref (ad 1), .ref (ad q)] (Pre D cy cs ad en sz)) (va_Qi (S := Unit) (fun r _ => r = 0 ∨ r = 1) (fun _ _ => True) (Nf sz)) 0 0 (Nf sz) := by
  refine Met.ofW (cc := cX8_isShuffle) (maxL := 6) (ret := (some .boolean)) (by decide) rfl ?_
  intro p e s m args below meth c s₁ B hml hv
  obtain ⟨rfl, hsz, hP, hK, hD0⟩ := hv
  have hx := B.exec
  have hb := B.bytes
  have hr := B.returns
  have hts : ∀ w ∈ TB, w.before _ s = true := fun w h => atoms_spec (ws := _ :: TB) B.pre w (List.mem_cons_of_mem _ h)
  have hown : s.vm.findClass RX8 = some m.cls := findClass_of_methodNamed B.named
  have hlocks := B.notSynchronized
  have hh : Hp D (Nf sz) (fun _ => True) s.heap s.heap [] cs ad en := ⟨hP, hD0, va_S.rf⟩
  have hA : ∀ q : Nat, s.heap.size ≤ q → Nf sz q := fun q h => by rw [hsz] at h; exact h
  have hl := lv_entry ([.ref (ad 1), .ref (ad q)]) (n := 6) (Nat.le_of_ble_eq_true rfl)
  rw [lg_entry_eq]
  generalize (lg_sl ([.ref (ad 1), .ref (ad q)]) ++ List.replicate (6 - (lg_sl ([.ref (ad 1), .ref (ad q)])).length) Slot.unset).toArray = ls at hl ⊢
  have hl : lv_has ls 6 [(0, .ref (ad 1)), (1, .ref (ad q))] := hl
  refine lv_aload_n hx hb dX8_isShuffle_0 rfl (lv_at hl 0 rfl) ?_
  refine lv_aload_n hx hb dX8_isShuffle_1 rfl (lv_at hl 1 rfl) ?_
  refine hp_callRi (va_runV (As := [.ref (ad q)]) (rest := []) ⟨hx, hb, hml, hown, hts⟩ (c_X8_isEven l D cy _ cs ad en hm1 cnt d mm hcnt hd2 hd3 hmm hdd q hq f0 e1 eq) (kw_X8_isEven hts tw_360 ⟨by decide, by decide⟩) (preV_of hh hK hm1 e1 rfl) rfl rfl hl.1 rfl (lv_room (Nat.le_of_ble_eq_true rfl)) dX8_isShuffle_2 ⟨Nat.le_of_ble_eq_true rfl, Nat.le_of_ble_eq_true rfl⟩) hh hA (fun r_85 H locs hw_85 hh => ?_)
  rcases hw_85 with hb_85 | hb_85
  · obtain rfl : r_85 = 0 := hb_85
    refine lv_if_ne (tgt := 10) hx hb dX8_isShuffle_5 (by decide) (fun c_0 => absurd c_0 (by decide)) (fun _ => ?_)
    refine lv_iconst (v := 0) hx hb dX8_isShuffle_8 (by decide) ?_
    exact hp_iretR hx hb hr rfl hlocks hsz hh (Or.inl rfl) dX8_isShuffle_9
  · obtain rfl : r_85 = 1 := hb_85
    refine lv_if_ne (tgt := 10) hx hb dX8_isShuffle_5 (by decide) (fun _ => ?_) (fun c_0 => absurd c_0 (by decide))
    refine lv_iconst (v := 0) hx hb dX8_isShuffle_10 (by decide) ?_
    refine lv_istore_n (lv' := [(2, .int 0), (0, .ref (ad 1)), (1, .ref (ad q))]) hx hb dX8_isShuffle_11 rfl hl (by decide) rfl (fun ls hl => ?_)
    have loop_86 : ∀ (fu j86 : Nat)   (ls : Array Slot) (H : Heap) (locs : List Loc), 0 ≤ j86 → j86 ≤ d → d < j86 + fu →  lv_has ls 6 [(2, .int (nI j86)), (0, .ref (ad 1)), (1, .ref (ad q))] → Hp D (Nf sz) (fun _ => True) s.heap H locs cs ad en → W p l e (headSpec (Cond.code yX8_isShuffle cX8_isShuffle 6 (some .boolean) :: TB) (rmN 1)).room s m ([.ref (ad 1), .ref (ad q)] : List Value).toArray below meth c H locs 0 0 (MQ below (va_Qi (S := Unit) (fun r _ => r = 0 ∨ r = 1) (fun _ _ => True) (Nf sz)) ([.ref (ad 1), .ref (ad q)] : List Value).toArray s 0 0 (Nf sz)) (F0 m 12 ls []) := by
      intro fu
      induction fu with
      | zero => intro j86  ls H locs h0 h1 h2; exact absurd h2 (by omega)
      | succ fu ih_86 =>
        intro j86  ls H locs hj0_86 hj_86 hfu_86  hl hh
        refine lv_iload_n hx hb dX8_isShuffle_12 rfl (lv_at hl 0 rfl) ?_
        refine lv_aload_n hx hb dX8_isShuffle_13 rfl (lv_at hl 1 rfl) ?_
        refine hp_get hx hb hts ix8 hown hK hh (q := 1) rfl hm1 e1 rfl 5 (by decide) (hts _ tw_44) (fun _ h9 => h9) rfl dX8_isShuffle_14 ?_
        refine lv_icmp_ge (tgt := 92) hx hb dX8_isShuffle_17 (by decide) (fun c_87 => ?_) (fun c_87 => ?_)
        · have n_87 : d ≤ j86 := n_le (a := d) (b := j86) c_87 (by omega) (by omega)
          refine lv_iconst (v := 1) hx hb dX8_isShuffle_92 (by decide) ?_
          exact hp_iretR hx hb hr rfl hlocks hsz hh (Or.inr rfl) dX8_isShuffle_93
        · have n_87 : j86 < d := n_nle (a := d) (b := j86) c_87 (by omega) (by omega)
          refine lv_iconst (v := 0) hx hb dX8_isShuffle_20 (by decide) ?_
          refine lv_istore_n (lv' := [(3, .int 0), (2, .int (nI j86)), (0, .ref (ad 1)), (1, .ref (ad q))]) hx hb dX8_isShuffle_21 rfl hl (by decide) rfl (fun ls hl => ?_)
          refine lv_iconst (v := 0) hx hb dX8_isShuffle_22 (by decide) ?_
          refine lv_istore (lv' := [(4, .int 0), (3, .int 0), (2, .int (nI j86)), (0, .ref (ad 1)), (1, .ref (ad q))]) hx hb dX8_isShuffle_23 hl (by decide) rfl (fun ls hl => ?_)
          refine lv_iconst (v := 0) hx hb dX8_isShuffle_25 (by decide) ?_
          refine lv_istore (lv' := [(5, .int 0), (4, .int 0), (3, .int 0), (2, .int (nI j86)), (0, .ref (ad 1)), (1, .ref (ad q))]) hx hb dX8_isShuffle_26 hl (by decide) rfl (fun ls hl => ?_)
          have loop_88 : ∀ (fu j88 : Nat) (sr88 : Int32) (sc88 : Int32)  (ls : Array Slot) (H : Heap) (locs : List Loc), 0 ≤ j88 → j88 ≤ d → d < j88 + fu →  lv_has ls 6 [(5, .int (nI j88)), (4, .int sc88), (3, .int sr88), (2, .int (nI j86)), (0, .ref (ad 1)), (1, .ref (ad q))] → Hp D (Nf sz) (fun _ => True) s.heap H locs cs ad en → W p l e (headSpec (Cond.code yX8_isShuffle cX8_isShuffle 6 (some .boolean) :: TB) (rmN 1)).room s m ([.ref (ad 1), .ref (ad q)] : List Value).toArray below meth c H locs 0 0 (MQ below (va_Qi (S := Unit) (fun r _ => r = 0 ∨ r = 1) (fun _ _ => True) (Nf sz)) ([.ref (ad 1), .ref (ad q)] : List Value).toArray s 0 0 (Nf sz)) (F0 m 28 ls []) := by
            intro fu
            induction fu with
            | zero => intro j88 sr88 sc88 ls H locs h0 h1 h2; exact absurd h2 (by omega)
            | succ fu ih_88 =>
              intro j88 sr88 sc88 ls H locs hj0_88 hj_88 hfu_88  hl hh
              refine lv_iload hx hb dX8_isShuffle_28 (lv_at hl 0 rfl) ?_
              refine lv_aload_n hx hb dX8_isShuffle_30 rfl (lv_at hl 4 rfl) ?_
              refine hp_get hx hb hts ix8 hown hK hh (q := 1) rfl hm1 e1 rfl 5 (by decide) (hts _ tw_44) (fun _ h9 => h9) rfl dX8_isShuffle_31 ?_
              refine lv_icmp_ge (tgt := 73) hx hb dX8_isShuffle_34 (by decide) (fun c_89 => ?_) (fun c_89 => ?_)
              · have n_89 : d ≤ j88 := n_le (a := d) (b := j88) c_89 (by omega) (by omega)
                refine lv_iload_n hx hb dX8_isShuffle_73 rfl (lv_at hl 2 rfl) ?_
                refine lv_iconst (v := 1) hx hb dX8_isShuffle_74 (by decide) ?_
                refine lv_icmp_ne (tgt := 84) hx hb dX8_isShuffle_75 (by decide) (fun c_90 => ?_) (fun c_90 => ?_)
                · refine lv_iconst (v := 0) hx hb dX8_isShuffle_84 (by decide) ?_
                  exact hp_iretR hx hb hr rfl hlocks hsz hh (Or.inl rfl) dX8_isShuffle_85
                · refine lv_iload hx hb dX8_isShuffle_78 (lv_at hl 1 rfl) ?_
                  refine lv_iconst (v := 1) hx hb dX8_isShuffle_80 (by decide) ?_
                  refine lv_icmp_eq (tgt := 86) hx hb dX8_isShuffle_81 (by decide) (fun c_91 => ?_) (fun c_91 => ?_)
                  · refine lv_iinc (v := (nI (j86 + 1))) (lv' := [(2, .int (nI (j86 + 1))), (5, .int (nI j88)), (4, .int sc88), (3, .int sr88), (0, .ref (ad 1)), (1, .ref (ad q))]) hx hb dX8_isShuffle_86 hl (k := 3) rfl (nI_1 _) (by decide) rfl (fun ls hl => ?_)
                    refine lv_goto (tgt := 12) hx hb dX8_isShuffle_89 (by decide) ?_
                    exact ih_86 ((j86 + 1))  ls H locs (by omega) (by omega) (by omega)  (lv_sub hl [0, 4, 5] rfl) hh
                  · refine lv_iconst (v := 0) hx hb dX8_isShuffle_84 (by decide) ?_
                    exact hp_iretR hx hb hr rfl hlocks hsz hh (Or.inl rfl) dX8_isShuffle_85
              · have n_89 : j88 < d := n_nle (a := d) (b := j88) c_89 (by omega) (by omega)
                refine lv_iload_n hx hb dX8_isShuffle_37 rfl (lv_at hl 2 rfl) ?_
                refine lv_aload_n hx hb dX8_isShuffle_38 rfl (lv_at hl 5 rfl) ?_
                refine lv_iload_n hx hb dX8_isShuffle_39 rfl (lv_at hl 3 rfl) ?_
                refine lv_aload_n hx hb dX8_isShuffle_40 rfl (lv_at hl 4 rfl) ?_
                refine hp_get hx hb hts ix8 hown hK hh (q := 1) rfl hm1 e1 rfl 5 (by decide) (hts _ tw_44) (fun _ h9 => h9) rfl dX8_isShuffle_41 ?_
                refine lv_imul hx hb dX8_isShuffle_44 ?_
                rw [pk_mul j86 d]
                refine lv_iload hx hb dX8_isShuffle_45 (lv_at hl 0 rfl) ?_
                refine lv_iadd hx hb dX8_isShuffle_47 ?_
                rw [nI_add (j86 * d) j88]
                have hi_92 : ((j86 * d) + j88) < d * d := md3' (by omega) (by omega) hd3
                refine hp_iald hx hb hK hh (q := q) rfl hq eq (vp_in_nI (n := ((j86 * d) + j88)) (by omega) (by omega)) dX8_isShuffle_48 ?_
                rw [nI_clamp (n := ((j86 * d) + j88)) (by omega)]
                refine lv_iadd hx hb dX8_isShuffle_49 ?_
                refine lv_istore_n (lv' := [(3, .int (sr88 + (f0 ((j86 * d) + j88)))), (5, .int (nI j88)), (4, .int sc88), (2, .int (nI j86)), (0, .ref (ad 1)), (1, .ref (ad q))]) hx hb dX8_isShuffle_50 rfl hl (by decide) rfl (fun ls hl => ?_)
                refine lv_iload hx hb dX8_isShuffle_51 (lv_at hl 2 rfl) ?_
                refine lv_aload_n hx hb dX8_isShuffle_53 rfl (lv_at hl 5 rfl) ?_
                refine lv_iload hx hb dX8_isShuffle_54 (lv_at hl 1 rfl) ?_
                refine lv_aload_n hx hb dX8_isShuffle_56 rfl (lv_at hl 4 rfl) ?_
                refine hp_get hx hb hts ix8 hown hK hh (q := 1) rfl hm1 e1 rfl 5 (by decide) (hts _ tw_44) (fun _ h9 => h9) rfl dX8_isShuffle_57 ?_
                refine lv_imul hx hb dX8_isShuffle_60 ?_
                rw [pk_mul j88 d]
                refine lv_iload_n hx hb dX8_isShuffle_61 rfl (lv_at hl 3 rfl) ?_
                refine lv_iadd hx hb dX8_isShuffle_62 ?_
                rw [nI_add (j88 * d) j86]
                have hi_93 : ((j88 * d) + j86) < d * d := md3' (by omega) (by omega) hd3
                refine hp_iald hx hb hK hh (q := q) rfl hq eq (vp_in_nI (n := ((j88 * d) + j86)) (by omega) (by omega)) dX8_isShuffle_63 ?_
                rw [nI_clamp (n := ((j88 * d) + j86)) (by omega)]
                refine lv_iadd hx hb dX8_isShuffle_64 ?_
                refine lv_istore (lv' := [(4, .int (sc88 + (f0 ((j88 * d) + j86)))), (3, .int (sr88 + (f0 ((j86 * d) + j88)))), (5, .int (nI j88)), (2, .int (nI j86)), (0, .ref (ad 1)), (1, .ref (ad q))]) hx hb dX8_isShuffle_65 hl (by decide) rfl (fun ls hl => ?_)
                refine lv_iinc (v := (nI (j88 + 1))) (lv' := [(5, .int (nI (j88 + 1))), (4, .int (sc88 + (f0 ((j88 * d) + j86)))), (3, .int (sr88 + (f0 ((j86 * d) + j88)))), (2, .int (nI j86)), (0, .ref (ad 1)), (1, .ref (ad q))]) hx hb dX8_isShuffle_67 hl (k := 2) rfl (nI_1 _) (by decide) rfl (fun ls hl => ?_)
                refine lv_goto (tgt := 28) hx hb dX8_isShuffle_70 (by decide) ?_
                exact ih_88 ((j88 + 1)) (sr88 + (f0 ((j86 * d) + j88))) (sc88 + (f0 ((j88 * d) + j86))) ls H locs (by omega) (by omega) (by omega)  (lv_sub hl [0, 1, 2, 3, 4, 5] rfl) hh
          exact loop_88 (d + 1) 0 0 0 ls _ _ (Nat.le_refl _) (by omega) (by omega)  (lv_sub hl [0, 1, 2, 3, 4, 5] rfl) hh
    exact loop_86 (d + 1) 0  ls _ _ (Nat.le_refl _) (by omega) (by omega)  (lv_sub hl [0, 1, 2] rfl) hh
theorem kw_X8_isShuffle {R : Room} {s : State} {args : Array Value} {own : String} {idx : Nat} (hts : ∀ w ∈ TB, w.before args s = true) (hl : Cond.methodLink own idx yX8_isShuffle ∈ TB) (hR : 1 + 1 ≤ R.frames ∧ 8 + (6 + 11) + 40 * 1 ≤ R.locals) : CallW R s args own RX8 idx yX8_isShuffle cX8_isShuffle 6 (some .boolean) (Cond.code yX8_isShuffle cX8_isShuffle 6 (some .boolean) :: TB) (rmN 1) 0 0 1 := cwV 1 hts (TB_V hl tw_358 ts_5 tw_2 tw_359) rfl rfl rfl (by decide +kernel) hR
set_option maxHeartbeats 4000000 in
set_option maxRecDepth 100000 in
/-- multiplyAll -/
theorem c_X8_multiplyAll (l : Launch) (D : va_G) (cy : Nat → ClassId) (sz : Nat) (cs : List Nat) (ad : Nat → Nat) (en : Nat → va_E) (hm1 : 1 ∈ cs) (hm3 : 3 ∈ cs) (hm11 : 11 ∈ cs) (hmr : ∀ j, j < 6 → 4 + j ∈ cs) (cnt d mm : Nat) (hcnt : cnt ≤ 6) (hd2 : 2 ≤ d) (hd3 : d ≤ 3) (hmm : mm ≤ 97) (q NL n : Nat) (hq : q ∈ cs) (hNL : NL < 2 ^ 31) (f0 : Nat → Int32) (hvl : ∀ i, i < NL → ∃ v, v < 6 ∧ f0 i = nI v) (h1 : 1 ≤ n) (h2 : n ≤ NL) (qc : Nat) (hqc : qc ∈ cs) (h12 : 12 ≤ qc) (hqq : q ≠ qc) (hq11 : 12 ≤ q) (fc fs : Nat → Int64) (rf : Nat → Nat → Int64) (e1 : en 1 = .inr (7, [.ref (ad 2), .ref (ad 3), .ref (ad 10), .ref (ad 11), .int (nI cnt), .int (nI d), .int (nI mm)])) (e3 : en 3 = .inl (cy 8, 6, .inr (.inr (.inr (.inr (fun j => some (ad (4 + j)))))))) (e11 : en 11 = .inl (cy 1, 9, .inr (.inl fs))) (eq : en q = .inl (cy 0, NL, .inl f0)) (eqc : en qc = .inl (cy 1, 9, .inr (.inl fc))) (hrw : ∀ j, j < 6 → en (4 + j) = .inl (cy 1, 9, .inr (.inl (rf j)))) : Met l yX8_multiplyAll (Cond.code yX8_multiplyAll cX8_multiplyAll 5 none :: TB) (rmN 2) (va_Pc [.ref (ad 1), .ref (ad q), .int (nI n), .ref (ad qc)] (Pre D cy cs ad en sz)) (va_Qv (S := Nat → va_E) (fun en1 => ∃ g h : Nat → Int64, en1 qc = .inl (cy 1, 9, .inr (.inl g)) ∧ en1 11 = .inl (cy 1, 9, .inr (.inl h)) ∧ ∀ c, c ≠ qc → c ≠ 11 → en1 c = en c) (PostM D cs ad) (Af cs ad sz)) 0 0 (Af cs ad sz) := by
  refine Met.ofW (cc := cX8_multiplyAll) (maxL := 5) (ret := none) (by decide) rfl ?_
  intro p e s m args below meth c s₁ B hml hv
  obtain ⟨rfl, hsz, hP, hK, hD0⟩ := hv
  have hx := B.exec
  have hb := B.bytes
  have hr := B.returns
  have hts : ∀ w ∈ TB, w.before _ s = true := fun w h => atoms_spec (ws := _ :: TB) B.pre w (List.mem_cons_of_mem _ h)
  have hown : s.vm.findClass RX8 = some m.cls := findClass_of_methodNamed B.named
  have hlocks := B.notSynchronized
  have hh : Hp D (Af cs ad sz) (Af cs ad sz) s.heap s.heap [] cs ad en := ⟨hP, Af_self hD0, va_S.rf⟩
  have hA : ∀ q : Nat, s.heap.size ≤ q → Af cs ad sz q := fun q h => Or.inr (by rw [hsz] at h; exact h)
  have hl := lv_entry ([.ref (ad 1), .ref (ad q), .int (nI n), .ref (ad qc)]) (n := 5) (Nat.le_of_ble_eq_true rfl)
  rw [lg_entry_eq]
  generalize (lg_sl ([.ref (ad 1), .ref (ad q), .int (nI n), .ref (ad qc)]) ++ List.replicate (5 - (lg_sl ([.ref (ad 1), .ref (ad q), .int (nI n), .ref (ad qc)])).length) Slot.unset).toArray = ls at hl ⊢
  have hl : lv_has ls 5 [(0, .ref (ad 1)), (1, .ref (ad q)), (2, .int (nI n)), (3, .ref (ad qc))] := hl
  refine lv_aload_n hx hb dX8_multiplyAll_0 rfl (lv_at hl 0 rfl) ?_
  refine hp_get hx hb hts ix8 hown hK hh (q := 1) rfl hm1 e1 rfl 1 (by decide) (hts _ tw_40) (fun _ h9 => h9) rfl dX8_multiplyAll_1 ?_
  refine lv_aload_n hx hb dX8_multiplyAll_4 rfl (lv_at hl 1 rfl) ?_
  refine lv_iconst (v := 0) hx hb dX8_multiplyAll_5 (by decide) ?_
  rw [show (0 : Int32) = nI 0 from rfl]
  refine hp_iald hx hb hK hh (q := q) rfl hq eq (vp_in_nI (n := 0) (by omega) (by omega)) dX8_multiplyAll_6 ?_
  rw [nI_clamp (n := 0) (by decide)]
  obtain ⟨v_94, hv_94, hfv_94⟩ := hvl 0 (by omega)
  rw [hfv_94]
  refine hp_aald hx hb hK hh (q := 3) rfl hm3 8 e3 rfl rfl (vp_in_nI (n := v_94) (by omega) (by decide)) (v := .ref (ad (4 + v_94))) (by rw [nI_clamp (n := v_94) (by omega)]; rfl) dX8_multiplyAll_7 ?_
  have er95 : en (4 + v_94) = .inl (cy 1, 9, .inr (.inl (rf v_94))) := hrw v_94 (by omega)
  refine lv_iconst (v := 0) hx hb dX8_multiplyAll_8 (by decide) ?_
  refine lv_aload_n hx hb dX8_multiplyAll_9 rfl (lv_at hl 3 rfl) ?_
  refine lv_iconst (v := 0) hx hb dX8_multiplyAll_10 (by decide) ?_
  refine lv_bipush (v := 9) hx hb dX8_multiplyAll_11 (by decide) ?_
  refine W.eq (g2 := F0 m 13 ls [.int (nI 9), .int (nI 0), .ref (ad qc), .int (nI 0), .ref (ad (4 + v_94))]) rfl ?_
  refine hp_copyl hx hb (hml.trans hl.1.symm) hown (hts _ tw_697) (hts _ tw_340) (hts _ tw_339) (hts _ tw_12) hK hh (hmr _ (by omega)) hqc er95 eqc 0 0 9 (by decide) (by decide) (by decide) (by decide) (by decide) (Nat.le_of_ble_eq_true rfl) (Nat.le_of_ble_eq_true rfl) dX8_multiplyAll_13 (fun H locs en_96 hen_96 hh => ?_)
  have e1_96 : en_96 1 = .inr (7, [.ref (ad 2), .ref (ad 3), .ref (ad 10), .ref (ad 11), .int (nI cnt), .int (nI d), .int (nI mm)]) := by rw [hen_96, va_up_ne _ _ (by omega)]; exact e1
  have e3_96 : en_96 3 = .inl (cy 8, 6, .inr (.inr (.inr (.inr (fun j => some (ad (4 + j))))))) := by rw [hen_96, va_up_ne _ _ (by omega)]; exact e3
  have e11_96 : en_96 11 = .inl (cy 1, 9, .inr (.inl fs)) := by rw [hen_96, va_up_ne _ _ (by omega)]; exact e11
  have eq_96 : en_96 q = .inl (cy 0, NL, .inl f0) := by rw [hen_96, va_up_ne _ _ (by omega)]; exact eq
  have er95_96 : en_96 (4 + v_94) = .inl (cy 1, 9, .inr (.inl (rf v_94))) := by rw [hen_96, va_up_ne _ _ (by omega)]; exact er95
  have hrw_96 : ∀ j, j < 6 → en_96 (4 + j) = .inl (cy 1, 9, .inr (.inl (rf j))) := fun j hj => by rw [hen_96, va_up_ne _ _ (by omega)]; exact hrw j hj
  have eqc_96 : en_96 qc = .inl (cy 1, 9, .inr (.inl (va_cpy (rf v_94) fc 0 0 9))) := by rw [hen_96]; exact va_up_self _ _ _
  refine lv_iconst (v := 1) hx hb dX8_multiplyAll_16 (by decide) ?_
  refine lv_istore (lv' := [(4, .int 1), (0, .ref (ad 1)), (1, .ref (ad q)), (2, .int (nI n)), (3, .ref (ad qc))]) hx hb dX8_multiplyAll_17 hl (by decide) rfl (fun ls hl => ?_)
  have loop_97 : ∀ (fu j97 : Nat)  (gc97 : Nat → Int64) (gs97 : Nat → Int64) (en_97 : Nat → va_E) (ls : Array Slot) (H : Heap) (locs : List Loc), 1 ≤ j97 → j97 ≤ n → n < j97 + fu → (en_97 qc = .inl (cy 1, 9, .inr (.inl gc97))) → (en_97 11 = .inl (cy 1, 9, .inr (.inl gs97))) → (∀ c, c ≠ qc → c ≠ 11 → en_97 c = en_96 c) →  lv_has ls 5 [(4, .int (nI j97)), (0, .ref (ad 1)), (1, .ref (ad q)), (2, .int (nI n)), (3, .ref (ad qc))] → Hp D (Af cs ad sz) (Af cs ad sz) s.heap H locs cs ad en_97 → W p l e (headSpec (Cond.code yX8_multiplyAll cX8_multiplyAll 5 none :: TB) (rmN 2)).room s m ([.ref (ad 1), .ref (ad q), .int (nI n), .ref (ad qc)] : List Value).toArray below meth c H locs 0 0 (MQ below (va_Qv (S := Nat → va_E) (fun en1 => ∃ g h : Nat → Int64, en1 qc = .inl (cy 1, 9, .inr (.inl g)) ∧ en1 11 = .inl (cy 1, 9, .inr (.inl h)) ∧ ∀ c, c ≠ qc → c ≠ 11 → en1 c = en c) (PostM D cs ad) (Af cs ad sz)) ([.ref (ad 1), .ref (ad q), .int (nI n), .ref (ad qc)] : List Value).toArray s 0 0 (Af cs ad sz)) (F0 m 19 ls []) := by
    intro fu
    induction fu with
    | zero => intro j97  gc97 gs97 en_97 ls H locs h0 h1 h2; exact absurd h2 (by omega)
    | succ fu ih_97 =>
      intro j97  gc97 gs97 en_97 ls H locs hj0_97 hj_97 hfu_97 w0_97 w1_97 hu_97  hl hh
      have e1_97 : en_97 1 = .inr (7, [.ref (ad 2), .ref (ad 3), .ref (ad 10), .ref (ad 11), .int (nI cnt), .int (nI d), .int (nI mm)]) := by rw [hu_97 _ (by omega) (by decide)]; exact e1_96
      have e3_97 : en_97 3 = .inl (cy 8, 6, .inr (.inr (.inr (.inr (fun j => some (ad (4 + j))))))) := by rw [hu_97 _ (by omega) (by decide)]; exact e3_96
      have eq_97 : en_97 q = .inl (cy 0, NL, .inl f0) := by rw [hu_97 _ (by omega) (by omega)]; exact eq_96
      have er95_97 : en_97 (4 + v_94) = .inl (cy 1, 9, .inr (.inl (rf v_94))) := by rw [hu_97 _ (by omega) (by omega)]; exact er95_96
      have hrw_97 : ∀ j, j < 6 → en_97 (4 + j) = .inl (cy 1, 9, .inr (.inl (rf j))) := fun j hj => by rw [hu_97 _ (by omega) (by omega)]; exact hrw_96 j hj
      refine lv_iload hx hb dX8_multiplyAll_19 (lv_at hl 0 rfl) ?_
      refine lv_iload_n hx hb dX8_multiplyAll_21 rfl (lv_at hl 3 rfl) ?_
      refine lv_icmp_ge (tgt := 61) hx hb dX8_multiplyAll_22 (by decide) (fun c_98 => ?_) (fun c_98 => ?_)
      · have n_98 : n ≤ j97 := n_le (a := n) (b := j97) c_98 (by omega) (by omega)
        exact hp_vretM hx hb hr hlocks hh (⟨_, _, w0_97, w1_97, (fun c h0 h1 => by rw [hu_97 c h0 h1, hen_96, va_up_ne _ _ h0])⟩) dX8_multiplyAll_61
      · have n_98 : j97 < n := n_nle (a := n) (b := j97) c_98 (by omega) (by omega)
        refine lv_aload_n hx hb dX8_multiplyAll_25 rfl (lv_at hl 1 rfl) ?_
        refine lv_aload_n hx hb dX8_multiplyAll_26 rfl (lv_at hl 4 rfl) ?_
        refine lv_aload_n hx hb dX8_multiplyAll_27 rfl (lv_at hl 1 rfl) ?_
        refine hp_get hx hb hts ix8 hown hK hh (q := 1) rfl hm1 e1_97 rfl 1 (by decide) (hts _ tw_40) (fun _ h9 => h9) rfl dX8_multiplyAll_28 ?_
        refine lv_aload_n hx hb dX8_multiplyAll_31 rfl (lv_at hl 2 rfl) ?_
        refine lv_iload hx hb dX8_multiplyAll_32 (lv_at hl 0 rfl) ?_
        refine hp_iald hx hb hK hh (q := q) rfl hq eq_97 (vp_in_nI (n := j97) (by omega) (by omega)) dX8_multiplyAll_34 ?_
        rw [nI_clamp (n := j97) (by omega)]
        obtain ⟨v_99, hv_99, hfv_99⟩ := hvl j97 (by omega)
        rw [hfv_99]
        refine hp_aald hx hb hK hh (q := 3) rfl hm3 8 e3_97 rfl rfl (vp_in_nI (n := v_99) (by omega) (by decide)) (v := .ref (ad (4 + v_99))) (by rw [nI_clamp (n := v_99) (by omega)]; rfl) dX8_multiplyAll_35 ?_
        have er100 : en_97 (4 + v_99) = .inl (cy 1, 9, .inr (.inl (rf v_99))) := hrw_97 v_99 (by omega)
        refine lv_aload_n hx hb dX8_multiplyAll_36 rfl (lv_at hl 1 rfl) ?_
        refine hp_get hx hb hts ix8 hown hK hh (q := 1) rfl hm1 e1_97 rfl 3 (by decide) (hts _ tw_42) (fun _ h9 => h9) rfl dX8_multiplyAll_37 ?_
        refine hp_callMv (va_runV (As := [.ref (ad qc), .ref (ad (4 + v_99)), .ref (ad 11)]) (rest := []) ⟨hx, hb, hml, hown, hts⟩ (c_X8_multiply l D cy _ cs ad en_97 hm1 cnt d mm hcnt hd2 hd3 hmm qc (4 + v_99) 11 hqc (hmr _ (by omega)) hm11 (by omega) (by omega) (by omega) gc97 (rf v_99) gs97 e1_97 w0_97 er100 w1_97) (kw_X8_multiply hts tw_698 ⟨by decide, by decide⟩) (preV_of hh hK hm1 e1_97 rfl) rfl rfl hl.1 rfl (lv_room (Nat.le_of_ble_eq_true rfl)) dX8_multiplyAll_40 ⟨Nat.le_of_ble_eq_true rfl, Nat.le_of_ble_eq_true rfl⟩) hh hA (fun H locs en_101 hw_101 hh => ?_)
        obtain ⟨g_101, hen_101, hg_101⟩ := hw_101
        have e1_101 : en_101 1 = .inr (7, [.ref (ad 2), .ref (ad 3), .ref (ad 10), .ref (ad 11), .int (nI cnt), .int (nI d), .int (nI mm)]) := by rw [hen_101, va_up_ne _ _ (by decide)]; exact e1_97
        have e3_101 : en_101 3 = .inl (cy 8, 6, .inr (.inr (.inr (.inr (fun j => some (ad (4 + j))))))) := by rw [hen_101, va_up_ne _ _ (by decide)]; exact e3_97
        have eq_101 : en_101 q = .inl (cy 0, NL, .inl f0) := by rw [hen_101, va_up_ne _ _ (by omega)]; exact eq_97
        have er95_101 : en_101 (4 + v_94) = .inl (cy 1, 9, .inr (.inl (rf v_94))) := by rw [hen_101, va_up_ne _ _ (by omega)]; exact er95_97
        have w0_101 : en_101 qc = .inl (cy 1, 9, .inr (.inl gc97)) := by rw [hen_101, va_up_ne _ _ (by omega)]; exact w0_97
        have er100_101 : en_101 (4 + v_99) = .inl (cy 1, 9, .inr (.inl (rf v_99))) := by rw [hen_101, va_up_ne _ _ (by omega)]; exact er100
        have hrw_101 : ∀ j, j < 6 → en_101 (4 + j) = .inl (cy 1, 9, .inr (.inl (rf j))) := fun j hj => by rw [hen_101, va_up_ne _ _ (by omega)]; exact hrw_97 j hj
        have w1_101 : en_101 11 = .inl (cy 1, 9, .inr (.inl g_101)) := by rw [hen_101]; exact va_up_self _ _ _
        refine lv_aload_n hx hb dX8_multiplyAll_43 rfl (lv_at hl 1 rfl) ?_
        refine hp_get hx hb hts ix8 hown hK hh (q := 1) rfl hm1 e1_101 rfl 3 (by decide) (hts _ tw_42) (fun _ h9 => h9) rfl dX8_multiplyAll_44 ?_
        refine lv_iconst (v := 0) hx hb dX8_multiplyAll_47 (by decide) ?_
        refine lv_aload_n hx hb dX8_multiplyAll_48 rfl (lv_at hl 4 rfl) ?_
        refine lv_iconst (v := 0) hx hb dX8_multiplyAll_49 (by decide) ?_
        refine lv_bipush (v := 9) hx hb dX8_multiplyAll_50 (by decide) ?_
        refine W.eq (g2 := F0 m 52 ls [.int (nI 9), .int (nI 0), .ref (ad qc), .int (nI 0), .ref (ad 11)]) rfl ?_
        refine hp_copyl hx hb (hml.trans hl.1.symm) hown (hts _ tw_697) (hts _ tw_340) (hts _ tw_339) (hts _ tw_12) hK hh hm11 hqc w1_101 w0_101 0 0 9 (by decide) (by decide) (by decide) (by decide) (by decide) (Nat.le_of_ble_eq_true rfl) (Nat.le_of_ble_eq_true rfl) dX8_multiplyAll_52 (fun H locs en_102 hen_102 hh => ?_)
        have e1_102 : en_102 1 = .inr (7, [.ref (ad 2), .ref (ad 3), .ref (ad 10), .ref (ad 11), .int (nI cnt), .int (nI d), .int (nI mm)]) := by rw [hen_102, va_up_ne _ _ (by omega)]; exact e1_101
        have e3_102 : en_102 3 = .inl (cy 8, 6, .inr (.inr (.inr (.inr (fun j => some (ad (4 + j))))))) := by rw [hen_102, va_up_ne _ _ (by omega)]; exact e3_101
        have eq_102 : en_102 q = .inl (cy 0, NL, .inl f0) := by rw [hen_102, va_up_ne _ _ (by omega)]; exact eq_101
        have er95_102 : en_102 (4 + v_94) = .inl (cy 1, 9, .inr (.inl (rf v_94))) := by rw [hen_102, va_up_ne _ _ (by omega)]; exact er95_101
        have er100_102 : en_102 (4 + v_99) = .inl (cy 1, 9, .inr (.inl (rf v_99))) := by rw [hen_102, va_up_ne _ _ (by omega)]; exact er100_101
        have w1_102 : en_102 11 = .inl (cy 1, 9, .inr (.inl g_101)) := by rw [hen_102, va_up_ne _ _ (by omega)]; exact w1_101
        have hrw_102 : ∀ j, j < 6 → en_102 (4 + j) = .inl (cy 1, 9, .inr (.inl (rf j))) := fun j hj => by rw [hen_102, va_up_ne _ _ (by omega)]; exact hrw_101 j hj
        have w0_102 : en_102 qc = .inl (cy 1, 9, .inr (.inl (va_cpy g_101 gc97 0 0 9))) := by rw [hen_102]; exact va_up_self _ _ _
        refine lv_iinc (v := (nI (j97 + 1))) (lv' := [(4, .int (nI (j97 + 1))), (0, .ref (ad 1)), (1, .ref (ad q)), (2, .int (nI n)), (3, .ref (ad qc))]) hx hb dX8_multiplyAll_55 hl (k := 0) rfl (nI_1 _) (by decide) rfl (fun ls hl => ?_)
        refine lv_goto (tgt := 19) hx hb dX8_multiplyAll_58 (by decide) ?_
        exact ih_97 ((j97 + 1))  _ _ en_102 ls H locs (by omega) (by omega) (by omega) w0_102 w1_102 (fun c h0 h1 => by rw [hen_102, va_up_ne _ _ h0, hen_101, va_up_ne _ _ h1, hu_97 c h0 h1])  (lv_sub hl [0, 1, 2, 3, 4] rfl) hh
  exact loop_97 (n + 1) 1  _ _ en_96 ls _ _ (Nat.le_refl _) (by omega) (by omega) eqc_96 e11_96 (fun c _ _ => rfl)  (lv_sub hl [0, 1, 2, 3, 4] rfl) hh
theorem kw_X8_multiplyAll {R : Room} {s : State} {args : Array Value} {own : String} {idx : Nat} (hts : ∀ w ∈ TB, w.before args s = true) (hl : Cond.methodLink own idx yX8_multiplyAll ∈ TB) (hR : 2 + 1 ≤ R.frames ∧ 8 + (5 + 11) + 40 * 2 ≤ R.locals) : CallW R s args own RX8 idx yX8_multiplyAll cX8_multiplyAll 5 none (Cond.code yX8_multiplyAll cX8_multiplyAll 5 none :: TB) (rmN 2) 0 0 3 := cwV 3 hts (TB_V hl tw_694 tw_695 tw_2 tw_696) rfl rfl rfl (by decide +kernel) hR
