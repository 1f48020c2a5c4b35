set_option maxHeartbeats 4000000 in
set_option maxRecDepth 100000 in
/-- isUnit -/
theorem c_X8_isUnit (l : Launch) (D : va_G) (cy : Nat → ClassId) (sz : Nat) (cs : List Nat) (ad : Nat → Nat) (en : Nat → va_E) (hm1 : 1 ∈ cs) (cnt d mm : Nat) (hcnt : cnt ≤ 6) (hd2 : 2 ≤ d) (hd3 : d ≤ 3) (hmm : mm ≤ 97) (q : Nat) (hq : q ∈ cs) (fa : Nat → Int64) (e1 : en 1 = .inr (7, [.ref (ad 2), .ref (ad 3), .ref (ad 10), .ref (ad 11), .int (nI cnt), .int (nI d), .int (nI mm)])) (eq : en q = .inl (cy 1, 9, .inr (.inl fa)))  : Met l yX8_isUnit (Cond.code yX8_isUnit cX8_isUnit 4 (some .boolean) :: TB) (rmN 0) (va_Pc [.ref (ad 1), .ref (ad q)] (Pre D cy cs ad en sz)) (va_Qi (S := Unit) (fun r _ => r = 0 ∨ r = 1) (fun _ _ => True) (Nf sz)) 0 0 (Nf sz) := by
  refine Met.ofW (cc := cX8_isUnit) (maxL := 4) (ret := (some .boolean)) (by decide) rfl ?_
  intro p e s m args below meth c s₁ B hml hv
  obtain ⟨rfl, hsz, hP, hK, hD0⟩ := hv
  have hx := B.exec
  have hb := B.bytes
  have hr := B.returns
  have hts : ∀ w ∈ TB, w.before _ s = true := fun w h => atoms_spec (ws := _ :: TB) B.pre w (List.mem_cons_of_mem _ h)
  have hown : s.vm.findClass RX8 = some m.cls := findClass_of_methodNamed B.named
  have hlocks := B.notSynchronized
  have hh : Hp D (Nf sz) (fun _ => True) s.heap s.heap [] cs ad en := ⟨hP, hD0, va_S.rf⟩
  have hA : ∀ q : Nat, s.heap.size ≤ q → Nf sz q := fun q h => by rw [hsz] at h; exact h
  have hl := lv_entry ([.ref (ad 1), .ref (ad q)]) (n := 4) (Nat.le_of_ble_eq_true rfl)
  rw [lg_entry_eq]
  generalize (lg_sl ([.ref (ad 1), .ref (ad q)]) ++ List.replicate (4 - (lg_sl ([.ref (ad 1), .ref (ad q)])).length) Slot.unset).toArray = ls at hl ⊢
  have hl : lv_has ls 4 [(0, .ref (ad 1)), (1, .ref (ad q))] := hl
  refine lv_iconst (v := 0) hx hb dX8_isUnit_0 (by decide) ?_
  refine lv_istore_n (lv' := [(2, .int 0), (0, .ref (ad 1)), (1, .ref (ad q))]) hx hb dX8_isUnit_1 rfl hl (by decide) rfl (fun ls hl => ?_)
  have loop_40 : ∀ (fu j40 : Nat)   (ls : Array Slot) (H : Heap) (locs : List Loc), 0 ≤ j40 → j40 ≤ d → d < j40 + fu →  lv_has ls 4 [(2, .int (nI j40)), (0, .ref (ad 1)), (1, .ref (ad q))] → Hp D (Nf sz) (fun _ => True) s.heap H locs cs ad en → W p l e (headSpec (Cond.code yX8_isUnit cX8_isUnit 4 (some .boolean) :: TB) (rmN 0)).room s m ([.ref (ad 1), .ref (ad q)] : List Value).toArray below meth c H locs 0 0 (MQ below (va_Qi (S := Unit) (fun r _ => r = 0 ∨ r = 1) (fun _ _ => True) (Nf sz)) ([.ref (ad 1), .ref (ad q)] : List Value).toArray s 0 0 (Nf sz)) (F0 m 2 ls []) := by
    intro fu
    induction fu with
    | zero => intro j40  ls H locs h0 h1 h2; exact absurd h2 (by omega)
    | succ fu ih_40 =>
      intro j40  ls H locs hj0_40 hj_40 hfu_40  hl hh
      refine lv_iload_n hx hb dX8_isUnit_2 rfl (lv_at hl 0 rfl) ?_
      refine lv_aload_n hx hb dX8_isUnit_3 rfl (lv_at hl 1 rfl) ?_
      refine hp_get hx hb hts ix8 hown hK hh (q := 1) rfl hm1 e1 rfl 5 (by decide) (hts _ tw_44) (fun _ h9 => h9) rfl dX8_isUnit_4 ?_
      refine lv_icmp_ge (tgt := 59) hx hb dX8_isUnit_7 (by decide) (fun c_41 => ?_) (fun c_41 => ?_)
      · have n_41 : d ≤ j40 := n_le (a := d) (b := j40) c_41 (by omega) (by omega)
        refine lv_iconst (v := 1) hx hb dX8_isUnit_59 (by decide) ?_
        exact hp_iretR hx hb hr rfl hlocks hsz hh (Or.inr rfl) dX8_isUnit_60
      · have n_41 : j40 < d := n_nle (a := d) (b := j40) c_41 (by omega) (by omega)
        refine lv_iconst (v := 0) hx hb dX8_isUnit_10 (by decide) ?_
        refine lv_istore_n (lv' := [(3, .int 0), (2, .int (nI j40)), (0, .ref (ad 1)), (1, .ref (ad q))]) hx hb dX8_isUnit_11 rfl hl (by decide) rfl (fun ls hl => ?_)
        have loop_42 : ∀ (fu j42 : Nat)   (ls : Array Slot) (H : Heap) (locs : List Loc), 0 ≤ j42 → j42 ≤ d → d < j42 + fu →  lv_has ls 4 [(3, .int (nI j42)), (2, .int (nI j40)), (0, .ref (ad 1)), (1, .ref (ad q))] → Hp D (Nf sz) (fun _ => True) s.heap H locs cs ad en → W p l e (headSpec (Cond.code yX8_isUnit cX8_isUnit 4 (some .boolean) :: TB) (rmN 0)).room s m ([.ref (ad 1), .ref (ad q)] : List Value).toArray below meth c H locs 0 0 (MQ below (va_Qi (S := Unit) (fun r _ => r = 0 ∨ r = 1) (fun _ _ => True) (Nf sz)) ([.ref (ad 1), .ref (ad q)] : List Value).toArray s 0 0 (Nf sz)) (F0 m 12 ls []) := by
          intro fu
          induction fu with
          | zero => intro j42  ls H locs h0 h1 h2; exact absurd h2 (by omega)
          | succ fu ih_42 =>
            intro j42  ls H locs hj0_42 hj_42 hfu_42  hl hh
            refine lv_iload_n hx hb dX8_isUnit_12 rfl (lv_at hl 0 rfl) ?_
            refine lv_aload_n hx hb dX8_isUnit_13 rfl (lv_at hl 2 rfl) ?_
            refine hp_get hx hb hts ix8 hown hK hh (q := 1) rfl hm1 e1 rfl 5 (by decide) (hts _ tw_44) (fun _ h9 => h9) rfl dX8_isUnit_14 ?_
            refine lv_icmp_ge (tgt := 53) hx hb dX8_isUnit_17 (by decide) (fun c_43 => ?_) (fun c_43 => ?_)
            · have n_43 : d ≤ j42 := n_le (a := d) (b := j42) c_43 (by omega) (by omega)
              refine lv_iinc (v := (nI (j40 + 1))) (lv' := [(2, .int (nI (j40 + 1))), (3, .int (nI j42)), (0, .ref (ad 1)), (1, .ref (ad q))]) hx hb dX8_isUnit_53 hl (k := 1) rfl (nI_1 _) (by decide) rfl (fun ls hl => ?_)
              refine lv_goto (tgt := 2) hx hb dX8_isUnit_56 (by decide) ?_
              exact ih_40 ((j40 + 1))  ls H locs (by omega) (by omega) (by omega)  (lv_sub hl [0, 2, 3] rfl) hh
            · have n_43 : j42 < d := n_nle (a := d) (b := j42) c_43 (by omega) (by omega)
              refine lv_aload_n hx hb dX8_isUnit_20 rfl (lv_at hl 3 rfl) ?_
              refine lv_iload_n hx hb dX8_isUnit_21 rfl (lv_at hl 1 rfl) ?_
              refine lv_aload_n hx hb dX8_isUnit_22 rfl (lv_at hl 2 rfl) ?_
              refine hp_get hx hb hts ix8 hown hK hh (q := 1) rfl hm1 e1 rfl 5 (by decide) (hts _ tw_44) (fun _ h9 => h9) rfl dX8_isUnit_23 ?_
              refine lv_imul hx hb dX8_isUnit_26 ?_
              rw [pk_mul j40 d]
              refine lv_iload_n hx hb dX8_isUnit_27 rfl (lv_at hl 0 rfl) ?_
              refine lv_iadd hx hb dX8_isUnit_28 ?_
              rw [nI_add (j40 * d) j42]
              have hi_44 : ((j40 * d) + j42) < 9 := md3 (by omega) (by omega) hd3
              refine hp_lald hx hb hK hh (q := q) rfl hq eq (vp_in_nI (n := ((j40 * d) + j42)) (by omega) (by decide)) dX8_isUnit_29 ?_
              rw [nI_clamp (n := ((j40 * d) + j42)) (by omega)]
              refine lv_iload_n hx hb dX8_isUnit_30 rfl (lv_at hl 1 rfl) ?_
              refine lv_iload_n hx hb dX8_isUnit_31 rfl (lv_at hl 0 rfl) ?_
              refine lv_icmp_ne (tgt := 39) hx hb dX8_isUnit_32 (by decide) (fun c_45 => ?_) (fun c_45 => ?_)
              · have n_45 : j40 ≠ j42 := n_neq (a := j40) (b := j42) c_45 (by omega) (by omega)
                refine lv_iconst (v := 0) hx hb dX8_isUnit_39 (by decide) ?_
                refine lv_i2l (v := 0) hx hb dX8_isUnit_40 (by decide) ?_
                refine W.lcmp hx hb dX8_isUnit_41 ?_
                refine lv_if_eq (tgt := 47) hx hb dX8_isUnit_42 (by decide) (fun c_46 => ?_) (fun c_46 => ?_)
                · refine lv_iinc (v := (nI (j42 + 1))) (lv' := [(3, .int (nI (j42 + 1))), (2, .int (nI j40)), (0, .ref (ad 1)), (1, .ref (ad q))]) hx hb dX8_isUnit_47 hl (k := 0) rfl (nI_1 _) (by decide) rfl (fun ls hl => ?_)
                  refine lv_goto (tgt := 12) hx hb dX8_isUnit_50 (by decide) ?_
                  exact ih_42 ((j42 + 1))  ls H locs (by omega) (by omega) (by omega)  (lv_sub hl [0, 1, 2, 3] rfl) hh
                · refine lv_iconst (v := 0) hx hb dX8_isUnit_45 (by decide) ?_
                  exact hp_iretR hx hb hr rfl hlocks hsz hh (Or.inl rfl) dX8_isUnit_46
              · have n_45 : j40 = j42 := n_eq (a := j40) (b := j42) c_45 (by omega) (by omega)
                refine lv_iconst (v := 1) hx hb dX8_isUnit_35 (by decide) ?_
                refine lv_goto (tgt := 40) hx hb dX8_isUnit_36 (by decide) ?_
                refine lv_i2l (v := 1) hx hb dX8_isUnit_40 (by decide) ?_
                refine W.lcmp hx hb dX8_isUnit_41 ?_
                refine lv_if_eq (tgt := 47) hx hb dX8_isUnit_42 (by decide) (fun c_47 => ?_) (fun c_47 => ?_)
                · refine lv_iinc (v := (nI (j42 + 1))) (lv' := [(3, .int (nI (j42 + 1))), (2, .int (nI j40)), (0, .ref (ad 1)), (1, .ref (ad q))]) hx hb dX8_isUnit_47 hl (k := 0) rfl (nI_1 _) (by decide) rfl (fun ls hl => ?_)
                  refine lv_goto (tgt := 12) hx hb dX8_isUnit_50 (by decide) ?_
                  exact ih_42 ((j42 + 1))  ls H locs (by omega) (by omega) (by omega)  (lv_sub hl [0, 1, 2, 3] rfl) hh
                · refine lv_iconst (v := 0) hx hb dX8_isUnit_45 (by decide) ?_
                  exact hp_iretR hx hb hr rfl hlocks hsz hh (Or.inl rfl) dX8_isUnit_46
        exact loop_42 (d + 1) 0  ls _ _ (Nat.le_refl _) (by omega) (by omega)  (lv_sub hl [0, 1, 2, 3] rfl) hh
  exact loop_40 (d + 1) 0  ls _ _ (Nat.le_refl _) (by omega) (by omega)  (lv_sub hl [0, 1, 2] rfl) hh
theorem kw_X8_isUnit {R : Room} {s : State} {args : Array Value} {own : String} {idx : Nat} (hts : ∀ w ∈ TB, w.before args s = true) (hl : Cond.methodLink own idx yX8_isUnit ∈ TB) (hR : 0 + 1 ≤ R.frames ∧ 8 + (4 + 11) + 40 * 0 ≤ R.locals) : CallW R s args own RX8 idx yX8_isUnit cX8_isUnit 4 (some .boolean) (Cond.code yX8_isUnit cX8_isUnit 4 (some .boolean) :: TB) (rmN 0) 0 0 1 := cwV 1 hts (TB_V hl tw_636 tw_637 tw_2 tw_638) rfl rfl rfl (by decide +kernel) hR
set_option maxHeartbeats 4000000 in
set_option maxRecDepth 100000 in
/-- isAllowed -/
theorem c_X8_isAllowed (l : Launch) (D : va_G) (cy : Nat → ClassId) (sz : Nat) (cs : List Nat) (ad : Nat → Nat) (en : Nat → va_E) (hm1 : 1 ∈ cs) (cnt d mm : Nat) (hcnt : cnt ≤ 6) (hd2 : 2 ≤ d) (hd3 : d ≤ 3) (hmm : mm ≤ 97) (hm10 : 10 ∈ cs) (f10 : Nat → Int32) (hb10 : ∀ i, i < 36 → (f10 i = 0 ∨ f10 i = 1)) (q NL n : Nat) (hq : q ∈ cs) (hNL : NL < 2 ^ 31) (f0 : Nat → Int32) (hvl : ∀ i, i < NL → ∃ v, v < 6 ∧ f0 i = nI v) (h1 : 1 ≤ n) (h2 : n ≤ NL) (e1 : en 1 = .inr (7, [.ref (ad 2), .ref (ad 3), .ref (ad 10), .ref (ad 11), .int (nI cnt), .int (nI d), .int (nI mm)])) (e10 : en 10 = .inl (cy 2, 36, .inl f10)) (eq : en q = .inl (cy 0, NL, .inl f0))  : Met l yX8_isAllowed (Cond.code yX8_isAllowed cX8_isAllowed 4 (some .boolean) :: TB) (rmN 1) (va_Pc [.ref (ad 1), .ref (ad q), .int (nI n)] (Pre D cy cs ad en sz)) (va_Qi (S := Unit) (fun r _ => bI r (alP f10 f0 n)) (fun _ _ => True) (Nf sz)) 0 0 (Nf sz) := by
  refine Met.ofW (cc := cX8_isAllowed) (maxL := 4) (ret := (some .boolean)) (by decide) rfl ?_
  intro p e s m args below meth c s₁ B hml hv
  obtain ⟨rfl, hsz, hP, hK, hD0⟩ := hv
  have hx := B.exec
  have hb := B.bytes
  have hr := B.returns
  have hts : ∀ w ∈ TB, w.before _ s = true := fun w h => atoms_spec (ws := _ :: TB) B.pre w (List.mem_cons_of_mem _ h)
  have hown : s.vm.findClass RX8 = some m.cls := findClass_of_methodNamed B.named
  have hlocks := B.notSynchronized
  have hh : Hp D (Nf sz) (fun _ => True) s.heap s.heap [] cs ad en := ⟨hP, hD0, va_S.rf⟩
  have hA : ∀ q : Nat, s.heap.size ≤ q → Nf sz q := fun q h => by rw [hsz] at h; exact h
  have hl := lv_entry ([.ref (ad 1), .ref (ad q), .int (nI n)]) (n := 4) (Nat.le_of_ble_eq_true rfl)
  rw [lg_entry_eq]
  generalize (lg_sl ([.ref (ad 1), .ref (ad q), .int (nI n)]) ++ List.replicate (4 - (lg_sl ([.ref (ad 1), .ref (ad q), .int (nI n)])).length) Slot.unset).toArray = ls at hl ⊢
  have hl : lv_has ls 4 [(0, .ref (ad 1)), (1, .ref (ad q)), (2, .int (nI n))] := hl
  refine lv_iconst (v := 1) hx hb dX8_isAllowed_0 (by decide) ?_
  refine lv_istore_n (lv' := [(3, .int 1), (0, .ref (ad 1)), (1, .ref (ad q)), (2, .int (nI n))]) hx hb dX8_isAllowed_1 rfl hl (by decide) rfl (fun ls hl => ?_)
  have loop_48 : ∀ (fu j48 : Nat)   (ls : Array Slot) (H : Heap) (locs : List Loc), 1 ≤ j48 → j48 ≤ n → n < j48 + fu → (∀ i, 1 ≤ i → i < j48 → f10 ((f0 (i - 1)).toNatClampNeg * 6 + (f0 i).toNatClampNeg) = 1) → lv_has ls 4 [(3, .int (nI j48)), (0, .ref (ad 1)), (1, .ref (ad q)), (2, .int (nI n))] → Hp D (Nf sz) (fun _ => True) s.heap H locs cs ad en → W p l e (headSpec (Cond.code yX8_isAllowed cX8_isAllowed 4 (some .boolean) :: TB) (rmN 1)).room s m ([.ref (ad 1), .ref (ad q), .int (nI n)] : List Value).toArray below meth c H locs 0 0 (MQ below (va_Qi (S := Unit) (fun r _ => bI r (alP f10 f0 n)) (fun _ _ => True) (Nf sz)) ([.ref (ad 1), .ref (ad q), .int (nI n)] : List Value).toArray s 0 0 (Nf sz)) (F0 m 2 ls []) := by
    intro fu
    induction fu with
    | zero => intro j48  ls H locs h0 h1 h2; exact absurd h2 (by omega)
    | succ fu ih_48 =>
      intro j48  ls H locs hj0_48 hj_48 hfu_48 i0_48 hl hh
      refine lv_iload_n hx hb dX8_isAllowed_2 rfl (lv_at hl 0 rfl) ?_
      refine lv_iload_n hx hb dX8_isAllowed_3 rfl (lv_at hl 3 rfl) ?_
      refine lv_icmp_ge (tgt := 30) hx hb dX8_isAllowed_4 (by decide) (fun c_49 => ?_) (fun c_49 => ?_)
      · have n_49 : n ≤ j48 := n_le (a := n) (b := j48) c_49 (by omega) (by omega)
        refine lv_iconst (v := 1) hx hb dX8_isAllowed_30 (by decide) ?_
        exact hp_iretR hx hb hr rfl hlocks hsz hh (Or.inl ⟨rfl, fun i h1 h2 => i0_48 i h1 (by omega)⟩) dX8_isAllowed_31
      · have n_49 : j48 < n := n_nle (a := n) (b := j48) c_49 (by omega) (by omega)
        refine lv_aload_n hx hb dX8_isAllowed_7 rfl (lv_at hl 1 rfl) ?_
        refine lv_aload_n hx hb dX8_isAllowed_8 rfl (lv_at hl 2 rfl) ?_
        refine lv_iload_n hx hb dX8_isAllowed_9 rfl (lv_at hl 0 rfl) ?_
        refine lv_iconst (v := 1) hx hb dX8_isAllowed_10 (by decide) ?_
        refine lv_isub hx hb dX8_isAllowed_11 ?_
        rw [show (1 : Int32) = nI 1 from rfl, pk_sub (a := j48) (b := 1) (by omega)]
        refine hp_iald hx hb hK hh (q := q) rfl hq eq (vp_in_nI (n := (j48 - 1)) (by omega) (by omega)) dX8_isAllowed_12 ?_
        rw [nI_clamp (n := (j48 - 1)) (by omega)]
        obtain ⟨v_50, hv_50, hfv_50⟩ := hvl (j48 - 1) (by omega)
        rw [hfv_50]
        refine lv_aload_n hx hb dX8_isAllowed_13 rfl (lv_at hl 2 rfl) ?_
        refine lv_iload_n hx hb dX8_isAllowed_14 rfl (lv_at hl 0 rfl) ?_
        refine hp_iald hx hb hK hh (q := q) rfl hq eq (vp_in_nI (n := j48) (by omega) (by omega)) dX8_isAllowed_15 ?_
        rw [nI_clamp (n := j48) (by omega)]
        obtain ⟨v_51, hv_51, hfv_51⟩ := hvl j48 (by omega)
        rw [hfv_51]
        refine hp_callRi (va_runV (As := [.int (nI v_50), .int (nI v_51)]) (rest := []) ⟨hx, hb, hml, hown, hts⟩ (c_X8_mayFollow l D cy _ cs ad en hm1 cnt d mm hcnt hd2 hd3 hmm hm10 f10 hb10 v_50 v_51 (by omega) (by omega) e1 e10) (kw_X8_mayFollow hts tw_503 ⟨by decide, by decide⟩) (preV_of hh hK hm1 e1 rfl) rfl rfl hl.1 rfl (lv_room (Nat.le_of_ble_eq_true rfl)) dX8_isAllowed_16 ⟨Nat.le_of_ble_eq_true rfl, Nat.le_of_ble_eq_true rfl⟩) hh hA (fun r_52 H locs hw_52 hh => ?_)
        rcases hb10 (v_50 * 6 + v_51) (a6 (by omega) (by omega)) with hz_52 | hz_52
        · obtain rfl : r_52 = 0 := Eq.trans hw_52 hz_52
          refine lv_if_ne (tgt := 24) hx hb dX8_isAllowed_19 (by decide) (fun c_0 => absurd c_0 (by decide)) (fun _ => ?_)
          refine lv_iconst (v := 0) hx hb dX8_isAllowed_22 (by decide) ?_
          exact hp_iretR hx hb hr rfl hlocks hsz hh (Or.inr ⟨rfl, fun q => by have h9 := q j48 (by omega) (by omega); rw [hfv_50, hfv_51, nI_clamp (n := v_50) (by omega), nI_clamp (n := v_51) (by omega), hz_52] at h9; exact absurd h9 (by decide)⟩) dX8_isAllowed_23
        · obtain rfl : r_52 = 1 := Eq.trans hw_52 hz_52
          refine lv_if_ne (tgt := 24) hx hb dX8_isAllowed_19 (by decide) (fun _ => ?_) (fun c_0 => absurd c_0 (by decide))
          refine lv_iinc (v := (nI (j48 + 1))) (lv' := [(3, .int (nI (j48 + 1))), (0, .ref (ad 1)), (1, .ref (ad q)), (2, .int (nI n))]) hx hb dX8_isAllowed_24 hl (k := 0) rfl (nI_1 _) (by decide) rfl (fun ls hl => ?_)
          refine lv_goto (tgt := 2) hx hb dX8_isAllowed_27 (by decide) ?_
          exact ih_48 ((j48 + 1))  ls H locs (by omega) (by omega) (by omega) (fun i h1 h2 => (Nat.lt_or_ge i j48).elim (fun h => i0_48 i h1 h) (fun h => by have e : i = j48 := (by omega); rw [e]; exact (by rw [hfv_50, hfv_51, nI_clamp (n := v_50) (by omega), nI_clamp (n := v_51) (by omega)]; exact hz_52))) (lv_sub hl [0, 1, 2, 3] rfl) hh
  exact loop_48 (n + 1) 1  ls _ _ (Nat.le_refl _) (by omega) (by omega) (fun i h1 h2 => absurd h2 (by omega)) (lv_sub hl [0, 1, 2, 3] rfl) hh
theorem kw_X8_isAllowed {R : Room} {s : State} {args : Array Value} {own : String} {idx : Nat} (hts : ∀ w ∈ TB, w.before args s = true) (hl : Cond.methodLink own idx yX8_isAllowed ∈ TB) (hR : 1 + 1 ≤ R.frames ∧ 8 + (4 + 11) + 40 * 1 ≤ R.locals) : CallW R s args own RX8 idx yX8_isAllowed cX8_isAllowed 4 (some .boolean) (Cond.code yX8_isAllowed cX8_isAllowed 4 (some .boolean) :: TB) (rmN 1) 0 0 2 := cwV 2 hts (TB_V hl tw_721 tw_722 tw_2 tw_723) rfl rfl rfl (by decide +kernel) hR
set_option maxHeartbeats 4000000 in
set_option maxRecDepth 100000 in
/-- isTurnable -/
theorem c_X8_isTurnable (l : Launch) (D : va_G) (cy : Nat → ClassId) (sz : Nat) (cs : List Nat) (ad : Nat → Nat) (en : Nat → va_E) (hm1 : 1 ∈ cs) (cnt d mm : Nat) (hcnt : cnt ≤ 6) (hd2 : 2 ≤ d) (hd3 : d ≤ 3) (hmm : mm ≤ 97) (hm10 : 10 ∈ cs) (f10 : Nat → Int32) (hb10 : ∀ i, i < 36 → (f10 i = 0 ∨ f10 i = 1)) (q NL n : Nat) (hq : q ∈ cs) (hNL : NL < 2 ^ 31) (f0 : Nat → Int32) (hvl : ∀ i, i < NL → ∃ v, v < 6 ∧ f0 i = nI v) (h1 : 1 ≤ n) (h2 : n ≤ NL) (e1 : en 1 = .inr (7, [.ref (ad 2), .ref (ad 3), .ref (ad 10), .ref (ad 11), .int (nI cnt), .int (nI d), .int (nI mm)])) (e10 : en 10 = .inl (cy 2, 36, .inl f10)) (eq : en q = .inl (cy 0, NL, .inl f0))  : Met l yX8_isTurnable (Cond.code yX8_isTurnable cX8_isTurnable 3 (some .boolean) :: TB) (rmN 1) (va_Pc [.ref (ad 1), .ref (ad q), .int (nI n)] (Pre D cy cs ad en sz)) (va_Qi (S := Unit) (fun r _ => bI r (tuP f10 f0 n)) (fun _ _ => True) (Nf sz)) 0 0 (Nf sz) := by
  refine Met.ofW (cc := cX8_isTurnable) (maxL := 3) (ret := (some .boolean)) (by decide) rfl ?_
  intro p e s m args below meth c s₁ B hml hv
  obtain ⟨rfl, hsz, hP, hK, hD0⟩ := hv
  have hx := B.exec
  have hb := B.bytes
  have hr := B.returns
  have hts : ∀ w ∈ TB, w.before _ s = true := fun w h => atoms_spec (ws := _ :: TB) B.pre w (List.mem_cons_of_mem _ h)
  have hown : s.vm.findClass RX8 = some m.cls := findClass_of_methodNamed B.named
  have hlocks := B.notSynchronized
  have hh : Hp D (Nf sz) (fun _ => True) s.heap s.heap [] cs ad en := ⟨hP, hD0, va_S.rf⟩
  have hA : ∀ q : Nat, s.heap.size ≤ q → Nf sz q := fun q h => by rw [hsz] at h; exact h
  have hl := lv_entry ([.ref (ad 1), .ref (ad q), .int (nI n)]) (n := 3) (Nat.le_of_ble_eq_true rfl)
  rw [lg_entry_eq]
  generalize (lg_sl ([.ref (ad 1), .ref (ad q), .int (nI n)]) ++ List.replicate (3 - (lg_sl ([.ref (ad 1), .ref (ad q), .int (nI n)])).length) Slot.unset).toArray = ls at hl ⊢
  have hl : lv_has ls 3 [(0, .ref (ad 1)), (1, .ref (ad q)), (2, .int (nI n))] := hl
  refine lv_aload_n hx hb dX8_isTurnable_0 rfl (lv_at hl 0 rfl) ?_
  refine lv_aload_n hx hb dX8_isTurnable_1 rfl (lv_at hl 1 rfl) ?_
  refine lv_iload_n hx hb dX8_isTurnable_2 rfl (lv_at hl 2 rfl) ?_
  refine lv_iconst (v := 1) hx hb dX8_isTurnable_3 (by decide) ?_
  refine lv_isub hx hb dX8_isTurnable_4 ?_
  rw [show (1 : Int32) = nI 1 from rfl, pk_sub (a := n) (b := 1) (by omega)]
  refine hp_iald hx hb hK hh (q := q) rfl hq eq (vp_in_nI (n := (n - 1)) (by omega) (by omega)) dX8_isTurnable_5 ?_
  rw [nI_clamp (n := (n - 1)) (by omega)]
  obtain ⟨v_53, hv_53, hfv_53⟩ := hvl (n - 1) (by omega)
  rw [hfv_53]
  refine lv_aload_n hx hb dX8_isTurnable_6 rfl (lv_at hl 1 rfl) ?_
  refine lv_iconst (v := 0) hx hb dX8_isTurnable_7 (by decide) ?_
  rw [show (0 : Int32) = nI 0 from rfl]
  refine hp_iald hx hb hK hh (q := q) rfl hq eq (vp_in_nI (n := 0) (by omega) (by omega)) dX8_isTurnable_8 ?_
  rw [nI_clamp (n := 0) (by decide)]
  obtain ⟨v_54, hv_54, hfv_54⟩ := hvl 0 (by omega)
  rw [hfv_54]
  refine hp_callRi (va_runV (As := [.int (nI v_53), .int (nI v_54)]) (rest := []) ⟨hx, hb, hml, hown, hts⟩ (c_X8_mayFollow l D cy _ cs ad en hm1 cnt d mm hcnt hd2 hd3 hmm hm10 f10 hb10 v_53 v_54 (by omega) (by omega) e1 e10) (kw_X8_mayFollow hts tw_503 ⟨by decide, by decide⟩) (preV_of hh hK hm1 e1 rfl) rfl rfl hl.1 rfl (lv_room (Nat.le_of_ble_eq_true rfl)) dX8_isTurnable_9 ⟨Nat.le_of_ble_eq_true rfl, Nat.le_of_ble_eq_true rfl⟩) hh hA (fun r_55 H locs hw_55 hh => ?_)
  rcases hb10 (v_53 * 6 + v_54) (a6 (by omega) (by omega)) with hz_55 | hz_55
  · obtain rfl : r_55 = 0 := Eq.trans hw_55 hz_55
    exact hp_iretR hx hb hr rfl hlocks hsz hh (Or.inr ⟨rfl, fun q => by unfold tuP at q; rw [hfv_53, hfv_54, nI_clamp (n := v_53) (by omega), nI_clamp (n := v_54) (by omega), hz_55] at q; exact absurd q (by decide)⟩) dX8_isTurnable_12
  · obtain rfl : r_55 = 1 := Eq.trans hw_55 hz_55
    exact hp_iretR hx hb hr rfl hlocks hsz hh (Or.inl ⟨rfl, by unfold tuP; rw [hfv_53, hfv_54, nI_clamp (n := v_53) (by omega), nI_clamp (n := v_54) (by omega)]; exact hz_55⟩) dX8_isTurnable_12
theorem kw_X8_isTurnable {R : Room} {s : State} {args : Array Value} {own : String} {idx : Nat} (hts : ∀ w ∈ TB, w.before args s = true) (hl : Cond.methodLink own idx yX8_isTurnable ∈ TB) (hR : 1 + 1 ≤ R.frames ∧ 8 + (3 + 11) + 40 * 1 ≤ R.locals) : CallW R s args own RX8 idx yX8_isTurnable cX8_isTurnable 3 (some .boolean) (Cond.code yX8_isTurnable cX8_isTurnable 3 (some .boolean) :: TB) (rmN 1) 0 0 2 := cwV 2 hts (TB_V hl tw_500 tw_501 tw_2 tw_502) rfl rfl rfl (by decide +kernel) hR
set_option maxHeartbeats 4000000 in
set_option maxRecDepth 100000 in
/-- has -/
theorem c_X8_has (l : Launch) (D : va_G) (cy : Nat → ClassId) (sz : Nat) (cs : List Nat) (ad : Nat → Nat) (en : Nat → va_E) (hm1 : 1 ∈ cs) (cnt d mm : Nat) (hcnt : cnt ≤ 6) (hd2 : 2 ≤ d) (hd3 : d ≤ 3) (hmm : mm ≤ 97) (t : Int32) (e1 : en 1 = .inr (7, [.ref (ad 2), .ref (ad 3), .ref (ad 10), .ref (ad 11), .int (nI cnt), .int (nI d), .int (nI mm)]))  : Met l yX8_has (Cond.code yX8_has cX8_has 2 (some .boolean) :: TB) (rmN 0) (va_Pc [.ref (ad 1), .int t] (Pre D cy cs ad en sz)) (va_Qi (S := Unit) (fun r _ => r = if (0 ≤ t.toInt ∧ t.toInt < (cnt : Int)) then 1 else 0) (fun _ _ => True) (Nf sz)) 0 0 (Nf sz) := by
  refine Met.ofW (cc := cX8_has) (maxL := 2) (ret := (some .boolean)) (by decide) rfl ?_
  intro p e s m args below meth c s₁ B hml hv
  obtain ⟨rfl, hsz, hP, hK, hD0⟩ := hv
  have hx := B.exec
  have hb := B.bytes
  have hr := B.returns
  have hts : ∀ w ∈ TB, w.before _ s = true := fun w h => atoms_spec (ws := _ :: TB) B.pre w (List.mem_cons_of_mem _ h)
  have hown : s.vm.findClass RX8 = some m.cls := findClass_of_methodNamed B.named
  have hlocks := B.notSynchronized
  have hh : Hp D (Nf sz) (fun _ => True) s.heap s.heap [] cs ad en := ⟨hP, hD0, va_S.rf⟩
  have hA : ∀ q : Nat, s.heap.size ≤ q → Nf sz q := fun q h => by rw [hsz] at h; exact h
  have hl := lv_entry ([.ref (ad 1), .int t]) (n := 2) (Nat.le_of_ble_eq_true rfl)
  rw [lg_entry_eq]
  generalize (lg_sl ([.ref (ad 1), .int t]) ++ List.replicate (2 - (lg_sl ([.ref (ad 1), .int t])).length) Slot.unset).toArray = ls at hl ⊢
  have hl : lv_has ls 2 [(0, .ref (ad 1)), (1, .int t)] := hl
  refine lv_iload_n hx hb dX8_has_0 rfl (lv_at hl 1 rfl) ?_
  refine lv_if_lt (tgt := 16) hx hb dX8_has_1 (by decide) (fun c_56 => ?_) (fun c_56 => ?_)
  · refine lv_iconst (v := 0) hx hb dX8_has_16 (by decide) ?_
    have : (0 : Int32).toInt = 0 := by decide
    have := i_lt c_56
    have hcT : (nI cnt).toInt = (cnt : Int) := nI_toInt (by omega)
    have hdT : (nI d).toInt = (d : Int) := nI_toInt (by omega)
    exact hp_iretR hx hb hr rfl hlocks hsz hh ((if_neg (by omega)).symm) dX8_has_17
  · refine lv_iload_n hx hb dX8_has_4 rfl (lv_at hl 1 rfl) ?_
    refine lv_aload_n hx hb dX8_has_5 rfl (lv_at hl 0 rfl) ?_
    refine hp_get hx hb hts ix8 hown hK hh (q := 1) rfl hm1 e1 rfl 4 (by decide) (hts _ tw_43) (fun _ h9 => h9) rfl dX8_has_6 ?_
    refine lv_icmp_ge (tgt := 16) hx hb dX8_has_9 (by decide) (fun c_57 => ?_) (fun c_57 => ?_)
    · refine lv_iconst (v := 0) hx hb dX8_has_16 (by decide) ?_
      have : (0 : Int32).toInt = 0 := by decide
      have := i_nlt c_56
      have := i_le c_57
      have hcT : (nI cnt).toInt = (cnt : Int) := nI_toInt (by omega)
      have hdT : (nI d).toInt = (d : Int) := nI_toInt (by omega)
      exact hp_iretR hx hb hr rfl hlocks hsz hh ((if_neg (by omega)).symm) dX8_has_17
    · refine lv_iconst (v := 1) hx hb dX8_has_12 (by decide) ?_
      refine lv_goto (tgt := 17) hx hb dX8_has_13 (by decide) ?_
      have : (0 : Int32).toInt = 0 := by decide
      have := i_nlt c_56
      have := i_nle c_57
      have hcT : (nI cnt).toInt = (cnt : Int) := nI_toInt (by omega)
      have hdT : (nI d).toInt = (d : Int) := nI_toInt (by omega)
      exact hp_iretR hx hb hr rfl hlocks hsz hh ((if_pos (by omega)).symm) dX8_has_17
theorem kw_X8_has {R : Room} {s : State} {args : Array Value} {own : String} {idx : Nat} (hts : ∀ w ∈ TB, w.before args s = true) (hl : Cond.methodLink own idx yX8_has ∈ TB) (hR : 0 + 1 ≤ R.frames ∧ 8 + (2 + 11) + 40 * 0 ≤ R.locals) : CallW R s args own RX8 idx yX8_has cX8_has 2 (some .boolean) (Cond.code yX8_has cX8_has 2 (some .boolean) :: TB) (rmN 0) 0 0 1 := cwV 1 hts (TB_V hl tw_413 tw_414 tw_2 tw_415) rfl rfl rfl (by decide +kernel) hR
set_option maxHeartbeats 4000000 in
set_option maxRecDepth 100000 in
/-- isPlace -/
theorem c_X8_isPlace (l : Launch) (D : va_G) (cy : Nat → ClassId) (sz : Nat) (cs : List Nat) (ad : Nat → Nat) (en : Nat → va_E) (hm1 : 1 ∈ cs) (cnt d mm : Nat) (hcnt : cnt ≤ 6) (hd2 : 2 ≤ d) (hd3 : d ≤ 3) (hmm : mm ≤ 97) (a b : Int32) (e1 : en 1 = .inr (7, [.ref (ad 2), .ref (ad 3), .ref (ad 10), .ref (ad 11), .int (nI cnt), .int (nI d), .int (nI mm)]))  : Met l yX8_isPlace (Cond.code yX8_isPlace cX8_isPlace 3 (some .boolean) :: TB) (rmN 0) (va_Pc [.ref (ad 1), .int a, .int b] (Pre D cy cs ad en sz)) (va_Qi (S := Unit) (fun r _ => r = if ((0 ≤ a.toInt ∧ a.toInt < (d : Int)) ∧ 0 ≤ b.toInt ∧ b.toInt < (d : Int)) then 1 else 0) (fun _ _ => True) (Nf sz)) 0 0 (Nf sz) := by
  refine Met.ofW (cc := cX8_isPlace) (maxL := 3) (ret := (some .boolean)) (by decide) rfl ?_
  intro p e s m args below meth c s₁ B hml hv
  obtain ⟨rfl, hsz, hP, hK, hD0⟩ := hv
  have hx := B.exec
  have hb := B.bytes
  have hr := B.returns
  have hts : ∀ w ∈ TB, w.before _ s = true := fun w h => atoms_spec (ws := _ :: TB) B.pre w (List.mem_cons_of_mem _ h)
  have hown : s.vm.findClass RX8 = some m.cls := findClass_of_methodNamed B.named
  have hlocks := B.notSynchronized
  have hh : Hp D (Nf sz) (fun _ => True) s.heap s.heap [] cs ad en := ⟨hP, hD0, va_S.rf⟩
  have hA : ∀ q : Nat, s.heap.size ≤ q → Nf sz q := fun q h => by rw [hsz] at h; exact h
  have hl := lv_entry ([.ref (ad 1), .int a, .int b]) (n := 3) (Nat.le_of_ble_eq_true rfl)
  rw [lg_entry_eq]
  generalize (lg_sl ([.ref (ad 1), .int a, .int b]) ++ List.replicate (3 - (lg_sl ([.ref (ad 1), .int a, .int b])).length) Slot.unset).toArray = ls at hl ⊢
  have hl : lv_has ls 3 [(0, .ref (ad 1)), (1, .int a), (2, .int b)] := hl
  refine lv_iload_n hx hb dX8_isPlace_0 rfl (lv_at hl 1 rfl) ?_
  refine lv_if_lt (tgt := 28) hx hb dX8_isPlace_1 (by decide) (fun c_58 => ?_) (fun c_58 => ?_)
  · refine lv_iconst (v := 0) hx hb dX8_isPlace_28 (by decide) ?_
    have : (0 : Int32).toInt = 0 := by decide
    have := i_lt c_58
    have hcT : (nI cnt).toInt = (cnt : Int) := nI_toInt (by omega)
    have hdT : (nI d).toInt = (d : Int) := nI_toInt (by omega)
    exact hp_iretR hx hb hr rfl hlocks hsz hh ((if_neg (by omega)).symm) dX8_isPlace_29
  · refine lv_iload_n hx hb dX8_isPlace_4 rfl (lv_at hl 1 rfl) ?_
    refine lv_aload_n hx hb dX8_isPlace_5 rfl (lv_at hl 0 rfl) ?_
    refine hp_get hx hb hts ix8 hown hK hh (q := 1) rfl hm1 e1 rfl 5 (by decide) (hts _ tw_44) (fun _ h9 => h9) rfl dX8_isPlace_6 ?_
    refine lv_icmp_ge (tgt := 28) hx hb dX8_isPlace_9 (by decide) (fun c_59 => ?_) (fun c_59 => ?_)
    · refine lv_iconst (v := 0) hx hb dX8_isPlace_28 (by decide) ?_
      have : (0 : Int32).toInt = 0 := by decide
      have := i_nlt c_58
      have := i_le c_59
      have hcT : (nI cnt).toInt = (cnt : Int) := nI_toInt (by omega)
      have hdT : (nI d).toInt = (d : Int) := nI_toInt (by omega)
      exact hp_iretR hx hb hr rfl hlocks hsz hh ((if_neg (by omega)).symm) dX8_isPlace_29
    · refine lv_iload_n hx hb dX8_isPlace_12 rfl (lv_at hl 2 rfl) ?_
      refine lv_if_lt (tgt := 28) hx hb dX8_isPlace_13 (by decide) (fun c_60 => ?_) (fun c_60 => ?_)
      · refine lv_iconst (v := 0) hx hb dX8_isPlace_28 (by decide) ?_
        have : (0 : Int32).toInt = 0 := by decide
        have := i_nlt c_58
        have := i_nle c_59
        have := i_lt c_60
        have hcT : (nI cnt).toInt = (cnt : Int) := nI_toInt (by omega)
        have hdT : (nI d).toInt = (d : Int) := nI_toInt (by omega)
        exact hp_iretR hx hb hr rfl hlocks hsz hh ((if_neg (by omega)).symm) dX8_isPlace_29
      · refine lv_iload_n hx hb dX8_isPlace_16 rfl (lv_at hl 2 rfl) ?_
        refine lv_aload_n hx hb dX8_isPlace_17 rfl (lv_at hl 0 rfl) ?_
        refine hp_get hx hb hts ix8 hown hK hh (q := 1) rfl hm1 e1 rfl 5 (by decide) (hts _ tw_44) (fun _ h9 => h9) rfl dX8_isPlace_18 ?_
        refine lv_icmp_ge (tgt := 28) hx hb dX8_isPlace_21 (by decide) (fun c_61 => ?_) (fun c_61 => ?_)
        · refine lv_iconst (v := 0) hx hb dX8_isPlace_28 (by decide) ?_
          have : (0 : Int32).toInt = 0 := by decide
          have := i_nlt c_58
          have := i_nle c_59
          have := i_nlt c_60
          have := i_le c_61
          have hcT : (nI cnt).toInt = (cnt : Int) := nI_toInt (by omega)
          have hdT : (nI d).toInt = (d : Int) := nI_toInt (by omega)
          exact hp_iretR hx hb hr rfl hlocks hsz hh ((if_neg (by omega)).symm) dX8_isPlace_29
        · refine lv_iconst (v := 1) hx hb dX8_isPlace_24 (by decide) ?_
          refine lv_goto (tgt := 29) hx hb dX8_isPlace_25 (by decide) ?_
          have : (0 : Int32).toInt = 0 := by decide
          have := i_nlt c_58
          have := i_nle c_59
          have := i_nlt c_60
          have := i_nle c_61
          have hcT : (nI cnt).toInt = (cnt : Int) := nI_toInt (by omega)
          have hdT : (nI d).toInt = (d : Int) := nI_toInt (by omega)
          exact hp_iretR hx hb hr rfl hlocks hsz hh ((if_pos (by omega)).symm) dX8_isPlace_29
theorem kw_X8_isPlace {R : Room} {s : State} {args : Array Value} {own : String} {idx : Nat} (hts : ∀ w ∈ TB, w.before args s = true) (hl : Cond.methodLink own idx yX8_isPlace ∈ TB) (hR : 0 + 1 ≤ R.frames ∧ 8 + (3 + 11) + 40 * 0 ≤ R.locals) : CallW R s args own RX8 idx yX8_isPlace cX8_isPlace 3 (some .boolean) (Cond.code yX8_isPlace cX8_isPlace 3 (some .boolean) :: TB) (rmN 0) 0 0 2 := cwV 2 hts (TB_V hl tw_417 tw_418 tw_2 tw_419) rfl rfl rfl (by decide +kernel) hR
set_option maxHeartbeats 4000000 in
set_option maxRecDepth 100000 in
/-- tableOf -/
theorem c_X8_tableOf (l : Launch) (D : va_G) (cy : Nat → ClassId) (sz : Nat) (cs : List Nat) (ad : Nat → Nat) (en : Nat → va_E) (hm1 : 1 ∈ cs) (hm2 : 2 ∈ cs) (cnt d mm : Nat) (hcnt : cnt ≤ 6) (hd2 : 2 ≤ d) (hd3 : d ≤ 3) (hmm : mm ≤ 97) (fal : Nat → Option Nat) (a ta : Nat) (ha : a < 6) (hta : fal a = some ta) (e1 : en 1 = .inr (7, [.ref (ad 2), .ref (ad 3), .ref (ad 10), .ref (ad 11), .int (nI cnt), .int (nI d), .int (nI mm)])) (e2 : en 2 = .inl (cy 3, 6, .inr (.inr (.inr (.inr fal)))))  : Met l yX8_tableOf (Cond.code yX8_tableOf cX8_tableOf 2 (some (.object "AnyOrder$Table")) :: TB) (rmN 0) (va_Pc [.ref (ad 1), .int (nI a)] (Pre D cy cs ad en sz)) (va_Qq (S := Unit) (fun r _ => r = some ta) (fun _ _ => True) (Nf sz)) 0 0 (Nf sz) := by
  refine Met.ofW (cc := cX8_tableOf) (maxL := 2) (ret := (some (.object "AnyOrder$Table"))) (by decide) rfl ?_
  intro p e s m args below meth c s₁ B hml hv
  obtain ⟨rfl, hsz, hP, hK, hD0⟩ := hv
  have hx := B.exec
  have hb := B.bytes
  have hr := B.returns
  have hts : ∀ w ∈ TB, w.before _ s = true := fun w h => atoms_spec (ws := _ :: TB) B.pre w (List.mem_cons_of_mem _ h)
  have hown : s.vm.findClass RX8 = some m.cls := findClass_of_methodNamed B.named
  have hlocks := B.notSynchronized
  have hh : Hp D (Nf sz) (fun _ => True) s.heap s.heap [] cs ad en := ⟨hP, hD0, va_S.rf⟩
  have hA : ∀ q : Nat, s.heap.size ≤ q → Nf sz q := fun q h => by rw [hsz] at h; exact h
  have hl := lv_entry ([.ref (ad 1), .int (nI a)]) (n := 2) (Nat.le_of_ble_eq_true rfl)
  rw [lg_entry_eq]
  generalize (lg_sl ([.ref (ad 1), .int (nI a)]) ++ List.replicate (2 - (lg_sl ([.ref (ad 1), .int (nI a)])).length) Slot.unset).toArray = ls at hl ⊢
  have hl : lv_has ls 2 [(0, .ref (ad 1)), (1, .int (nI a))] := hl
  refine lv_aload_n hx hb dX8_tableOf_0 rfl (lv_at hl 0 rfl) ?_
  refine hp_get hx hb hts ix8 hown hK hh (q := 1) rfl hm1 e1 rfl 0 (by decide) (hts _ tw_39) (fun _ h9 => h9) rfl dX8_tableOf_1 ?_
  refine lv_iload_n hx hb dX8_tableOf_4 rfl (lv_at hl 1 rfl) ?_
  refine hp_aald hx hb hK hh (q := 2) rfl hm2 3 e2 rfl rfl (vp_in_nI (n := a) (by omega) (by decide)) (v := .ref ta) (by rw [nI_clamp (n := a) (by omega), hta]; rfl) dX8_tableOf_5 ?_
  exact hp_aretR (v := some ta) rfl hx hb hr (Or.inl ⟨_, rfl⟩) hlocks hsz hh (rfl) dX8_tableOf_6
theorem kw_X8_tableOf {R : Room} {s : State} {args : Array Value} {own : String} {idx : Nat} (hts : ∀ w ∈ TB, w.before args s = true) (hl : Cond.methodLink own idx yX8_tableOf ∈ TB) (hR : 0 + 1 ≤ R.frames ∧ 8 + (2 + 11) + 40 * 0 ≤ R.locals) : CallW R s args own RX8 idx yX8_tableOf cX8_tableOf 2 (some (.object "AnyOrder$Table")) (Cond.code yX8_tableOf cX8_tableOf 2 (some (.object "AnyOrder$Table")) :: TB) (rmN 0) 0 0 1 := cwV 1 hts (TB_V hl tw_422 tw_423 tw_2 tw_424) rfl rfl rfl (by decide +kernel) hR
set_option maxHeartbeats 4000000 in
set_option maxRecDepth 100000 in
/-- allow -/
theorem c_X8_allow (l : Launch) (D : va_G) (cy : Nat → ClassId) (sz : Nat) (cs : List Nat) (ad : Nat → Nat) (en : Nat → va_E) (hm1 : 1 ∈ cs) (cnt d mm : Nat) (hcnt : cnt ≤ 6) (hd2 : 2 ≤ d) (hd3 : d ≤ 3) (hmm : mm ≤ 97) (hm10 : 10 ∈ cs) (f10 : Nat → Int32) (hb10 : ∀ i, i < 36 → (f10 i = 0 ∨ f10 i = 1)) (a b : Nat) (z : Int32) (ha : a < 6) (hb6 : b < 6) (hz : z = 0 ∨ z = 1) (e1 : en 1 = .inr (7, [.ref (ad 2), .ref (ad 3), .ref (ad 10), .ref (ad 11), .int (nI cnt), .int (nI d), .int (nI mm)])) (e10 : en 10 = .inl (cy 2, 36, .inl f10))  : Met l yX8_allow (Cond.code yX8_allow cX8_allow 4 none :: TB) (rmN 0) (va_Pc [.ref (ad 1), .int (nI a), .int (nI b), .int z] (Pre D cy cs ad en sz)) (va_Qv (S := Nat → va_E) (fun en1 => en1 = va_up en 10 (.inl (cy 2, 36, .inl (upd f10 (a * 6 + b) z)))) (PostM D cs ad) (Af cs ad sz)) 0 0 (Af cs ad sz) := by
  refine Met.ofW (cc := cX8_allow) (maxL := 4) (ret := none) (by decide) rfl ?_
  intro p e s m args below meth c s₁ B hml hv
  obtain ⟨rfl, hsz, hP, hK, hD0⟩ := hv
  have hx := B.exec
  have hb := B.bytes
  have hr := B.returns
  have hts : ∀ w ∈ TB, w.before _ s = true := fun w h => atoms_spec (ws := _ :: TB) B.pre w (List.mem_cons_of_mem _ h)
  have hown : s.vm.findClass RX8 = some m.cls := findClass_of_methodNamed B.named
  have hlocks := B.notSynchronized
  have hh : Hp D (Af cs ad sz) (Af cs ad sz) s.heap s.heap [] cs ad en := ⟨hP, Af_self hD0, va_S.rf⟩
  have hA : ∀ q : Nat, s.heap.size ≤ q → Af cs ad sz q := fun q h => Or.inr (by rw [hsz] at h; exact h)
  have hl := lv_entry ([.ref (ad 1), .int (nI a), .int (nI b), .int z]) (n := 4) (Nat.le_of_ble_eq_true rfl)
  rw [lg_entry_eq]
  generalize (lg_sl ([.ref (ad 1), .int (nI a), .int (nI b), .int z]) ++ List.replicate (4 - (lg_sl ([.ref (ad 1), .int (nI a), .int (nI b), .int z])).length) Slot.unset).toArray = ls at hl ⊢
  have hl : lv_has ls 4 [(0, .ref (ad 1)), (1, .int (nI a)), (2, .int (nI b)), (3, .int z)] := hl
  refine lv_aload_n hx hb dX8_allow_0 rfl (lv_at hl 0 rfl) ?_
  refine hp_get hx hb hts ix8 hown hK hh (q := 1) rfl hm1 e1 rfl 2 (by decide) (hts _ tw_41) (fun _ h9 => h9) rfl dX8_allow_1 ?_
  refine lv_iload_n hx hb dX8_allow_4 rfl (lv_at hl 1 rfl) ?_
  refine lv_bipush (v := 6) hx hb dX8_allow_5 (by decide) ?_
  refine lv_imul hx hb dX8_allow_7 ?_
  rw [show (6 : Int32) = nI 6 from rfl, pk_mul a 6]
  refine lv_iload_n hx hb dX8_allow_8 rfl (lv_at hl 2 rfl) ?_
  refine lv_iadd hx hb dX8_allow_9 ?_
  rw [nI_add (a * 6) b]
  refine lv_iload_n hx hb dX8_allow_10 rfl (lv_at hl 3 rfl) ?_
  refine hp_zast hx hb hK hh (q := 10) rfl hm10 e10 (vp_in_nI (n := ((a * 6) + b)) (by omega) (by decide)) dX8_allow_11 (fun H locs en_62 hen_62 hh => ?_)
  rw [nI_clamp (n := ((a * 6) + b)) (by omega)] at hen_62
  have e1_62 : en_62 1 = .inr (7, [.ref (ad 2), .ref (ad 3), .ref (ad 10), .ref (ad 11), .int (nI cnt), .int (nI d), .int (nI mm)]) := by rw [hen_62, va_up_ne _ _ (by decide)]; exact e1
  have e10_62 : en_62 10 = .inl (cy 2, 36, .inl (upd f10 ((a * 6) + b) (vp_nar .boolean z))) := by rw [hen_62]; exact va_up_self _ _ _
  exact hp_vretM hx hb hr hlocks hh (by rw [hen_62, vpn_bit hz]) dX8_allow_12
theorem kw_X8_allow {R : Room} {s : State} {args : Array Value} {own : String} {idx : Nat} (hts : ∀ w ∈ TB, w.before args s = true) (hl : Cond.methodLink own idx yX8_allow ∈ TB) (hR : 0 + 1 ≤ R.frames ∧ 8 + (4 + 11) + 40 * 0 ≤ R.locals) : CallW R s args own RX8 idx yX8_allow cX8_allow 4 none (Cond.code yX8_allow cX8_allow 4 none :: TB) (rmN 0) 0 0 3 := cwV 3 hts (TB_V hl tw_438 tw_439 tw_2 tw_440) rfl rfl rfl (by decide +kernel) hR
set_option maxHeartbeats 4000000 in
set_option maxRecDepth 100000 in
/-- countAllowedPairs -/
theorem c_X8_countAllowedPairs (l : Launch) (D : va_G) (cy : Nat → ClassId) (sz : Nat) (cs : List Nat) (ad : Nat → Nat) (en : Nat → va_E) (hm1 : 1 ∈ cs) (cnt d mm : Nat) (hcnt : cnt ≤ 6) (hd2 : 2 ≤ d) (hd3 : d ≤ 3) (hmm : mm ≤ 97) (hm10 : 10 ∈ cs) (f10 : Nat → Int32) (hb10 : ∀ i, i < 36 → (f10 i = 0 ∨ f10 i = 1)) (e1 : en 1 = .inr (7, [.ref (ad 2), .ref (ad 3), .ref (ad 10), .ref (ad 11), .int (nI cnt), .int (nI d), .int (nI mm)])) (e10 : en 10 = .inl (cy 2, 36, .inl f10))  : Met l yX8_countAllowedPairs (Cond.code yX8_countAllowedPairs cX8_countAllowedPairs 4 (some .int) :: TB) (rmN 1) (va_Pc [.ref (ad 1)] (Pre D cy cs ad en sz)) (va_Qi (S := Unit) (fun r _ => r = cpO f10 cnt cnt) (fun _ _ => True) (Nf sz)) 0 0 (Nf sz) := by
  refine Met.ofW (cc := cX8_countAllowedPairs) (maxL := 4) (ret := (some .int)) (by decide) rfl ?_
  intro p e s m args below meth c s₁ B hml hv
  obtain ⟨rfl, hsz, hP, hK, hD0⟩ := hv
  have hx := B.exec
  have hb := B.bytes
  have hr := B.returns
  have hts : ∀ w ∈ TB, w.before _ s = true := fun w h => atoms_spec (ws := _ :: TB) B.pre w (List.mem_cons_of_mem _ h)
  have hown : s.vm.findClass RX8 = some m.cls := findClass_of_methodNamed B.named
  have hlocks := B.notSynchronized
  have hh : Hp D (Nf sz) (fun _ => True) s.heap s.heap [] cs ad en := ⟨hP, hD0, va_S.rf⟩
  have hA : ∀ q : Nat, s.heap.size ≤ q → Nf sz q := fun q h => by rw [hsz] at h; exact h
  have hl := lv_entry ([.ref (ad 1)]) (n := 4) (Nat.le_of_ble_eq_true rfl)
  rw [lg_entry_eq]
  generalize (lg_sl ([.ref (ad 1)]) ++ List.replicate (4 - (lg_sl ([.ref (ad 1)])).length) Slot.unset).toArray = ls at hl ⊢
  have hl : lv_has ls 4 [(0, .ref (ad 1))] := hl
  refine lv_iconst (v := 0) hx hb dX8_countAllowedPairs_0 (by decide) ?_
  refine lv_istore_n (lv' := [(1, .int 0), (0, .ref (ad 1))]) hx hb dX8_countAllowedPairs_1 rfl hl (by decide) rfl (fun ls hl => ?_)
  refine lv_iconst (v := 0) hx hb dX8_countAllowedPairs_2 (by decide) ?_
  refine lv_istore_n (lv' := [(2, .int 0), (1, .int 0), (0, .ref (ad 1))]) hx hb dX8_countAllowedPairs_3 rfl hl (by decide) rfl (fun ls hl => ?_)
  have loop_63 : ∀ (fu j63 : Nat) (ac63 : Int32)  (ls : Array Slot) (H : Heap) (locs : List Loc), 0 ≤ j63 → j63 ≤ cnt → cnt < j63 + fu → (ac63 = cpO f10 cnt j63) → lv_has ls 4 [(2, .int (nI j63)), (1, .int ac63), (0, .ref (ad 1))] → Hp D (Nf sz) (fun _ => True) s.heap H locs cs ad en → W p l e (headSpec (Cond.code yX8_countAllowedPairs cX8_countAllowedPairs 4 (some .int) :: TB) (rmN 1)).room s m ([.ref (ad 1)] : List Value).toArray below meth c H locs 0 0 (MQ below (va_Qi (S := Unit) (fun r _ => r = cpO f10 cnt cnt) (fun _ _ => True) (Nf sz)) ([.ref (ad 1)] : List Value).toArray s 0 0 (Nf sz)) (F0 m 4 ls []) := by
    intro fu
    induction fu with
    | zero => intro j63 ac63 ls H locs h0 h1 h2; exact absurd h2 (by omega)
    | succ fu ih_63 =>
      intro j63 ac63 ls H locs hj0_63 hj_63 hfu_63 i0_63 hl hh
      refine lv_iload_n hx hb dX8_countAllowedPairs_4 rfl (lv_at hl 0 rfl) ?_
      refine lv_aload_n hx hb dX8_countAllowedPairs_5 rfl (lv_at hl 2 rfl) ?_
      refine hp_get hx hb hts ix8 hown hK hh (q := 1) rfl hm1 e1 rfl 4 (by decide) (hts _ tw_43) (fun _ h9 => h9) rfl dX8_countAllowedPairs_6 ?_
      refine lv_icmp_ge (tgt := 46) hx hb dX8_countAllowedPairs_9 (by decide) (fun c_64 => ?_) (fun c_64 => ?_)
      · have n_64 : cnt ≤ j63 := n_le (a := cnt) (b := j63) c_64 (by omega) (by omega)
        refine lv_iload_n hx hb dX8_countAllowedPairs_46 rfl (lv_at hl 1 rfl) ?_
        exact hp_iretR hx hb hr rfl hlocks hsz hh (by have e : j63 = cnt := (by omega); rw [e] at i0_63; exact i0_63) dX8_countAllowedPairs_47
      · have n_64 : j63 < cnt := n_nle (a := cnt) (b := j63) c_64 (by omega) (by omega)
        refine lv_iconst (v := 0) hx hb dX8_countAllowedPairs_12 (by decide) ?_
        refine lv_istore_n (lv' := [(3, .int 0), (2, .int (nI j63)), (1, .int ac63), (0, .ref (ad 1))]) hx hb dX8_countAllowedPairs_13 rfl hl (by decide) rfl (fun ls hl => ?_)
        have loop_65 : ∀ (fu j65 : Nat) (ai65 : Int32)  (ls : Array Slot) (H : Heap) (locs : List Loc), 0 ≤ j65 → j65 ≤ cnt → cnt < j65 + fu → (ai65 = cpO f10 cnt j63 + cpI f10 j63 j65) → lv_has ls 4 [(3, .int (nI j65)), (2, .int (nI j63)), (1, .int ai65), (0, .ref (ad 1))] → Hp D (Nf sz) (fun _ => True) s.heap H locs cs ad en → W p l e (headSpec (Cond.code yX8_countAllowedPairs cX8_countAllowedPairs 4 (some .int) :: TB) (rmN 1)).room s m ([.ref (ad 1)] : List Value).toArray below meth c H locs 0 0 (MQ below (va_Qi (S := Unit) (fun r _ => r = cpO f10 cnt cnt) (fun _ _ => True) (Nf sz)) ([.ref (ad 1)] : List Value).toArray s 0 0 (Nf sz)) (F0 m 14 ls []) := by
          intro fu
          induction fu with
          | zero => intro j65 ai65 ls H locs h0 h1 h2; exact absurd h2 (by omega)
          | succ fu ih_65 =>
            intro j65 ai65 ls H locs hj0_65 hj_65 hfu_65 i0_65 hl hh
            refine lv_iload_n hx hb dX8_countAllowedPairs_14 rfl (lv_at hl 0 rfl) ?_
            refine lv_aload_n hx hb dX8_countAllowedPairs_15 rfl (lv_at hl 3 rfl) ?_
            refine hp_get hx hb hts ix8 hown hK hh (q := 1) rfl hm1 e1 rfl 4 (by decide) (hts _ tw_43) (fun _ h9 => h9) rfl dX8_countAllowedPairs_16 ?_
            refine lv_icmp_ge (tgt := 40) hx hb dX8_countAllowedPairs_19 (by decide) (fun c_66 => ?_) (fun c_66 => ?_)
            · have n_66 : cnt ≤ j65 := n_le (a := cnt) (b := j65) c_66 (by omega) (by omega)
              refine lv_iinc (v := (nI (j63 + 1))) (lv' := [(2, .int (nI (j63 + 1))), (3, .int (nI j65)), (1, .int ai65), (0, .ref (ad 1))]) hx hb dX8_countAllowedPairs_40 hl (k := 1) rfl (nI_1 _) (by decide) rfl (fun ls hl => ?_)
              refine lv_goto (tgt := 4) hx hb dX8_countAllowedPairs_43 (by decide) ?_
              exact ih_63 ((j63 + 1)) ai65 ls H locs (by omega) (by omega) (by omega) (by have e : j65 = cnt := (by omega); rw [e] at i0_65; exact i0_65) (lv_sub hl [0, 2, 3] rfl) hh
            · have n_66 : j65 < cnt := n_nle (a := cnt) (b := j65) c_66 (by omega) (by omega)
              refine lv_aload_n hx hb dX8_countAllowedPairs_22 rfl (lv_at hl 3 rfl) ?_
              refine lv_iload_n hx hb dX8_countAllowedPairs_23 rfl (lv_at hl 1 rfl) ?_
              refine lv_iload_n hx hb dX8_countAllowedPairs_24 rfl (lv_at hl 0 rfl) ?_
              refine hp_callRi (va_runV (As := [.int (nI j63), .int (nI j65)]) (rest := []) ⟨hx, hb, hml, hown, hts⟩ (c_X8_mayFollow l D cy _ cs ad en hm1 cnt d mm hcnt hd2 hd3 hmm hm10 f10 hb10 j63 j65 (by omega) (by omega) e1 e10) (kw_X8_mayFollow hts tw_503 ⟨by decide, by decide⟩) (preV_of hh hK hm1 e1 rfl) rfl rfl hl.1 rfl (lv_room (Nat.le_of_ble_eq_true rfl)) dX8_countAllowedPairs_25 ⟨Nat.le_of_ble_eq_true rfl, Nat.le_of_ble_eq_true rfl⟩) hh hA (fun r_67 H locs hw_67 hh => ?_)
              rcases hb10 (j63 * 6 + j65) (a6 (by omega) (by omega)) with hz_67 | hz_67
              · obtain rfl : r_67 = 0 := Eq.trans hw_67 hz_67
                refine lv_if_eq (tgt := 34) hx hb dX8_countAllowedPairs_28 (by decide) (fun _ => ?_) (fun c_0 => absurd c_0 (by decide))
                refine lv_iinc (v := (nI (j65 + 1))) (lv' := [(3, .int (nI (j65 + 1))), (2, .int (nI j63)), (1, .int ai65), (0, .ref (ad 1))]) hx hb dX8_countAllowedPairs_34 hl (k := 0) rfl (nI_1 _) (by decide) rfl (fun ls hl => ?_)
                refine lv_goto (tgt := 14) hx hb dX8_countAllowedPairs_37 (by decide) ?_
                exact ih_65 ((j65 + 1)) ai65 ls H locs (by omega) (by omega) (by omega) (by rw [i0_65]; show _ = cpO f10 cnt j63 + (cpI f10 j63 j65 + f10 (j63 * 6 + j65)); rw [hz_67, Int32.add_zero]) (lv_sub hl [0, 1, 2, 3] rfl) hh
              · obtain rfl : r_67 = 1 := Eq.trans hw_67 hz_67
                refine lv_if_eq (tgt := 34) hx hb dX8_countAllowedPairs_28 (by decide) (fun c_0 => absurd c_0 (by decide)) (fun _ => ?_)
                refine lv_iinc (v := (ai65 + 1)) (lv' := [(1, .int (ai65 + 1)), (3, .int (nI j65)), (2, .int (nI j63)), (0, .ref (ad 1))]) hx hb dX8_countAllowedPairs_31 hl (k := 2) rfl (rfl) (by decide) rfl (fun ls hl => ?_)
                refine lv_iinc (v := (nI (j65 + 1))) (lv' := [(3, .int (nI (j65 + 1))), (1, .int (ai65 + 1)), (2, .int (nI j63)), (0, .ref (ad 1))]) hx hb dX8_countAllowedPairs_34 hl (k := 1) rfl (nI_1 _) (by decide) rfl (fun ls hl => ?_)
                refine lv_goto (tgt := 14) hx hb dX8_countAllowedPairs_37 (by decide) ?_
                exact ih_65 ((j65 + 1)) (ai65 + 1) ls H locs (by omega) (by omega) (by omega) (by rw [i0_65]; show _ = cpO f10 cnt j63 + (cpI f10 j63 j65 + f10 (j63 * 6 + j65)); rw [hz_67, Int32.add_assoc]) (lv_sub hl [0, 2, 1, 3] rfl) hh
        exact loop_65 (cnt + 1) 0 ac63 ls _ _ (Nat.le_refl _) (by omega) (by omega) (by rw [i0_63]; exact (Int32.add_zero _).symm) (lv_sub hl [0, 1, 2, 3] rfl) hh
  exact loop_63 (cnt + 1) 0 0 ls _ _ (Nat.le_refl _) (by omega) (by omega) (rfl) (lv_sub hl [0, 1, 2] rfl) hh
theorem kw_X8_countAllowedPairs {R : Room} {s : State} {args : Array Value} {own : String} {idx : Nat} (hts : ∀ w ∈ TB, w.before args s = true) (hl : Cond.methodLink own idx yX8_countAllowedPairs ∈ TB) (hR : 1 + 1 ≤ R.frames ∧ 8 + (4 + 11) + 40 * 1 ≤ R.locals) : CallW R s args own RX8 idx yX8_countAllowedPairs cX8_countAllowedPairs 4 (some .int) (Cond.code yX8_countAllowedPairs cX8_countAllowedPairs 4 (some .int) :: TB) (rmN 1) 0 0 0 := cwV 0 hts (TB_V hl tw_870 tw_871 tw_2 tw_872) rfl rfl rfl (by decide +kernel) hR
set_option maxHeartbeats 4000000 in
set_option maxRecDepth 100000 in
/-- isEven -/
theorem c_X8_isEven (l : Launch) (D : va_G) (cy : Nat → ClassId) (sz : Nat) (cs : List Nat) (ad : Nat → Nat) (en : Nat → va_E) (hm1 : 1 ∈ cs) (cnt d mm : Nat) (hcnt : cnt ≤ 6) (hd2 : 2 ≤ d) (hd3 : d ≤ 3) (hmm : mm ≤ 97) (hdd : d * d ≤ 9) (q : Nat) (hq : q ∈ cs) (f0 : Nat → Int32) (e1 : en 1 = .inr (7, [.ref (ad 2), .ref (ad 3), .ref (ad 10), .ref (ad 11), .int (nI cnt), .int (nI d), .int (nI mm)])) (eq : en q = .inl (cy 0, (d * d), .inl f0))  : Met l yX8_isEven (Cond.code yX8_isEven cX8_isEven 3 (some .boolean) :: TB) (rmN 0) (va_Pc [.ref (ad 1), .ref (ad q)] (Pre D cy cs ad en sz)) (va_Qi (S := Unit) (fun r _ => (r = 1 ∧ evP f0 (d * d)) ∨ (r = 0 ∧ ¬ evP f0 (d * d))) (fun _ _ => True) (Nf sz)) 0 0 (Nf sz) := by
  refine Met.ofW (cc := cX8_isEven) (maxL := 3) (ret := (some .boolean)) (by decide) rfl ?_
  intro p e s m args below meth c s₁ B hml hv
  obtain ⟨rfl, hsz, hP, hK, hD0⟩ := hv
  have hx := B.exec
  have hb := B.bytes
  have hr := B.returns
  have hts : ∀ w ∈ TB, w.before _ s = true := fun w h => atoms_spec (ws := _ :: TB) B.pre w (List.mem_cons_of_mem _ h)
  have hown : s.vm.findClass RX8 = some m.cls := findClass_of_methodNamed B.named
  have hlocks := B.notSynchronized
  have hh : Hp D (Nf sz) (fun _ => True) s.heap s.heap [] cs ad en := ⟨hP, hD0, va_S.rf⟩
  have hA : ∀ q : Nat, s.heap.size ≤ q → Nf sz q := fun q h => by rw [hsz] at h; exact h
  have hl := lv_entry ([.ref (ad 1), .ref (ad q)]) (n := 3) (Nat.le_of_ble_eq_true rfl)
  rw [lg_entry_eq]
  generalize (lg_sl ([.ref (ad 1), .ref (ad q)]) ++ List.replicate (3 - (lg_sl ([.ref (ad 1), .ref (ad q)])).length) Slot.unset).toArray = ls at hl ⊢
  have hl : lv_has ls 3 [(0, .ref (ad 1)), (1, .ref (ad q))] := hl
  refine lv_iconst (v := 0) hx hb dX8_isEven_0 (by decide) ?_
  refine lv_istore_n (lv' := [(2, .int 0), (0, .ref (ad 1)), (1, .ref (ad q))]) hx hb dX8_isEven_1 rfl hl (by decide) rfl (fun ls hl => ?_)
  have loop_68 : ∀ (fu j68 : Nat)   (ls : Array Slot) (H : Heap) (locs : List Loc), 0 ≤ j68 → j68 ≤ (d * d) → (d * d) < j68 + fu → (evP f0 j68) → lv_has ls 3 [(2, .int (nI j68)), (0, .ref (ad 1)), (1, .ref (ad q))] → Hp D (Nf sz) (fun _ => True) s.heap H locs cs ad en → W p l e (headSpec (Cond.code yX8_isEven cX8_isEven 3 (some .boolean) :: TB) (rmN 0)).room s m ([.ref (ad 1), .ref (ad q)] : List Value).toArray below meth c H locs 0 0 (MQ below (va_Qi (S := Unit) (fun r _ => (r = 1 ∧ evP f0 (d * d)) ∨ (r = 0 ∧ ¬ evP f0 (d * d))) (fun _ _ => True) (Nf sz)) ([.ref (ad 1), .ref (ad q)] : List Value).toArray s 0 0 (Nf sz)) (F0 m 2 ls []) := by
    intro fu
    induction fu with
    | zero => intro j68  ls H locs h0 h1 h2; exact absurd h2 (by omega)
    | succ fu ih_68 =>
      intro j68  ls H locs hj0_68 hj_68 hfu_68 i0_68 hl hh
      refine lv_iload_n hx hb dX8_isEven_2 rfl (lv_at hl 0 rfl) ?_
      refine lv_aload_n hx hb dX8_isEven_3 rfl (lv_at hl 1 rfl) ?_
      refine hp_get hx hb hts ix8 hown hK hh (q := 1) rfl hm1 e1 rfl 5 (by decide) (hts _ tw_44) (fun _ h9 => h9) rfl dX8_isEven_4 ?_
      refine lv_aload_n hx hb dX8_isEven_7 rfl (lv_at hl 1 rfl) ?_
      refine hp_get hx hb hts ix8 hown hK hh (q := 1) rfl hm1 e1 rfl 5 (by decide) (hts _ tw_44) (fun _ h9 => h9) rfl dX8_isEven_8 ?_
      refine lv_imul hx hb dX8_isEven_11 ?_
      rw [pk_mul d d]
      refine lv_icmp_ge (tgt := 29) hx hb dX8_isEven_12 (by decide) (fun c_69 => ?_) (fun c_69 => ?_)
      · have n_69 : (d * d) ≤ j68 := n_le (a := (d * d)) (b := j68) c_69 (by omega) (by omega)
        refine lv_iconst (v := 1) hx hb dX8_isEven_29 (by decide) ?_
        exact hp_iretR hx hb hr rfl hlocks hsz hh (Or.inl ⟨rfl, fun i hi => i0_68 i (by omega)⟩) dX8_isEven_30
      · have n_69 : j68 < (d * d) := n_nle (a := (d * d)) (b := j68) c_69 (by omega) (by omega)
        refine lv_aload_n hx hb dX8_isEven_15 rfl (lv_at hl 2 rfl) ?_
        refine lv_iload_n hx hb dX8_isEven_16 rfl (lv_at hl 0 rfl) ?_
        refine hp_iald hx hb hK hh (q := q) rfl hq eq (vp_in_nI (n := j68) (by omega) (by omega)) dX8_isEven_17 ?_
        rw [nI_clamp (n := j68) (by omega)]
        refine lv_if_ge (tgt := 23) hx hb dX8_isEven_18 (by decide) (fun c_70 => ?_) (fun c_70 => ?_)
        · refine lv_iinc (v := (nI (j68 + 1))) (lv' := [(2, .int (nI (j68 + 1))), (0, .ref (ad 1)), (1, .ref (ad q))]) hx hb dX8_isEven_23 hl (k := 0) rfl (nI_1 _) (by decide) rfl (fun ls hl => ?_)
          refine lv_goto (tgt := 2) hx hb dX8_isEven_26 (by decide) ?_
          exact ih_68 ((j68 + 1))  ls H locs (by omega) (by omega) (by omega) (fun i hi => (Nat.lt_or_ge i j68).elim (fun h => i0_68 i h) (fun h => by have e : i = j68 := (by omega); rw [e]; exact Int32.not_lt.mpr c_70)) (lv_sub hl [0, 1, 2] rfl) hh
        · refine lv_iconst (v := 0) hx hb dX8_isEven_21 (by decide) ?_
          exact hp_iretR hx hb hr rfl hlocks hsz hh (Or.inr ⟨rfl, fun q => q j68 (by omega) (Int32.not_le.mp c_70)⟩) dX8_isEven_22
  exact loop_68 ((d * d) + 1) 0  ls _ _ (Nat.le_refl _) (by omega) (by omega) (fun i h => absurd h (Nat.not_lt_zero i)) (lv_sub hl [0, 1, 2] rfl) hh
theorem kw_X8_isEven {R : Room} {s : State} {args : Array Value} {own : String} {idx : Nat} (hts : ∀ w ∈ TB, w.before args s = true) (hl : Cond.methodLink own idx yX8_isEven ∈ TB) (hR : 0 + 1 ≤ R.frames ∧ 8 + (3 + 11) + 40 * 0 ≤ R.locals) : CallW R s args own RX8 idx yX8_isEven cX8_isEven 3 (some .boolean) (Cond.code yX8_isEven cX8_isEven 3 (some .boolean) :: TB) (rmN 0) 0 0 1 := cwV 1 hts (TB_V hl tw_362 ts_6 tw_2 tw_363) rfl rfl rfl (by decide +kernel) hR
set_option maxHeartbeats 4000000 in
set_option maxRecDepth 100000 in
/-- isShuffle -/
theorem c_X8_isShuffle (l : Launch) (D : va_G) (cy : Nat → ClassId) (sz : Nat) (cs : List Nat) (ad : Nat → Nat) (en : Nat → va_E) (hm1 : 1 ∈ cs) (cnt d mm : Nat) (hcnt : cnt ≤ 6) (hd2 : 2 ≤ d) (hd3 : d ≤ 3) (hmm : mm ≤ 97) (hdd : d * d ≤ 9) (q : Nat) (hq : q ∈ cs) (f0 : Nat → Int32) (e1 : en 1 = .inr (7, [.ref (ad 2), .ref (ad 3), .ref (ad 10), .ref (ad 11), .int (nI cnt), .int (nI d), .int (nI mm)])) (eq : en q = .inl (cy 0, (d * d), .inl f0))  : Met l yX8_isShuffle (Cond.code yX8_isShuffle cX8_isShuffle 6 (some .boolean) :: TB) (rmN 1) (va_Pc [.ref (ad 1), .ref (ad q)] (Pre D cy cs ad en sz)) (va_Qi (S := Unit) (fun r _ => (r = 1 ∧ shP f0 d) ∨ (r = 0 ∧ ¬ shP f0 d)) (fun _ _ => True) (Nf sz)) 0 0 (Nf sz) := by
  refine Met.ofW (cc := cX8_isShuffle) (maxL := 6) (ret := (some .boolean)) (by decide) rfl ?_
  intro p e s m args below meth c s₁ B hml hv
  obtain ⟨rfl, hsz, hP, hK, hD0⟩ := hv
  have hx := B.exec
  have hb := B.bytes
  have hr := B.returns
  have hts : ∀ w ∈ TB, w.before _ s = true := fun w h => atoms_spec (ws := _ :: TB) B.pre w (List.mem_cons_of_mem _ h)
  have hown : s.vm.findClass RX8 = some m.cls := findClass_of_methodNamed B.named
  have hlocks := B.notSynchronized
  have hh : Hp D (Nf sz) (fun _ => True) s.heap s.heap [] cs ad en := ⟨hP, hD0, va_S.rf⟩
  have hA : ∀ q : Nat, s.heap.size ≤ q → Nf sz q := fun q h => by rw [hsz] at h; exact h
  have hl := lv_entry ([.ref (ad 1), .ref (ad q)]) (n := 6) (Nat.le_of_ble_eq_true rfl)
  rw [lg_entry_eq]
  generalize (lg_sl ([.ref (ad 1), .ref (ad q)]) ++ List.replicate (6 - (lg_sl ([.ref (ad 1), .ref (ad q)])).length) Slot.unset).toArray = ls at hl ⊢
  have hl : lv_has ls 6 [(0, .ref (ad 1)), (1, .ref (ad q))] := hl
  refine lv_aload_n hx hb dX8_isShuffle_0 rfl (lv_at hl 0 rfl) ?_
  refine lv_aload_n hx hb dX8_isShuffle_1 rfl (lv_at hl 1 rfl) ?_
  refine hp_callRi (va_runV (As := [.ref (ad q)]) (rest := []) ⟨hx, hb, hml, hown, hts⟩ (c_X8_isEven l D cy _ cs ad en hm1 cnt d mm hcnt hd2 hd3 hmm hdd q hq f0 e1 eq) (kw_X8_isEven hts tw_360 ⟨by decide, by decide⟩) (preV_of hh hK hm1 e1 rfl) rfl rfl hl.1 rfl (lv_room (Nat.le_of_ble_eq_true rfl)) dX8_isShuffle_2 ⟨Nat.le_of_ble_eq_true rfl, Nat.le_of_ble_eq_true rfl⟩) hh hA (fun r_71 H locs hw_71 hh => ?_)
  rcases hw_71 with ⟨hb_71, ht_71⟩ | ⟨hb_71, ht_71⟩
  · obtain rfl : r_71 = 1 := hb_71
    refine lv_if_ne (tgt := 10) hx hb dX8_isShuffle_5 (by decide) (fun _ => ?_) (fun c_0 => absurd c_0 (by decide))
    refine lv_iconst (v := 0) hx hb dX8_isShuffle_10 (by decide) ?_
    refine lv_istore_n (lv' := [(2, .int 0), (0, .ref (ad 1)), (1, .ref (ad q))]) hx hb dX8_isShuffle_11 rfl hl (by decide) rfl (fun ls hl => ?_)
    have loop_72 : ∀ (fu j72 : Nat)   (ls : Array Slot) (H : Heap) (locs : List Loc), 0 ≤ j72 → j72 ≤ d → d < j72 + fu → (∀ i, i < j72 → (sumI (fun z => f0 (i * d + z)) d = 1 ∧ sumI (fun z => f0 (z * d + i)) d = 1)) → lv_has ls 6 [(2, .int (nI j72)), (0, .ref (ad 1)), (1, .ref (ad q))] → Hp D (Nf sz) (fun _ => True) s.heap H locs cs ad en → W p l e (headSpec (Cond.code yX8_isShuffle cX8_isShuffle 6 (some .boolean) :: TB) (rmN 1)).room s m ([.ref (ad 1), .ref (ad q)] : List Value).toArray below meth c H locs 0 0 (MQ below (va_Qi (S := Unit) (fun r _ => (r = 1 ∧ shP f0 d) ∨ (r = 0 ∧ ¬ shP f0 d)) (fun _ _ => True) (Nf sz)) ([.ref (ad 1), .ref (ad q)] : List Value).toArray s 0 0 (Nf sz)) (F0 m 12 ls []) := by
      intro fu
      induction fu with
      | zero => intro j72  ls H locs h0 h1 h2; exact absurd h2 (by omega)
      | succ fu ih_72 =>
        intro j72  ls H locs hj0_72 hj_72 hfu_72 i0_72 hl hh
        refine lv_iload_n hx hb dX8_isShuffle_12 rfl (lv_at hl 0 rfl) ?_
        refine lv_aload_n hx hb dX8_isShuffle_13 rfl (lv_at hl 1 rfl) ?_
        refine hp_get hx hb hts ix8 hown hK hh (q := 1) rfl hm1 e1 rfl 5 (by decide) (hts _ tw_44) (fun _ h9 => h9) rfl dX8_isShuffle_14 ?_
        refine lv_icmp_ge (tgt := 92) hx hb dX8_isShuffle_17 (by decide) (fun c_73 => ?_) (fun c_73 => ?_)
        · have n_73 : d ≤ j72 := n_le (a := d) (b := j72) c_73 (by omega) (by omega)
          refine lv_iconst (v := 1) hx hb dX8_isShuffle_92 (by decide) ?_
          exact hp_iretR hx hb hr rfl hlocks hsz hh (Or.inl ⟨rfl, ht_71, fun i hi => i0_72 i (by omega)⟩) dX8_isShuffle_93
        · have n_73 : j72 < d := n_nle (a := d) (b := j72) c_73 (by omega) (by omega)
          refine lv_iconst (v := 0) hx hb dX8_isShuffle_20 (by decide) ?_
          refine lv_istore_n (lv' := [(3, .int 0), (2, .int (nI j72)), (0, .ref (ad 1)), (1, .ref (ad q))]) hx hb dX8_isShuffle_21 rfl hl (by decide) rfl (fun ls hl => ?_)
          refine lv_iconst (v := 0) hx hb dX8_isShuffle_22 (by decide) ?_
          refine lv_istore (lv' := [(4, .int 0), (3, .int 0), (2, .int (nI j72)), (0, .ref (ad 1)), (1, .ref (ad q))]) hx hb dX8_isShuffle_23 hl (by decide) rfl (fun ls hl => ?_)
          refine lv_iconst (v := 0) hx hb dX8_isShuffle_25 (by decide) ?_
          refine lv_istore (lv' := [(5, .int 0), (4, .int 0), (3, .int 0), (2, .int (nI j72)), (0, .ref (ad 1)), (1, .ref (ad q))]) hx hb dX8_isShuffle_26 hl (by decide) rfl (fun ls hl => ?_)
          have loop_74 : ∀ (fu j74 : Nat) (sr74 : Int32) (sc74 : Int32)  (ls : Array Slot) (H : Heap) (locs : List Loc), 0 ≤ j74 → j74 ≤ d → d < j74 + fu → (sr74 = sumI (fun z => f0 (j72 * d + z)) j74) → (sc74 = sumI (fun z => f0 (z * d + j72)) j74) → lv_has ls 6 [(5, .int (nI j74)), (4, .int sc74), (3, .int sr74), (2, .int (nI j72)), (0, .ref (ad 1)), (1, .ref (ad q))] → Hp D (Nf sz) (fun _ => True) s.heap H locs cs ad en → W p l e (headSpec (Cond.code yX8_isShuffle cX8_isShuffle 6 (some .boolean) :: TB) (rmN 1)).room s m ([.ref (ad 1), .ref (ad q)] : List Value).toArray below meth c H locs 0 0 (MQ below (va_Qi (S := Unit) (fun r _ => (r = 1 ∧ shP f0 d) ∨ (r = 0 ∧ ¬ shP f0 d)) (fun _ _ => True) (Nf sz)) ([.ref (ad 1), .ref (ad q)] : List Value).toArray s 0 0 (Nf sz)) (F0 m 28 ls []) := by
            intro fu
            induction fu with
            | zero => intro j74 sr74 sc74 ls H locs h0 h1 h2; exact absurd h2 (by omega)
            | succ fu ih_74 =>
              intro j74 sr74 sc74 ls H locs hj0_74 hj_74 hfu_74 i0_74 i1_74 hl hh
              refine lv_iload hx hb dX8_isShuffle_28 (lv_at hl 0 rfl) ?_
              refine lv_aload_n hx hb dX8_isShuffle_30 rfl (lv_at hl 4 rfl) ?_
              refine hp_get hx hb hts ix8 hown hK hh (q := 1) rfl hm1 e1 rfl 5 (by decide) (hts _ tw_44) (fun _ h9 => h9) rfl dX8_isShuffle_31 ?_
              refine lv_icmp_ge (tgt := 73) hx hb dX8_isShuffle_34 (by decide) (fun c_75 => ?_) (fun c_75 => ?_)
              · have n_75 : d ≤ j74 := n_le (a := d) (b := j74) c_75 (by omega) (by omega)
                refine lv_iload_n hx hb dX8_isShuffle_73 rfl (lv_at hl 2 rfl) ?_
                refine lv_iconst (v := 1) hx hb dX8_isShuffle_74 (by decide) ?_
                refine lv_icmp_ne (tgt := 84) hx hb dX8_isShuffle_75 (by decide) (fun c_76 => ?_) (fun c_76 => ?_)
                · refine lv_iconst (v := 0) hx hb dX8_isShuffle_84 (by decide) ?_
                  exact hp_iretR hx hb hr rfl hlocks hsz hh (Or.inr ⟨rfl, fun q => c_76 (by have e9 : j74 = d := (by omega); rw [e9] at i0_74 i1_74; have q9 := (q.2 j72 (by omega)).1; exact i0_74.trans q9)⟩) dX8_isShuffle_85
                · refine lv_iload hx hb dX8_isShuffle_78 (lv_at hl 1 rfl) ?_
                  refine lv_iconst (v := 1) hx hb dX8_isShuffle_80 (by decide) ?_
                  refine lv_icmp_eq (tgt := 86) hx hb dX8_isShuffle_81 (by decide) (fun c_77 => ?_) (fun c_77 => ?_)
                  · refine lv_iinc (v := (nI (j72 + 1))) (lv' := [(2, .int (nI (j72 + 1))), (5, .int (nI j74)), (4, .int sc74), (3, .int sr74), (0, .ref (ad 1)), (1, .ref (ad q))]) hx hb dX8_isShuffle_86 hl (k := 3) rfl (nI_1 _) (by decide) rfl (fun ls hl => ?_)
                    refine lv_goto (tgt := 12) hx hb dX8_isShuffle_89 (by decide) ?_
                    exact ih_72 ((j72 + 1))  ls H locs (by omega) (by omega) (by omega) (fun i hi => (Nat.lt_or_ge i j72).elim (fun h => i0_72 i h) (fun h => by have e : i = j72 := (by omega); have e9 : j74 = d := (by omega); rw [e]; rw [e9] at i0_74 i1_74; exact ⟨i0_74.symm.trans c_76, i1_74.symm.trans c_77⟩)) (lv_sub hl [0, 4, 5] rfl) hh
                  · refine lv_iconst (v := 0) hx hb dX8_isShuffle_84 (by decide) ?_
                    exact hp_iretR hx hb hr rfl hlocks hsz hh (Or.inr ⟨rfl, fun q => c_77 (by have e9 : j74 = d := (by omega); rw [e9] at i0_74 i1_74; have q9 := (q.2 j72 (by omega)).2; exact i1_74.trans q9)⟩) dX8_isShuffle_85
              · have n_75 : j74 < d := n_nle (a := d) (b := j74) c_75 (by omega) (by omega)
                refine lv_iload_n hx hb dX8_isShuffle_37 rfl (lv_at hl 2 rfl) ?_
                refine lv_aload_n hx hb dX8_isShuffle_38 rfl (lv_at hl 5 rfl) ?_
                refine lv_iload_n hx hb dX8_isShuffle_39 rfl (lv_at hl 3 rfl) ?_
                refine lv_aload_n hx hb dX8_isShuffle_40 rfl (lv_at hl 4 rfl) ?_
                refine hp_get hx hb hts ix8 hown hK hh (q := 1) rfl hm1 e1 rfl 5 (by decide) (hts _ tw_44) (fun _ h9 => h9) rfl dX8_isShuffle_41 ?_
                refine lv_imul hx hb dX8_isShuffle_44 ?_
                rw [pk_mul j72 d]
                refine lv_iload hx hb dX8_isShuffle_45 (lv_at hl 0 rfl) ?_
                refine lv_iadd hx hb dX8_isShuffle_47 ?_
                rw [nI_add (j72 * d) j74]
                have hi_78 : ((j72 * d) + j74) < d * d := md3' (by omega) (by omega) hd3
                refine hp_iald hx hb hK hh (q := q) rfl hq eq (vp_in_nI (n := ((j72 * d) + j74)) (by omega) (by omega)) dX8_isShuffle_48 ?_
                rw [nI_clamp (n := ((j72 * d) + j74)) (by omega)]
                refine lv_iadd hx hb dX8_isShuffle_49 ?_
                refine lv_istore_n (lv' := [(3, .int (sr74 + (f0 ((j72 * d) + j74)))), (5, .int (nI j74)), (4, .int sc74), (2, .int (nI j72)), (0, .ref (ad 1)), (1, .ref (ad q))]) hx hb dX8_isShuffle_50 rfl hl (by decide) rfl (fun ls hl => ?_)
                refine lv_iload hx hb dX8_isShuffle_51 (lv_at hl 2 rfl) ?_
                refine lv_aload_n hx hb dX8_isShuffle_53 rfl (lv_at hl 5 rfl) ?_
                refine lv_iload hx hb dX8_isShuffle_54 (lv_at hl 1 rfl) ?_
                refine lv_aload_n hx hb dX8_isShuffle_56 rfl (lv_at hl 4 rfl) ?_
                refine hp_get hx hb hts ix8 hown hK hh (q := 1) rfl hm1 e1 rfl 5 (by decide) (hts _ tw_44) (fun _ h9 => h9) rfl dX8_isShuffle_57 ?_
                refine lv_imul hx hb dX8_isShuffle_60 ?_
                rw [pk_mul j74 d]
                refine lv_iload_n hx hb dX8_isShuffle_61 rfl (lv_at hl 3 rfl) ?_
                refine lv_iadd hx hb dX8_isShuffle_62 ?_
                rw [nI_add (j74 * d) j72]
                have hi_79 : ((j74 * d) + j72) < d * d := md3' (by omega) (by omega) hd3
                refine hp_iald hx hb hK hh (q := q) rfl hq eq (vp_in_nI (n := ((j74 * d) + j72)) (by omega) (by omega)) dX8_isShuffle_63 ?_
                rw [nI_clamp (n := ((j74 * d) + j72)) (by omega)]
                refine lv_iadd hx hb dX8_isShuffle_64 ?_
                refine lv_istore (lv' := [(4, .int (sc74 + (f0 ((j74 * d) + j72)))), (3, .int (sr74 + (f0 ((j72 * d) + j74)))), (5, .int (nI j74)), (2, .int (nI j72)), (0, .ref (ad 1)), (1, .ref (ad q))]) hx hb dX8_isShuffle_65 hl (by decide) rfl (fun ls hl => ?_)
                refine lv_iinc (v := (nI (j74 + 1))) (lv' := [(5, .int (nI (j74 + 1))), (4, .int (sc74 + (f0 ((j74 * d) + j72)))), (3, .int (sr74 + (f0 ((j72 * d) + j74)))), (2, .int (nI j72)), (0, .ref (ad 1)), (1, .ref (ad q))]) hx hb dX8_isShuffle_67 hl (k := 2) rfl (nI_1 _) (by decide) rfl (fun ls hl => ?_)
                refine lv_goto (tgt := 28) hx hb dX8_isShuffle_70 (by decide) ?_
                exact ih_74 ((j74 + 1)) (sr74 + (f0 ((j72 * d) + j74))) (sc74 + (f0 ((j74 * d) + j72))) ls H locs (by omega) (by omega) (by omega) (by rw [i0_74]; rfl) (by rw [i1_74]; rfl) (lv_sub hl [0, 1, 2, 3, 4, 5] rfl) hh
          exact loop_74 (d + 1) 0 0 0 ls _ _ (Nat.le_refl _) (by omega) (by omega) (rfl) (rfl) (lv_sub hl [0, 1, 2, 3, 4, 5] rfl) hh
    exact loop_72 (d + 1) 0  ls _ _ (Nat.le_refl _) (by omega) (by omega) (fun i h => absurd h (Nat.not_lt_zero i)) (lv_sub hl [0, 1, 2] rfl) hh
  · obtain rfl : r_71 = 0 := hb_71
    refine lv_if_ne (tgt := 10) hx hb dX8_isShuffle_5 (by decide) (fun c_0 => absurd c_0 (by decide)) (fun _ => ?_)
    refine lv_iconst (v := 0) hx hb dX8_isShuffle_8 (by decide) ?_
    exact hp_iretR hx hb hr rfl hlocks hsz hh (Or.inr ⟨rfl, fun q => ht_71 q.1⟩) dX8_isShuffle_9
theorem kw_X8_isShuffle {R : Room} {s : State} {args : Array Value} {own : String} {idx : Nat} (hts : ∀ w ∈ TB, w.before args s = true) (hl : Cond.methodLink own idx yX8_isShuffle ∈ TB) (hR : 1 + 1 ≤ R.frames ∧ 8 + (6 + 11) + 40 * 1 ≤ R.locals) : CallW R s args own RX8 idx yX8_isShuffle cX8_isShuffle 6 (some .boolean) (Cond.code yX8_isShuffle cX8_isShuffle 6 (some .boolean) :: TB) (rmN 1) 0 0 1 := cwV 1 hts (TB_V hl tw_358 ts_5 tw_2 tw_359) rfl rfl rfl (by decide +kernel) hR
set_option maxHeartbeats 4000000 in
set_option maxRecDepth 100000 in
/-- multiplyAll -/
theorem c_X8_multiplyAll (l : Launch) (D : va_G) (cy : Nat → ClassId) (sz : Nat) (cs : List Nat) (ad : Nat → Nat) (en : Nat → va_E) (hm1 : 1 ∈ cs) (hm3 : 3 ∈ cs) (hm11 : 11 ∈ cs) (hmr : ∀ j, j < 6 → 4 + j ∈ cs) (cnt d mm : Nat) (hcnt : cnt ≤ 6) (hd2 : 2 ≤ d) (hd3 : d ≤ 3) (hmm : mm ≤ 97) (q NL n : Nat) (hq : q ∈ cs) (hNL : NL < 2 ^ 31) (f0 : Nat → Int32) (hvl : ∀ i, i < NL → ∃ v, v < 6 ∧ f0 i = nI v) (h1 : 1 ≤ n) (h2 : n ≤ NL) (qc : Nat) (hqc : qc ∈ cs) (h12 : 12 ≤ qc) (hqq : q ≠ qc) (hq11 : 12 ≤ q) (fc fs : Nat → Int64) (rf : Nat → Nat → Int64) (e1 : en 1 = .inr (7, [.ref (ad 2), .ref (ad 3), .ref (ad 10), .ref (ad 11), .int (nI cnt), .int (nI d), .int (nI mm)])) (e3 : en 3 = .inl (cy 8, 6, .inr (.inr (.inr (.inr (rfA ad 6 4)))))) (e11 : en 11 = .inl (cy 1, 9, .inr (.inl fs))) (eq : en q = .inl (cy 0, NL, .inl f0)) (eqc : en qc = .inl (cy 1, 9, .inr (.inl fc))) (hrw : ∀ j, j < 6 → en (4 + j) = .inl (cy 1, 9, .inr (.inl (rf j)))) : Met l yX8_multiplyAll (Cond.code yX8_multiplyAll cX8_multiplyAll 5 none :: TB) (rmN 2) (va_Pc [.ref (ad 1), .ref (ad q), .int (nI n), .ref (ad qc)] (Pre D cy cs ad en sz)) (va_Qv (S := Nat → va_E) (fun en1 => ∃ g h : Nat → Int64, en1 qc = .inl (cy 1, 9, .inr (.inl g)) ∧ en1 11 = .inl (cy 1, 9, .inr (.inl h)) ∧ (∀ c, c ≠ qc → c ≠ 11 → en1 c = en c) ∧ ∀ i, i < d * d → g i = prW d mm rf f0 (n - 1) i) (PostM D cs ad) (Af cs ad sz)) 0 0 (Af cs ad sz) := by
  refine Met.ofW (cc := cX8_multiplyAll) (maxL := 5) (ret := none) (by decide) rfl ?_
  intro p e s m args below meth c s₁ B hml hv
  obtain ⟨rfl, hsz, hP, hK, hD0⟩ := hv
  have hx := B.exec
  have hb := B.bytes
  have hr := B.returns
  have hts : ∀ w ∈ TB, w.before _ s = true := fun w h => atoms_spec (ws := _ :: TB) B.pre w (List.mem_cons_of_mem _ h)
  have hown : s.vm.findClass RX8 = some m.cls := findClass_of_methodNamed B.named
  have hlocks := B.notSynchronized
  have hh : Hp D (Af cs ad sz) (Af cs ad sz) s.heap s.heap [] cs ad en := ⟨hP, Af_self hD0, va_S.rf⟩
  have hA : ∀ q : Nat, s.heap.size ≤ q → Af cs ad sz q := fun q h => Or.inr (by rw [hsz] at h; exact h)
  have hl := lv_entry ([.ref (ad 1), .ref (ad q), .int (nI n), .ref (ad qc)]) (n := 5) (Nat.le_of_ble_eq_true rfl)
  rw [lg_entry_eq]
  generalize (lg_sl ([.ref (ad 1), .ref (ad q), .int (nI n), .ref (ad qc)]) ++ List.replicate (5 - (lg_sl ([.ref (ad 1), .ref (ad q), .int (nI n), .ref (ad qc)])).length) Slot.unset).toArray = ls at hl ⊢
  have hl : lv_has ls 5 [(0, .ref (ad 1)), (1, .ref (ad q)), (2, .int (nI n)), (3, .ref (ad qc))] := hl
  refine lv_aload_n hx hb dX8_multiplyAll_0 rfl (lv_at hl 0 rfl) ?_
  refine hp_get hx hb hts ix8 hown hK hh (q := 1) rfl hm1 e1 rfl 1 (by decide) (hts _ tw_40) (fun _ h9 => h9) rfl dX8_multiplyAll_1 ?_
  refine lv_aload_n hx hb dX8_multiplyAll_4 rfl (lv_at hl 1 rfl) ?_
  refine lv_iconst (v := 0) hx hb dX8_multiplyAll_5 (by decide) ?_
  rw [show (0 : Int32) = nI 0 from rfl]
  refine hp_iald hx hb hK hh (q := q) rfl hq eq (vp_in_nI (n := 0) (by omega) (by omega)) dX8_multiplyAll_6 ?_
  rw [nI_clamp (n := 0) (by decide)]
  obtain ⟨v_80, hv_80, hfv_80⟩ := hvl 0 (by omega)
  rw [hfv_80]
  refine hp_aald hx hb hK hh (q := 3) rfl hm3 8 e3 rfl rfl (vp_in_nI (n := v_80) (by omega) (by decide)) (v := .ref (ad (4 + v_80))) (by rw [nI_clamp (n := v_80) (by omega)]; exact rfA_v (by omega)) dX8_multiplyAll_7 ?_
  have er81 : en (4 + v_80) = .inl (cy 1, 9, .inr (.inl (rf v_80))) := hrw v_80 (by omega)
  refine lv_iconst (v := 0) hx hb dX8_multiplyAll_8 (by decide) ?_
  refine lv_aload_n hx hb dX8_multiplyAll_9 rfl (lv_at hl 3 rfl) ?_
  refine lv_iconst (v := 0) hx hb dX8_multiplyAll_10 (by decide) ?_
  refine lv_bipush (v := 9) hx hb dX8_multiplyAll_11 (by decide) ?_
  refine W.eq (g2 := F0 m 13 ls [.int (nI 9), .int (nI 0), .ref (ad qc), .int (nI 0), .ref (ad (4 + v_80))]) rfl ?_
  refine hp_copyl hx hb (hml.trans hl.1.symm) hown (hts _ tw_697) (hts _ tw_340) (hts _ tw_339) (hts _ tw_12) hK hh (hmr _ (by omega)) hqc er81 eqc 0 0 9 (by decide) (by decide) (by decide) (by decide) (by decide) (Nat.le_of_ble_eq_true rfl) (Nat.le_of_ble_eq_true rfl) dX8_multiplyAll_13 (fun H locs en_82 hen_82 hh => ?_)
  have e1_82 : en_82 1 = .inr (7, [.ref (ad 2), .ref (ad 3), .ref (ad 10), .ref (ad 11), .int (nI cnt), .int (nI d), .int (nI mm)]) := by rw [hen_82, va_up_ne _ _ (by omega)]; exact e1
  have e3_82 : en_82 3 = .inl (cy 8, 6, .inr (.inr (.inr (.inr (rfA ad 6 4))))) := by rw [hen_82, va_up_ne _ _ (by omega)]; exact e3
  have e11_82 : en_82 11 = .inl (cy 1, 9, .inr (.inl fs)) := by rw [hen_82, va_up_ne _ _ (by omega)]; exact e11
  have eq_82 : en_82 q = .inl (cy 0, NL, .inl f0) := by rw [hen_82, va_up_ne _ _ (by omega)]; exact eq
  have er81_82 : en_82 (4 + v_80) = .inl (cy 1, 9, .inr (.inl (rf v_80))) := by rw [hen_82, va_up_ne _ _ (by omega)]; exact er81
  have hrw_82 : ∀ j, j < 6 → en_82 (4 + j) = .inl (cy 1, 9, .inr (.inl (rf j))) := fun j hj => by rw [hen_82, va_up_ne _ _ (by omega)]; exact hrw j hj
  have eqc_82 : en_82 qc = .inl (cy 1, 9, .inr (.inl (va_cpy (rf v_80) fc 0 0 9))) := by rw [hen_82]; exact va_up_self _ _ _
  refine lv_iconst (v := 1) hx hb dX8_multiplyAll_16 (by decide) ?_
  refine lv_istore (lv' := [(4, .int 1), (0, .ref (ad 1)), (1, .ref (ad q)), (2, .int (nI n)), (3, .ref (ad qc))]) hx hb dX8_multiplyAll_17 hl (by decide) rfl (fun ls hl => ?_)
  have loop_83 : ∀ (fu j83 : Nat)  (gc83 : Nat → Int64) (gs83 : Nat → Int64) (en_83 : Nat → va_E) (ls : Array Slot) (H : Heap) (locs : List Loc), 1 ≤ j83 → j83 ≤ n → n < j83 + fu → (en_83 qc = .inl (cy 1, 9, .inr (.inl gc83))) → (en_83 11 = .inl (cy 1, 9, .inr (.inl gs83))) → (∀ c, c ≠ qc → c ≠ 11 → en_83 c = en_82 c) → (∀ i, i < d * d → gc83 i = prW d mm rf f0 (j83 - 1) i) → lv_has ls 5 [(4, .int (nI j83)), (0, .ref (ad 1)), (1, .ref (ad q)), (2, .int (nI n)), (3, .ref (ad qc))] → Hp D (Af cs ad sz) (Af cs ad sz) s.heap H locs cs ad en_83 → W p l e (headSpec (Cond.code yX8_multiplyAll cX8_multiplyAll 5 none :: TB) (rmN 2)).room s m ([.ref (ad 1), .ref (ad q), .int (nI n), .ref (ad qc)] : List Value).toArray below meth c H locs 0 0 (MQ below (va_Qv (S := Nat → va_E) (fun en1 => ∃ g h : Nat → Int64, en1 qc = .inl (cy 1, 9, .inr (.inl g)) ∧ en1 11 = .inl (cy 1, 9, .inr (.inl h)) ∧ (∀ c, c ≠ qc → c ≠ 11 → en1 c = en c) ∧ ∀ i, i < d * d → g i = prW d mm rf f0 (n - 1) i) (PostM D cs ad) (Af cs ad sz)) ([.ref (ad 1), .ref (ad q), .int (nI n), .ref (ad qc)] : List Value).toArray s 0 0 (Af cs ad sz)) (F0 m 19 ls []) := by
    intro fu
    induction fu with
    | zero => intro j83  gc83 gs83 en_83 ls H locs h0 h1 h2; exact absurd h2 (by omega)
    | succ fu ih_83 =>
      intro j83  gc83 gs83 en_83 ls H locs hj0_83 hj_83 hfu_83 w0_83 w1_83 hu_83 i0_83 hl hh
      have e1_83 : en_83 1 = .inr (7, [.ref (ad 2), .ref (ad 3), .ref (ad 10), .ref (ad 11), .int (nI cnt), .int (nI d), .int (nI mm)]) := by rw [hu_83 _ (by omega) (by decide)]; exact e1_82
      have e3_83 : en_83 3 = .inl (cy 8, 6, .inr (.inr (.inr (.inr (rfA ad 6 4))))) := by rw [hu_83 _ (by omega) (by decide)]; exact e3_82
      have eq_83 : en_83 q = .inl (cy 0, NL, .inl f0) := by rw [hu_83 _ (by omega) (by omega)]; exact eq_82
      have er81_83 : en_83 (4 + v_80) = .inl (cy 1, 9, .inr (.inl (rf v_80))) := by rw [hu_83 _ (by omega) (by omega)]; exact er81_82
      have hrw_83 : ∀ j, j < 6 → en_83 (4 + j) = .inl (cy 1, 9, .inr (.inl (rf j))) := fun j hj => by rw [hu_83 _ (by omega) (by omega)]; exact hrw_82 j hj
      refine lv_iload hx hb dX8_multiplyAll_19 (lv_at hl 0 rfl) ?_
      refine lv_iload_n hx hb dX8_multiplyAll_21 rfl (lv_at hl 3 rfl) ?_
      refine lv_icmp_ge (tgt := 61) hx hb dX8_multiplyAll_22 (by decide) (fun c_84 => ?_) (fun c_84 => ?_)
      · have n_84 : n ≤ j83 := n_le (a := n) (b := j83) c_84 (by omega) (by omega)
        exact hp_vretM hx hb hr hlocks hh (⟨_, _, w0_83, w1_83, (fun c h0 h1 => by rw [hu_83 c h0 h1, hen_82, va_up_ne _ _ h0]), fun i hi => by have e9 : j83 = n := (by omega); rw [e9] at i0_83; exact i0_83 i hi⟩) dX8_multiplyAll_61
      · have n_84 : j83 < n := n_nle (a := n) (b := j83) c_84 (by omega) (by omega)
        refine lv_aload_n hx hb dX8_multiplyAll_25 rfl (lv_at hl 1 rfl) ?_
        refine lv_aload_n hx hb dX8_multiplyAll_26 rfl (lv_at hl 4 rfl) ?_
        refine lv_aload_n hx hb dX8_multiplyAll_27 rfl (lv_at hl 1 rfl) ?_
        refine hp_get hx hb hts ix8 hown hK hh (q := 1) rfl hm1 e1_83 rfl 1 (by decide) (hts _ tw_40) (fun _ h9 => h9) rfl dX8_multiplyAll_28 ?_
        refine lv_aload_n hx hb dX8_multiplyAll_31 rfl (lv_at hl 2 rfl) ?_
        refine lv_iload hx hb dX8_multiplyAll_32 (lv_at hl 0 rfl) ?_
        refine hp_iald hx hb hK hh (q := q) rfl hq eq_83 (vp_in_nI (n := j83) (by omega) (by omega)) dX8_multiplyAll_34 ?_
        rw [nI_clamp (n := j83) (by omega)]
        obtain ⟨v_85, hv_85, hfv_85⟩ := hvl j83 (by omega)
        rw [hfv_85]
        refine hp_aald hx hb hK hh (q := 3) rfl hm3 8 e3_83 rfl rfl (vp_in_nI (n := v_85) (by omega) (by decide)) (v := .ref (ad (4 + v_85))) (by rw [nI_clamp (n := v_85) (by omega)]; exact rfA_v (by omega)) dX8_multiplyAll_35 ?_
        have er86 : en_83 (4 + v_85) = .inl (cy 1, 9, .inr (.inl (rf v_85))) := hrw_83 v_85 (by omega)
        refine lv_aload_n hx hb dX8_multiplyAll_36 rfl (lv_at hl 1 rfl) ?_
        refine hp_get hx hb hts ix8 hown hK hh (q := 1) rfl hm1 e1_83 rfl 3 (by decide) (hts _ tw_42) (fun _ h9 => h9) rfl dX8_multiplyAll_37 ?_
        refine hp_callMv (va_runV (As := [.ref (ad qc), .ref (ad (4 + v_85)), .ref (ad 11)]) (rest := []) ⟨hx, hb, hml, hown, hts⟩ (c_X8_multiply l D cy _ cs ad en_83 hm1 cnt d mm hcnt hd2 hd3 hmm qc (4 + v_85) 11 hqc (hmr _ (by omega)) hm11 (by omega) (by omega) (by omega) gc83 (rf v_85) gs83 e1_83 w0_83 er86 w1_83) (kw_X8_multiply hts tw_698 ⟨by decide, by decide⟩) (preV_of hh hK hm1 e1_83 rfl) rfl rfl hl.1 rfl (lv_room (Nat.le_of_ble_eq_true rfl)) dX8_multiplyAll_40 ⟨Nat.le_of_ble_eq_true rfl, Nat.le_of_ble_eq_true rfl⟩) hh hA (fun H locs en_87 hw_87 hh => ?_)
        obtain ⟨g_87, hen_87, hg_87⟩ := hw_87
        have e1_87 : en_87 1 = .inr (7, [.ref (ad 2), .ref (ad 3), .ref (ad 10), .ref (ad 11), .int (nI cnt), .int (nI d), .int (nI mm)]) := by rw [hen_87, va_up_ne _ _ (by decide)]; exact e1_83
        have e3_87 : en_87 3 = .inl (cy 8, 6, .inr (.inr (.inr (.inr (rfA ad 6 4))))) := by rw [hen_87, va_up_ne _ _ (by decide)]; exact e3_83
        have eq_87 : en_87 q = .inl (cy 0, NL, .inl f0) := by rw [hen_87, va_up_ne _ _ (by omega)]; exact eq_83
        have er81_87 : en_87 (4 + v_80) = .inl (cy 1, 9, .inr (.inl (rf v_80))) := by rw [hen_87, va_up_ne _ _ (by omega)]; exact er81_83
        have w0_87 : en_87 qc = .inl (cy 1, 9, .inr (.inl gc83)) := by rw [hen_87, va_up_ne _ _ (by omega)]; exact w0_83
        have er86_87 : en_87 (4 + v_85) = .inl (cy 1, 9, .inr (.inl (rf v_85))) := by rw [hen_87, va_up_ne _ _ (by omega)]; exact er86
        have hrw_87 : ∀ j, j < 6 → en_87 (4 + j) = .inl (cy 1, 9, .inr (.inl (rf j))) := fun j hj => by rw [hen_87, va_up_ne _ _ (by omega)]; exact hrw_83 j hj
        have w1_87 : en_87 11 = .inl (cy 1, 9, .inr (.inl g_87)) := by rw [hen_87]; exact va_up_self _ _ _
        refine lv_aload_n hx hb dX8_multiplyAll_43 rfl (lv_at hl 1 rfl) ?_
        refine hp_get hx hb hts ix8 hown hK hh (q := 1) rfl hm1 e1_87 rfl 3 (by decide) (hts _ tw_42) (fun _ h9 => h9) rfl dX8_multiplyAll_44 ?_
        refine lv_iconst (v := 0) hx hb dX8_multiplyAll_47 (by decide) ?_
        refine lv_aload_n hx hb dX8_multiplyAll_48 rfl (lv_at hl 4 rfl) ?_
        refine lv_iconst (v := 0) hx hb dX8_multiplyAll_49 (by decide) ?_
        refine lv_bipush (v := 9) hx hb dX8_multiplyAll_50 (by decide) ?_
        refine W.eq (g2 := F0 m 52 ls [.int (nI 9), .int (nI 0), .ref (ad qc), .int (nI 0), .ref (ad 11)]) rfl ?_
        refine hp_copyl hx hb (hml.trans hl.1.symm) hown (hts _ tw_697) (hts _ tw_340) (hts _ tw_339) (hts _ tw_12) hK hh hm11 hqc w1_87 w0_87 0 0 9 (by decide) (by decide) (by decide) (by decide) (by decide) (Nat.le_of_ble_eq_true rfl) (Nat.le_of_ble_eq_true rfl) dX8_multiplyAll_52 (fun H locs en_88 hen_88 hh => ?_)
        have e1_88 : en_88 1 = .inr (7, [.ref (ad 2), .ref (ad 3), .ref (ad 10), .ref (ad 11), .int (nI cnt), .int (nI d), .int (nI mm)]) := by rw [hen_88, va_up_ne _ _ (by omega)]; exact e1_87
        have e3_88 : en_88 3 = .inl (cy 8, 6, .inr (.inr (.inr (.inr (rfA ad 6 4))))) := by rw [hen_88, va_up_ne _ _ (by omega)]; exact e3_87
        have eq_88 : en_88 q = .inl (cy 0, NL, .inl f0) := by rw [hen_88, va_up_ne _ _ (by omega)]; exact eq_87
        have er81_88 : en_88 (4 + v_80) = .inl (cy 1, 9, .inr (.inl (rf v_80))) := by rw [hen_88, va_up_ne _ _ (by omega)]; exact er81_87
        have er86_88 : en_88 (4 + v_85) = .inl (cy 1, 9, .inr (.inl (rf v_85))) := by rw [hen_88, va_up_ne _ _ (by omega)]; exact er86_87
        have w1_88 : en_88 11 = .inl (cy 1, 9, .inr (.inl g_87)) := by rw [hen_88, va_up_ne _ _ (by omega)]; exact w1_87
        have hrw_88 : ∀ j, j < 6 → en_88 (4 + j) = .inl (cy 1, 9, .inr (.inl (rf j))) := fun j hj => by rw [hen_88, va_up_ne _ _ (by omega)]; exact hrw_87 j hj
        have w0_88 : en_88 qc = .inl (cy 1, 9, .inr (.inl (va_cpy g_87 gc83 0 0 9))) := by rw [hen_88]; exact va_up_self _ _ _
        refine lv_iinc (v := (nI (j83 + 1))) (lv' := [(4, .int (nI (j83 + 1))), (0, .ref (ad 1)), (1, .ref (ad q)), (2, .int (nI n)), (3, .ref (ad qc))]) hx hb dX8_multiplyAll_55 hl (k := 0) rfl (nI_1 _) (by decide) rfl (fun ls hl => ?_)
        refine lv_goto (tgt := 19) hx hb dX8_multiplyAll_58 (by decide) ?_
        exact ih_83 ((j83 + 1))  _ _ en_88 ls H locs (by omega) (by omega) (by omega) w0_88 w1_88 (fun c h0 h1 => by rw [hen_88, va_up_ne _ _ h0, hen_87, va_up_ne _ _ h1, hu_83 c h0 h1]) (fun i hi => by have hdd : d * d ≤ 9 := Nat.mul_le_mul hd3 hd3; rw [pk_cpy_in (Nat.zero_le _) (by omega), show 0 + (i - 0) = i by omega, hg_87.1 i hi, prW_s (by omega), hfv_85, nI_clamp (n := v_85) (by omega)]; exact mulV_c hi i0_83 (fun _ _ => rfl)) (lv_sub hl [0, 1, 2, 3, 4] rfl) hh
  exact loop_83 (n + 1) 1  _ _ en_82 ls _ _ (Nat.le_refl _) (by omega) (by omega) eqc_82 e11_82 (fun c _ _ => rfl) (fun i hi => by have hdd : d * d ≤ 9 := Nat.mul_le_mul hd3 hd3; rw [pk_cpy_in (Nat.zero_le _) (by omega), show 0 + (i - 0) = i by omega]; show _ = rf (f0 0).toNatClampNeg i; rw [hfv_80, nI_clamp (n := v_80) (by omega)]) (lv_sub hl [0, 1, 2, 3, 4] rfl) hh
theorem kw_X8_multiplyAll {R : Room} {s : State} {args : Array Value} {own : String} {idx : Nat} (hts : ∀ w ∈ TB, w.before args s = true) (hl : Cond.methodLink own idx yX8_multiplyAll ∈ TB) (hR : 2 + 1 ≤ R.frames ∧ 8 + (5 + 11) + 40 * 2 ≤ R.locals) : CallW R s args own RX8 idx yX8_multiplyAll cX8_multiplyAll 5 none (Cond.code yX8_multiplyAll cX8_multiplyAll 5 none :: TB) (rmN 2) 0 0 3 := cwV 3 hts (TB_V hl tw_694 tw_695 tw_2 tw_696) rfl rfl rfl (by decide +kernel) hR
