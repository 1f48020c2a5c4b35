set_option maxHeartbeats 4000000 in
set_option maxRecDepth 100000 in
/-- chainOf -/
theorem c_X12_chainOf (l : Launch) (D : va_G) (cy : Nat → ClassId) (sz : Nat) (cs : List Nat) (ad : Nat → Nat) (en : Nat → va_E) (hI : RX cy cs ad en) (n : Nat) (hn : n ≤ 12)   : Met l yX12_chainOf (Cond.code yX12_chainOf cX12_chainOf 5 (some .int) :: TB) (rmN 0) (va_Pc [.ref (ad 0), .int (nI n)] (Pre D cy cs ad en sz)) (va_Qi (S := Unit) (fun r _ => ∃ S, S < 4096 ∧ r = nI S) (fun _ _ => True) (Nf sz)) 0 0 (Nf sz) := by
  refine Met.ofW (cc := cX12_chainOf) (maxL := 5) (ret := (some .int)) (by decide) rfl ?_
  intro p e s m args below meth c s₁ B hml hv
  obtain ⟨rfl, hsz, hP, hK, hD0⟩ := hv
  have hx := B.exec
  have hb := B.bytes
  have hr := B.returns
  have hts : ∀ w ∈ TB, w.before _ s = true := fun w h => atoms_spec (ws := _ :: TB) B.pre w (List.mem_cons_of_mem _ h)
  have hown : s.vm.findClass RX12 = some m.cls := findClass_of_methodNamed B.named
  have hlocks := B.notSynchronized
  have hh : Hp D (Nf sz) (fun _ => True) s.heap s.heap [] cs ad en := ⟨hP, hD0, va_S.rf⟩
  have hA : ∀ q : Nat, s.heap.size ≤ q → Nf sz q := fun q h => by rw [hsz] at h; exact h
  have hl := lv_entry ([.ref (ad 0), .int (nI n)]) (n := 5) (Nat.le_of_ble_eq_true rfl)
  rw [lg_entry_eq]
  generalize (lg_sl ([.ref (ad 0), .int (nI n)]) ++ List.replicate (5 - (lg_sl ([.ref (ad 0), .int (nI n)])).length) Slot.unset).toArray = ls at hl ⊢
  have hl : lv_has ls 5 [(0, .ref (ad 0)), (1, .int (nI n))] := hl
  obtain ⟨fa, hi, wd, mo, tb, dp, many, grt, lst, nou, rm, rb, pr, wo, es1587, hwd2, hwd3, hmo, htb, hwo⟩ := getr_M hI
  have hww : wd * wd ≤ 9 := mww (by omega)
  refine lv_lconst (v := 0) hx hb dX12_chainOf_0 (by decide) ?_
  refine lv_lstore_n (lv' := [(2, .long 0), (0, .ref (ad 0)), (1, .int (nI n))]) hx hb dX12_chainOf_1 rfl hl (by decide) rfl (fun ls hl => ?_)
  refine lv_iconst (v := 0) hx hb dX12_chainOf_2 (by decide) ?_
  refine lv_istore (lv' := [(4, .int 0), (2, .long 0), (0, .ref (ad 0)), (1, .int (nI n))]) hx hb dX12_chainOf_3 hl (by decide) rfl (fun ls hl => ?_)
  have loop_1588 : ∀ (fu j1588 : Nat) (v1588 : Int64)  (ls : Array Slot) (H : Heap) (locs : List Loc), 0 ≤ j1588 → j1588 ≤ (wd * wd) → (wd * wd) < j1588 + fu →   lv_has ls 5 [(4, .int (nI j1588)), (2, .long v1588), (0, .ref (ad 0)), (1, .int (nI n))] → Hp D (Nf sz) (fun _ => True) s.heap H locs cs ad en → W p l e (headSpec (Cond.code yX12_chainOf cX12_chainOf 5 (some .int) :: TB) (rmN 0)).room s m ([.ref (ad 0), .int (nI n)] : List Value).toArray below meth c H locs 0 0 (MQ below (va_Qi (S := Unit) (fun r _ => ∃ S, S < 4096 ∧ r = nI S) (fun _ _ => True) (Nf sz)) ([.ref (ad 0), .int (nI n)] : List Value).toArray s 0 0 (Nf sz)) (F0 m 5 ls []) := by
    intro fu
    induction fu with
    | zero => intro j1588 v1588 ls H locs h0 h1 h2; exact absurd h2 (by omega)
    | succ fu ih_1588 =>
      intro j1588 v1588 ls H locs hj0_1588 hj_1588 hfu_1588  hl hh
      refine lv_iload hx hb dX12_chainOf_5 (lv_at hl 0 rfl) ?_
      refine lv_aload_n hx hb dX12_chainOf_7 rfl (lv_at hl 2 rfl) ?_
      refine hp_get hx hb hts ix12 hown hK hh (q := 0) rfl (hI.1 _ (by decide)) es1587 rfl 2 (by decide) (hts _ tw_881) (fun _ h9 => h9) rfl dX12_chainOf_8 ?_
      refine lv_aload_n hx hb dX12_chainOf_11 rfl (lv_at hl 2 rfl) ?_
      refine hp_get hx hb hts ix12 hown hK hh (q := 0) rfl (hI.1 _ (by decide)) es1587 rfl 2 (by decide) (hts _ tw_881) (fun _ h9 => h9) rfl dX12_chainOf_12 ?_
      refine lv_imul hx hb dX12_chainOf_15 ?_
      rw [pk_mul wd wd]
      have hw2_1589 : wd * wd ≤ 9 := mww (by omega)
      refine lv_icmp_ge (tgt := 44) hx hb dX12_chainOf_16 (by decide) (fun c_1590 => ?_) (fun c_1590 => ?_)
      · have n_1590 : (wd * wd) ≤ j1588 := n_le (a := (wd * wd)) (b := j1588) c_1590 (by omega) (by omega)
        refine lv_lload_n hx hb dX12_chainOf_44 rfl (lv_at hl 1 rfl) ?_
        refine lv_lload_n hx hb dX12_chainOf_45 rfl (lv_at hl 1 rfl) ?_
        refine lv_bipush (v := 21) hx hb dX12_chainOf_46 (by decide) ?_
        refine lv_lshr hx hb dX12_chainOf_48 rfl ?_
        refine lv_lxor hx hb dX12_chainOf_49 ?_
        refine lv_ldc2 hx hb hown (hts _ tw_1132) dX12_chainOf_50 ?_
        refine lv_land hx hb dX12_chainOf_53 ?_
        refine lv_l2i hx hb dX12_chainOf_54 rfl ?_
        obtain ⟨S_1591, hS_1591, hSe_1591⟩ := l4095 (v1588 ^^^ (v1588 >>> ((21 : Int32).toInt64 &&& 63)))
        rw [hSe_1591]
        exact hp_iretR hx hb hr rfl hlocks hsz hh (⟨_, hS_1591, rfl⟩) dX12_chainOf_55
      · have n_1590 : j1588 < (wd * wd) := n_nle (a := (wd * wd)) (b := j1588) c_1590 (by omega) (by omega)
        refine lv_lload_n hx hb dX12_chainOf_19 rfl (lv_at hl 1 rfl) ?_
        refine lv_ldc2 hx hb hown (hts _ tw_1131) dX12_chainOf_20 ?_
        refine lv_lmul hx hb dX12_chainOf_23 ?_
        refine lv_aload_n hx hb dX12_chainOf_24 rfl (lv_at hl 2 rfl) ?_
        refine hp_get hx hb hts ix12 hown hK hh (q := 0) rfl (hI.1 _ (by decide)) es1587 rfl 10 (by decide) (hts _ tw_889) (fun _ h9 => h9) rfl dX12_chainOf_25 ?_
        refine lv_bipush (v := 9) hx hb dX12_chainOf_28 (by decide) ?_
        refine lv_iload_n hx hb dX12_chainOf_30 rfl (lv_at hl 3 rfl) ?_
        refine lv_imul hx hb dX12_chainOf_31 ?_
        rw [show (9 : Int32) = nI 9 from rfl, pk_mul 9 n]
        refine lv_iload hx hb dX12_chainOf_32 (lv_at hl 0 rfl) ?_
        refine lv_iadd hx hb dX12_chainOf_34 ?_
        rw [nI_add (9 * n) j1588]
        obtain ⟨f_1592, es1592⟩ := getr_lv hI
        refine hp_lald hx hb hK hh (q := 6) rfl (hI.1 _ (by decide)) es1592 (vp_in_nI (n := ((9 * n) + j1588)) (by omega) (by decide)) dX12_chainOf_35 ?_
        rw [nI_clamp (n := ((9 * n) + j1588)) (by omega)]
        refine lv_ladd hx hb dX12_chainOf_36 ?_
        refine lv_lstore_n (lv' := [(2, .long ((v1588 * 1000003) + (f_1592 ((9 * n) + j1588)))), (4, .int (nI j1588)), (0, .ref (ad 0)), (1, .int (nI n))]) hx hb dX12_chainOf_37 rfl hl (by decide) rfl (fun ls hl => ?_)
        refine lv_iinc (v := (nI (j1588 + 1))) (lv' := [(4, .int (nI (j1588 + 1))), (2, .long ((v1588 * 1000003) + (f_1592 ((9 * n) + j1588)))), (0, .ref (ad 0)), (1, .int (nI n))]) hx hb dX12_chainOf_38 hl (k := 1) rfl (nI_1 _) (by decide) rfl (fun ls hl => ?_)
        refine lv_goto (tgt := 5) hx hb dX12_chainOf_41 (by decide) ?_
        exact ih_1588 ((j1588 + 1)) ((v1588 * 1000003) + (f_1592 ((9 * n) + j1588))) ls H locs (by omega) (by omega) (by omega)  (lv_sub hl [0, 1, 2, 3] rfl) hh
  exact loop_1588 ((wd * wd) + 1) 0 0 ls _ _ (Nat.le_refl _) (by omega) (by omega)  (lv_sub hl [0, 1, 2, 3] rfl) hh
theorem kw_X12_chainOf {R : Room} {s : State} {args : Array Value} {own : String} {idx : Nat} (hts : ∀ w ∈ TB, w.before args s = true) (hl : Cond.methodLink own idx yX12_chainOf ∈ TB) (hR : 0 + 1 ≤ R.frames ∧ 8 + (5 + 11) + 40 * 0 ≤ R.locals) : CallW R s args own RX12 idx yX12_chainOf cX12_chainOf 5 (some .int) (Cond.code yX12_chainOf cX12_chainOf 5 (some .int) :: TB) (rmN 0) 0 0 1 := cwV 1 hts (TB_V hl tw_1129 ts_52 tw_9 tw_1130) rfl rfl rfl (by decide +kernel) hR
set_option maxHeartbeats 4000000 in
set_option maxRecDepth 100000 in
/-- findAt -/
theorem c_X12_findAt (l : Launch) (D : va_G) (cy : Nat → ClassId) (sz : Nat) (cs : List Nat) (ad : Nat → Nat) (en : Nat → va_E) (hI : RX cy cs ad en) (n : Nat) (hn : n ≤ 12) (P : Nat) (hCH : CH en P)   : Met l yX12_findAt (Cond.code yX12_findAt cX12_findAt 4 (some .int) :: TB) (rmN 1) (va_Pc [.ref (ad 0), .int (nI n)] (Pre D cy cs ad en sz)) (va_Qi (S := Unit) (fun r _ => (r = -9 ∨ ∃ v, v < P ∧ r = nI v)) (fun _ _ => True) (Nf sz)) 0 0 (Nf sz) := by
  refine Met.ofW (cc := cX12_findAt) (maxL := 4) (ret := (some .int)) (by decide) rfl ?_
  intro p e s m args below meth c s₁ B hml hv
  obtain ⟨rfl, hsz, hP, hK, hD0⟩ := hv
  have hx := B.exec
  have hb := B.bytes
  have hr := B.returns
  have hts : ∀ w ∈ TB, w.before _ s = true := fun w h => atoms_spec (ws := _ :: TB) B.pre w (List.mem_cons_of_mem _ h)
  have hown : s.vm.findClass RX12 = some m.cls := findClass_of_methodNamed B.named
  have hlocks := B.notSynchronized
  have hh : Hp D (Nf sz) (fun _ => True) s.heap s.heap [] cs ad en := ⟨hP, hD0, va_S.rf⟩
  have hA : ∀ q : Nat, s.heap.size ≤ q → Nf sz q := fun q h => by rw [hsz] at h; exact h
  have hl := lv_entry ([.ref (ad 0), .int (nI n)]) (n := 4) (Nat.le_of_ble_eq_true rfl)
  rw [lg_entry_eq]
  generalize (lg_sl ([.ref (ad 0), .int (nI n)]) ++ List.replicate (4 - (lg_sl ([.ref (ad 0), .int (nI n)])).length) Slot.unset).toArray = ls at hl ⊢
  have hl : lv_has ls 4 [(0, .ref (ad 0)), (1, .int (nI n))] := hl
  obtain ⟨fa, hi, wd, mo, tb, dp, many, grt, lst, nou, rm, rb, pr, wo, es1593, hwd2, hwd3, hmo, htb, hwo⟩ := getr_M hI
  obtain ⟨f_1594, es1594⟩ := getr_hd hI
  obtain ⟨f_1595, es1595⟩ := getr_ch hI
  obtain ⟨f_1596, es1596⟩ := getr_pd hI
  obtain ⟨f_1597, es1597⟩ := getr_lv hI
  have hww : wd * wd ≤ 9 := mww (by omega)
  have hP9 := hCH.1
  refine lv_aload_n hx hb dX12_findAt_0 rfl (lv_at hl 0 rfl) ?_
  refine hp_get hx hb hts ix12 hown hK hh (q := 0) rfl (hI.1 _ (by decide)) es1593 rfl 28 (by decide) (hts _ tw_907) (fun _ h9 => h9) rfl dX12_findAt_1 ?_
  refine lv_aload_n hx hb dX12_findAt_4 rfl (lv_at hl 0 rfl) ?_
  refine lv_iload_n hx hb dX12_findAt_5 rfl (lv_at hl 1 rfl) ?_
  refine hp_callRi (va_runV (As := [.int (nI n)]) (rest := [.ref (ad 16)]) ⟨hx, hb, hml, hown, hts⟩ (c_X12_chainOf l D cy _ cs ad en hI n (by omega)) (kw_X12_chainOf hts tw_1127 ⟨by decide, by decide⟩) (preV_of hh hK (hI.1 _ (by decide)) es1593 rfl) rfl rfl hl.1 rfl (lv_room (Nat.le_of_ble_eq_true rfl)) dX12_findAt_6 ⟨Nat.le_of_ble_eq_true rfl, Nat.le_of_ble_eq_true rfl⟩) hh hA (fun r_1598 H locs hw_1598 hh => ?_)
  obtain ⟨S_1598, hS_1598, rfl⟩ := hw_1598
  refine hp_iald hx hb hK hh (q := 16) rfl (hI.1 _ (by decide)) es1594 (vp_in_nI (n := S_1598) (by omega) (by decide)) dX12_findAt_9 ?_
  rw [nI_clamp (n := S_1598) (by omega)]
  refine lv_istore_n (lv' := [(2, .int (f_1594 S_1598)), (0, .ref (ad 0)), (1, .int (nI n))]) hx hb dX12_findAt_10 rfl hl (by decide) rfl (fun ls hl => ?_)
  have loop_1599 : ∀ (fu mm1599 : Nat) (pp1599 : Int32)   (ls : Array Slot) (H : Heap) (locs : List Loc), mm1599 < fu →  (pp1599 = -9 ∨ ∃ v, v < mm1599 ∧ v < P ∧ pp1599 = nI v) → lv_has ls 4 [(2, .int pp1599), (0, .ref (ad 0)), (1, .int (nI n))] → Hp D (Nf sz) (fun _ => True) s.heap H locs cs ad en → W p l e (headSpec (Cond.code yX12_findAt cX12_findAt 4 (some .int) :: TB) (rmN 1)).room s m ([.ref (ad 0), .int (nI n)] : List Value).toArray below meth c H locs 0 0 (MQ below (va_Qi (S := Unit) (fun r _ => (r = -9 ∨ ∃ v, v < P ∧ r = nI v)) (fun _ _ => True) (Nf sz)) ([.ref (ad 0), .int (nI n)] : List Value).toArray s 0 0 (Nf sz)) (F0 m 11 ls []) := by
    intro fu
    induction fu with
    | zero => intro mm1599 pp1599 ls H locs h2; exact absurd h2 (by omega)
    | succ fu ih_1599 =>
      intro mm1599 pp1599 ls H locs hmm_1599 i0_1599 hl hh
      refine lv_iload_n hx hb dX12_findAt_11 rfl (lv_at hl 0 rfl) ?_
      refine lv_bipush (v := (-9)) hx hb dX12_findAt_12 (by decide) ?_
      refine lv_icmp_eq (tgt := 89) hx hb dX12_findAt_14 (by decide) (fun c_1600 => ?_) (fun c_1600 => ?_)
      · refine lv_bipush (v := (-9)) hx hb dX12_findAt_89 (by decide) ?_
        exact hp_iretR hx hb hr rfl hlocks hsz hh (Or.inl rfl) dX12_findAt_91
      · rcases i0_1599 with hq9_1599 | ⟨v9_1599, hv9a_1599, hv9b_1599, hv9e_1599⟩
        · exact absurd hq9_1599 c_1600
        subst hv9e_1599
        refine lv_iconst (v := 0) hx hb dX12_findAt_17 (by decide) ?_
        refine lv_istore_n (lv' := [(3, .int 0), (2, .int (nI v9_1599)), (0, .ref (ad 0)), (1, .int (nI n))]) hx hb dX12_findAt_18 rfl hl (by decide) rfl (fun ls hl => ?_)
        have loop_1601 : ∀ (fu j1601 : Nat)   (ls : Array Slot) (H : Heap) (locs : List Loc), 0 ≤ j1601 → j1601 ≤ (wd * wd) → (wd * wd) < j1601 + fu →   lv_has ls 4 [(3, .int (nI j1601)), (2, .int (nI v9_1599)), (0, .ref (ad 0)), (1, .int (nI n))] → Hp D (Nf sz) (fun _ => True) s.heap H locs cs ad en → W p l e (headSpec (Cond.code yX12_findAt cX12_findAt 4 (some .int) :: TB) (rmN 1)).room s m ([.ref (ad 0), .int (nI n)] : List Value).toArray below meth c H locs 0 0 (MQ below (va_Qi (S := Unit) (fun r _ => (r = -9 ∨ ∃ v, v < P ∧ r = nI v)) (fun _ _ => True) (Nf sz)) ([.ref (ad 0), .int (nI n)] : List Value).toArray s 0 0 (Nf sz)) (F0 m 19 ls []) := by
          intro fu
          induction fu with
          | zero => intro j1601  ls H locs h0 h1 h2; exact absurd h2 (by omega)
          | succ fu ih_1601 =>
            intro j1601  ls H locs hj0_1601 hj_1601 hfu_1601  hl hh
            refine lv_iload_n hx hb dX12_findAt_19 rfl (lv_at hl 0 rfl) ?_
            refine lv_aload_n hx hb dX12_findAt_20 rfl (lv_at hl 2 rfl) ?_
            refine hp_get hx hb hts ix12 hown hK hh (q := 0) rfl (hI.1 _ (by decide)) es1593 rfl 2 (by decide) (hts _ tw_881) (fun _ h9 => h9) rfl dX12_findAt_21 ?_
            refine lv_aload_n hx hb dX12_findAt_24 rfl (lv_at hl 2 rfl) ?_
            refine hp_get hx hb hts ix12 hown hK hh (q := 0) rfl (hI.1 _ (by decide)) es1593 rfl 2 (by decide) (hts _ tw_881) (fun _ h9 => h9) rfl dX12_findAt_25 ?_
            refine lv_imul hx hb dX12_findAt_28 ?_
            rw [pk_mul wd wd]
            have hw2_1602 : wd * wd ≤ 9 := mww (by omega)
            refine lv_icmp_ge (tgt := 64) hx hb dX12_findAt_29 (by decide) (fun c_1603 => ?_) (fun c_1603 => ?_)
            · have n_1603 : (wd * wd) ≤ j1601 := n_le (a := (wd * wd)) (b := j1601) c_1603 (by omega) (by omega)
              refine lv_iload_n hx hb dX12_findAt_64 rfl (lv_at hl 0 rfl) ?_
              refine lv_aload_n hx hb dX12_findAt_65 rfl (lv_at hl 2 rfl) ?_
              refine hp_get hx hb hts ix12 hown hK hh (q := 0) rfl (hI.1 _ (by decide)) es1593 rfl 2 (by decide) (hts _ tw_881) (fun _ h9 => h9) rfl dX12_findAt_66 ?_
              refine lv_aload_n hx hb dX12_findAt_69 rfl (lv_at hl 2 rfl) ?_
              refine hp_get hx hb hts ix12 hown hK hh (q := 0) rfl (hI.1 _ (by decide)) es1593 rfl 2 (by decide) (hts _ tw_881) (fun _ h9 => h9) rfl dX12_findAt_70 ?_
              refine lv_imul hx hb dX12_findAt_73 ?_
              rw [pk_mul wd wd]
              have hw2_1604 : wd * wd ≤ 9 := mww (by omega)
              refine lv_icmp_ne (tgt := 79) hx hb dX12_findAt_74 (by decide) (fun c_1605 => ?_) (fun c_1605 => ?_)
              · have n_1605 : j1601 ≠ (wd * wd) := n_neq (a := j1601) (b := (wd * wd)) c_1605 (by omega) (by omega)
                refine lv_aload_n hx hb dX12_findAt_79 rfl (lv_at hl 2 rfl) ?_
                refine hp_get hx hb hts ix12 hown hK hh (q := 0) rfl (hI.1 _ (by decide)) es1593 rfl 29 (by decide) (hts _ tw_908) (fun _ h9 => h9) rfl dX12_findAt_80 ?_
                refine lv_iload_n hx hb dX12_findAt_83 rfl (lv_at hl 1 rfl) ?_
                refine hp_iald hx hb hK hh (q := 17) rfl (hI.1 _ (by decide)) es1595 (vp_in_nI (n := v9_1599) (by omega) (by decide)) dX12_findAt_84 ?_
                rw [nI_clamp (n := v9_1599) (by omega)]
                refine lv_istore_n (lv' := [(2, .int (f_1595 v9_1599)), (3, .int (nI j1601)), (0, .ref (ad 0)), (1, .int (nI n))]) hx hb dX12_findAt_85 rfl hl (by decide) rfl (fun ls hl => ?_)
                refine lv_goto (tgt := 11) hx hb dX12_findAt_86 (by decide) ?_
                exact ih_1599 (v9_1599) (f_1595 v9_1599) ls H locs (by omega) (by have h9 := hCH.2.2.2 v9_1599 hv9b_1599; rw [show rdF (en 17) = f_1595 from by rw [es1595]; rfl] at h9; rcases h9 with h9 | ⟨v, h1, h2⟩; exact Or.inl h9; exact Or.inr ⟨v, h1, by omega, h2⟩) (lv_sub hl [0, 2, 3] rfl) hh
              · have n_1605 : j1601 = (wd * wd) := n_eq (a := j1601) (b := (wd * wd)) c_1605 (by omega) (by omega)
                refine lv_iload_n hx hb dX12_findAt_77 rfl (lv_at hl 1 rfl) ?_
                exact hp_iretR hx hb hr rfl hlocks hsz hh (Or.inr ⟨_, hv9b_1599, rfl⟩) dX12_findAt_78
            · have n_1603 : j1601 < (wd * wd) := n_nle (a := (wd * wd)) (b := j1601) c_1603 (by omega) (by omega)
              refine lv_aload_n hx hb dX12_findAt_32 rfl (lv_at hl 2 rfl) ?_
              refine hp_get hx hb hts ix12 hown hK hh (q := 0) rfl (hI.1 _ (by decide)) es1593 rfl 26 (by decide) (hts _ tw_905) (fun _ h9 => h9) rfl dX12_findAt_33 ?_
              refine lv_bipush (v := 9) hx hb dX12_findAt_36 (by decide) ?_
              refine lv_iload_n hx hb dX12_findAt_38 rfl (lv_at hl 1 rfl) ?_
              refine lv_imul hx hb dX12_findAt_39 ?_
              rw [show (9 : Int32) = nI 9 from rfl, pk_mul 9 v9_1599]
              refine lv_iload_n hx hb dX12_findAt_40 rfl (lv_at hl 0 rfl) ?_
              refine lv_iadd hx hb dX12_findAt_41 ?_
              rw [nI_add (9 * v9_1599) j1601]
              refine hp_lald hx hb hK hh (q := 14) rfl (hI.1 _ (by decide)) es1596 (vp_in_nI (n := ((9 * v9_1599) + j1601)) (by omega) (by decide)) dX12_findAt_42 ?_
              rw [nI_clamp (n := ((9 * v9_1599) + j1601)) (by omega)]
              refine lv_aload_n hx hb dX12_findAt_43 rfl (lv_at hl 2 rfl) ?_
              refine hp_get hx hb hts ix12 hown hK hh (q := 0) rfl (hI.1 _ (by decide)) es1593 rfl 10 (by decide) (hts _ tw_889) (fun _ h9 => h9) rfl dX12_findAt_44 ?_
              refine lv_bipush (v := 9) hx hb dX12_findAt_47 (by decide) ?_
              refine lv_iload_n hx hb dX12_findAt_49 rfl (lv_at hl 3 rfl) ?_
              refine lv_imul hx hb dX12_findAt_50 ?_
              rw [show (9 : Int32) = nI 9 from rfl, pk_mul 9 n]
              refine lv_iload_n hx hb dX12_findAt_51 rfl (lv_at hl 0 rfl) ?_
              refine lv_iadd hx hb dX12_findAt_52 ?_
              rw [nI_add (9 * n) j1601]
              refine hp_lald hx hb hK hh (q := 6) rfl (hI.1 _ (by decide)) es1597 (vp_in_nI (n := ((9 * n) + j1601)) (by omega) (by decide)) dX12_findAt_53 ?_
              rw [nI_clamp (n := ((9 * n) + j1601)) (by omega)]
              refine W.lcmp hx hb dX12_findAt_54 ?_
              refine lv_if_ne (tgt := 64) hx hb dX12_findAt_55 (by decide) (fun c_1606 => ?_) (fun c_1606 => ?_)
              · refine lv_iload_n hx hb dX12_findAt_64 rfl (lv_at hl 0 rfl) ?_
                refine lv_aload_n hx hb dX12_findAt_65 rfl (lv_at hl 2 rfl) ?_
                refine hp_get hx hb hts ix12 hown hK hh (q := 0) rfl (hI.1 _ (by decide)) es1593 rfl 2 (by decide) (hts _ tw_881) (fun _ h9 => h9) rfl dX12_findAt_66 ?_
                refine lv_aload_n hx hb dX12_findAt_69 rfl (lv_at hl 2 rfl) ?_
                refine hp_get hx hb hts ix12 hown hK hh (q := 0) rfl (hI.1 _ (by decide)) es1593 rfl 2 (by decide) (hts _ tw_881) (fun _ h9 => h9) rfl dX12_findAt_70 ?_
                refine lv_imul hx hb dX12_findAt_73 ?_
                rw [pk_mul wd wd]
                have hw2_1607 : wd * wd ≤ 9 := mww (by omega)
                refine lv_icmp_ne (tgt := 79) hx hb dX12_findAt_74 (by decide) (fun c_1608 => ?_) (fun c_1608 => ?_)
                · have n_1608 : j1601 ≠ (wd * wd) := n_neq (a := j1601) (b := (wd * wd)) c_1608 (by omega) (by omega)
                  refine lv_aload_n hx hb dX12_findAt_79 rfl (lv_at hl 2 rfl) ?_
                  refine hp_get hx hb hts ix12 hown hK hh (q := 0) rfl (hI.1 _ (by decide)) es1593 rfl 29 (by decide) (hts _ tw_908) (fun _ h9 => h9) rfl dX12_findAt_80 ?_
                  refine lv_iload_n hx hb dX12_findAt_83 rfl (lv_at hl 1 rfl) ?_
                  refine hp_iald hx hb hK hh (q := 17) rfl (hI.1 _ (by decide)) es1595 (vp_in_nI (n := v9_1599) (by omega) (by decide)) dX12_findAt_84 ?_
                  rw [nI_clamp (n := v9_1599) (by omega)]
                  refine lv_istore_n (lv' := [(2, .int (f_1595 v9_1599)), (3, .int (nI j1601)), (0, .ref (ad 0)), (1, .int (nI n))]) hx hb dX12_findAt_85 rfl hl (by decide) rfl (fun ls hl => ?_)
                  refine lv_goto (tgt := 11) hx hb dX12_findAt_86 (by decide) ?_
                  exact ih_1599 (v9_1599) (f_1595 v9_1599) ls H locs (by omega) (by have h9 := hCH.2.2.2 v9_1599 hv9b_1599; rw [show rdF (en 17) = f_1595 from by rw [es1595]; rfl] at h9; rcases h9 with h9 | ⟨v, h1, h2⟩; exact Or.inl h9; exact Or.inr ⟨v, h1, by omega, h2⟩) (lv_sub hl [0, 2, 3] rfl) hh
                · have n_1608 : j1601 = (wd * wd) := n_eq (a := j1601) (b := (wd * wd)) c_1608 (by omega) (by omega)
                  refine lv_iload_n hx hb dX12_findAt_77 rfl (lv_at hl 1 rfl) ?_
                  exact hp_iretR hx hb hr rfl hlocks hsz hh (Or.inr ⟨_, hv9b_1599, rfl⟩) dX12_findAt_78
              · refine lv_iinc (v := (nI (j1601 + 1))) (lv' := [(3, .int (nI (j1601 + 1))), (2, .int (nI v9_1599)), (0, .ref (ad 0)), (1, .int (nI n))]) hx hb dX12_findAt_58 hl (k := 0) rfl (nI_1 _) (by decide) rfl (fun ls hl => ?_)
                refine lv_goto (tgt := 19) hx hb dX12_findAt_61 (by decide) ?_
                exact ih_1601 ((j1601 + 1))  ls H locs (by omega) (by omega) (by omega)  (lv_sub hl [0, 1, 2, 3] rfl) hh
        exact loop_1601 ((wd * wd) + 1) 0  ls _ _ (Nat.le_refl _) (by omega) (by omega)  (lv_sub hl [0, 1, 2, 3] rfl) hh
  exact loop_1599 (P + 1) P (f_1594 S_1598) ls _ _ (by omega) (by have h9 := hCH.2.2.1 S_1598 (by omega); rw [show rdF (en 16) = f_1594 from by rw [es1594]; rfl] at h9; rcases h9 with h9 | ⟨v, h1, h2⟩; exact Or.inl h9; exact Or.inr ⟨v, h1, h1, h2⟩) (lv_sub hl [0, 1, 2] rfl) hh
theorem kw_X12_findAt {R : Room} {s : State} {args : Array Value} {own : String} {idx : Nat} (hts : ∀ w ∈ TB, w.before args s = true) (hl : Cond.methodLink own idx yX12_findAt ∈ TB) (hR : 1 + 1 ≤ R.frames ∧ 8 + (4 + 11) + 40 * 1 ≤ R.locals) : CallW R s args own RX12 idx yX12_findAt cX12_findAt 4 (some .int) (Cond.code yX12_findAt cX12_findAt 4 (some .int) :: TB) (rmN 1) 0 0 1 := cwV 1 hts (TB_V hl tw_1125 ts_51 tw_9 tw_1126) rfl rfl rfl (by decide +kernel) hR
set_option maxHeartbeats 4000000 in
set_option maxRecDepth 100000 in
/-- comes -/
theorem c_X12_comes (l : Launch) (D : va_G) (cy : Nat → ClassId) (sz : Nat) (cs : List Nat) (ad : Nat → Nat) (en : Nat → va_E) (hI : RX cy cs ad en) (n : Nat) (le9 : Int32) (hn : n ≤ 12) (P : Nat) (hCH : CH en P)   : Met l yX12_comes (Cond.code yX12_comes cX12_comes 5 (some .boolean) :: TB) (rmN 2) (va_Pc [.ref (ad 0), .int (nI n), .int le9] (Pre D cy cs ad en sz)) (va_Qi (S := Nat → va_E) (fun r en1 => RX cy cs ad en1 ∧ (∀ c, (c ≠ 0 ∧ c ≠ 14 ∧ c ≠ 15 ∧ c ≠ 16 ∧ c ≠ 17) → en1 c = en c) ∧ ((r = 0 ∧ CH en1 P) ∨ (r = 1 ∧ ∃ P1, CH en1 P1 ∧ P ≤ P1 ∧ 1 ≤ P1)) ∧ KPp en en1) (PostM D cs ad) (Af cs ad sz)) 0 0 (Af cs ad sz) := by
  refine Met.ofW (cc := cX12_comes) (maxL := 5) (ret := (some .boolean)) (by decide) rfl ?_
  intro p e s m args below meth c s₁ B hml hv
  obtain ⟨rfl, hsz, hP, hK, hD0⟩ := hv
  have hx := B.exec
  have hb := B.bytes
  have hr := B.returns
  have hts : ∀ w ∈ TB, w.before _ s = true := fun w h => atoms_spec (ws := _ :: TB) B.pre w (List.mem_cons_of_mem _ h)
  have hown : s.vm.findClass RX12 = some m.cls := findClass_of_methodNamed B.named
  have hlocks := B.notSynchronized
  have hh : Hp D (Af cs ad sz) (Af cs ad sz) s.heap s.heap [] cs ad en := ⟨hP, Af_self hD0, va_S.rf⟩
  have hA : ∀ q : Nat, s.heap.size ≤ q → Af cs ad sz q := fun q h => Or.inr (by rw [hsz] at h; exact h)
  have hl := lv_entry ([.ref (ad 0), .int (nI n), .int le9]) (n := 5) (Nat.le_of_ble_eq_true rfl)
  rw [lg_entry_eq]
  generalize (lg_sl ([.ref (ad 0), .int (nI n), .int le9]) ++ List.replicate (5 - (lg_sl ([.ref (ad 0), .int (nI n), .int le9])).length) Slot.unset).toArray = ls at hl ⊢
  have hl : lv_has ls 5 [(0, .ref (ad 0)), (1, .int (nI n)), (2, .int le9)] := hl
  have hf0 : ∀ c, (c ≠ 0 ∧ c ≠ 14 ∧ c ≠ 15 ∧ c ≠ 16 ∧ c ≠ 17) → en c = en c := fun _ _ => rfl
  obtain ⟨fa, hi, wd, mo, tb, dp, many, grt, lst, nou, rm, rb, pr, wo, es1609, hwd2, hwd3, hmo, htb, hwo⟩ := getr_M hI
  obtain ⟨f_1610, es1610⟩ := getr_hd hI
  obtain ⟨f_1611, es1611⟩ := getr_ch hI
  have hP9 := hCH.1
  have hww : wd * wd ≤ 9 := mww (by omega)
  have hfx_1612 : pr = nI P := (show pr = rdI (en 0) 25 from by rw [es1609]; rfl).trans (hCH.2.1)
  rw [hfx_1612] at es1609
  refine lv_iconst (v := 0) hx hb dX12_comes_0 (by decide) ?_
  refine lv_istore_n (lv' := [(3, .int 0), (0, .ref (ad 0)), (1, .int (nI n)), (2, .int le9)]) hx hb dX12_comes_1 rfl hl (by decide) rfl (fun ls hl => ?_)
  have loop_1613 : ∀ (fu j1613 : Nat)   (ls : Array Slot) (H : Heap) (locs : List Loc), 0 ≤ j1613 → j1613 ≤ (wd * wd) → (wd * wd) < j1613 + fu →   lv_has ls 5 [(3, .int (nI j1613)), (0, .ref (ad 0)), (1, .int (nI n)), (2, .int le9)] → Hp D (Af cs ad sz) (Af cs ad sz) s.heap H locs cs ad en → W p l e (headSpec (Cond.code yX12_comes cX12_comes 5 (some .boolean) :: TB) (rmN 2)).room s m ([.ref (ad 0), .int (nI n), .int le9] : List Value).toArray below meth c H locs 0 0 (MQ below (va_Qi (S := Nat → va_E) (fun r en1 => RX cy cs ad en1 ∧ (∀ c, (c ≠ 0 ∧ c ≠ 14 ∧ c ≠ 15 ∧ c ≠ 16 ∧ c ≠ 17) → en1 c = en c) ∧ ((r = 0 ∧ CH en1 P) ∨ (r = 1 ∧ ∃ P1, CH en1 P1 ∧ P ≤ P1 ∧ 1 ≤ P1)) ∧ KPp en en1) (PostM D cs ad) (Af cs ad sz)) ([.ref (ad 0), .int (nI n), .int le9] : List Value).toArray s 0 0 (Af cs ad sz)) (F0 m 2 ls []) := by
    intro fu
    induction fu with
    | zero => intro j1613  ls H locs h0 h1 h2; exact absurd h2 (by omega)
    | succ fu ih_1613 =>
      intro j1613  ls H locs hj0_1613 hj_1613 hfu_1613  hl hh
      refine lv_iload_n hx hb dX12_comes_2 rfl (lv_at hl 0 rfl) ?_
      refine lv_aload_n hx hb dX12_comes_3 rfl (lv_at hl 1 rfl) ?_
      refine hp_get hx hb hts ix12 hown hK hh (q := 0) rfl (hI.1 _ (by decide)) es1609 rfl 2 (by decide) (hts _ tw_881) (fun _ h9 => h9) rfl dX12_comes_4 ?_
      refine lv_aload_n hx hb dX12_comes_7 rfl (lv_at hl 1 rfl) ?_
      refine hp_get hx hb hts ix12 hown hK hh (q := 0) rfl (hI.1 _ (by decide)) es1609 rfl 2 (by decide) (hts _ tw_881) (fun _ h9 => h9) rfl dX12_comes_8 ?_
      refine lv_imul hx hb dX12_comes_11 ?_
      rw [pk_mul wd wd]
      have hw2_1614 : wd * wd ≤ 9 := mww (by omega)
      refine lv_icmp_ge (tgt := 46) hx hb dX12_comes_12 (by decide) (fun c_1615 => ?_) (fun c_1615 => ?_)
      · have n_1615 : (wd * wd) ≤ j1613 := n_le (a := (wd * wd)) (b := j1613) c_1615 (by omega) (by omega)
        refine lv_aload_n hx hb dX12_comes_46 rfl (lv_at hl 1 rfl) ?_
        refine lv_iload_n hx hb dX12_comes_47 rfl (lv_at hl 2 rfl) ?_
        refine hp_callRi (va_runV (As := [.int (nI n)]) (rest := []) ⟨hx, hb, hml, hown, hts⟩ (c_X12_findAt l D cy _ cs ad en hI n (by omega) P hCH) (kw_X12_findAt hts tw_1123 ⟨by decide, by decide⟩) (preV_of hh hK (hI.1 _ (by decide)) es1609 rfl) rfl rfl hl.1 rfl (lv_room (Nat.le_of_ble_eq_true rfl)) dX12_comes_48 ⟨Nat.le_of_ble_eq_true rfl, Nat.le_of_ble_eq_true rfl⟩) hh hA (fun r_1616 H locs hw_1616 hh => ?_)
        rcases hw_1616 with hb_1616 | ⟨F_1616, hF_1616, hb_1616⟩
        · obtain rfl : r_1616 = (-9) := hb_1616
          refine lv_bipush (v := (-9)) hx hb dX12_comes_51 (by decide) ?_
          refine lv_icmp_eq (tgt := 58) hx hb dX12_comes_53 (by decide) (fun _ => ?_) (fun c_0 => absurd c_0 (by decide))
          refine lv_aload_n hx hb dX12_comes_58 rfl (lv_at hl 1 rfl) ?_
          refine hp_get hx hb hts ix12 hown hK hh (q := 0) rfl (hI.1 _ (by decide)) es1609 rfl 25 (by decide) (hts _ tw_904) (fun _ h9 => h9) rfl dX12_comes_59 ?_
          refine lv_sipush (v := 2000) hx hb dX12_comes_62 (by decide) ?_
          refine lv_icmp_ne (tgt := 70) hx hb dX12_comes_65 (by decide) (fun c_1617 => ?_) (fun c_1617 => ?_)
          · have n_1617 : P ≠ 2000 := n_neq (a := P) (b := 2000) c_1617 (by omega) (by decide)
            refine lv_aload_n hx hb dX12_comes_70 rfl (lv_at hl 1 rfl) ?_
            refine lv_iload_n hx hb dX12_comes_71 rfl (lv_at hl 2 rfl) ?_
            refine hp_callRi (va_runV (As := [.int (nI n)]) (rest := []) ⟨hx, hb, hml, hown, hts⟩ (c_X12_chainOf l D cy _ cs ad en hI n (by omega)) (kw_X12_chainOf hts tw_1127 ⟨by decide, by decide⟩) (preV_of hh hK (hI.1 _ (by decide)) es1609 rfl) rfl rfl hl.1 rfl (lv_room (Nat.le_of_ble_eq_true rfl)) dX12_comes_72 ⟨Nat.le_of_ble_eq_true rfl, Nat.le_of_ble_eq_true rfl⟩) hh hA (fun r_1618 H locs hw_1618 hh => ?_)
            obtain ⟨S_1618, hS_1618, rfl⟩ := hw_1618
            refine lv_istore_n (lv' := [(3, .int (nI S_1618)), (0, .ref (ad 0)), (1, .int (nI n)), (2, .int le9)]) hx hb dX12_comes_75 rfl hl (by decide) rfl (fun ls hl => ?_)
            refine lv_iconst (v := 0) hx hb dX12_comes_76 (by decide) ?_
            refine lv_istore (lv' := [(4, .int 0), (3, .int (nI S_1618)), (0, .ref (ad 0)), (1, .int (nI n)), (2, .int le9)]) hx hb dX12_comes_77 hl (by decide) rfl (fun ls hl => ?_)
            have loop_1619 : ∀ (fu j1619 : Nat)  (en_1619 : Nat → va_E) (ls : Array Slot) (H : Heap) (locs : List Loc), 0 ≤ j1619 → j1619 ≤ (wd * wd) → (wd * wd) < j1619 + fu → RX cy cs ad en_1619 → (∀ c, (c ≠ 0 ∧ c ≠ 14 ∧ c ≠ 15 ∧ c ≠ 16 ∧ c ≠ 17) → en_1619 c = en c) → (rdI (en_1619 0) 25 = nI P) → (KPp en en_1619) → (en_1619 16 = en 16) → (en_1619 17 = en 17) → lv_has ls 5 [(4, .int (nI j1619)), (3, .int (nI S_1618)), (0, .ref (ad 0)), (1, .int (nI n)), (2, .int le9)] → Hp D (Af cs ad sz) (Af cs ad sz) s.heap H locs cs ad en_1619 → W p l e (headSpec (Cond.code yX12_comes cX12_comes 5 (some .boolean) :: TB) (rmN 2)).room s m ([.ref (ad 0), .int (nI n), .int le9] : List Value).toArray below meth c H locs 0 0 (MQ below (va_Qi (S := Nat → va_E) (fun r en1 => RX cy cs ad en1 ∧ (∀ c, (c ≠ 0 ∧ c ≠ 14 ∧ c ≠ 15 ∧ c ≠ 16 ∧ c ≠ 17) → en1 c = en c) ∧ ((r = 0 ∧ CH en1 P) ∨ (r = 1 ∧ ∃ P1, CH en1 P1 ∧ P ≤ P1 ∧ 1 ≤ P1)) ∧ KPp en en1) (PostM D cs ad) (Af cs ad sz)) ([.ref (ad 0), .int (nI n), .int le9] : List Value).toArray s 0 0 (Af cs ad sz)) (F0 m 79 ls []) := by
              intro fu
              induction fu with
              | zero => intro j1619  en_1619 ls H locs h0 h1 h2; exact absurd h2 (by omega)
              | succ fu ih_1619 =>
                intro j1619  en_1619 ls H locs hj0_1619 hj_1619 hfu_1619 hI_1619 hf_1619 i0_1619 i1_1619 i2_1619 i3_1619 hl hh
                refine lv_iload hx hb dX12_comes_79 (lv_at hl 0 rfl) ?_
                refine lv_aload_n hx hb dX12_comes_81 rfl (lv_at hl 2 rfl) ?_
                obtain ⟨fa_1620, hi_1620, wd_1620, mo_1620, tb_1620, dp_1620, many_1620, grt_1620, lst_1620, nou_1620, rm_1620, rb_1620, pr_1620, wo_1620, es1620, p0_1620, p1_1620, p2_1620, p3_1620, p4_1620⟩ := getr_M hI_1619
                have hfx_1621 : pr_1620 = nI P := (show pr_1620 = rdI (en_1619 0) 25 from by rw [es1620]; rfl).trans (i0_1619)
                rw [hfx_1621] at es1620
                have hq2_1622 : wd_1620 = wd := n_eq ((show nI wd_1620 = rdI (en_1619 0) 2 from by rw [es1620]; rfl).trans (i1_1619.2.1.trans (show rdI (en 0) 2 = nI wd from by rw [es1609]; rfl))) (by omega) (by omega)
                have hq3_1622 : mo_1620 = mo := n_eq ((show nI mo_1620 = rdI (en_1619 0) 3 from by rw [es1620]; rfl).trans (i1_1619.2.2.1.trans (show rdI (en 0) 3 = nI mo from by rw [es1609]; rfl))) (by omega) (by omega)
                have hq4_1622 : tb_1620 = tb := n_eq ((show nI tb_1620 = rdI (en_1619 0) 4 from by rw [es1620]; rfl).trans (i1_1619.2.2.2.1.trans (show rdI (en 0) 4 = nI tb from by rw [es1609]; rfl))) (by omega) (by omega)
                have hq30_1622 : wo_1620 = wo := n_eq ((show nI wo_1620 = rdI (en_1619 0) 30 from by rw [es1620]; rfl).trans (i1_1619.2.2.2.2.trans (show rdI (en 0) 30 = nI wo from by rw [es1609]; rfl))) (by omega) (by omega)
                rw [hq2_1622, hq3_1622, hq4_1622, hq30_1622] at es1620
                refine hp_get hx hb hts ix12 hown hK hh (q := 0) rfl (hI.1 _ (by decide)) es1620 rfl 2 (by decide) (hts _ tw_881) (fun _ h9 => h9) rfl dX12_comes_82 ?_
                refine lv_aload_n hx hb dX12_comes_85 rfl (lv_at hl 2 rfl) ?_
                refine hp_get hx hb hts ix12 hown hK hh (q := 0) rfl (hI.1 _ (by decide)) es1620 rfl 2 (by decide) (hts _ tw_881) (fun _ h9 => h9) rfl dX12_comes_86 ?_
                refine lv_imul hx hb dX12_comes_89 ?_
                rw [pk_mul wd wd]
                have hw2_1623 : wd * wd ≤ 9 := mww (by omega)
                refine lv_icmp_ge (tgt := 126) hx hb dX12_comes_90 (by decide) (fun c_1624 => ?_) (fun c_1624 => ?_)
                · have n_1624 : (wd * wd) ≤ j1619 := n_le (a := (wd * wd)) (b := j1619) c_1624 (by omega) (by omega)
                  refine lv_aload_n hx hb dX12_comes_126 rfl (lv_at hl 2 rfl) ?_
                  refine hp_get hx hb hts ix12 hown hK hh (q := 0) rfl (hI.1 _ (by decide)) es1620 rfl 27 (by decide) (hts _ tw_906) (fun _ h9 => h9) rfl dX12_comes_127 ?_
                  refine lv_aload_n hx hb dX12_comes_130 rfl (lv_at hl 2 rfl) ?_
                  refine hp_get hx hb hts ix12 hown hK hh (q := 0) rfl (hI.1 _ (by decide)) es1620 rfl 25 (by decide) (hts _ tw_904) (fun _ h9 => h9) rfl dX12_comes_131 ?_
                  refine lv_iload_n hx hb dX12_comes_134 rfl (lv_at hl 4 rfl) ?_
                  obtain ⟨f_1625, es1625⟩ := getr_ln hI_1619
                  refine hp_iast hx hb hK hh (q := 15) rfl (hI.1 _ (by decide)) es1625 (vp_in_nI (n := P) (by omega) (by decide)) dX12_comes_135 (fun H locs en_1626 hen_1626 hh => ?_)
                  rw [nI_clamp (n := P) (by omega)] at hen_1626
                  have es1620_1626 : en_1626 0 = .inr (11, [.int fa_1620, .int hi_1620, .int (nI wd), .int (nI mo), .int (nI tb), .ref (ad 1), .ref (ad 2), .ref (ad 3), .ref (ad 4), .ref (ad 5), .ref (ad 6), .ref (ad 7), .ref (ad 8), .ref (ad 9), .int dp_1620, .long many_1620, .long grt_1620, .long lst_1620, .long nou_1620, .ref (ad 10), .ref (ad 11), .ref (ad 12), .int rm_1620, .long rb_1620, .ref (ad 13), .int (nI P), .ref (ad 14), .ref (ad 15), .ref (ad 16), .ref (ad 17), .int (nI wo), .ref (ad 18), .ref (ad 19)]) := by rw [hen_1626, va_up_ne _ _ (by decide)]; exact es1620
                  have es1625_1626 : en_1626 15 = .inl (cy 0, 2001, .inl (upd f_1625 P le9)) := by rw [hen_1626]; exact va_up_self _ _ _
                  have hI_1626 : RX cy cs ad en_1626 := by rw [hen_1626]; exact upr_ln hI_1619 ⟨(upd f_1625 P le9), rfl⟩
                  have hf_1626 : ∀ c, (c ≠ 0 ∧ c ≠ 14 ∧ c ≠ 15 ∧ c ≠ 16 ∧ c ≠ 17) → en_1626 c = en c := fun c hc => Eq.trans (show en_1626 c = en_1619 c from by rw [hen_1626, va_up_ne _ _ (by omega)]) (hf_1619 c hc)
                  have hkc16_1626 : en_1626 16 = en 16 := (show en_1626 16 = en_1619 16 from by rw [hen_1626, va_up_ne _ _ (by decide)]).trans i2_1619
                  have hkc17_1626 : en_1626 17 = en 17 := (show en_1626 17 = en_1619 17 from by rw [hen_1626, va_up_ne _ _ (by decide)]).trans i3_1619
                  have hkp_1626 : KPp en en_1626 := KPp_same i1_1619 (show en_1626 0 = en_1619 0 from by rw [hen_1626, va_up_ne _ _ (by decide)])
                  refine lv_aload_n hx hb dX12_comes_136 rfl (lv_at hl 2 rfl) ?_
                  refine hp_get hx hb hts ix12 hown hK hh (q := 0) rfl (hI.1 _ (by decide)) es1620_1626 rfl 29 (by decide) (hts _ tw_908) (fun _ h9 => h9) rfl dX12_comes_137 ?_
                  refine lv_aload_n hx hb dX12_comes_140 rfl (lv_at hl 2 rfl) ?_
                  refine hp_get hx hb hts ix12 hown hK hh (q := 0) rfl (hI.1 _ (by decide)) es1620_1626 rfl 25 (by decide) (hts _ tw_904) (fun _ h9 => h9) rfl dX12_comes_141 ?_
                  refine lv_aload_n hx hb dX12_comes_144 rfl (lv_at hl 2 rfl) ?_
                  refine hp_get hx hb hts ix12 hown hK hh (q := 0) rfl (hI.1 _ (by decide)) es1620_1626 rfl 28 (by decide) (hts _ tw_907) (fun _ h9 => h9) rfl dX12_comes_145 ?_
                  refine lv_iload_n hx hb dX12_comes_148 rfl (lv_at hl 1 rfl) ?_
                  have es1610_1627 : en_1626 16 = .inl (cy 0, 4096, .inl f_1610) := hkc16_1626.trans es1610
                  refine hp_iald hx hb hK hh (q := 16) rfl (hI.1 _ (by decide)) es1610_1627 (vp_in_nI (n := S_1618) (by omega) (by decide)) dX12_comes_149 ?_
                  rw [nI_clamp (n := S_1618) (by omega)]
                  have es1611_1628 : en_1626 17 = .inl (cy 0, 2001, .inl f_1611) := hkc17_1626.trans es1611
                  refine hp_iast hx hb hK hh (q := 17) rfl (hI.1 _ (by decide)) es1611_1628 (vp_in_nI (n := P) (by omega) (by decide)) dX12_comes_150 (fun H locs en_1629 hen_1629 hh => ?_)
                  rw [nI_clamp (n := P) (by omega)] at hen_1629
                  have es1620_1629 : en_1629 0 = .inr (11, [.int fa_1620, .int hi_1620, .int (nI wd), .int (nI mo), .int (nI tb), .ref (ad 1), .ref (ad 2), .ref (ad 3), .ref (ad 4), .ref (ad 5), .ref (ad 6), .ref (ad 7), .ref (ad 8), .ref (ad 9), .int dp_1620, .long many_1620, .long grt_1620, .long lst_1620, .long nou_1620, .ref (ad 10), .ref (ad 11), .ref (ad 12), .int rm_1620, .long rb_1620, .ref (ad 13), .int (nI P), .ref (ad 14), .ref (ad 15), .ref (ad 16), .ref (ad 17), .int (nI wo), .ref (ad 18), .ref (ad 19)]) := by rw [hen_1629, va_up_ne _ _ (by decide)]; exact es1620_1626
                  have es1625_1629 : en_1629 15 = .inl (cy 0, 2001, .inl (upd f_1625 P le9)) := by rw [hen_1629, va_up_ne _ _ (by decide)]; exact es1625_1626
                  have es1610_1629 : en_1629 16 = .inl (cy 0, 4096, .inl f_1610) := by rw [hen_1629, va_up_ne _ _ (by decide)]; exact es1610_1627
                  have es1611_1629 : en_1629 17 = .inl (cy 0, 2001, .inl (upd f_1611 P (f_1610 S_1618))) := by rw [hen_1629]; exact va_up_self _ _ _
                  have hI_1629 : RX cy cs ad en_1629 := by rw [hen_1629]; exact upr_ch hI_1626 ⟨(upd f_1611 P (f_1610 S_1618)), rfl⟩
                  have hf_1629 : ∀ c, (c ≠ 0 ∧ c ≠ 14 ∧ c ≠ 15 ∧ c ≠ 16 ∧ c ≠ 17) → en_1629 c = en c := fun c hc => Eq.trans (show en_1629 c = en_1626 c from by rw [hen_1629, va_up_ne _ _ (by omega)]) (hf_1626 c hc)
                  have hkc16_1629 : en_1629 16 = en 16 := (show en_1629 16 = en_1626 16 from by rw [hen_1629, va_up_ne _ _ (by decide)]).trans hkc16_1626
                  have hkp_1629 : KPp en en_1629 := KPp_same hkp_1626 (show en_1629 0 = en_1626 0 from by rw [hen_1629, va_up_ne _ _ (by decide)])
                  refine lv_aload_n hx hb dX12_comes_151 rfl (lv_at hl 2 rfl) ?_
                  refine hp_get hx hb hts ix12 hown hK hh (q := 0) rfl (hI.1 _ (by decide)) es1620_1629 rfl 28 (by decide) (hts _ tw_907) (fun _ h9 => h9) rfl dX12_comes_152 ?_
                  refine lv_iload_n hx hb dX12_comes_155 rfl (lv_at hl 1 rfl) ?_
                  refine lv_aload_n hx hb dX12_comes_156 rfl (lv_at hl 2 rfl) ?_
                  refine hp_get hx hb hts ix12 hown hK hh (q := 0) rfl (hI.1 _ (by decide)) es1620_1629 rfl 25 (by decide) (hts _ tw_904) (fun _ h9 => h9) rfl dX12_comes_157 ?_
                  refine hp_iast hx hb hK hh (q := 16) rfl (hI.1 _ (by decide)) es1610_1629 (vp_in_nI (n := S_1618) (by omega) (by decide)) dX12_comes_160 (fun H locs en_1630 hen_1630 hh => ?_)
                  rw [nI_clamp (n := S_1618) (by omega)] at hen_1630
                  have es1620_1630 : en_1630 0 = .inr (11, [.int fa_1620, .int hi_1620, .int (nI wd), .int (nI mo), .int (nI tb), .ref (ad 1), .ref (ad 2), .ref (ad 3), .ref (ad 4), .ref (ad 5), .ref (ad 6), .ref (ad 7), .ref (ad 8), .ref (ad 9), .int dp_1620, .long many_1620, .long grt_1620, .long lst_1620, .long nou_1620, .ref (ad 10), .ref (ad 11), .ref (ad 12), .int rm_1620, .long rb_1620, .ref (ad 13), .int (nI P), .ref (ad 14), .ref (ad 15), .ref (ad 16), .ref (ad 17), .int (nI wo), .ref (ad 18), .ref (ad 19)]) := by rw [hen_1630, va_up_ne _ _ (by decide)]; exact es1620_1629
                  have es1625_1630 : en_1630 15 = .inl (cy 0, 2001, .inl (upd f_1625 P le9)) := by rw [hen_1630, va_up_ne _ _ (by decide)]; exact es1625_1629
                  have es1611_1630 : en_1630 17 = .inl (cy 0, 2001, .inl (upd f_1611 P (f_1610 S_1618))) := by rw [hen_1630, va_up_ne _ _ (by decide)]; exact es1611_1629
                  have es1610_1630 : en_1630 16 = .inl (cy 0, 4096, .inl (upd f_1610 S_1618 (nI P))) := by rw [hen_1630]; exact va_up_self _ _ _
                  have hI_1630 : RX cy cs ad en_1630 := by rw [hen_1630]; exact upr_hd hI_1629 ⟨(upd f_1610 S_1618 (nI P)), rfl⟩
                  have hf_1630 : ∀ c, (c ≠ 0 ∧ c ≠ 14 ∧ c ≠ 15 ∧ c ≠ 16 ∧ c ≠ 17) → en_1630 c = en c := fun c hc => Eq.trans (show en_1630 c = en_1629 c from by rw [hen_1630, va_up_ne _ _ (by omega)]) (hf_1629 c hc)
                  have hkp_1630 : KPp en en_1630 := KPp_same hkp_1629 (show en_1630 0 = en_1629 0 from by rw [hen_1630, va_up_ne _ _ (by decide)])
                  refine lv_aload_n hx hb dX12_comes_161 rfl (lv_at hl 2 rfl) ?_
                  refine lv_dup hx hb dX12_comes_162 rfl ?_
                  refine hp_get hx hb hts ix12 hown hK hh (q := 0) rfl (hI.1 _ (by decide)) es1620_1630 rfl 25 (by decide) (hts _ tw_904) (fun _ h9 => h9) rfl dX12_comes_163 ?_
                  refine lv_iconst (v := 1) hx hb dX12_comes_166 (by decide) ?_
                  refine lv_iadd hx hb dX12_comes_167 ?_
                  rw [show (1 : Int32) = nI 1 from rfl, nI_add P 1]
                  refine hp_put hx hb hts ix12 tyX12 tyX12_ok nmX12 hown hK hh (q := 0) rfl (hI.1 _ (by decide)) es1620_1630 rfl 25 (by decide) (hts _ tw_904) (fun _ h9 => h9) rfl (ty := .int) (by decide +kernel) rfl rfl (Nat.le_of_ble_eq_true rfl) dX12_comes_168 (fun H locs en_1631 hen_1631 hh => ?_)
                  have es1625_1631 : en_1631 15 = .inl (cy 0, 2001, .inl (upd f_1625 P le9)) := by rw [hen_1631, va_up_ne _ _ (by decide)]; exact es1625_1630
                  have es1611_1631 : en_1631 17 = .inl (cy 0, 2001, .inl (upd f_1611 P (f_1610 S_1618))) := by rw [hen_1631, va_up_ne _ _ (by decide)]; exact es1611_1630
                  have es1610_1631 : en_1631 16 = .inl (cy 0, 4096, .inl (upd f_1610 S_1618 (nI P))) := by rw [hen_1631, va_up_ne _ _ (by decide)]; exact es1610_1630
                  have es1620_1631 : en_1631 0 = .inr (11, [.int fa_1620, .int hi_1620, .int (nI wd), .int (nI mo), .int (nI tb), .ref (ad 1), .ref (ad 2), .ref (ad 3), .ref (ad 4), .ref (ad 5), .ref (ad 6), .ref (ad 7), .ref (ad 8), .ref (ad 9), .int dp_1620, .long many_1620, .long grt_1620, .long lst_1620, .long nou_1620, .ref (ad 10), .ref (ad 11), .ref (ad 12), .int rm_1620, .long rb_1620, .ref (ad 13), .int (nI (P + 1)), .ref (ad 14), .ref (ad 15), .ref (ad 16), .ref (ad 17), .int (nI wo), .ref (ad 18), .ref (ad 19)]) := by rw [hen_1631]; exact va_up_self _ _ _
                  have hI_1631 : RX cy cs ad en_1631 := by rw [hen_1631]; exact upr_M hI_1630 ⟨fa_1620, hi_1620, wd, mo, tb, dp_1620, many_1620, grt_1620, lst_1620, nou_1620, rm_1620, rb_1620, (nI (P + 1)), wo, rfl, hwd2, hwd3, hmo, htb, hwo⟩
                  have hf_1631 : ∀ c, (c ≠ 0 ∧ c ≠ 14 ∧ c ≠ 15 ∧ c ≠ 16 ∧ c ≠ 17) → en_1631 c = en c := fun c hc => Eq.trans (show en_1631 c = en_1630 c from by rw [hen_1631, va_up_ne _ _ (by omega)]) (hf_1630 c hc)
                  have hkp_1631 : KPp en en_1631 := KPp_fv hkp_1630 es1620_1630 es1620_1631 hi_1620 (nI wd) (nI mo) (nI tb) (nI wo) rfl rfl rfl rfl rfl rfl rfl rfl rfl rfl
                  refine lv_iconst (v := 1) hx hb dX12_comes_171 (by decide) ?_
                  exact hp_iretM hx hb hr rfl hlocks hh (⟨hI_1631, hf_1631, Or.inr ⟨rfl, P + 1, CH_add hCH (by omega) hS_1618 (h := f_1610) (c := f_1611) (by rw [es1610]; rfl) (by rw [es1611]; rfl) (by rw [es1620_1631]; rfl) (by rw [es1610_1631]; rfl) (by rw [es1611_1631]; rfl), by omega, by omega⟩, hkp_1631⟩) dX12_comes_172
                · have n_1624 : j1619 < (wd * wd) := n_nle (a := (wd * wd)) (b := j1619) c_1624 (by omega) (by omega)
                  refine lv_aload_n hx hb dX12_comes_93 rfl (lv_at hl 2 rfl) ?_
                  refine hp_get hx hb hts ix12 hown hK hh (q := 0) rfl (hI.1 _ (by decide)) es1620 rfl 26 (by decide) (hts _ tw_905) (fun _ h9 => h9) rfl dX12_comes_94 ?_
                  refine lv_bipush (v := 9) hx hb dX12_comes_97 (by decide) ?_
                  refine lv_aload_n hx hb dX12_comes_99 rfl (lv_at hl 2 rfl) ?_
                  refine hp_get hx hb hts ix12 hown hK hh (q := 0) rfl (hI.1 _ (by decide)) es1620 rfl 25 (by decide) (hts _ tw_904) (fun _ h9 => h9) rfl dX12_comes_100 ?_
                  refine lv_imul hx hb dX12_comes_103 ?_
                  rw [show (9 : Int32) = nI 9 from rfl, pk_mul 9 P]
                  refine lv_iload hx hb dX12_comes_104 (lv_at hl 0 rfl) ?_
                  refine lv_iadd hx hb dX12_comes_106 ?_
                  rw [nI_add (9 * P) j1619]
                  refine lv_aload_n hx hb dX12_comes_107 rfl (lv_at hl 2 rfl) ?_
                  refine hp_get hx hb hts ix12 hown hK hh (q := 0) rfl (hI.1 _ (by decide)) es1620 rfl 10 (by decide) (hts _ tw_889) (fun _ h9 => h9) rfl dX12_comes_108 ?_
                  refine lv_bipush (v := 9) hx hb dX12_comes_111 (by decide) ?_
                  refine lv_iload_n hx hb dX12_comes_113 rfl (lv_at hl 3 rfl) ?_
                  refine lv_imul hx hb dX12_comes_114 ?_
                  rw [show (9 : Int32) = nI 9 from rfl, pk_mul 9 n]
                  refine lv_iload hx hb dX12_comes_115 (lv_at hl 0 rfl) ?_
                  refine lv_iadd hx hb dX12_comes_117 ?_
                  rw [nI_add (9 * n) j1619]
                  obtain ⟨f_1632, es1632⟩ := getr_lv hI_1619
                  refine hp_lald hx hb hK hh (q := 6) rfl (hI.1 _ (by decide)) es1632 (vp_in_nI (n := ((9 * n) + j1619)) (by omega) (by decide)) dX12_comes_118 ?_
                  rw [nI_clamp (n := ((9 * n) + j1619)) (by omega)]
                  obtain ⟨f_1633, es1633⟩ := getr_pd hI_1619
                  refine hp_last hx hb hK hh (q := 14) rfl (hI.1 _ (by decide)) es1633 (vp_in_nI (n := ((9 * P) + j1619)) (by omega) (by decide)) dX12_comes_119 (fun H locs en_1634 hen_1634 hh => ?_)
                  rw [nI_clamp (n := ((9 * P) + j1619)) (by omega)] at hen_1634
                  have es1620_1634 : en_1634 0 = .inr (11, [.int fa_1620, .int hi_1620, .int (nI wd), .int (nI mo), .int (nI tb), .ref (ad 1), .ref (ad 2), .ref (ad 3), .ref (ad 4), .ref (ad 5), .ref (ad 6), .ref (ad 7), .ref (ad 8), .ref (ad 9), .int dp_1620, .long many_1620, .long grt_1620, .long lst_1620, .long nou_1620, .ref (ad 10), .ref (ad 11), .ref (ad 12), .int rm_1620, .long rb_1620, .ref (ad 13), .int (nI P), .ref (ad 14), .ref (ad 15), .ref (ad 16), .ref (ad 17), .int (nI wo), .ref (ad 18), .ref (ad 19)]) := by rw [hen_1634, va_up_ne _ _ (by decide)]; exact es1620
                  have es1632_1634 : en_1634 6 = .inl (cy 1, 117, .inr (.inl f_1632)) := by rw [hen_1634, va_up_ne _ _ (by decide)]; exact es1632
                  have es1633_1634 : en_1634 14 = .inl (cy 1, 18009, .inr (.inl (vp_updL f_1633 ((9 * P) + j1619) (f_1632 ((9 * n) + j1619))))) := by rw [hen_1634]; exact va_up_self _ _ _
                  have hI_1634 : RX cy cs ad en_1634 := by rw [hen_1634]; exact upr_pd hI_1619 ⟨(vp_updL f_1633 ((9 * P) + j1619) (f_1632 ((9 * n) + j1619))), rfl⟩
                  have hf_1634 : ∀ c, (c ≠ 0 ∧ c ≠ 14 ∧ c ≠ 15 ∧ c ≠ 16 ∧ c ≠ 17) → en_1634 c = en c := fun c hc => Eq.trans (show en_1634 c = en_1619 c from by rw [hen_1634, va_up_ne _ _ (by omega)]) (hf_1619 c hc)
                  have hkc16_1634 : en_1634 16 = en 16 := (show en_1634 16 = en_1619 16 from by rw [hen_1634, va_up_ne _ _ (by decide)]).trans i2_1619
                  have hkc17_1634 : en_1634 17 = en 17 := (show en_1634 17 = en_1619 17 from by rw [hen_1634, va_up_ne _ _ (by decide)]).trans i3_1619
                  have hkp_1634 : KPp en en_1634 := KPp_same i1_1619 (show en_1634 0 = en_1619 0 from by rw [hen_1634, va_up_ne _ _ (by decide)])
                  refine lv_iinc (v := (nI (j1619 + 1))) (lv' := [(4, .int (nI (j1619 + 1))), (3, .int (nI S_1618)), (0, .ref (ad 0)), (1, .int (nI n)), (2, .int le9)]) hx hb dX12_comes_120 hl (k := 0) rfl (nI_1 _) (by decide) rfl (fun ls hl => ?_)
                  refine lv_goto (tgt := 79) hx hb dX12_comes_123 (by decide) ?_
                  exact ih_1619 ((j1619 + 1))  en_1634 ls H locs (by omega) (by omega) (by omega) hI_1634 hf_1634 (by rw [es1620_1634]; rfl) (hkp_1634) (hkc16_1634) (hkc17_1634) (lv_sub hl [0, 1, 2, 3, 4] rfl) hh
            exact loop_1619 ((wd * wd) + 1) 0  en ls _ _ (Nat.le_refl _) (by omega) (by omega) hI hf0 (by rw [es1609]; rfl) ((KPp_rf en)) (rfl) (rfl) (lv_sub hl [0, 1, 2, 3, 4] rfl) hh
          · have n_1617 : P = 2000 := n_eq (a := P) (b := 2000) c_1617 (by omega) (by decide)
            refine lv_iconst (v := 0) hx hb dX12_comes_68 (by decide) ?_
            exact hp_iretM hx hb hr rfl hlocks hh (⟨hI, hf0, Or.inl ⟨rfl, hCH⟩, (KPp_rf en)⟩) dX12_comes_69
        · obtain rfl : r_1616 = nI F_1616 := hb_1616
          have hn9_1616 : ¬ nI F_1616 = (-9 : Int32) := nI_n9 (by have h9 := hCH.1; omega)
          refine lv_bipush (v := (-9)) hx hb dX12_comes_51 (by decide) ?_
          refine lv_icmp_eq (tgt := 58) hx hb dX12_comes_53 (by decide) (fun c_0 => absurd c_0 (hn9_1616)) (fun _ => ?_)
          refine lv_iconst (v := 1) hx hb dX12_comes_56 (by decide) ?_
          exact hp_iretM hx hb hr rfl hlocks hh (⟨hI, hf0, Or.inr ⟨rfl, P, hCH, Nat.le_refl _, by have h9 := hF_1616; omega⟩, (KPp_rf en)⟩) dX12_comes_57
      · have n_1615 : j1613 < (wd * wd) := n_nle (a := (wd * wd)) (b := j1613) c_1615 (by omega) (by omega)
        refine lv_aload_n hx hb dX12_comes_15 rfl (lv_at hl 1 rfl) ?_
        refine hp_get hx hb hts ix12 hown hK hh (q := 0) rfl (hI.1 _ (by decide)) es1609 rfl 10 (by decide) (hts _ tw_889) (fun _ h9 => h9) rfl dX12_comes_16 ?_
        refine lv_bipush (v := 9) hx hb dX12_comes_19 (by decide) ?_
        refine lv_iload_n hx hb dX12_comes_21 rfl (lv_at hl 2 rfl) ?_
        refine lv_imul hx hb dX12_comes_22 ?_
        rw [show (9 : Int32) = nI 9 from rfl, pk_mul 9 n]
        refine lv_iload_n hx hb dX12_comes_23 rfl (lv_at hl 0 rfl) ?_
        refine lv_iadd hx hb dX12_comes_24 ?_
        rw [nI_add (9 * n) j1613]
        obtain ⟨f_1635, es1635⟩ := getr_lv hI
        refine hp_lald hx hb hK hh (q := 6) rfl (hI.1 _ (by decide)) es1635 (vp_in_nI (n := ((9 * n) + j1613)) (by omega) (by decide)) dX12_comes_25 ?_
        rw [nI_clamp (n := ((9 * n) + j1613)) (by omega)]
        refine lv_ldc2 hx hb hown (hts _ tw_1121) dX12_comes_26 ?_
        refine lv_ldc2 hx hb hown (hts _ tw_1122) dX12_comes_29 ?_
        refine hp_callRi (va_runS (As := [.long (f_1635 ((9 * n) + j1613)), .long (-1000000), .long 1000000]) (rest := []) ⟨hx, hb, hml, hown, hts⟩ (c_X12_within l D cy _ cs ad en (f_1635 ((9 * n) + j1613)) (-1000000) 1000000) (kw_X12_within hts tw_985 ⟨by decide, by decide⟩) (preS_of hh hK) rfl rfl hl.1 rfl (lv_room (Nat.le_of_ble_eq_true rfl)) dX12_comes_32 ⟨Nat.le_of_ble_eq_true rfl, Nat.le_of_ble_eq_true rfl⟩) hh hA (fun r_1636 H locs hw_1636 hh => ?_)
        rcases Decidable.em (wj (f_1635 ((9 * n) + j1613)) (-1000000) 1000000) with hp_1636 | hp_1636
        · obtain rfl : r_1636 = 1 := Eq.trans hw_1636 (if_pos hp_1636)
          refine lv_if_ne (tgt := 40) hx hb dX12_comes_35 (by decide) (fun _ => ?_) (fun c_0 => absurd c_0 (by decide))
          refine lv_iinc (v := (nI (j1613 + 1))) (lv' := [(3, .int (nI (j1613 + 1))), (0, .ref (ad 0)), (1, .int (nI n)), (2, .int le9)]) hx hb dX12_comes_40 hl (k := 0) rfl (nI_1 _) (by decide) rfl (fun ls hl => ?_)
          refine lv_goto (tgt := 2) hx hb dX12_comes_43 (by decide) ?_
          exact ih_1613 ((j1613 + 1))  ls H locs (by omega) (by omega) (by omega)  (lv_sub hl [0, 1, 2, 3] rfl) hh
        · obtain rfl : r_1636 = 0 := Eq.trans hw_1636 (if_neg hp_1636)
          refine lv_if_ne (tgt := 40) hx hb dX12_comes_35 (by decide) (fun c_0 => absurd c_0 (by decide)) (fun _ => ?_)
          refine lv_iconst (v := 0) hx hb dX12_comes_38 (by decide) ?_
          exact hp_iretM hx hb hr rfl hlocks hh (⟨hI, hf0, Or.inl ⟨rfl, hCH⟩, (KPp_rf en)⟩) dX12_comes_39
  exact loop_1613 ((wd * wd) + 1) 0  ls _ _ (Nat.le_refl _) (by omega) (by omega)  (lv_sub hl [0, 1, 2, 3] rfl) hh
theorem kw_X12_comes {R : Room} {s : State} {args : Array Value} {own : String} {idx : Nat} (hts : ∀ w ∈ TB, w.before args s = true) (hl : Cond.methodLink own idx yX12_comes ∈ TB) (hR : 2 + 1 ≤ R.frames ∧ 8 + (5 + 11) + 40 * 2 ≤ R.locals) : CallW R s args own RX12 idx yX12_comes cX12_comes 5 (some .boolean) (Cond.code yX12_comes cX12_comes 5 (some .boolean) :: TB) (rmN 2) 0 0 2 := cwV 2 hts (TB_V hl tw_1119 ts_50 tw_9 tw_1120) rfl rfl rfl (by decide +kernel) hR
set_option maxHeartbeats 4000000 in
set_option maxRecDepth 100000 in
/-- layProduct -/
theorem c_X12_layProduct (l : Launch) (D : va_G) (cy : Nat → ClassId) (sz : Nat) (cs : List Nat) (ad : Nat → Nat) (en : Nat → va_E) (hI : RX cy cs ad en) (p9 n : Nat) (hp : p9 < 2001) (hn : n ≤ 12)   : Met l yX12_layProduct (Cond.code yX12_layProduct cX12_layProduct 4 none :: TB) (rmN 0) (va_Pc [.ref (ad 0), .int (nI p9), .int (nI n)] (Pre D cy cs ad en sz)) (va_Qv (S := Nat → va_E) (fun en1 => RX cy cs ad en1 ∧ (∀ c, (c ≠ 6) → en1 c = en c)) (PostM D cs ad) (Af cs ad sz)) 0 0 (Af cs ad sz) := by
  refine Met.ofW (cc := cX12_layProduct) (maxL := 4) (ret := none) (by decide) rfl ?_
  intro p e s m args below meth c s₁ B hml hv
  obtain ⟨rfl, hsz, hP, hK, hD0⟩ := hv
  have hx := B.exec
  have hb := B.bytes
  have hr := B.returns
  have hts : ∀ w ∈ TB, w.before _ s = true := fun w h => atoms_spec (ws := _ :: TB) B.pre w (List.mem_cons_of_mem _ h)
  have hown : s.vm.findClass RX12 = some m.cls := findClass_of_methodNamed B.named
  have hlocks := B.notSynchronized
  have hh : Hp D (Af cs ad sz) (Af cs ad sz) s.heap s.heap [] cs ad en := ⟨hP, Af_self hD0, va_S.rf⟩
  have hA : ∀ q : Nat, s.heap.size ≤ q → Af cs ad sz q := fun q h => Or.inr (by rw [hsz] at h; exact h)
  have hl := lv_entry ([.ref (ad 0), .int (nI p9), .int (nI n)]) (n := 4) (Nat.le_of_ble_eq_true rfl)
  rw [lg_entry_eq]
  generalize (lg_sl ([.ref (ad 0), .int (nI p9), .int (nI n)]) ++ List.replicate (4 - (lg_sl ([.ref (ad 0), .int (nI p9), .int (nI n)])).length) Slot.unset).toArray = ls at hl ⊢
  have hl : lv_has ls 4 [(0, .ref (ad 0)), (1, .int (nI p9)), (2, .int (nI n))] := hl
  have hf0 : ∀ c, (c ≠ 6) → en c = en c := fun _ _ => rfl
  obtain ⟨fa, hi, wd, mo, tb, dp, many, grt, lst, nou, rm, rb, pr, wo, es1637, hwd2, hwd3, hmo, htb, hwo⟩ := getr_M hI
  have hww : wd * wd ≤ 9 := mww (by omega)
  refine lv_iconst (v := 0) hx hb dX12_layProduct_0 (by decide) ?_
  refine lv_istore_n (lv' := [(3, .int 0), (0, .ref (ad 0)), (1, .int (nI p9)), (2, .int (nI n))]) hx hb dX12_layProduct_1 rfl hl (by decide) rfl (fun ls hl => ?_)
  have loop_1638 : ∀ (fu j1638 : Nat)  (en_1638 : Nat → va_E) (ls : Array Slot) (H : Heap) (locs : List Loc), 0 ≤ j1638 → j1638 ≤ (wd * wd) → (wd * wd) < j1638 + fu → RX cy cs ad en_1638 → (∀ c, (c ≠ 6) → en_1638 c = en c) →  lv_has ls 4 [(3, .int (nI j1638)), (0, .ref (ad 0)), (1, .int (nI p9)), (2, .int (nI n))] → Hp D (Af cs ad sz) (Af cs ad sz) s.heap H locs cs ad en_1638 → W p l e (headSpec (Cond.code yX12_layProduct cX12_layProduct 4 none :: TB) (rmN 0)).room s m ([.ref (ad 0), .int (nI p9), .int (nI n)] : List Value).toArray below meth c H locs 0 0 (MQ below (va_Qv (S := Nat → va_E) (fun en1 => RX cy cs ad en1 ∧ (∀ c, (c ≠ 6) → en1 c = en c)) (PostM D cs ad) (Af cs ad sz)) ([.ref (ad 0), .int (nI p9), .int (nI n)] : List Value).toArray s 0 0 (Af cs ad sz)) (F0 m 2 ls []) := by
    intro fu
    induction fu with
    | zero => intro j1638  en_1638 ls H locs h0 h1 h2; exact absurd h2 (by omega)
    | succ fu ih_1638 =>
      intro j1638  en_1638 ls H locs hj0_1638 hj_1638 hfu_1638 hI_1638 hf_1638  hl hh
      refine lv_iload_n hx hb dX12_layProduct_2 rfl (lv_at hl 0 rfl) ?_
      refine lv_aload_n hx hb dX12_layProduct_3 rfl (lv_at hl 1 rfl) ?_
      have es1637_1639 : en_1638 0 = .inr (11, [.int fa, .int hi, .int (nI wd), .int (nI mo), .int (nI tb), .ref (ad 1), .ref (ad 2), .ref (ad 3), .ref (ad 4), .ref (ad 5), .ref (ad 6), .ref (ad 7), .ref (ad 8), .ref (ad 9), .int dp, .long many, .long grt, .long lst, .long nou, .ref (ad 10), .ref (ad 11), .ref (ad 12), .int rm, .long rb, .ref (ad 13), .int pr, .ref (ad 14), .ref (ad 15), .ref (ad 16), .ref (ad 17), .int (nI wo), .ref (ad 18), .ref (ad 19)]) := (hf_1638 0 (by omega)).trans es1637
      refine hp_get hx hb hts ix12 hown hK hh (q := 0) rfl (hI.1 _ (by decide)) es1637_1639 rfl 2 (by decide) (hts _ tw_881) (fun _ h9 => h9) rfl dX12_layProduct_4 ?_
      refine lv_aload_n hx hb dX12_layProduct_7 rfl (lv_at hl 1 rfl) ?_
      refine hp_get hx hb hts ix12 hown hK hh (q := 0) rfl (hI.1 _ (by decide)) es1637_1639 rfl 2 (by decide) (hts _ tw_881) (fun _ h9 => h9) rfl dX12_layProduct_8 ?_
      refine lv_imul hx hb dX12_layProduct_11 ?_
      rw [pk_mul wd wd]
      have hw2_1640 : wd * wd ≤ 9 := mww (by omega)
      refine lv_icmp_ge (tgt := 43) hx hb dX12_layProduct_12 (by decide) (fun c_1641 => ?_) (fun c_1641 => ?_)
      · have n_1641 : (wd * wd) ≤ j1638 := n_le (a := (wd * wd)) (b := j1638) c_1641 (by omega) (by omega)
        exact hp_vretM hx hb hr hlocks hh (⟨hI_1638, hf_1638⟩) dX12_layProduct_43
      · have n_1641 : j1638 < (wd * wd) := n_nle (a := (wd * wd)) (b := j1638) c_1641 (by omega) (by omega)
        refine lv_aload_n hx hb dX12_layProduct_15 rfl (lv_at hl 1 rfl) ?_
        refine hp_get hx hb hts ix12 hown hK hh (q := 0) rfl (hI.1 _ (by decide)) es1637_1639 rfl 10 (by decide) (hts _ tw_889) (fun _ h9 => h9) rfl dX12_layProduct_16 ?_
        refine lv_bipush (v := 9) hx hb dX12_layProduct_19 (by decide) ?_
        refine lv_iload_n hx hb dX12_layProduct_21 rfl (lv_at hl 3 rfl) ?_
        refine lv_imul hx hb dX12_layProduct_22 ?_
        rw [show (9 : Int32) = nI 9 from rfl, pk_mul 9 n]
        refine lv_iload_n hx hb dX12_layProduct_23 rfl (lv_at hl 0 rfl) ?_
        refine lv_iadd hx hb dX12_layProduct_24 ?_
        rw [nI_add (9 * n) j1638]
        refine lv_aload_n hx hb dX12_layProduct_25 rfl (lv_at hl 1 rfl) ?_
        refine hp_get hx hb hts ix12 hown hK hh (q := 0) rfl (hI.1 _ (by decide)) es1637_1639 rfl 26 (by decide) (hts _ tw_905) (fun _ h9 => h9) rfl dX12_layProduct_26 ?_
        refine lv_bipush (v := 9) hx hb dX12_layProduct_29 (by decide) ?_
        refine lv_iload_n hx hb dX12_layProduct_31 rfl (lv_at hl 2 rfl) ?_
        refine lv_imul hx hb dX12_layProduct_32 ?_
        rw [show (9 : Int32) = nI 9 from rfl, pk_mul 9 p9]
        refine lv_iload_n hx hb dX12_layProduct_33 rfl (lv_at hl 0 rfl) ?_
        refine lv_iadd hx hb dX12_layProduct_34 ?_
        rw [nI_add (9 * p9) j1638]
        obtain ⟨f_1642, es1642⟩ := getr_pd hI_1638
        refine hp_lald hx hb hK hh (q := 14) rfl (hI.1 _ (by decide)) es1642 (vp_in_nI (n := ((9 * p9) + j1638)) (by omega) (by decide)) dX12_layProduct_35 ?_
        rw [nI_clamp (n := ((9 * p9) + j1638)) (by omega)]
        obtain ⟨f_1643, es1643⟩ := getr_lv hI_1638
        refine hp_last hx hb hK hh (q := 6) rfl (hI.1 _ (by decide)) es1643 (vp_in_nI (n := ((9 * n) + j1638)) (by omega) (by decide)) dX12_layProduct_36 (fun H locs en_1644 hen_1644 hh => ?_)
        rw [nI_clamp (n := ((9 * n) + j1638)) (by omega)] at hen_1644
        have es1637_1644 : en_1644 0 = .inr (11, [.int fa, .int hi, .int (nI wd), .int (nI mo), .int (nI tb), .ref (ad 1), .ref (ad 2), .ref (ad 3), .ref (ad 4), .ref (ad 5), .ref (ad 6), .ref (ad 7), .ref (ad 8), .ref (ad 9), .int dp, .long many, .long grt, .long lst, .long nou, .ref (ad 10), .ref (ad 11), .ref (ad 12), .int rm, .long rb, .ref (ad 13), .int pr, .ref (ad 14), .ref (ad 15), .ref (ad 16), .ref (ad 17), .int (nI wo), .ref (ad 18), .ref (ad 19)]) := by rw [hen_1644, va_up_ne _ _ (by decide)]; exact es1637_1639
        have es1642_1644 : en_1644 14 = .inl (cy 1, 18009, .inr (.inl f_1642)) := by rw [hen_1644, va_up_ne _ _ (by decide)]; exact es1642
        have es1643_1644 : en_1644 6 = .inl (cy 1, 117, .inr (.inl (vp_updL f_1643 ((9 * n) + j1638) (f_1642 ((9 * p9) + j1638))))) := by rw [hen_1644]; exact va_up_self _ _ _
        have hI_1644 : RX cy cs ad en_1644 := by rw [hen_1644]; exact upr_lv hI_1638 ⟨(vp_updL f_1643 ((9 * n) + j1638) (f_1642 ((9 * p9) + j1638))), rfl⟩
        have hf_1644 : ∀ c, (c ≠ 6) → en_1644 c = en c := fun c hc => Eq.trans (show en_1644 c = en_1638 c from by rw [hen_1644, va_up_ne _ _ (by omega)]) (hf_1638 c hc)
        refine lv_iinc (v := (nI (j1638 + 1))) (lv' := [(3, .int (nI (j1638 + 1))), (0, .ref (ad 0)), (1, .int (nI p9)), (2, .int (nI n))]) hx hb dX12_layProduct_37 hl (k := 0) rfl (nI_1 _) (by decide) rfl (fun ls hl => ?_)
        refine lv_goto (tgt := 2) hx hb dX12_layProduct_40 (by decide) ?_
        exact ih_1638 ((j1638 + 1))  en_1644 ls H locs (by omega) (by omega) (by omega) hI_1644 hf_1644  (lv_sub hl [0, 1, 2, 3] rfl) hh
  exact loop_1638 ((wd * wd) + 1) 0  en ls _ _ (Nat.le_refl _) (by omega) (by omega) hI hf0  (lv_sub hl [0, 1, 2, 3] rfl) hh
theorem kw_X12_layProduct {R : Room} {s : State} {args : Array Value} {own : String} {idx : Nat} (hts : ∀ w ∈ TB, w.before args s = true) (hl : Cond.methodLink own idx yX12_layProduct ∈ TB) (hR : 0 + 1 ≤ R.frames ∧ 8 + (4 + 11) + 40 * 0 ≤ R.locals) : CallW R s args own RX12 idx yX12_layProduct cX12_layProduct 4 none (Cond.code yX12_layProduct cX12_layProduct 4 none :: TB) (rmN 0) 0 0 2 := cwV 2 hts (TB_V hl tw_1135 ts_53 tw_9 tw_1136) rfl rfl rfl (by decide +kernel) hR
set_option maxHeartbeats 4000000 in
set_option maxRecDepth 100000 in
/-- multiply -/
theorem c_X12_multiply (l : Launch) (D : va_G) (cy : Nat → ClassId) (sz : Nat) (cs : List Nat) (ad : Nat → Nat) (en : Nat → va_E) (hI : RX cy cs ad en) (p9 q9 : Nat) (hp : p9 < 2001) (hq9 : q9 < 2001)   : Met l yX12_multiply (Cond.code yX12_multiply cX12_multiply 8 none :: TB) (rmN 1) (va_Pc [.ref (ad 0), .int (nI p9), .int (nI q9)] (Pre D cy cs ad en sz)) (va_Qv (S := Nat → va_E) (fun en1 => RX cy cs ad en1 ∧ (∀ c, (c ≠ 6) → en1 c = en c)) (PostM D cs ad) (Af cs ad sz)) 0 0 (Af cs ad sz) := by
  refine Met.ofW (cc := cX12_multiply) (maxL := 8) (ret := none) (by decide) rfl ?_
  intro p e s m args below meth c s₁ B hml hv
  obtain ⟨rfl, hsz, hP, hK, hD0⟩ := hv
  have hx := B.exec
  have hb := B.bytes
  have hr := B.returns
  have hts : ∀ w ∈ TB, w.before _ s = true := fun w h => atoms_spec (ws := _ :: TB) B.pre w (List.mem_cons_of_mem _ h)
  have hown : s.vm.findClass RX12 = some m.cls := findClass_of_methodNamed B.named
  have hlocks := B.notSynchronized
  have hh : Hp D (Af cs ad sz) (Af cs ad sz) s.heap s.heap [] cs ad en := ⟨hP, Af_self hD0, va_S.rf⟩
  have hA : ∀ q : Nat, s.heap.size ≤ q → Af cs ad sz q := fun q h => Or.inr (by rw [hsz] at h; exact h)
  have hl := lv_entry ([.ref (ad 0), .int (nI p9), .int (nI q9)]) (n := 8) (Nat.le_of_ble_eq_true rfl)
  rw [lg_entry_eq]
  generalize (lg_sl ([.ref (ad 0), .int (nI p9), .int (nI q9)]) ++ List.replicate (8 - (lg_sl ([.ref (ad 0), .int (nI p9), .int (nI q9)])).length) Slot.unset).toArray = ls at hl ⊢
  have hl : lv_has ls 8 [(0, .ref (ad 0)), (1, .int (nI p9)), (2, .int (nI q9))] := hl
  have hf0 : ∀ c, (c ≠ 6) → en c = en c := fun _ _ => rfl
  obtain ⟨fa, hi, wd, mo, tb, dp, many, grt, lst, nou, rm, rb, pr, wo, es1645, hwd2, hwd3, hmo, htb, hwo⟩ := getr_M hI
  refine lv_iconst (v := 0) hx hb dX12_multiply_0 (by decide) ?_
  refine lv_istore_n (lv' := [(3, .int 0), (0, .ref (ad 0)), (1, .int (nI p9)), (2, .int (nI q9))]) hx hb dX12_multiply_1 rfl hl (by decide) rfl (fun ls hl => ?_)
  have loop_1646 : ∀ (fu j1646 : Nat)  (en_1646 : Nat → va_E) (ls : Array Slot) (H : Heap) (locs : List Loc), 0 ≤ j1646 → j1646 ≤ wd → wd < j1646 + fu → RX cy cs ad en_1646 → (∀ c, (c ≠ 6) → en_1646 c = en c) →  lv_has ls 8 [(3, .int (nI j1646)), (0, .ref (ad 0)), (1, .int (nI p9)), (2, .int (nI q9))] → Hp D (Af cs ad sz) (Af cs ad sz) s.heap H locs cs ad en_1646 → W p l e (headSpec (Cond.code yX12_multiply cX12_multiply 8 none :: TB) (rmN 1)).room s m ([.ref (ad 0), .int (nI p9), .int (nI q9)] : List Value).toArray below meth c H locs 0 0 (MQ below (va_Qv (S := Nat → va_E) (fun en1 => RX cy cs ad en1 ∧ (∀ c, (c ≠ 6) → en1 c = en c)) (PostM D cs ad) (Af cs ad sz)) ([.ref (ad 0), .int (nI p9), .int (nI q9)] : List Value).toArray s 0 0 (Af cs ad sz)) (F0 m 2 ls []) := by
    intro fu
    induction fu with
    | zero => intro j1646  en_1646 ls H locs h0 h1 h2; exact absurd h2 (by omega)
    | succ fu ih_1646 =>
      intro j1646  en_1646 ls H locs hj0_1646 hj_1646 hfu_1646 hI_1646 hf_1646  hl hh
      refine lv_iload_n hx hb dX12_multiply_2 rfl (lv_at hl 0 rfl) ?_
      refine lv_aload_n hx hb dX12_multiply_3 rfl (lv_at hl 1 rfl) ?_
      have es1645_1647 : en_1646 0 = .inr (11, [.int fa, .int hi, .int (nI wd), .int (nI mo), .int (nI tb), .ref (ad 1), .ref (ad 2), .ref (ad 3), .ref (ad 4), .ref (ad 5), .ref (ad 6), .ref (ad 7), .ref (ad 8), .ref (ad 9), .int dp, .long many, .long grt, .long lst, .long nou, .ref (ad 10), .ref (ad 11), .ref (ad 12), .int rm, .long rb, .ref (ad 13), .int pr, .ref (ad 14), .ref (ad 15), .ref (ad 16), .ref (ad 17), .int (nI wo), .ref (ad 18), .ref (ad 19)]) := (hf_1646 0 (by omega)).trans es1645
      refine hp_get hx hb hts ix12 hown hK hh (q := 0) rfl (hI.1 _ (by decide)) es1645_1647 rfl 2 (by decide) (hts _ tw_881) (fun _ h9 => h9) rfl dX12_multiply_4 ?_
      refine lv_icmp_ge (tgt := 123) hx hb dX12_multiply_7 (by decide) (fun c_1648 => ?_) (fun c_1648 => ?_)
      · have n_1648 : wd ≤ j1646 := n_le (a := wd) (b := j1646) c_1648 (by omega) (by omega)
        exact hp_vretM hx hb hr hlocks hh (⟨hI_1646, hf_1646⟩) dX12_multiply_123
      · have n_1648 : j1646 < wd := n_nle (a := wd) (b := j1646) c_1648 (by omega) (by omega)
        refine lv_iconst (v := 0) hx hb dX12_multiply_10 (by decide) ?_
        refine lv_istore (lv' := [(4, .int 0), (3, .int (nI j1646)), (0, .ref (ad 0)), (1, .int (nI p9)), (2, .int (nI q9))]) hx hb dX12_multiply_11 hl (by decide) rfl (fun ls hl => ?_)
        have loop_1649 : ∀ (fu j1649 : Nat)  (en_1649 : Nat → va_E) (ls : Array Slot) (H : Heap) (locs : List Loc), 0 ≤ j1649 → j1649 ≤ wd → wd < j1649 + fu → RX cy cs ad en_1649 → (∀ c, (c ≠ 6) → en_1649 c = en c) →  lv_has ls 8 [(4, .int (nI j1649)), (3, .int (nI j1646)), (0, .ref (ad 0)), (1, .int (nI p9)), (2, .int (nI q9))] → Hp D (Af cs ad sz) (Af cs ad sz) s.heap H locs cs ad en_1649 → W p l e (headSpec (Cond.code yX12_multiply cX12_multiply 8 none :: TB) (rmN 1)).room s m ([.ref (ad 0), .int (nI p9), .int (nI q9)] : List Value).toArray below meth c H locs 0 0 (MQ below (va_Qv (S := Nat → va_E) (fun en1 => RX cy cs ad en1 ∧ (∀ c, (c ≠ 6) → en1 c = en c)) (PostM D cs ad) (Af cs ad sz)) ([.ref (ad 0), .int (nI p9), .int (nI q9)] : List Value).toArray s 0 0 (Af cs ad sz)) (F0 m 13 ls []) := by
          intro fu
          induction fu with
          | zero => intro j1649  en_1649 ls H locs h0 h1 h2; exact absurd h2 (by omega)
          | succ fu ih_1649 =>
            intro j1649  en_1649 ls H locs hj0_1649 hj_1649 hfu_1649 hI_1649 hf_1649  hl hh
            refine lv_iload hx hb dX12_multiply_13 (lv_at hl 0 rfl) ?_
            refine lv_aload_n hx hb dX12_multiply_15 rfl (lv_at hl 2 rfl) ?_
            have es1645_1650 : en_1649 0 = .inr (11, [.int fa, .int hi, .int (nI wd), .int (nI mo), .int (nI tb), .ref (ad 1), .ref (ad 2), .ref (ad 3), .ref (ad 4), .ref (ad 5), .ref (ad 6), .ref (ad 7), .ref (ad 8), .ref (ad 9), .int dp, .long many, .long grt, .long lst, .long nou, .ref (ad 10), .ref (ad 11), .ref (ad 12), .int rm, .long rb, .ref (ad 13), .int pr, .ref (ad 14), .ref (ad 15), .ref (ad 16), .ref (ad 17), .int (nI wo), .ref (ad 18), .ref (ad 19)]) := (hf_1649 0 (by omega)).trans es1645
            refine hp_get hx hb hts ix12 hown hK hh (q := 0) rfl (hI.1 _ (by decide)) es1645_1650 rfl 2 (by decide) (hts _ tw_881) (fun _ h9 => h9) rfl dX12_multiply_16 ?_
            refine lv_icmp_ge (tgt := 117) hx hb dX12_multiply_19 (by decide) (fun c_1651 => ?_) (fun c_1651 => ?_)
            · have n_1651 : wd ≤ j1649 := n_le (a := wd) (b := j1649) c_1651 (by omega) (by omega)
              refine lv_iinc (v := (nI (j1646 + 1))) (lv' := [(3, .int (nI (j1646 + 1))), (4, .int (nI j1649)), (0, .ref (ad 0)), (1, .int (nI p9)), (2, .int (nI q9))]) hx hb dX12_multiply_117 hl (k := 1) rfl (nI_1 _) (by decide) rfl (fun ls hl => ?_)
              refine lv_goto (tgt := 2) hx hb dX12_multiply_120 (by decide) ?_
              exact ih_1646 ((j1646 + 1))  en_1649 ls H locs (by omega) (by omega) (by omega) hI_1649 hf_1649  (lv_sub hl [0, 2, 3, 4] rfl) hh
            · have n_1651 : j1649 < wd := n_nle (a := wd) (b := j1649) c_1651 (by omega) (by omega)
              refine lv_lconst (v := 0) hx hb dX12_multiply_22 (by decide) ?_
              refine lv_lstore (lv' := [(5, .long 0), (4, .int (nI j1649)), (3, .int (nI j1646)), (0, .ref (ad 0)), (1, .int (nI p9)), (2, .int (nI q9))]) hx hb dX12_multiply_23 hl (by decide) rfl (fun ls hl => ?_)
              refine lv_iconst (v := 0) hx hb dX12_multiply_25 (by decide) ?_
              refine lv_istore (lv' := [(7, .int 0), (5, .long 0), (4, .int (nI j1649)), (3, .int (nI j1646)), (0, .ref (ad 0)), (1, .int (nI p9)), (2, .int (nI q9))]) hx hb dX12_multiply_26 hl (by decide) rfl (fun ls hl => ?_)
              have loop_1652 : ∀ (fu j1652 : Nat) (ac1652 : Int64)  (ls : Array Slot) (H : Heap) (locs : List Loc), 0 ≤ j1652 → j1652 ≤ wd → wd < j1652 + fu →   lv_has ls 8 [(7, .int (nI j1652)), (5, .long ac1652), (4, .int (nI j1649)), (3, .int (nI j1646)), (0, .ref (ad 0)), (1, .int (nI p9)), (2, .int (nI q9))] → Hp D (Af cs ad sz) (Af cs ad sz) s.heap H locs cs ad en_1649 → W p l e (headSpec (Cond.code yX12_multiply cX12_multiply 8 none :: TB) (rmN 1)).room s m ([.ref (ad 0), .int (nI p9), .int (nI q9)] : List Value).toArray below meth c H locs 0 0 (MQ below (va_Qv (S := Nat → va_E) (fun en1 => RX cy cs ad en1 ∧ (∀ c, (c ≠ 6) → en1 c = en c)) (PostM D cs ad) (Af cs ad sz)) ([.ref (ad 0), .int (nI p9), .int (nI q9)] : List Value).toArray s 0 0 (Af cs ad sz)) (F0 m 28 ls []) := by
                intro fu
                induction fu with
                | zero => intro j1652 ac1652 ls H locs h0 h1 h2; exact absurd h2 (by omega)
                | succ fu ih_1652 =>
                  intro j1652 ac1652 ls H locs hj0_1652 hj_1652 hfu_1652  hl hh
                  refine lv_iload hx hb dX12_multiply_28 (lv_at hl 0 rfl) ?_
                  refine lv_aload_n hx hb dX12_multiply_30 rfl (lv_at hl 4 rfl) ?_
                  refine hp_get hx hb hts ix12 hown hK hh (q := 0) rfl (hI.1 _ (by decide)) es1645_1650 rfl 2 (by decide) (hts _ tw_881) (fun _ h9 => h9) rfl dX12_multiply_31 ?_
                  refine lv_icmp_ge (tgt := 88) hx hb dX12_multiply_34 (by decide) (fun c_1653 => ?_) (fun c_1653 => ?_)
                  · have n_1653 : wd ≤ j1652 := n_le (a := wd) (b := j1652) c_1653 (by omega) (by omega)
                    refine lv_aload_n hx hb dX12_multiply_88 rfl (lv_at hl 4 rfl) ?_
                    refine hp_get hx hb hts ix12 hown hK hh (q := 0) rfl (hI.1 _ (by decide)) es1645_1650 rfl 10 (by decide) (hts _ tw_889) (fun _ h9 => h9) rfl dX12_multiply_89 ?_
                    refine lv_bipush (v := 9) hx hb dX12_multiply_92 (by decide) ?_
                    refine lv_aload_n hx hb dX12_multiply_94 rfl (lv_at hl 4 rfl) ?_
                    refine hp_get hx hb hts ix12 hown hK hh (q := 0) rfl (hI.1 _ (by decide)) es1645_1650 rfl 2 (by decide) (hts _ tw_881) (fun _ h9 => h9) rfl dX12_multiply_95 ?_
                    refine lv_iload_n hx hb dX12_multiply_98 rfl (lv_at hl 3 rfl) ?_
                    refine lv_imul hx hb dX12_multiply_99 ?_
                    rw [pk_mul wd j1646]
                    refine lv_iadd hx hb dX12_multiply_100 ?_
                    rw [show (9 : Int32) = nI 9 from rfl, nI_add 9 (wd * j1646)]
                    refine lv_iload hx hb dX12_multiply_101 (lv_at hl 2 rfl) ?_
                    refine lv_iadd hx hb dX12_multiply_103 ?_
                    rw [nI_add (9 + (wd * j1646)) j1649]
                    refine lv_aload_n hx hb dX12_multiply_104 rfl (lv_at hl 4 rfl) ?_
                    refine lv_lload hx hb dX12_multiply_105 (lv_at hl 1 rfl) ?_
                    refine hp_callRl (va_runV (As := [.long ac1652]) (rest := [.int (nI ((9 + (wd * j1646)) + j1649)), .ref (ad 6)]) ⟨hx, hb, hml, hown, hts⟩ (c_X12_rest l D cy _ cs ad en_1649 hI_1649 ac1652 ) (kw_X12_rest hts tw_1054 ⟨by decide, by decide⟩) (preV_of hh hK (hI.1 _ (by decide)) es1645_1650 rfl) rfl rfl hl.1 rfl (lv_room (Nat.le_of_ble_eq_true rfl)) dX12_multiply_107 ⟨Nat.le_of_ble_eq_true rfl, Nat.le_of_ble_eq_true rfl⟩) hh hA (fun r_1654 H locs hw_1654 hh => ?_)
                    have hi_1655 : wd * j1646 + j1649 < 9 := mdr (by omega) (by omega) (by omega)
                    obtain ⟨f_1656, es1656⟩ := getr_lv hI_1649
                    refine hp_last hx hb hK hh (q := 6) rfl (hI.1 _ (by decide)) es1656 (vp_in_nI (n := ((9 + (wd * j1646)) + j1649)) (by omega) (by decide)) dX12_multiply_110 (fun H locs en_1657 hen_1657 hh => ?_)
                    rw [nI_clamp (n := ((9 + (wd * j1646)) + j1649)) (by omega)] at hen_1657
                    have es1645_1657 : en_1657 0 = .inr (11, [.int fa, .int hi, .int (nI wd), .int (nI mo), .int (nI tb), .ref (ad 1), .ref (ad 2), .ref (ad 3), .ref (ad 4), .ref (ad 5), .ref (ad 6), .ref (ad 7), .ref (ad 8), .ref (ad 9), .int dp, .long many, .long grt, .long lst, .long nou, .ref (ad 10), .ref (ad 11), .ref (ad 12), .int rm, .long rb, .ref (ad 13), .int pr, .ref (ad 14), .ref (ad 15), .ref (ad 16), .ref (ad 17), .int (nI wo), .ref (ad 18), .ref (ad 19)]) := by rw [hen_1657, va_up_ne _ _ (by decide)]; exact es1645_1650
                    have es1656_1657 : en_1657 6 = .inl (cy 1, 117, .inr (.inl (vp_updL f_1656 ((9 + (wd * j1646)) + j1649) r_1654))) := by rw [hen_1657]; exact va_up_self _ _ _
                    have hI_1657 : RX cy cs ad en_1657 := by rw [hen_1657]; exact upr_lv hI_1649 ⟨(vp_updL f_1656 ((9 + (wd * j1646)) + j1649) r_1654), rfl⟩
                    have hf_1657 : ∀ c, (c ≠ 6) → en_1657 c = en c := fun c hc => Eq.trans (show en_1657 c = en_1649 c from by rw [hen_1657, va_up_ne _ _ (by omega)]) (hf_1649 c hc)
                    refine lv_iinc (v := (nI (j1649 + 1))) (lv' := [(4, .int (nI (j1649 + 1))), (7, .int (nI j1652)), (5, .long ac1652), (3, .int (nI j1646)), (0, .ref (ad 0)), (1, .int (nI p9)), (2, .int (nI q9))]) hx hb dX12_multiply_111 hl (k := 2) rfl (nI_1 _) (by decide) rfl (fun ls hl => ?_)
                    refine lv_goto (tgt := 13) hx hb dX12_multiply_114 (by decide) ?_
                    exact ih_1649 ((j1649 + 1))  en_1657 ls H locs (by omega) (by omega) (by omega) hI_1657 hf_1657  (lv_sub hl [0, 3, 4, 5, 6] rfl) hh
                  · have n_1653 : j1652 < wd := n_nle (a := wd) (b := j1652) c_1653 (by omega) (by omega)
                    refine lv_lload hx hb dX12_multiply_37 (lv_at hl 1 rfl) ?_
                    refine lv_aload_n hx hb dX12_multiply_39 rfl (lv_at hl 4 rfl) ?_
                    refine hp_get hx hb hts ix12 hown hK hh (q := 0) rfl (hI.1 _ (by decide)) es1645_1650 rfl 26 (by decide) (hts _ tw_905) (fun _ h9 => h9) rfl dX12_multiply_40 ?_
                    refine lv_bipush (v := 9) hx hb dX12_multiply_43 (by decide) ?_
                    refine lv_iload_n hx hb dX12_multiply_45 rfl (lv_at hl 5 rfl) ?_
                    refine lv_imul hx hb dX12_multiply_46 ?_
                    rw [show (9 : Int32) = nI 9 from rfl, pk_mul 9 p9]
                    refine lv_aload_n hx hb dX12_multiply_47 rfl (lv_at hl 4 rfl) ?_
                    refine hp_get hx hb hts ix12 hown hK hh (q := 0) rfl (hI.1 _ (by decide)) es1645_1650 rfl 2 (by decide) (hts _ tw_881) (fun _ h9 => h9) rfl dX12_multiply_48 ?_
                    refine lv_iload_n hx hb dX12_multiply_51 rfl (lv_at hl 3 rfl) ?_
                    refine lv_imul hx hb dX12_multiply_52 ?_
                    rw [pk_mul wd j1646]
                    refine lv_iadd hx hb dX12_multiply_53 ?_
                    rw [nI_add (9 * p9) (wd * j1646)]
                    refine lv_iload hx hb dX12_multiply_54 (lv_at hl 0 rfl) ?_
                    refine lv_iadd hx hb dX12_multiply_56 ?_
                    rw [nI_add ((9 * p9) + (wd * j1646)) j1652]
                    have hi_1658 : wd * j1646 + j1652 < 9 := mdr (by omega) (by omega) (by omega)
                    obtain ⟨f_1659, es1659⟩ := getr_pd hI_1649
                    refine hp_lald hx hb hK hh (q := 14) rfl (hI.1 _ (by decide)) es1659 (vp_in_nI (n := (((9 * p9) + (wd * j1646)) + j1652)) (by omega) (by decide)) dX12_multiply_57 ?_
                    rw [nI_clamp (n := (((9 * p9) + (wd * j1646)) + j1652)) (by omega)]
                    refine lv_aload_n hx hb dX12_multiply_58 rfl (lv_at hl 4 rfl) ?_
                    refine hp_get hx hb hts ix12 hown hK hh (q := 0) rfl (hI.1 _ (by decide)) es1645_1650 rfl 26 (by decide) (hts _ tw_905) (fun _ h9 => h9) rfl dX12_multiply_59 ?_
                    refine lv_bipush (v := 9) hx hb dX12_multiply_62 (by decide) ?_
                    refine lv_iload_n hx hb dX12_multiply_64 rfl (lv_at hl 6 rfl) ?_
                    refine lv_imul hx hb dX12_multiply_65 ?_
                    rw [show (9 : Int32) = nI 9 from rfl, pk_mul 9 q9]
                    refine lv_aload_n hx hb dX12_multiply_66 rfl (lv_at hl 4 rfl) ?_
                    refine hp_get hx hb hts ix12 hown hK hh (q := 0) rfl (hI.1 _ (by decide)) es1645_1650 rfl 2 (by decide) (hts _ tw_881) (fun _ h9 => h9) rfl dX12_multiply_67 ?_
                    refine lv_iload hx hb dX12_multiply_70 (lv_at hl 0 rfl) ?_
                    refine lv_imul hx hb dX12_multiply_72 ?_
                    rw [pk_mul wd j1652]
                    refine lv_iadd hx hb dX12_multiply_73 ?_
                    rw [nI_add (9 * q9) (wd * j1652)]
                    refine lv_iload hx hb dX12_multiply_74 (lv_at hl 2 rfl) ?_
                    refine lv_iadd hx hb dX12_multiply_76 ?_
                    rw [nI_add ((9 * q9) + (wd * j1652)) j1649]
                    have hi_1660 : wd * j1652 + j1649 < 9 := mdr (by omega) (by omega) (by omega)
                    refine hp_lald hx hb hK hh (q := 14) rfl (hI.1 _ (by decide)) es1659 (vp_in_nI (n := (((9 * q9) + (wd * j1652)) + j1649)) (by omega) (by decide)) dX12_multiply_77 ?_
                    rw [nI_clamp (n := (((9 * q9) + (wd * j1652)) + j1649)) (by omega)]
                    refine lv_lmul hx hb dX12_multiply_78 ?_
                    refine lv_ladd hx hb dX12_multiply_79 ?_
                    refine lv_lstore (lv' := [(5, .long (ac1652 + ((f_1659 (((9 * p9) + (wd * j1646)) + j1652)) * (f_1659 (((9 * q9) + (wd * j1652)) + j1649))))), (7, .int (nI j1652)), (4, .int (nI j1649)), (3, .int (nI j1646)), (0, .ref (ad 0)), (1, .int (nI p9)), (2, .int (nI q9))]) hx hb dX12_multiply_80 hl (by decide) rfl (fun ls hl => ?_)
                    refine lv_iinc (v := (nI (j1652 + 1))) (lv' := [(7, .int (nI (j1652 + 1))), (5, .long (ac1652 + ((f_1659 (((9 * p9) + (wd * j1646)) + j1652)) * (f_1659 (((9 * q9) + (wd * j1652)) + j1649))))), (4, .int (nI j1649)), (3, .int (nI j1646)), (0, .ref (ad 0)), (1, .int (nI p9)), (2, .int (nI q9))]) hx hb dX12_multiply_82 hl (k := 1) rfl (nI_1 _) (by decide) rfl (fun ls hl => ?_)
                    refine lv_goto (tgt := 28) hx hb dX12_multiply_85 (by decide) ?_
                    exact ih_1652 ((j1652 + 1)) (ac1652 + ((f_1659 (((9 * p9) + (wd * j1646)) + j1652)) * (f_1659 (((9 * q9) + (wd * j1652)) + j1649)))) ls H locs (by omega) (by omega) (by omega)  (lv_sub hl [0, 1, 2, 3, 4, 5, 6] rfl) hh
              exact loop_1652 (wd + 1) 0 0 ls _ _ (Nat.le_refl _) (by omega) (by omega)  (lv_sub hl [0, 1, 2, 3, 4, 5, 6] rfl) hh
        exact loop_1649 (wd + 1) 0  en_1646 ls _ _ (Nat.le_refl _) (by omega) (by omega) hI_1646 hf_1646  (lv_sub hl [0, 1, 2, 3, 4] rfl) hh
  exact loop_1646 (wd + 1) 0  en ls _ _ (Nat.le_refl _) (by omega) (by omega) hI hf0  (lv_sub hl [0, 1, 2, 3] rfl) hh
theorem kw_X12_multiply {R : Room} {s : State} {args : Array Value} {own : String} {idx : Nat} (hts : ∀ w ∈ TB, w.before args s = true) (hl : Cond.methodLink own idx yX12_multiply ∈ TB) (hR : 1 + 1 ≤ R.frames ∧ 8 + (8 + 11) + 40 * 1 ≤ R.locals) : CallW R s args own RX12 idx yX12_multiply cX12_multiply 8 none (Cond.code yX12_multiply cX12_multiply 8 none :: TB) (rmN 1) 0 0 2 := cwV 2 hts (TB_V hl tw_1152 ts_56 tw_9 tw_1153) rfl rfl rfl (by decide +kernel) hR
set_option maxHeartbeats 4000000 in
set_option maxRecDepth 100000 in
/-- isNought -/
theorem c_X12_isNought (l : Launch) (D : va_G) (cy : Nat → ClassId) (sz : Nat) (cs : List Nat) (ad : Nat → Nat) (en : Nat → va_E) (hI : RX cy cs ad en) (p9 : Nat) (hp : p9 < 2001)   : Met l yX12_isNought (Cond.code yX12_isNought cX12_isNought 4 (some .boolean) :: TB) (rmN 0) (va_Pc [.ref (ad 0), .int (nI p9)] (Pre D cy cs ad en sz)) (va_Qi (S := Unit) (fun r _ => r = 0 ∨ r = 1) (fun _ _ => True) (Nf sz)) 0 0 (Nf sz) := by
  refine Met.ofW (cc := cX12_isNought) (maxL := 4) (ret := (some .boolean)) (by decide) rfl ?_
  intro p e s m args below meth c s₁ B hml hv
  obtain ⟨rfl, hsz, hP, hK, hD0⟩ := hv
  have hx := B.exec
  have hb := B.bytes
  have hr := B.returns
  have hts : ∀ w ∈ TB, w.before _ s = true := fun w h => atoms_spec (ws := _ :: TB) B.pre w (List.mem_cons_of_mem _ h)
  have hown : s.vm.findClass RX12 = some m.cls := findClass_of_methodNamed B.named
  have hlocks := B.notSynchronized
  have hh : Hp D (Nf sz) (fun _ => True) s.heap s.heap [] cs ad en := ⟨hP, hD0, va_S.rf⟩
  have hA : ∀ q : Nat, s.heap.size ≤ q → Nf sz q := fun q h => by rw [hsz] at h; exact h
  have hl := lv_entry ([.ref (ad 0), .int (nI p9)]) (n := 4) (Nat.le_of_ble_eq_true rfl)
  rw [lg_entry_eq]
  generalize (lg_sl ([.ref (ad 0), .int (nI p9)]) ++ List.replicate (4 - (lg_sl ([.ref (ad 0), .int (nI p9)])).length) Slot.unset).toArray = ls at hl ⊢
  have hl : lv_has ls 4 [(0, .ref (ad 0)), (1, .int (nI p9))] := hl
  obtain ⟨fa, hi, wd, mo, tb, dp, many, grt, lst, nou, rm, rb, pr, wo, es1661, hwd2, hwd3, hmo, htb, hwo⟩ := getr_M hI
  have hww : wd * wd ≤ 9 := mww (by omega)
  refine lv_iconst (v := 1) hx hb dX12_isNought_0 (by decide) ?_
  refine lv_istore_n (lv' := [(2, .int 1), (0, .ref (ad 0)), (1, .int (nI p9))]) hx hb dX12_isNought_1 rfl hl (by decide) rfl (fun ls hl => ?_)
  refine lv_iconst (v := 0) hx hb dX12_isNought_2 (by decide) ?_
  refine lv_istore_n (lv' := [(3, .int 0), (2, .int 1), (0, .ref (ad 0)), (1, .int (nI p9))]) hx hb dX12_isNought_3 rfl hl (by decide) rfl (fun ls hl => ?_)
  have loop_1662 : ∀ (fu j1662 : Nat) (no1662 : Int32)  (ls : Array Slot) (H : Heap) (locs : List Loc), 0 ≤ j1662 → j1662 ≤ (wd * wd) → (wd * wd) < j1662 + fu →  (no1662 = 0 ∨ no1662 = 1) → lv_has ls 4 [(3, .int (nI j1662)), (2, .int no1662), (0, .ref (ad 0)), (1, .int (nI p9))] → Hp D (Nf sz) (fun _ => True) s.heap H locs cs ad en → W p l e (headSpec (Cond.code yX12_isNought cX12_isNought 4 (some .boolean) :: TB) (rmN 0)).room s m ([.ref (ad 0), .int (nI p9)] : List Value).toArray below meth c H locs 0 0 (MQ below (va_Qi (S := Unit) (fun r _ => r = 0 ∨ r = 1) (fun _ _ => True) (Nf sz)) ([.ref (ad 0), .int (nI p9)] : List Value).toArray s 0 0 (Nf sz)) (F0 m 4 ls []) := by
    intro fu
    induction fu with
    | zero => intro j1662 no1662 ls H locs h0 h1 h2; exact absurd h2 (by omega)
    | succ fu ih_1662 =>
      intro j1662 no1662 ls H locs hj0_1662 hj_1662 hfu_1662 i0_1662 hl hh
      refine lv_iload_n hx hb dX12_isNought_4 rfl (lv_at hl 0 rfl) ?_
      refine lv_aload_n hx hb dX12_isNought_5 rfl (lv_at hl 2 rfl) ?_
      refine hp_get hx hb hts ix12 hown hK hh (q := 0) rfl (hI.1 _ (by decide)) es1661 rfl 2 (by decide) (hts _ tw_881) (fun _ h9 => h9) rfl dX12_isNought_6 ?_
      refine lv_aload_n hx hb dX12_isNought_9 rfl (lv_at hl 2 rfl) ?_
      refine hp_get hx hb hts ix12 hown hK hh (q := 0) rfl (hI.1 _ (by decide)) es1661 rfl 2 (by decide) (hts _ tw_881) (fun _ h9 => h9) rfl dX12_isNought_10 ?_
      refine lv_imul hx hb dX12_isNought_13 ?_
      rw [pk_mul wd wd]
      have hw2_1663 : wd * wd ≤ 9 := mww (by omega)
      refine lv_icmp_ge (tgt := 47) hx hb dX12_isNought_14 (by decide) (fun c_1664 => ?_) (fun c_1664 => ?_)
      · have n_1664 : (wd * wd) ≤ j1662 := n_le (a := (wd * wd)) (b := j1662) c_1664 (by omega) (by omega)
        refine lv_iload_n hx hb dX12_isNought_47 rfl (lv_at hl 1 rfl) ?_
        exact hp_iretR hx hb hr (nar_bit i0_1662) hlocks hsz hh (i0_1662) dX12_isNought_48
      · have n_1664 : j1662 < (wd * wd) := n_nle (a := (wd * wd)) (b := j1662) c_1664 (by omega) (by omega)
        refine lv_iload_n hx hb dX12_isNought_17 rfl (lv_at hl 1 rfl) ?_
        refine lv_aload_n hx hb dX12_isNought_18 rfl (lv_at hl 2 rfl) ?_
        refine hp_get hx hb hts ix12 hown hK hh (q := 0) rfl (hI.1 _ (by decide)) es1661 rfl 26 (by decide) (hts _ tw_905) (fun _ h9 => h9) rfl dX12_isNought_19 ?_
        refine lv_bipush (v := 9) hx hb dX12_isNought_22 (by decide) ?_
        refine lv_iload_n hx hb dX12_isNought_24 rfl (lv_at hl 3 rfl) ?_
        refine lv_imul hx hb dX12_isNought_25 ?_
        rw [show (9 : Int32) = nI 9 from rfl, pk_mul 9 p9]
        refine lv_iload_n hx hb dX12_isNought_26 rfl (lv_at hl 0 rfl) ?_
        refine lv_iadd hx hb dX12_isNought_27 ?_
        rw [nI_add (9 * p9) j1662]
        obtain ⟨f_1665, es1665⟩ := getr_pd hI
        refine hp_lald hx hb hK hh (q := 14) rfl (hI.1 _ (by decide)) es1665 (vp_in_nI (n := ((9 * p9) + j1662)) (by omega) (by decide)) dX12_isNought_28 ?_
        rw [nI_clamp (n := ((9 * p9) + j1662)) (by omega)]
        refine lv_lconst (v := 0) hx hb dX12_isNought_29 (by decide) ?_
        refine W.lcmp hx hb dX12_isNought_30 ?_
        refine lv_if_ne (tgt := 38) hx hb dX12_isNought_31 (by decide) (fun c_1666 => ?_) (fun c_1666 => ?_)
        · refine lv_iconst (v := 0) hx hb dX12_isNought_38 (by decide) ?_
          refine lv_iand hx hb dX12_isNought_39 ?_
          refine lv_istore_n (lv' := [(2, .int (no1662 &&& 0)), (3, .int (nI j1662)), (0, .ref (ad 0)), (1, .int (nI p9))]) hx hb dX12_isNought_40 rfl hl (by decide) rfl (fun ls hl => ?_)
          refine lv_iinc (v := (nI (j1662 + 1))) (lv' := [(3, .int (nI (j1662 + 1))), (2, .int (no1662 &&& 0)), (0, .ref (ad 0)), (1, .int (nI p9))]) hx hb dX12_isNought_41 hl (k := 1) rfl (nI_1 _) (by decide) rfl (fun ls hl => ?_)
          refine lv_goto (tgt := 4) hx hb dX12_isNought_44 (by decide) ?_
          exact ih_1662 ((j1662 + 1)) (no1662 &&& 0) ls H locs (by omega) (by omega) (by omega) (bit_and i0_1662 (by decide)) (lv_sub hl [0, 1, 2, 3] rfl) hh
        · refine lv_iconst (v := 1) hx hb dX12_isNought_34 (by decide) ?_
          refine lv_goto (tgt := 39) hx hb dX12_isNought_35 (by decide) ?_
          refine lv_iand hx hb dX12_isNought_39 ?_
          refine lv_istore_n (lv' := [(2, .int (no1662 &&& 1)), (3, .int (nI j1662)), (0, .ref (ad 0)), (1, .int (nI p9))]) hx hb dX12_isNought_40 rfl hl (by decide) rfl (fun ls hl => ?_)
          refine lv_iinc (v := (nI (j1662 + 1))) (lv' := [(3, .int (nI (j1662 + 1))), (2, .int (no1662 &&& 1)), (0, .ref (ad 0)), (1, .int (nI p9))]) hx hb dX12_isNought_41 hl (k := 1) rfl (nI_1 _) (by decide) rfl (fun ls hl => ?_)
          refine lv_goto (tgt := 4) hx hb dX12_isNought_44 (by decide) ?_
          exact ih_1662 ((j1662 + 1)) (no1662 &&& 1) ls H locs (by omega) (by omega) (by omega) (bit_and i0_1662 (by decide)) (lv_sub hl [0, 1, 2, 3] rfl) hh
  exact loop_1662 ((wd * wd) + 1) 0 1 ls _ _ (Nat.le_refl _) (by omega) (by omega) (by decide) (lv_sub hl [0, 1, 2, 3] rfl) hh
theorem kw_X12_isNought {R : Room} {s : State} {args : Array Value} {own : String} {idx : Nat} (hts : ∀ w ∈ TB, w.before args s = true) (hl : Cond.methodLink own idx yX12_isNought ∈ TB) (hR : 0 + 1 ≤ R.frames ∧ 8 + (4 + 11) + 40 * 0 ≤ R.locals) : CallW R s args own RX12 idx yX12_isNought cX12_isNought 4 (some .boolean) (Cond.code yX12_isNought cX12_isNought 4 (some .boolean) :: TB) (rmN 0) 0 0 1 := cwV 1 hts (TB_V hl tw_1144 ts_54 tw_9 tw_1145) rfl rfl rfl (by decide +kernel) hR
set_option maxHeartbeats 4000000 in
set_option maxRecDepth 100000 in
/-- isOne -/
theorem c_X12_isOne (l : Launch) (D : va_G) (cy : Nat → ClassId) (sz : Nat) (cs : List Nat) (ad : Nat → Nat) (en : Nat → va_E) (hI : RX cy cs ad en) (p9 : Nat) (hp : p9 < 2001)   : Met l yX12_isOne (Cond.code yX12_isOne cX12_isOne 5 (some .boolean) :: TB) (rmN 0) (va_Pc [.ref (ad 0), .int (nI p9)] (Pre D cy cs ad en sz)) (va_Qi (S := Unit) (fun r _ => r = 0 ∨ r = 1) (fun _ _ => True) (Nf sz)) 0 0 (Nf sz) := by
  refine Met.ofW (cc := cX12_isOne) (maxL := 5) (ret := (some .boolean)) (by decide) rfl ?_
  intro p e s m args below meth c s₁ B hml hv
  obtain ⟨rfl, hsz, hP, hK, hD0⟩ := hv
  have hx := B.exec
  have hb := B.bytes
  have hr := B.returns
  have hts : ∀ w ∈ TB, w.before _ s = true := fun w h => atoms_spec (ws := _ :: TB) B.pre w (List.mem_cons_of_mem _ h)
  have hown : s.vm.findClass RX12 = some m.cls := findClass_of_methodNamed B.named
  have hlocks := B.notSynchronized
  have hh : Hp D (Nf sz) (fun _ => True) s.heap s.heap [] cs ad en := ⟨hP, hD0, va_S.rf⟩
  have hA : ∀ q : Nat, s.heap.size ≤ q → Nf sz q := fun q h => by rw [hsz] at h; exact h
  have hl := lv_entry ([.ref (ad 0), .int (nI p9)]) (n := 5) (Nat.le_of_ble_eq_true rfl)
  rw [lg_entry_eq]
  generalize (lg_sl ([.ref (ad 0), .int (nI p9)]) ++ List.replicate (5 - (lg_sl ([.ref (ad 0), .int (nI p9)])).length) Slot.unset).toArray = ls at hl ⊢
  have hl : lv_has ls 5 [(0, .ref (ad 0)), (1, .int (nI p9))] := hl
  obtain ⟨fa, hi, wd, mo, tb, dp, many, grt, lst, nou, rm, rb, pr, wo, es1667, hwd2, hwd3, hmo, htb, hwo⟩ := getr_M hI
  refine lv_iconst (v := 1) hx hb dX12_isOne_0 (by decide) ?_
  refine lv_istore_n (lv' := [(2, .int 1), (0, .ref (ad 0)), (1, .int (nI p9))]) hx hb dX12_isOne_1 rfl hl (by decide) rfl (fun ls hl => ?_)
  refine lv_iconst (v := 0) hx hb dX12_isOne_2 (by decide) ?_
  refine lv_istore_n (lv' := [(3, .int 0), (2, .int 1), (0, .ref (ad 0)), (1, .int (nI p9))]) hx hb dX12_isOne_3 rfl hl (by decide) rfl (fun ls hl => ?_)
  have loop_1668 : ∀ (fu j1668 : Nat) (no1668 : Int32)  (ls : Array Slot) (H : Heap) (locs : List Loc), 0 ≤ j1668 → j1668 ≤ wd → wd < j1668 + fu →  (no1668 = 0 ∨ no1668 = 1) → lv_has ls 5 [(3, .int (nI j1668)), (2, .int no1668), (0, .ref (ad 0)), (1, .int (nI p9))] → Hp D (Nf sz) (fun _ => True) s.heap H locs cs ad en → W p l e (headSpec (Cond.code yX12_isOne cX12_isOne 5 (some .boolean) :: TB) (rmN 0)).room s m ([.ref (ad 0), .int (nI p9)] : List Value).toArray below meth c H locs 0 0 (MQ below (va_Qi (S := Unit) (fun r _ => r = 0 ∨ r = 1) (fun _ _ => True) (Nf sz)) ([.ref (ad 0), .int (nI p9)] : List Value).toArray s 0 0 (Nf sz)) (F0 m 4 ls []) := by
    intro fu
    induction fu with
    | zero => intro j1668 no1668 ls H locs h0 h1 h2; exact absurd h2 (by omega)
    | succ fu ih_1668 =>
      intro j1668 no1668 ls H locs hj0_1668 hj_1668 hfu_1668 i0_1668 hl hh
      refine lv_iload_n hx hb dX12_isOne_4 rfl (lv_at hl 0 rfl) ?_
      refine lv_aload_n hx hb dX12_isOne_5 rfl (lv_at hl 2 rfl) ?_
      refine hp_get hx hb hts ix12 hown hK hh (q := 0) rfl (hI.1 _ (by decide)) es1667 rfl 2 (by decide) (hts _ tw_881) (fun _ h9 => h9) rfl dX12_isOne_6 ?_
      refine lv_icmp_ge (tgt := 78) hx hb dX12_isOne_9 (by decide) (fun c_1669 => ?_) (fun c_1669 => ?_)
      · have n_1669 : wd ≤ j1668 := n_le (a := wd) (b := j1668) c_1669 (by omega) (by omega)
        refine lv_iload_n hx hb dX12_isOne_78 rfl (lv_at hl 1 rfl) ?_
        exact hp_iretR hx hb hr (nar_bit i0_1668) hlocks hsz hh (i0_1668) dX12_isOne_79
      · have n_1669 : j1668 < wd := n_nle (a := wd) (b := j1668) c_1669 (by omega) (by omega)
        refine lv_iconst (v := 0) hx hb dX12_isOne_12 (by decide) ?_
        refine lv_istore (lv' := [(4, .int 0), (3, .int (nI j1668)), (2, .int no1668), (0, .ref (ad 0)), (1, .int (nI p9))]) hx hb dX12_isOne_13 hl (by decide) rfl (fun ls hl => ?_)
        have loop_1670 : ∀ (fu j1670 : Nat) (no1670 : Int32)  (ls : Array Slot) (H : Heap) (locs : List Loc), 0 ≤ j1670 → j1670 ≤ wd → wd < j1670 + fu →  (no1670 = 0 ∨ no1670 = 1) → lv_has ls 5 [(4, .int (nI j1670)), (3, .int (nI j1668)), (2, .int no1670), (0, .ref (ad 0)), (1, .int (nI p9))] → Hp D (Nf sz) (fun _ => True) s.heap H locs cs ad en → W p l e (headSpec (Cond.code yX12_isOne cX12_isOne 5 (some .boolean) :: TB) (rmN 0)).room s m ([.ref (ad 0), .int (nI p9)] : List Value).toArray below meth c H locs 0 0 (MQ below (va_Qi (S := Unit) (fun r _ => r = 0 ∨ r = 1) (fun _ _ => True) (Nf sz)) ([.ref (ad 0), .int (nI p9)] : List Value).toArray s 0 0 (Nf sz)) (F0 m 15 ls []) := by
          intro fu
          induction fu with
          | zero => intro j1670 no1670 ls H locs h0 h1 h2; exact absurd h2 (by omega)
          | succ fu ih_1670 =>
            intro j1670 no1670 ls H locs hj0_1670 hj_1670 hfu_1670 i0_1670 hl hh
            refine lv_iload hx hb dX12_isOne_15 (lv_at hl 0 rfl) ?_
            refine lv_aload_n hx hb dX12_isOne_17 rfl (lv_at hl 3 rfl) ?_
            refine hp_get hx hb hts ix12 hown hK hh (q := 0) rfl (hI.1 _ (by decide)) es1667 rfl 2 (by decide) (hts _ tw_881) (fun _ h9 => h9) rfl dX12_isOne_18 ?_
            refine lv_icmp_ge (tgt := 72) hx hb dX12_isOne_21 (by decide) (fun c_1671 => ?_) (fun c_1671 => ?_)
            · have n_1671 : wd ≤ j1670 := n_le (a := wd) (b := j1670) c_1671 (by omega) (by omega)
              refine lv_iinc (v := (nI (j1668 + 1))) (lv' := [(3, .int (nI (j1668 + 1))), (4, .int (nI j1670)), (2, .int no1670), (0, .ref (ad 0)), (1, .int (nI p9))]) hx hb dX12_isOne_72 hl (k := 1) rfl (nI_1 _) (by decide) rfl (fun ls hl => ?_)
              refine lv_goto (tgt := 4) hx hb dX12_isOne_75 (by decide) ?_
              exact ih_1668 ((j1668 + 1)) no1670 ls H locs (by omega) (by omega) (by omega) (i0_1670) (lv_sub hl [0, 2, 3, 4] rfl) hh
            · have n_1671 : j1670 < wd := n_nle (a := wd) (b := j1670) c_1671 (by omega) (by omega)
              refine lv_iload_n hx hb dX12_isOne_24 rfl (lv_at hl 2 rfl) ?_
              refine lv_aload_n hx hb dX12_isOne_25 rfl (lv_at hl 3 rfl) ?_
              refine hp_get hx hb hts ix12 hown hK hh (q := 0) rfl (hI.1 _ (by decide)) es1667 rfl 26 (by decide) (hts _ tw_905) (fun _ h9 => h9) rfl dX12_isOne_26 ?_
              refine lv_bipush (v := 9) hx hb dX12_isOne_29 (by decide) ?_
              refine lv_iload_n hx hb dX12_isOne_31 rfl (lv_at hl 4 rfl) ?_
              refine lv_imul hx hb dX12_isOne_32 ?_
              rw [show (9 : Int32) = nI 9 from rfl, pk_mul 9 p9]
              refine lv_aload_n hx hb dX12_isOne_33 rfl (lv_at hl 3 rfl) ?_
              refine hp_get hx hb hts ix12 hown hK hh (q := 0) rfl (hI.1 _ (by decide)) es1667 rfl 2 (by decide) (hts _ tw_881) (fun _ h9 => h9) rfl dX12_isOne_34 ?_
              refine lv_iload_n hx hb dX12_isOne_37 rfl (lv_at hl 1 rfl) ?_
              refine lv_imul hx hb dX12_isOne_38 ?_
              rw [pk_mul wd j1668]
              refine lv_iadd hx hb dX12_isOne_39 ?_
              rw [nI_add (9 * p9) (wd * j1668)]
              refine lv_iload hx hb dX12_isOne_40 (lv_at hl 0 rfl) ?_
              refine lv_iadd hx hb dX12_isOne_42 ?_
              rw [nI_add ((9 * p9) + (wd * j1668)) j1670]
              have hi_1672 : wd * j1668 + j1670 < 9 := mdr (by omega) (by omega) (by omega)
              obtain ⟨f_1673, es1673⟩ := getr_pd hI
              refine hp_lald hx hb hK hh (q := 14) rfl (hI.1 _ (by decide)) es1673 (vp_in_nI (n := (((9 * p9) + (wd * j1668)) + j1670)) (by omega) (by decide)) dX12_isOne_43 ?_
              rw [nI_clamp (n := (((9 * p9) + (wd * j1668)) + j1670)) (by omega)]
              refine lv_iload_n hx hb dX12_isOne_44 rfl (lv_at hl 1 rfl) ?_
              refine lv_iload hx hb dX12_isOne_45 (lv_at hl 0 rfl) ?_
              refine lv_icmp_ne (tgt := 54) hx hb dX12_isOne_47 (by decide) (fun c_1674 => ?_) (fun c_1674 => ?_)
              · have n_1674 : j1668 ≠ j1670 := n_neq (a := j1668) (b := j1670) c_1674 (by omega) (by omega)
                refine lv_lconst (v := 0) hx hb dX12_isOne_54 (by decide) ?_
                refine W.lcmp hx hb dX12_isOne_55 ?_
                refine lv_if_ne (tgt := 63) hx hb dX12_isOne_56 (by decide) (fun c_1675 => ?_) (fun c_1675 => ?_)
                · refine lv_iconst (v := 0) hx hb dX12_isOne_63 (by decide) ?_
                  refine lv_iand hx hb dX12_isOne_64 ?_
                  refine lv_istore_n (lv' := [(2, .int (no1670 &&& 0)), (4, .int (nI j1670)), (3, .int (nI j1668)), (0, .ref (ad 0)), (1, .int (nI p9))]) hx hb dX12_isOne_65 rfl hl (by decide) rfl (fun ls hl => ?_)
                  refine lv_iinc (v := (nI (j1670 + 1))) (lv' := [(4, .int (nI (j1670 + 1))), (2, .int (no1670 &&& 0)), (3, .int (nI j1668)), (0, .ref (ad 0)), (1, .int (nI p9))]) hx hb dX12_isOne_66 hl (k := 1) rfl (nI_1 _) (by decide) rfl (fun ls hl => ?_)
                  refine lv_goto (tgt := 15) hx hb dX12_isOne_69 (by decide) ?_
                  exact ih_1670 ((j1670 + 1)) (no1670 &&& 0) ls H locs (by omega) (by omega) (by omega) (bit_and i0_1670 (by decide)) (lv_sub hl [0, 2, 1, 3, 4] rfl) hh
                · refine lv_iconst (v := 1) hx hb dX12_isOne_59 (by decide) ?_
                  refine lv_goto (tgt := 64) hx hb dX12_isOne_60 (by decide) ?_
                  refine lv_iand hx hb dX12_isOne_64 ?_
                  refine lv_istore_n (lv' := [(2, .int (no1670 &&& 1)), (4, .int (nI j1670)), (3, .int (nI j1668)), (0, .ref (ad 0)), (1, .int (nI p9))]) hx hb dX12_isOne_65 rfl hl (by decide) rfl (fun ls hl => ?_)
                  refine lv_iinc (v := (nI (j1670 + 1))) (lv' := [(4, .int (nI (j1670 + 1))), (2, .int (no1670 &&& 1)), (3, .int (nI j1668)), (0, .ref (ad 0)), (1, .int (nI p9))]) hx hb dX12_isOne_66 hl (k := 1) rfl (nI_1 _) (by decide) rfl (fun ls hl => ?_)
                  refine lv_goto (tgt := 15) hx hb dX12_isOne_69 (by decide) ?_
                  exact ih_1670 ((j1670 + 1)) (no1670 &&& 1) ls H locs (by omega) (by omega) (by omega) (bit_and i0_1670 (by decide)) (lv_sub hl [0, 2, 1, 3, 4] rfl) hh
              · have n_1674 : j1668 = j1670 := n_eq (a := j1668) (b := j1670) c_1674 (by omega) (by omega)
                refine lv_lconst (v := 1) hx hb dX12_isOne_50 (by decide) ?_
                refine lv_goto (tgt := 55) hx hb dX12_isOne_51 (by decide) ?_
                refine W.lcmp hx hb dX12_isOne_55 ?_
                refine lv_if_ne (tgt := 63) hx hb dX12_isOne_56 (by decide) (fun c_1676 => ?_) (fun c_1676 => ?_)
                · refine lv_iconst (v := 0) hx hb dX12_isOne_63 (by decide) ?_
                  refine lv_iand hx hb dX12_isOne_64 ?_
                  refine lv_istore_n (lv' := [(2, .int (no1670 &&& 0)), (4, .int (nI j1670)), (3, .int (nI j1668)), (0, .ref (ad 0)), (1, .int (nI p9))]) hx hb dX12_isOne_65 rfl hl (by decide) rfl (fun ls hl => ?_)
                  refine lv_iinc (v := (nI (j1670 + 1))) (lv' := [(4, .int (nI (j1670 + 1))), (2, .int (no1670 &&& 0)), (3, .int (nI j1668)), (0, .ref (ad 0)), (1, .int (nI p9))]) hx hb dX12_isOne_66 hl (k := 1) rfl (nI_1 _) (by decide) rfl (fun ls hl => ?_)
                  refine lv_goto (tgt := 15) hx hb dX12_isOne_69 (by decide) ?_
                  exact ih_1670 ((j1670 + 1)) (no1670 &&& 0) ls H locs (by omega) (by omega) (by omega) (bit_and i0_1670 (by decide)) (lv_sub hl [0, 2, 1, 3, 4] rfl) hh
                · refine lv_iconst (v := 1) hx hb dX12_isOne_59 (by decide) ?_
                  refine lv_goto (tgt := 64) hx hb dX12_isOne_60 (by decide) ?_
                  refine lv_iand hx hb dX12_isOne_64 ?_
                  refine lv_istore_n (lv' := [(2, .int (no1670 &&& 1)), (4, .int (nI j1670)), (3, .int (nI j1668)), (0, .ref (ad 0)), (1, .int (nI p9))]) hx hb dX12_isOne_65 rfl hl (by decide) rfl (fun ls hl => ?_)
                  refine lv_iinc (v := (nI (j1670 + 1))) (lv' := [(4, .int (nI (j1670 + 1))), (2, .int (no1670 &&& 1)), (3, .int (nI j1668)), (0, .ref (ad 0)), (1, .int (nI p9))]) hx hb dX12_isOne_66 hl (k := 1) rfl (nI_1 _) (by decide) rfl (fun ls hl => ?_)
                  refine lv_goto (tgt := 15) hx hb dX12_isOne_69 (by decide) ?_
                  exact ih_1670 ((j1670 + 1)) (no1670 &&& 1) ls H locs (by omega) (by omega) (by omega) (bit_and i0_1670 (by decide)) (lv_sub hl [0, 2, 1, 3, 4] rfl) hh
        exact loop_1670 (wd + 1) 0 no1668 ls _ _ (Nat.le_refl _) (by omega) (by omega) (i0_1668) (lv_sub hl [0, 1, 2, 3, 4] rfl) hh
  exact loop_1668 (wd + 1) 0 1 ls _ _ (Nat.le_refl _) (by omega) (by omega) (by decide) (lv_sub hl [0, 1, 2, 3] rfl) hh
theorem kw_X12_isOne {R : Room} {s : State} {args : Array Value} {own : String} {idx : Nat} (hts : ∀ w ∈ TB, w.before args s = true) (hl : Cond.methodLink own idx yX12_isOne ∈ TB) (hR : 0 + 1 ≤ R.frames ∧ 8 + (5 + 11) + 40 * 0 ≤ R.locals) : CallW R s args own RX12 idx yX12_isOne cX12_isOne 5 (some .boolean) (Cond.code yX12_isOne cX12_isOne 5 (some .boolean) :: TB) (rmN 0) 0 0 1 := cwV 1 hts (TB_V hl tw_1148 ts_55 tw_9 tw_1149) rfl rfl rfl (by decide +kernel) hR
set_option maxHeartbeats 4000000 in
set_option maxRecDepth 100000 in
/-- close -/
theorem c_X12_close (l : Launch) (D : va_G) (cy : Nat → ClassId) (sz : Nat) (cs : List Nat) (ad : Nat → Nat) (en : Nat → va_E) (hI : RX cy cs ad en) (hCX : CHX en)   : Met l yX12_close (Cond.code yX12_close cX12_close 4 (some .int) :: TB) (rmN 3) (va_Pc [.ref (ad 0)] (Pre D cy cs ad en sz)) (va_Qi (S := Nat → va_E) (fun r en1 => RX cy cs ad en1 ∧ (∀ c, (c ≠ 0 ∧ c ≠ 6 ∧ c ≠ 14 ∧ c ≠ 15 ∧ c ≠ 16 ∧ c ≠ 17) → en1 c = en c) ∧ CHX en1 ∧ KPp en en1) (PostM D cs ad) (Af cs ad sz)) 0 0 (Af cs ad sz) := by
  refine Met.ofW (cc := cX12_close) (maxL := 4) (ret := (some .int)) (by decide) rfl ?_
  intro p e s m args below meth c s₁ B hml hv
  obtain ⟨rfl, hsz, hP, hK, hD0⟩ := hv
  have hx := B.exec
  have hb := B.bytes
  have hr := B.returns
  have hts : ∀ w ∈ TB, w.before _ s = true := fun w h => atoms_spec (ws := _ :: TB) B.pre w (List.mem_cons_of_mem _ h)
  have hown : s.vm.findClass RX12 = some m.cls := findClass_of_methodNamed B.named
  have hlocks := B.notSynchronized
  have hh : Hp D (Af cs ad sz) (Af cs ad sz) s.heap s.heap [] cs ad en := ⟨hP, Af_self hD0, va_S.rf⟩
  have hA : ∀ q : Nat, s.heap.size ≤ q → Af cs ad sz q := fun q h => Or.inr (by rw [hsz] at h; exact h)
  have hl := lv_entry ([.ref (ad 0)]) (n := 4) (Nat.le_of_ble_eq_true rfl)
  rw [lg_entry_eq]
  generalize (lg_sl ([.ref (ad 0)]) ++ List.replicate (4 - (lg_sl ([.ref (ad 0)])).length) Slot.unset).toArray = ls at hl ⊢
  have hl : lv_has ls 4 [(0, .ref (ad 0))] := hl
  have hf0 : ∀ c, (c ≠ 0 ∧ c ≠ 6 ∧ c ≠ 14 ∧ c ≠ 15 ∧ c ≠ 16 ∧ c ≠ 17) → en c = en c := fun _ _ => rfl
  obtain ⟨fa, hi, wd, mo, tb, dp, many, grt, lst, nou, rm, rb, pr, wo, es1677, hwd2, hwd3, hmo, htb, hwo⟩ := getr_M hI
  refine lv_aload_n hx hb dX12_close_0 rfl (lv_at hl 0 rfl) ?_
  refine hp_get hx hb hts ix12 hown hK hh (q := 0) rfl (hI.1 _ (by decide)) es1677 rfl 4 (by decide) (hts _ tw_883) (fun _ h9 => h9) rfl dX12_close_1 ?_
  refine lv_if_ne (tgt := 10) hx hb dX12_close_4 (by decide) (fun c_1678 => ?_) (fun c_1678 => ?_)
  · have n_1678 : tb ≠ 0 := n_neq (a := tb) (b := 0) c_1678 (by omega) (by decide)
    refine lv_aload_n hx hb dX12_close_10 rfl (lv_at hl 0 rfl) ?_
    refine lv_iconst (v := 0) hx hb dX12_close_11 (by decide) ?_
    refine hp_put hx hb hts ix12 tyX12 tyX12_ok nmX12 hown hK hh (q := 0) rfl (hI.1 _ (by decide)) es1677 rfl 25 (by decide) (hts _ tw_904) (fun _ h9 => h9) rfl (ty := .int) (by decide +kernel) rfl rfl (Nat.le_of_ble_eq_true rfl) dX12_close_12 (fun H locs en_1679 hen_1679 hh => ?_)
    have es1677_1679 : en_1679 0 = .inr (11, [.int fa, .int hi, .int (nI wd), .int (nI mo), .int (nI tb), .ref (ad 1), .ref (ad 2), .ref (ad 3), .ref (ad 4), .ref (ad 5), .ref (ad 6), .ref (ad 7), .ref (ad 8), .ref (ad 9), .int dp, .long many, .long grt, .long lst, .long nou, .ref (ad 10), .ref (ad 11), .ref (ad 12), .int rm, .long rb, .ref (ad 13), .int 0, .ref (ad 14), .ref (ad 15), .ref (ad 16), .ref (ad 17), .int (nI wo), .ref (ad 18), .ref (ad 19)]) := by rw [hen_1679]; exact va_up_self _ _ _
    have hI_1679 : RX cy cs ad en_1679 := by rw [hen_1679]; exact upr_M hI ⟨fa, hi, wd, mo, tb, dp, many, grt, lst, nou, rm, rb, 0, wo, rfl, hwd2, hwd3, hmo, htb, hwo⟩
    have hf_1679 : ∀ c, (c ≠ 0 ∧ c ≠ 6 ∧ c ≠ 14 ∧ c ≠ 15 ∧ c ≠ 16 ∧ c ≠ 17) → en_1679 c = en c := fun c hc => Eq.trans (show en_1679 c = en c from by rw [hen_1679, va_up_ne _ _ (by omega)]) (hf0 c hc)
    have hkp_1679 : KPp en en_1679 := KPp_fv (KPp_rf en) es1677 es1677_1679 hi (nI wd) (nI mo) (nI tb) (nI wo) rfl rfl rfl rfl rfl rfl rfl rfl rfl rfl
    refine lv_iconst (v := 0) hx hb dX12_close_15 (by decide) ?_
    refine lv_istore_n (lv' := [(1, .int 0), (0, .ref (ad 0))]) hx hb dX12_close_16 rfl hl (by decide) rfl (fun ls hl => ?_)
    have loop_1680 : ∀ (fu j1680 : Nat)  (en_1680 : Nat → va_E) (ls : Array Slot) (H : Heap) (locs : List Loc), 0 ≤ j1680 → j1680 ≤ 4096 → 4096 < j1680 + fu → RX cy cs ad en_1680 → (∀ c, (c ≠ 0 ∧ c ≠ 6 ∧ c ≠ 14 ∧ c ≠ 15 ∧ c ≠ 16 ∧ c ≠ 17) → en_1680 c = en c) → (∀ i, i < j1680 → rdF (en_1680 16) i = -9) → (rdI (en_1680 0) 25 = nI 0) → (KPp en en_1680) → lv_has ls 4 [(1, .int (nI j1680)), (0, .ref (ad 0))] → Hp D (Af cs ad sz) (Af cs ad sz) s.heap H locs cs ad en_1680 → W p l e (headSpec (Cond.code yX12_close cX12_close 4 (some .int) :: TB) (rmN 3)).room s m ([.ref (ad 0)] : List Value).toArray below meth c H locs 0 0 (MQ below (va_Qi (S := Nat → va_E) (fun r en1 => RX cy cs ad en1 ∧ (∀ c, (c ≠ 0 ∧ c ≠ 6 ∧ c ≠ 14 ∧ c ≠ 15 ∧ c ≠ 16 ∧ c ≠ 17) → en1 c = en c) ∧ CHX en1 ∧ KPp en en1) (PostM D cs ad) (Af cs ad sz)) ([.ref (ad 0)] : List Value).toArray s 0 0 (Af cs ad sz)) (F0 m 17 ls []) := by
      intro fu
      induction fu with
      | zero => intro j1680  en_1680 ls H locs h0 h1 h2; exact absurd h2 (by omega)
      | succ fu ih_1680 =>
        intro j1680  en_1680 ls H locs hj0_1680 hj_1680 hfu_1680 hI_1680 hf_1680 i0_1680 i1_1680 i2_1680 hl hh
        refine lv_iload_n hx hb dX12_close_17 rfl (lv_at hl 0 rfl) ?_
        refine lv_sipush (v := 4096) hx hb dX12_close_18 (by decide) ?_
        refine lv_icmp_ge (tgt := 38) hx hb dX12_close_21 (by decide) (fun c_1681 => ?_) (fun c_1681 => ?_)
        · have n_1681 : 4096 ≤ j1680 := n_le (a := 4096) (b := j1680) c_1681 (by decide) (by omega)
          have hCH0 : CH en_1680 0 := CH_0 i1_1680 (fun i hi => i0_1680 i (by omega))
          refine lv_iconst (v := 1) hx hb dX12_close_38 (by decide) ?_
          refine lv_istore_n (lv' := [(1, .int 1), (0, .ref (ad 0))]) hx hb dX12_close_39 rfl hl (by decide) rfl (fun ls hl => ?_)
          refine lv_aload_n hx hb dX12_close_40 rfl (lv_at hl 1 rfl) ?_
          obtain ⟨fa_1682, hi_1682, wd_1682, mo_1682, tb_1682, dp_1682, many_1682, grt_1682, lst_1682, nou_1682, rm_1682, rb_1682, pr_1682, wo_1682, es1682, p0_1682, p1_1682, p2_1682, p3_1682, p4_1682⟩ := getr_M hI_1680
          have hfx_1683 : pr_1682 = nI 0 := (show pr_1682 = rdI (en_1680 0) 25 from by rw [es1682]; rfl).trans (i1_1680)
          rw [hfx_1683] at es1682
          have hq2_1684 : wd_1682 = wd := n_eq ((show nI wd_1682 = rdI (en_1680 0) 2 from by rw [es1682]; rfl).trans (i2_1680.2.1.trans (show rdI (en 0) 2 = nI wd from by rw [es1677]; rfl))) (by omega) (by omega)
          have hq3_1684 : mo_1682 = mo := n_eq ((show nI mo_1682 = rdI (en_1680 0) 3 from by rw [es1682]; rfl).trans (i2_1680.2.2.1.trans (show rdI (en 0) 3 = nI mo from by rw [es1677]; rfl))) (by omega) (by omega)
          have hq4_1684 : tb_1682 = tb := n_eq ((show nI tb_1682 = rdI (en_1680 0) 4 from by rw [es1682]; rfl).trans (i2_1680.2.2.2.1.trans (show rdI (en 0) 4 = nI tb from by rw [es1677]; rfl))) (by omega) (by omega)
          have hq30_1684 : wo_1682 = wo := n_eq ((show nI wo_1682 = rdI (en_1680 0) 30 from by rw [es1682]; rfl).trans (i2_1680.2.2.2.2.trans (show rdI (en 0) 30 = nI wo from by rw [es1677]; rfl))) (by omega) (by omega)
          rw [hq2_1684, hq3_1684, hq4_1684, hq30_1684] at es1682
          refine hp_callMv (va_runV (As := []) (rest := []) ⟨hx, hb, hml, hown, hts⟩ (c_X12_beginLevels l D cy _ cs ad en_1680 hI_1680  ) (kw_X12_beginLevels hts tw_1042 ⟨by decide, by decide⟩) (preV_of hh hK (hI.1 _ (by decide)) es1682 rfl) rfl rfl hl.1 rfl (lv_room (Nat.le_of_ble_eq_true rfl)) dX12_close_41 ⟨Nat.le_of_ble_eq_true rfl, Nat.le_of_ble_eq_true rfl⟩) hh hA (fun H locs en_1685 hw_1685 hh => ?_)
          obtain ⟨hI_1685, hu_1685, hx_1685⟩ := hw_1685
          have es1682_1685 : en_1685 0 = .inr (11, [.int fa_1682, .int hi_1682, .int (nI wd), .int (nI mo), .int (nI tb), .ref (ad 1), .ref (ad 2), .ref (ad 3), .ref (ad 4), .ref (ad 5), .ref (ad 6), .ref (ad 7), .ref (ad 8), .ref (ad 9), .int dp_1682, .long many_1682, .long grt_1682, .long lst_1682, .long nou_1682, .ref (ad 10), .ref (ad 11), .ref (ad 12), .int rm_1682, .long rb_1682, .ref (ad 13), .int (nI 0), .ref (ad 14), .ref (ad 15), .ref (ad 16), .ref (ad 17), .int (nI wo), .ref (ad 18), .ref (ad 19)]) := (hu_1685 0 (by omega)).trans es1682
          have hf_1685 : ∀ c, (c ≠ 0 ∧ c ≠ 6 ∧ c ≠ 14 ∧ c ≠ 15 ∧ c ≠ 16 ∧ c ≠ 17) → en_1685 c = en c := fun c hc => (hu_1685 c (by omega)).trans (hf_1680 c hc)
          have hkp_1685 : KPp en en_1685 := KPp_same i2_1680 (hu_1685 0 (by omega))
          have hcq_1685 := CH_keep (e1 := en_1685) hCH0 (by rw [hu_1685 0 (by omega)]) (hu_1685 16 (by omega)) (hu_1685 17 (by omega))
          refine lv_iconst (v := 0) hx hb dX12_close_44 (by decide) ?_
          refine lv_istore_n (lv' := [(2, .int 0), (1, .int 1), (0, .ref (ad 0))]) hx hb dX12_close_45 rfl hl (by decide) rfl (fun ls hl => ?_)
          have loop_1686 : ∀ (fu j1686 : Nat) (my1686 : Int32) (en_1686 : Nat → va_E) (ls : Array Slot) (H : Heap) (locs : List Loc), 0 ≤ j1686 → j1686 ≤ 6 → 6 < j1686 + fu → RX cy cs ad en_1686 → (∀ c, (c ≠ 0 ∧ c ≠ 6 ∧ c ≠ 14 ∧ c ≠ 15 ∧ c ≠ 16 ∧ c ≠ 17) → en_1686 c = en c) → (∃ P, CH en_1686 P ∧ (j1686 = 0 ∨ my1686 = 0 ∨ 1 ≤ P)) → (KPp en en_1686) → lv_has ls 4 [(2, .int (nI j1686)), (1, .int my1686), (0, .ref (ad 0))] → Hp D (Af cs ad sz) (Af cs ad sz) s.heap H locs cs ad en_1686 → W p l e (headSpec (Cond.code yX12_close cX12_close 4 (some .int) :: TB) (rmN 3)).room s m ([.ref (ad 0)] : List Value).toArray below meth c H locs 0 0 (MQ below (va_Qi (S := Nat → va_E) (fun r en1 => RX cy cs ad en1 ∧ (∀ c, (c ≠ 0 ∧ c ≠ 6 ∧ c ≠ 14 ∧ c ≠ 15 ∧ c ≠ 16 ∧ c ≠ 17) → en1 c = en c) ∧ CHX en1 ∧ KPp en en1) (PostM D cs ad) (Af cs ad sz)) ([.ref (ad 0)] : List Value).toArray s 0 0 (Af cs ad sz)) (F0 m 46 ls []) := by
            intro fu
            induction fu with
            | zero => intro j1686 my1686 en_1686 ls H locs h0 h1 h2; exact absurd h2 (by omega)
            | succ fu ih_1686 =>
              intro j1686 my1686 en_1686 ls H locs hj0_1686 hj_1686 hfu_1686 hI_1686 hf_1686 i0_1686 i1_1686 hl hh
              obtain ⟨P_1686, hCH_1686, hPx_1686⟩ := i0_1686
              have hPb_1686 := hCH_1686.1
              refine lv_iload_n hx hb dX12_close_46 rfl (lv_at hl 0 rfl) ?_
              refine lv_aload_n hx hb dX12_close_47 rfl (lv_at hl 2 rfl) ?_
              obtain ⟨fa_1687, hi_1687, wd_1687, mo_1687, tb_1687, dp_1687, many_1687, grt_1687, lst_1687, nou_1687, rm_1687, rb_1687, pr_1687, wo_1687, es1687, p0_1687, p1_1687, p2_1687, p3_1687, p4_1687⟩ := getr_M hI_1686
              have hfx_1688 : pr_1687 = nI P_1686 := (show pr_1687 = rdI (en_1686 0) 25 from by rw [es1687]; rfl).trans (hCH_1686.2.1)
              rw [hfx_1688] at es1687
              have hq2_1689 : wd_1687 = wd := n_eq ((show nI wd_1687 = rdI (en_1686 0) 2 from by rw [es1687]; rfl).trans (i1_1686.2.1.trans (show rdI (en 0) 2 = nI wd from by rw [es1677]; rfl))) (by omega) (by omega)
              have hq3_1689 : mo_1687 = mo := n_eq ((show nI mo_1687 = rdI (en_1686 0) 3 from by rw [es1687]; rfl).trans (i1_1686.2.2.1.trans (show rdI (en 0) 3 = nI mo from by rw [es1677]; rfl))) (by omega) (by omega)
              have hq4_1689 : tb_1687 = tb := n_eq ((show nI tb_1687 = rdI (en_1686 0) 4 from by rw [es1687]; rfl).trans (i1_1686.2.2.2.1.trans (show rdI (en 0) 4 = nI tb from by rw [es1677]; rfl))) (by omega) (by omega)
              have hq30_1689 : wo_1687 = wo := n_eq ((show nI wo_1687 = rdI (en_1686 0) 30 from by rw [es1687]; rfl).trans (i1_1686.2.2.2.2.trans (show rdI (en 0) 30 = nI wo from by rw [es1677]; rfl))) (by omega) (by omega)
              rw [hq2_1689, hq3_1689, hq4_1689, hq30_1689] at es1687
              refine hp_get hx hb hts ix12 hown hK hh (q := 0) rfl (hI.1 _ (by decide)) es1687 rfl 4 (by decide) (hts _ tw_883) (fun _ h9 => h9) rfl dX12_close_48 ?_
              refine lv_icmp_ge (tgt := 77) hx hb dX12_close_51 (by decide) (fun c_1690 => ?_) (fun c_1690 => ?_)
              · have n_1690 : tb ≤ j1686 := n_le (a := tb) (b := j1686) c_1690 (by omega) (by omega)
                refine lv_iconst (v := 0) hx hb dX12_close_77 (by decide) ?_
                refine lv_istore_n (lv' := [(2, .int 0), (1, .int my1686), (0, .ref (ad 0))]) hx hb dX12_close_78 rfl hl (by decide) rfl (fun ls hl => ?_)
                have loop_1691 : ∀ (fu j1691 : Nat) (my1691 : Int32) (en_1691 : Nat → va_E) (ls : Array Slot) (H : Heap) (locs : List Loc), 0 ≤ j1691 → j1691 ≤ 2000 → 2000 < j1691 + fu → RX cy cs ad en_1691 → (∀ c, (c ≠ 0 ∧ c ≠ 6 ∧ c ≠ 14 ∧ c ≠ 15 ∧ c ≠ 16 ∧ c ≠ 17) → en_1691 c = en c) → (∃ P, CH en_1691 P ∧ (my1691 = 0 ∨ 1 ≤ P)) → (KPp en en_1691) → lv_has ls 4 [(2, .int (nI j1691)), (1, .int my1691), (0, .ref (ad 0))] → Hp D (Af cs ad sz) (Af cs ad sz) s.heap H locs cs ad en_1691 → W p l e (headSpec (Cond.code yX12_close cX12_close 4 (some .int) :: TB) (rmN 3)).room s m ([.ref (ad 0)] : List Value).toArray below meth c H locs 0 0 (MQ below (va_Qi (S := Nat → va_E) (fun r en1 => RX cy cs ad en1 ∧ (∀ c, (c ≠ 0 ∧ c ≠ 6 ∧ c ≠ 14 ∧ c ≠ 15 ∧ c ≠ 16 ∧ c ≠ 17) → en1 c = en c) ∧ CHX en1 ∧ KPp en en1) (PostM D cs ad) (Af cs ad sz)) ([.ref (ad 0)] : List Value).toArray s 0 0 (Af cs ad sz)) (F0 m 79 ls []) := by
                  intro fu
                  induction fu with
                  | zero => intro j1691 my1691 en_1691 ls H locs h0 h1 h2; exact absurd h2 (by omega)
                  | succ fu ih_1691 =>
                    intro j1691 my1691 en_1691 ls H locs hj0_1691 hj_1691 hfu_1691 hI_1691 hf_1691 i0_1691 i1_1691 hl hh
                    obtain ⟨P_1691, hCH_1691, hPx_1691⟩ := i0_1691
                    have hPb_1691 := hCH_1691.1
                    refine lv_iload_n hx hb dX12_close_79 rfl (lv_at hl 0 rfl) ?_
                    refine lv_aload_n hx hb dX12_close_80 rfl (lv_at hl 2 rfl) ?_
                    obtain ⟨fa_1692, hi_1692, wd_1692, mo_1692, tb_1692, dp_1692, many_1692, grt_1692, lst_1692, nou_1692, rm_1692, rb_1692, pr_1692, wo_1692, es1692, p0_1692, p1_1692, p2_1692, p3_1692, p4_1692⟩ := getr_M hI_1691
                    have hfx_1693 : pr_1692 = nI P_1691 := (show pr_1692 = rdI (en_1691 0) 25 from by rw [es1692]; rfl).trans (hCH_1691.2.1)
                    rw [hfx_1693] at es1692
                    have hq2_1694 : wd_1692 = wd := n_eq ((show nI wd_1692 = rdI (en_1691 0) 2 from by rw [es1692]; rfl).trans (i1_1691.2.1.trans (show rdI (en 0) 2 = nI wd from by rw [es1677]; rfl))) (by omega) (by omega)
                    have hq3_1694 : mo_1692 = mo := n_eq ((show nI mo_1692 = rdI (en_1691 0) 3 from by rw [es1692]; rfl).trans (i1_1691.2.2.1.trans (show rdI (en 0) 3 = nI mo from by rw [es1677]; rfl))) (by omega) (by omega)
                    have hq4_1694 : tb_1692 = tb := n_eq ((show nI tb_1692 = rdI (en_1691 0) 4 from by rw [es1692]; rfl).trans (i1_1691.2.2.2.1.trans (show rdI (en 0) 4 = nI tb from by rw [es1677]; rfl))) (by omega) (by omega)
                    have hq30_1694 : wo_1692 = wo := n_eq ((show nI wo_1692 = rdI (en_1691 0) 30 from by rw [es1692]; rfl).trans (i1_1691.2.2.2.2.trans (show rdI (en 0) 30 = nI wo from by rw [es1677]; rfl))) (by omega) (by omega)
                    rw [hq2_1694, hq3_1694, hq4_1694, hq30_1694] at es1692
                    refine hp_get hx hb hts ix12 hown hK hh (q := 0) rfl (hI.1 _ (by decide)) es1692 rfl 25 (by decide) (hts _ tw_904) (fun _ h9 => h9) rfl dX12_close_81 ?_
                    refine lv_icmp_ge (tgt := 143) hx hb dX12_close_84 (by decide) (fun c_1695 => ?_) (fun c_1695 => ?_)
                    · have n_1695 : P_1691 ≤ j1691 := n_le (a := P_1691) (b := j1691) c_1695 (by omega) (by omega)
                      refine lv_iload_n hx hb dX12_close_143 rfl (lv_at hl 1 rfl) ?_
                      refine lv_if_ne (tgt := 156) hx hb dX12_close_144 (by decide) (fun c_1696 => ?_) (fun c_1696 => ?_)
                      · refine lv_aload_n hx hb dX12_close_156 rfl (lv_at hl 2 rfl) ?_
                        refine hp_get hx hb hts ix12 hown hK hh (q := 0) rfl (hI.1 _ (by decide)) es1692 rfl 25 (by decide) (hts _ tw_904) (fun _ h9 => h9) rfl dX12_close_157 ?_
                        exact hp_iretM hx hb hr rfl hlocks hh (⟨hI_1691, hf_1691, Or.inr ⟨P_1691, (hPx_1691).resolve_left c_1696, hCH_1691⟩, i1_1691⟩) dX12_close_160
                      · refine lv_aload_n hx hb dX12_close_147 rfl (lv_at hl 2 rfl) ?_
                        refine lv_bipush (v := (-9)) hx hb dX12_close_148 (by decide) ?_
                        refine hp_put hx hb hts ix12 tyX12 tyX12_ok nmX12 hown hK hh (q := 0) rfl (hI.1 _ (by decide)) es1692 rfl 25 (by decide) (hts _ tw_904) (fun _ h9 => h9) rfl (ty := .int) (by decide +kernel) rfl rfl (Nat.le_of_ble_eq_true rfl) dX12_close_150 (fun H locs en_1697 hen_1697 hh => ?_)
                        have es1692_1697 : en_1697 0 = .inr (11, [.int fa_1692, .int hi_1692, .int (nI wd), .int (nI mo), .int (nI tb), .ref (ad 1), .ref (ad 2), .ref (ad 3), .ref (ad 4), .ref (ad 5), .ref (ad 6), .ref (ad 7), .ref (ad 8), .ref (ad 9), .int dp_1692, .long many_1692, .long grt_1692, .long lst_1692, .long nou_1692, .ref (ad 10), .ref (ad 11), .ref (ad 12), .int rm_1692, .long rb_1692, .ref (ad 13), .int (-9), .ref (ad 14), .ref (ad 15), .ref (ad 16), .ref (ad 17), .int (nI wo), .ref (ad 18), .ref (ad 19)]) := by rw [hen_1697]; exact va_up_self _ _ _
                        have hI_1697 : RX cy cs ad en_1697 := by rw [hen_1697]; exact upr_M hI_1691 ⟨fa_1692, hi_1692, wd, mo, tb, dp_1692, many_1692, grt_1692, lst_1692, nou_1692, rm_1692, rb_1692, (-9), wo, rfl, hwd2, hwd3, hmo, htb, hwo⟩
                        have hf_1697 : ∀ c, (c ≠ 0 ∧ c ≠ 6 ∧ c ≠ 14 ∧ c ≠ 15 ∧ c ≠ 16 ∧ c ≠ 17) → en_1697 c = en c := fun c hc => Eq.trans (show en_1697 c = en_1691 c from by rw [hen_1697, va_up_ne _ _ (by omega)]) (hf_1691 c hc)
                        have hkp_1697 : KPp en en_1697 := KPp_fv i1_1691 es1692 es1692_1697 hi_1692 (nI wd) (nI mo) (nI tb) (nI wo) rfl rfl rfl rfl rfl rfl rfl rfl rfl rfl
                        refine lv_bipush (v := (-6)) hx hb dX12_close_153 (by decide) ?_
                        exact hp_iretM hx hb hr rfl hlocks hh (⟨hI_1697, hf_1697, Or.inl (by rw [es1692_1697]; rfl), hkp_1697⟩) dX12_close_155
                    · have n_1695 : j1691 < P_1691 := n_nle (a := P_1691) (b := j1691) c_1695 (by omega) (by omega)
                      refine lv_iload_n hx hb dX12_close_87 rfl (lv_at hl 1 rfl) ?_
                      refine lv_if_eq (tgt := 143) hx hb dX12_close_88 (by decide) (fun c_1698 => ?_) (fun c_1698 => ?_)
                      · refine lv_iload_n hx hb dX12_close_143 rfl (lv_at hl 1 rfl) ?_
                        refine lv_if_ne (tgt := 156) hx hb dX12_close_144 (by decide) (fun c_1699 => ?_) (fun c_1699 => ?_)
                        · refine lv_aload_n hx hb dX12_close_156 rfl (lv_at hl 2 rfl) ?_
                          refine hp_get hx hb hts ix12 hown hK hh (q := 0) rfl (hI.1 _ (by decide)) es1692 rfl 25 (by decide) (hts _ tw_904) (fun _ h9 => h9) rfl dX12_close_157 ?_
                          exact hp_iretM hx hb hr rfl hlocks hh (⟨hI_1691, hf_1691, Or.inr ⟨P_1691, (hPx_1691).resolve_left c_1699, hCH_1691⟩, i1_1691⟩) dX12_close_160
                        · refine lv_aload_n hx hb dX12_close_147 rfl (lv_at hl 2 rfl) ?_
                          refine lv_bipush (v := (-9)) hx hb dX12_close_148 (by decide) ?_
                          refine hp_put hx hb hts ix12 tyX12 tyX12_ok nmX12 hown hK hh (q := 0) rfl (hI.1 _ (by decide)) es1692 rfl 25 (by decide) (hts _ tw_904) (fun _ h9 => h9) rfl (ty := .int) (by decide +kernel) rfl rfl (Nat.le_of_ble_eq_true rfl) dX12_close_150 (fun H locs en_1700 hen_1700 hh => ?_)
                          have es1692_1700 : en_1700 0 = .inr (11, [.int fa_1692, .int hi_1692, .int (nI wd), .int (nI mo), .int (nI tb), .ref (ad 1), .ref (ad 2), .ref (ad 3), .ref (ad 4), .ref (ad 5), .ref (ad 6), .ref (ad 7), .ref (ad 8), .ref (ad 9), .int dp_1692, .long many_1692, .long grt_1692, .long lst_1692, .long nou_1692, .ref (ad 10), .ref (ad 11), .ref (ad 12), .int rm_1692, .long rb_1692, .ref (ad 13), .int (-9), .ref (ad 14), .ref (ad 15), .ref (ad 16), .ref (ad 17), .int (nI wo), .ref (ad 18), .ref (ad 19)]) := by rw [hen_1700]; exact va_up_self _ _ _
                          have hI_1700 : RX cy cs ad en_1700 := by rw [hen_1700]; exact upr_M hI_1691 ⟨fa_1692, hi_1692, wd, mo, tb, dp_1692, many_1692, grt_1692, lst_1692, nou_1692, rm_1692, rb_1692, (-9), wo, rfl, hwd2, hwd3, hmo, htb, hwo⟩
                          have hf_1700 : ∀ c, (c ≠ 0 ∧ c ≠ 6 ∧ c ≠ 14 ∧ c ≠ 15 ∧ c ≠ 16 ∧ c ≠ 17) → en_1700 c = en c := fun c hc => Eq.trans (show en_1700 c = en_1691 c from by rw [hen_1700, va_up_ne _ _ (by omega)]) (hf_1691 c hc)
                          have hkp_1700 : KPp en en_1700 := KPp_fv i1_1691 es1692 es1692_1700 hi_1692 (nI wd) (nI mo) (nI tb) (nI wo) rfl rfl rfl rfl rfl rfl rfl rfl rfl rfl
                          refine lv_bipush (v := (-6)) hx hb dX12_close_153 (by decide) ?_
                          exact hp_iretM hx hb hr rfl hlocks hh (⟨hI_1700, hf_1700, Or.inl (by rw [es1692_1700]; rfl), hkp_1700⟩) dX12_close_155
                      · refine lv_iconst (v := 0) hx hb dX12_close_91 (by decide) ?_
                        refine lv_istore_n (lv' := [(3, .int 0), (2, .int (nI j1691)), (1, .int my1691), (0, .ref (ad 0))]) hx hb dX12_close_92 rfl hl (by decide) rfl (fun ls hl => ?_)
                        have loop_1701 : ∀ (fu j1701 : Nat) (my1701 : Int32) (en_1701 : Nat → va_E) (ls : Array Slot) (H : Heap) (locs : List Loc), 0 ≤ j1701 → j1701 ≤ 6 → 6 < j1701 + fu → RX cy cs ad en_1701 → (∀ c, (c ≠ 0 ∧ c ≠ 6 ∧ c ≠ 14 ∧ c ≠ 15 ∧ c ≠ 16 ∧ c ≠ 17) → en_1701 c = en c) → (∃ P, CH en_1701 P ∧ (my1701 = 0 ∨ 1 ≤ P)) → (KPp en en_1701) → lv_has ls 4 [(3, .int (nI j1701)), (2, .int (nI j1691)), (1, .int my1701), (0, .ref (ad 0))] → Hp D (Af cs ad sz) (Af cs ad sz) s.heap H locs cs ad en_1701 → W p l e (headSpec (Cond.code yX12_close cX12_close 4 (some .int) :: TB) (rmN 3)).room s m ([.ref (ad 0)] : List Value).toArray below meth c H locs 0 0 (MQ below (va_Qi (S := Nat → va_E) (fun r en1 => RX cy cs ad en1 ∧ (∀ c, (c ≠ 0 ∧ c ≠ 6 ∧ c ≠ 14 ∧ c ≠ 15 ∧ c ≠ 16 ∧ c ≠ 17) → en1 c = en c) ∧ CHX en1 ∧ KPp en en1) (PostM D cs ad) (Af cs ad sz)) ([.ref (ad 0)] : List Value).toArray s 0 0 (Af cs ad sz)) (F0 m 93 ls []) := by
                          intro fu
                          induction fu with
                          | zero => intro j1701 my1701 en_1701 ls H locs h0 h1 h2; exact absurd h2 (by omega)
                          | succ fu ih_1701 =>
                            intro j1701 my1701 en_1701 ls H locs hj0_1701 hj_1701 hfu_1701 hI_1701 hf_1701 i0_1701 i1_1701 hl hh
                            obtain ⟨P_1701, hCH_1701, hPx_1701⟩ := i0_1701
                            have hPb_1701 := hCH_1701.1
                            refine lv_iload_n hx hb dX12_close_93 rfl (lv_at hl 0 rfl) ?_
                            refine lv_aload_n hx hb dX12_close_94 rfl (lv_at hl 3 rfl) ?_
                            obtain ⟨fa_1702, hi_1702, wd_1702, mo_1702, tb_1702, dp_1702, many_1702, grt_1702, lst_1702, nou_1702, rm_1702, rb_1702, pr_1702, wo_1702, es1702, p0_1702, p1_1702, p2_1702, p3_1702, p4_1702⟩ := getr_M hI_1701
                            have hfx_1703 : pr_1702 = nI P_1701 := (show pr_1702 = rdI (en_1701 0) 25 from by rw [es1702]; rfl).trans (hCH_1701.2.1)
                            rw [hfx_1703] at es1702
                            have hq2_1704 : wd_1702 = wd := n_eq ((show nI wd_1702 = rdI (en_1701 0) 2 from by rw [es1702]; rfl).trans (i1_1701.2.1.trans (show rdI (en 0) 2 = nI wd from by rw [es1677]; rfl))) (by omega) (by omega)
                            have hq3_1704 : mo_1702 = mo := n_eq ((show nI mo_1702 = rdI (en_1701 0) 3 from by rw [es1702]; rfl).trans (i1_1701.2.2.1.trans (show rdI (en 0) 3 = nI mo from by rw [es1677]; rfl))) (by omega) (by omega)
                            have hq4_1704 : tb_1702 = tb := n_eq ((show nI tb_1702 = rdI (en_1701 0) 4 from by rw [es1702]; rfl).trans (i1_1701.2.2.2.1.trans (show rdI (en 0) 4 = nI tb from by rw [es1677]; rfl))) (by omega) (by omega)
                            have hq30_1704 : wo_1702 = wo := n_eq ((show nI wo_1702 = rdI (en_1701 0) 30 from by rw [es1702]; rfl).trans (i1_1701.2.2.2.2.trans (show rdI (en 0) 30 = nI wo from by rw [es1677]; rfl))) (by omega) (by omega)
                            rw [hq2_1704, hq3_1704, hq4_1704, hq30_1704] at es1702
                            refine hp_get hx hb hts ix12 hown hK hh (q := 0) rfl (hI.1 _ (by decide)) es1702 rfl 4 (by decide) (hts _ tw_883) (fun _ h9 => h9) rfl dX12_close_95 ?_
                            refine lv_icmp_ge (tgt := 137) hx hb dX12_close_98 (by decide) (fun c_1705 => ?_) (fun c_1705 => ?_)
                            · have n_1705 : tb ≤ j1701 := n_le (a := tb) (b := j1701) c_1705 (by omega) (by omega)
                              refine lv_iinc (v := (nI (j1691 + 1))) (lv' := [(2, .int (nI (j1691 + 1))), (3, .int (nI j1701)), (1, .int my1701), (0, .ref (ad 0))]) hx hb dX12_close_137 hl (k := 1) rfl (nI_1 _) (by decide) rfl (fun ls hl => ?_)
                              refine lv_goto (tgt := 79) hx hb dX12_close_140 (by decide) ?_
                              exact ih_1691 ((j1691 + 1)) my1701 en_1701 ls H locs (by omega) (by omega) (by omega) hI_1701 hf_1701 (⟨P_1701, hCH_1701, hPx_1701⟩) (i1_1701) (lv_sub hl [0, 2, 3] rfl) hh
                            · have n_1705 : j1701 < tb := n_nle (a := tb) (b := j1701) c_1705 (by omega) (by omega)
                              refine lv_iload_n hx hb dX12_close_101 rfl (lv_at hl 2 rfl) ?_
                              refine lv_if_eq (tgt := 137) hx hb dX12_close_102 (by decide) (fun c_1706 => ?_) (fun c_1706 => ?_)
                              · refine lv_iinc (v := (nI (j1691 + 1))) (lv' := [(2, .int (nI (j1691 + 1))), (3, .int (nI j1701)), (1, .int my1701), (0, .ref (ad 0))]) hx hb dX12_close_137 hl (k := 1) rfl (nI_1 _) (by decide) rfl (fun ls hl => ?_)
                                refine lv_goto (tgt := 79) hx hb dX12_close_140 (by decide) ?_
                                exact ih_1691 ((j1691 + 1)) my1701 en_1701 ls H locs (by omega) (by omega) (by omega) hI_1701 hf_1701 (⟨P_1701, hCH_1701, hPx_1701⟩) (i1_1701) (lv_sub hl [0, 2, 3] rfl) hh
                              · refine lv_aload_n hx hb dX12_close_105 rfl (lv_at hl 3 rfl) ?_
                                refine lv_iload_n hx hb dX12_close_106 rfl (lv_at hl 1 rfl) ?_
                                refine lv_iconst (v := 0) hx hb dX12_close_107 (by decide) ?_
                                refine hp_callMv (va_runV (As := [.int (nI j1691), .int 0]) (rest := []) ⟨hx, hb, hml, hown, hts⟩ (c_X12_layProduct l D cy _ cs ad en_1701 hI_1701 j1691 0 (by omega) (by omega)) (kw_X12_layProduct hts tw_1133 ⟨by decide, by decide⟩) (preV_of hh hK (hI.1 _ (by decide)) es1702 rfl) rfl rfl hl.1 rfl (lv_room (Nat.le_of_ble_eq_true rfl)) dX12_close_108 ⟨Nat.le_of_ble_eq_true rfl, Nat.le_of_ble_eq_true rfl⟩) hh hA (fun H locs en_1707 hw_1707 hh => ?_)
                                obtain ⟨hI_1707, hu_1707⟩ := hw_1707
                                have es1702_1707 : en_1707 0 = .inr (11, [.int fa_1702, .int hi_1702, .int (nI wd), .int (nI mo), .int (nI tb), .ref (ad 1), .ref (ad 2), .ref (ad 3), .ref (ad 4), .ref (ad 5), .ref (ad 6), .ref (ad 7), .ref (ad 8), .ref (ad 9), .int dp_1702, .long many_1702, .long grt_1702, .long lst_1702, .long nou_1702, .ref (ad 10), .ref (ad 11), .ref (ad 12), .int rm_1702, .long rb_1702, .ref (ad 13), .int (nI P_1701), .ref (ad 14), .ref (ad 15), .ref (ad 16), .ref (ad 17), .int (nI wo), .ref (ad 18), .ref (ad 19)]) := (hu_1707 0 (by omega)).trans es1702
                                have hf_1707 : ∀ c, (c ≠ 0 ∧ c ≠ 6 ∧ c ≠ 14 ∧ c ≠ 15 ∧ c ≠ 16 ∧ c ≠ 17) → en_1707 c = en c := fun c hc => (hu_1707 c (by omega)).trans (hf_1701 c hc)
                                have hkp_1707 : KPp en en_1707 := KPp_same i1_1701 (hu_1707 0 (by omega))
                                have hcq_1707 := CH_keep (e1 := en_1707) hCH_1701 (by rw [hu_1707 0 (by omega)]) (hu_1707 16 (by omega)) (hu_1707 17 (by omega))
                                refine lv_aload_n hx hb dX12_close_111 rfl (lv_at hl 3 rfl) ?_
                                refine lv_iconst (v := 0) hx hb dX12_close_112 (by decide) ?_
                                refine lv_iload_n hx hb dX12_close_113 rfl (lv_at hl 0 rfl) ?_
                                refine hp_callMv (va_runV (As := [.int 0, .int (nI j1701)]) (rest := []) ⟨hx, hb, hml, hown, hts⟩ (c_X12_goOn l D cy _ cs ad en_1707 hI_1707 0 j1701 (by omega) (by omega)) (kw_X12_goOn hts tw_1050 ⟨by decide, by decide⟩) (preV_of hh hK (hI.1 _ (by decide)) es1702_1707 rfl) rfl rfl hl.1 rfl (lv_room (Nat.le_of_ble_eq_true rfl)) dX12_close_114 ⟨Nat.le_of_ble_eq_true rfl, Nat.le_of_ble_eq_true rfl⟩) hh hA (fun H locs en_1708 hw_1708 hh => ?_)
                                obtain ⟨hI_1708, hu_1708, hx_1708⟩ := hw_1708
                                have es1702_1708 : en_1708 0 = .inr (11, [.int fa_1702, .int hi_1702, .int (nI wd), .int (nI mo), .int (nI tb), .ref (ad 1), .ref (ad 2), .ref (ad 3), .ref (ad 4), .ref (ad 5), .ref (ad 6), .ref (ad 7), .ref (ad 8), .ref (ad 9), .int dp_1702, .long many_1702, .long grt_1702, .long lst_1702, .long nou_1702, .ref (ad 10), .ref (ad 11), .ref (ad 12), .int rm_1702, .long rb_1702, .ref (ad 13), .int (nI P_1701), .ref (ad 14), .ref (ad 15), .ref (ad 16), .ref (ad 17), .int (nI wo), .ref (ad 18), .ref (ad 19)]) := (hu_1708 0 (by omega)).trans es1702_1707
                                have hf_1708 : ∀ c, (c ≠ 0 ∧ c ≠ 6 ∧ c ≠ 14 ∧ c ≠ 15 ∧ c ≠ 16 ∧ c ≠ 17) → en_1708 c = en c := fun c hc => (hu_1708 c (by omega)).trans (hf_1707 c hc)
                                have hkp_1708 : KPp en en_1708 := KPp_same hkp_1707 (hu_1708 0 (by omega))
                                have hcq_1708 := CH_keep (e1 := en_1708) hcq_1707 (by rw [hu_1708 0 (by omega)]) (hu_1708 16 (by omega)) (hu_1708 17 (by omega))
                                refine lv_aload_n hx hb dX12_close_117 rfl (lv_at hl 3 rfl) ?_
                                refine lv_iconst (v := 1) hx hb dX12_close_118 (by decide) ?_
                                refine lv_aload_n hx hb dX12_close_119 rfl (lv_at hl 3 rfl) ?_
                                refine hp_get hx hb hts ix12 hown hK hh (q := 0) rfl (hI.1 _ (by decide)) es1702_1708 rfl 27 (by decide) (hts _ tw_906) (fun _ h9 => h9) rfl dX12_close_120 ?_
                                refine lv_iload_n hx hb dX12_close_123 rfl (lv_at hl 1 rfl) ?_
                                obtain ⟨f_1709, es1709⟩ := getr_ln hI_1708
                                refine hp_iald hx hb hK hh (q := 15) rfl (hI.1 _ (by decide)) es1709 (vp_in_nI (n := j1691) (by omega) (by decide)) dX12_close_124 ?_
                                rw [nI_clamp (n := j1691) (by omega)]
                                refine lv_iconst (v := 1) hx hb dX12_close_125 (by decide) ?_
                                refine lv_iadd hx hb dX12_close_126 ?_
                                refine hp_callMi (va_runV (As := [.int 1, .int ((f_1709 j1691) + 1)]) (rest := []) ⟨hx, hb, hml, hown, hts⟩ (c_X12_comes l D cy _ cs ad en_1708 hI_1708 1 ((f_1709 j1691) + 1) (by omega) P_1701 hcq_1708) (kw_X12_comes hts tw_1117 ⟨by decide, by decide⟩) (preV_of hh hK (hI.1 _ (by decide)) es1702_1708 rfl) rfl rfl hl.1 rfl (lv_room (Nat.le_of_ble_eq_true rfl)) dX12_close_127 ⟨Nat.le_of_ble_eq_true rfl, Nat.le_of_ble_eq_true rfl⟩) hh hA (fun r_1710 H locs en_1710 hw_1710 hh => ?_)
                                obtain ⟨hI_1710, hu_1710, hy_1710, hx_1710⟩ := hw_1710
                                have hw_1710 := (⟨hI_1710, hu_1710, hx_1710⟩ : _ ∧ _ ∧ _)
                                obtain ⟨hI_1710, hu_1710, hx_1710⟩ := hw_1710
                                have hf_1710 : ∀ c, (c ≠ 0 ∧ c ≠ 6 ∧ c ≠ 14 ∧ c ≠ 15 ∧ c ≠ 16 ∧ c ≠ 17) → en_1710 c = en c := fun c hc => (hu_1710 c (by omega)).trans (hf_1708 c hc)
                                have hkp_1710 : KPp en en_1710 := KPp_tr hkp_1708 hx_1710
                                rcases hy_1710 with ⟨hr_1710, hch_1710⟩ | ⟨hr_1710, P1_1710, hch_1710, hle_1710, hp1_1710⟩
                                · rw [hr_1710]
                                  refine lv_istore_n (lv' := [(1, .int 0), (3, .int (nI j1701)), (2, .int (nI j1691)), (0, .ref (ad 0))]) hx hb dX12_close_130 rfl hl (by decide) rfl (fun ls hl => ?_)
                                  refine lv_iinc (v := (nI (j1701 + 1))) (lv' := [(3, .int (nI (j1701 + 1))), (1, .int 0), (2, .int (nI j1691)), (0, .ref (ad 0))]) hx hb dX12_close_131 hl (k := 1) rfl (nI_1 _) (by decide) rfl (fun ls hl => ?_)
                                  refine lv_goto (tgt := 93) hx hb dX12_close_134 (by decide) ?_
                                  exact ih_1701 ((j1701 + 1)) 0 en_1710 ls H locs (by omega) (by omega) (by omega) hI_1710 hf_1710 (⟨P_1701, hch_1710, Or.inl rfl⟩) (hkp_1710) (lv_sub hl [0, 2, 1, 3] rfl) hh
                                · rw [hr_1710]
                                  refine lv_istore_n (lv' := [(1, .int 1), (3, .int (nI j1701)), (2, .int (nI j1691)), (0, .ref (ad 0))]) hx hb dX12_close_130 rfl hl (by decide) rfl (fun ls hl => ?_)
                                  refine lv_iinc (v := (nI (j1701 + 1))) (lv' := [(3, .int (nI (j1701 + 1))), (1, .int 1), (2, .int (nI j1691)), (0, .ref (ad 0))]) hx hb dX12_close_131 hl (k := 1) rfl (nI_1 _) (by decide) rfl (fun ls hl => ?_)
                                  refine lv_goto (tgt := 93) hx hb dX12_close_134 (by decide) ?_
                                  exact ih_1701 ((j1701 + 1)) 1 en_1710 ls H locs (by omega) (by omega) (by omega) hI_1710 hf_1710 (⟨P1_1710, hch_1710, Or.inr hp1_1710⟩) (hkp_1710) (lv_sub hl [0, 2, 1, 3] rfl) hh
                        exact loop_1701 (6 + 1) 0 my1691 en_1691 ls _ _ (Nat.le_refl _) (by omega) (by omega) hI_1691 hf_1691 (⟨P_1691, hCH_1691, hPx_1691⟩) (i1_1691) (lv_sub hl [0, 1, 2, 3] rfl) hh
                exact loop_1691 (2000 + 1) 0 my1686 en_1686 ls _ _ (Nat.le_refl _) (by omega) (by omega) hI_1686 hf_1686 (⟨P_1686, hCH_1686, by rcases hPx_1686 with h9 | h9 | h9; exact absurd h9 (by omega); exact Or.inl h9; exact Or.inr h9⟩) (i1_1686) (lv_sub hl [0, 1, 2] rfl) hh
              · have n_1690 : j1686 < tb := n_nle (a := tb) (b := j1686) c_1690 (by omega) (by omega)
                refine lv_iload_n hx hb dX12_close_54 rfl (lv_at hl 1 rfl) ?_
                refine lv_if_eq (tgt := 77) hx hb dX12_close_55 (by decide) (fun c_1711 => ?_) (fun c_1711 => ?_)
                · refine lv_iconst (v := 0) hx hb dX12_close_77 (by decide) ?_
                  refine lv_istore_n (lv' := [(2, .int 0), (1, .int my1686), (0, .ref (ad 0))]) hx hb dX12_close_78 rfl hl (by decide) rfl (fun ls hl => ?_)
                  have loop_1712 : ∀ (fu j1712 : Nat) (my1712 : Int32) (en_1712 : Nat → va_E) (ls : Array Slot) (H : Heap) (locs : List Loc), 0 ≤ j1712 → j1712 ≤ 2000 → 2000 < j1712 + fu → RX cy cs ad en_1712 → (∀ c, (c ≠ 0 ∧ c ≠ 6 ∧ c ≠ 14 ∧ c ≠ 15 ∧ c ≠ 16 ∧ c ≠ 17) → en_1712 c = en c) → (∃ P, CH en_1712 P ∧ (my1712 = 0 ∨ 1 ≤ P)) → (KPp en en_1712) → lv_has ls 4 [(2, .int (nI j1712)), (1, .int my1712), (0, .ref (ad 0))] → Hp D (Af cs ad sz) (Af cs ad sz) s.heap H locs cs ad en_1712 → W p l e (headSpec (Cond.code yX12_close cX12_close 4 (some .int) :: TB) (rmN 3)).room s m ([.ref (ad 0)] : List Value).toArray below meth c H locs 0 0 (MQ below (va_Qi (S := Nat → va_E) (fun r en1 => RX cy cs ad en1 ∧ (∀ c, (c ≠ 0 ∧ c ≠ 6 ∧ c ≠ 14 ∧ c ≠ 15 ∧ c ≠ 16 ∧ c ≠ 17) → en1 c = en c) ∧ CHX en1 ∧ KPp en en1) (PostM D cs ad) (Af cs ad sz)) ([.ref (ad 0)] : List Value).toArray s 0 0 (Af cs ad sz)) (F0 m 79 ls []) := by
                    intro fu
                    induction fu with
                    | zero => intro j1712 my1712 en_1712 ls H locs h0 h1 h2; exact absurd h2 (by omega)
                    | succ fu ih_1712 =>
                      intro j1712 my1712 en_1712 ls H locs hj0_1712 hj_1712 hfu_1712 hI_1712 hf_1712 i0_1712 i1_1712 hl hh
                      obtain ⟨P_1712, hCH_1712, hPx_1712⟩ := i0_1712
                      have hPb_1712 := hCH_1712.1
                      refine lv_iload_n hx hb dX12_close_79 rfl (lv_at hl 0 rfl) ?_
                      refine lv_aload_n hx hb dX12_close_80 rfl (lv_at hl 2 rfl) ?_
                      obtain ⟨fa_1713, hi_1713, wd_1713, mo_1713, tb_1713, dp_1713, many_1713, grt_1713, lst_1713, nou_1713, rm_1713, rb_1713, pr_1713, wo_1713, es1713, p0_1713, p1_1713, p2_1713, p3_1713, p4_1713⟩ := getr_M hI_1712
                      have hfx_1714 : pr_1713 = nI P_1712 := (show pr_1713 = rdI (en_1712 0) 25 from by rw [es1713]; rfl).trans (hCH_1712.2.1)
                      rw [hfx_1714] at es1713
                      have hq2_1715 : wd_1713 = wd := n_eq ((show nI wd_1713 = rdI (en_1712 0) 2 from by rw [es1713]; rfl).trans (i1_1712.2.1.trans (show rdI (en 0) 2 = nI wd from by rw [es1677]; rfl))) (by omega) (by omega)
                      have hq3_1715 : mo_1713 = mo := n_eq ((show nI mo_1713 = rdI (en_1712 0) 3 from by rw [es1713]; rfl).trans (i1_1712.2.2.1.trans (show rdI (en 0) 3 = nI mo from by rw [es1677]; rfl))) (by omega) (by omega)
                      have hq4_1715 : tb_1713 = tb := n_eq ((show nI tb_1713 = rdI (en_1712 0) 4 from by rw [es1713]; rfl).trans (i1_1712.2.2.2.1.trans (show rdI (en 0) 4 = nI tb from by rw [es1677]; rfl))) (by omega) (by omega)
                      have hq30_1715 : wo_1713 = wo := n_eq ((show nI wo_1713 = rdI (en_1712 0) 30 from by rw [es1713]; rfl).trans (i1_1712.2.2.2.2.trans (show rdI (en 0) 30 = nI wo from by rw [es1677]; rfl))) (by omega) (by omega)
                      rw [hq2_1715, hq3_1715, hq4_1715, hq30_1715] at es1713
                      refine hp_get hx hb hts ix12 hown hK hh (q := 0) rfl (hI.1 _ (by decide)) es1713 rfl 25 (by decide) (hts _ tw_904) (fun _ h9 => h9) rfl dX12_close_81 ?_
                      refine lv_icmp_ge (tgt := 143) hx hb dX12_close_84 (by decide) (fun c_1716 => ?_) (fun c_1716 => ?_)
                      · have n_1716 : P_1712 ≤ j1712 := n_le (a := P_1712) (b := j1712) c_1716 (by omega) (by omega)
                        refine lv_iload_n hx hb dX12_close_143 rfl (lv_at hl 1 rfl) ?_
                        refine lv_if_ne (tgt := 156) hx hb dX12_close_144 (by decide) (fun c_1717 => ?_) (fun c_1717 => ?_)
                        · refine lv_aload_n hx hb dX12_close_156 rfl (lv_at hl 2 rfl) ?_
                          refine hp_get hx hb hts ix12 hown hK hh (q := 0) rfl (hI.1 _ (by decide)) es1713 rfl 25 (by decide) (hts _ tw_904) (fun _ h9 => h9) rfl dX12_close_157 ?_
                          exact hp_iretM hx hb hr rfl hlocks hh (⟨hI_1712, hf_1712, Or.inr ⟨P_1712, (hPx_1712).resolve_left c_1717, hCH_1712⟩, i1_1712⟩) dX12_close_160
                        · refine lv_aload_n hx hb dX12_close_147 rfl (lv_at hl 2 rfl) ?_
                          refine lv_bipush (v := (-9)) hx hb dX12_close_148 (by decide) ?_
                          refine hp_put hx hb hts ix12 tyX12 tyX12_ok nmX12 hown hK hh (q := 0) rfl (hI.1 _ (by decide)) es1713 rfl 25 (by decide) (hts _ tw_904) (fun _ h9 => h9) rfl (ty := .int) (by decide +kernel) rfl rfl (Nat.le_of_ble_eq_true rfl) dX12_close_150 (fun H locs en_1718 hen_1718 hh => ?_)
                          have es1713_1718 : en_1718 0 = .inr (11, [.int fa_1713, .int hi_1713, .int (nI wd), .int (nI mo), .int (nI tb), .ref (ad 1), .ref (ad 2), .ref (ad 3), .ref (ad 4), .ref (ad 5), .ref (ad 6), .ref (ad 7), .ref (ad 8), .ref (ad 9), .int dp_1713, .long many_1713, .long grt_1713, .long lst_1713, .long nou_1713, .ref (ad 10), .ref (ad 11), .ref (ad 12), .int rm_1713, .long rb_1713, .ref (ad 13), .int (-9), .ref (ad 14), .ref (ad 15), .ref (ad 16), .ref (ad 17), .int (nI wo), .ref (ad 18), .ref (ad 19)]) := by rw [hen_1718]; exact va_up_self _ _ _
                          have hI_1718 : RX cy cs ad en_1718 := by rw [hen_1718]; exact upr_M hI_1712 ⟨fa_1713, hi_1713, wd, mo, tb, dp_1713, many_1713, grt_1713, lst_1713, nou_1713, rm_1713, rb_1713, (-9), wo, rfl, hwd2, hwd3, hmo, htb, hwo⟩
                          have hf_1718 : ∀ c, (c ≠ 0 ∧ c ≠ 6 ∧ c ≠ 14 ∧ c ≠ 15 ∧ c ≠ 16 ∧ c ≠ 17) → en_1718 c = en c := fun c hc => Eq.trans (show en_1718 c = en_1712 c from by rw [hen_1718, va_up_ne _ _ (by omega)]) (hf_1712 c hc)
                          have hkp_1718 : KPp en en_1718 := KPp_fv i1_1712 es1713 es1713_1718 hi_1713 (nI wd) (nI mo) (nI tb) (nI wo) rfl rfl rfl rfl rfl rfl rfl rfl rfl rfl
                          refine lv_bipush (v := (-6)) hx hb dX12_close_153 (by decide) ?_
                          exact hp_iretM hx hb hr rfl hlocks hh (⟨hI_1718, hf_1718, Or.inl (by rw [es1713_1718]; rfl), hkp_1718⟩) dX12_close_155
                      · have n_1716 : j1712 < P_1712 := n_nle (a := P_1712) (b := j1712) c_1716 (by omega) (by omega)
                        refine lv_iload_n hx hb dX12_close_87 rfl (lv_at hl 1 rfl) ?_
                        refine lv_if_eq (tgt := 143) hx hb dX12_close_88 (by decide) (fun c_1719 => ?_) (fun c_1719 => ?_)
                        · refine lv_iload_n hx hb dX12_close_143 rfl (lv_at hl 1 rfl) ?_
                          refine lv_if_ne (tgt := 156) hx hb dX12_close_144 (by decide) (fun c_1720 => ?_) (fun c_1720 => ?_)
                          · refine lv_aload_n hx hb dX12_close_156 rfl (lv_at hl 2 rfl) ?_
                            refine hp_get hx hb hts ix12 hown hK hh (q := 0) rfl (hI.1 _ (by decide)) es1713 rfl 25 (by decide) (hts _ tw_904) (fun _ h9 => h9) rfl dX12_close_157 ?_
                            exact hp_iretM hx hb hr rfl hlocks hh (⟨hI_1712, hf_1712, Or.inr ⟨P_1712, (hPx_1712).resolve_left c_1720, hCH_1712⟩, i1_1712⟩) dX12_close_160
                          · refine lv_aload_n hx hb dX12_close_147 rfl (lv_at hl 2 rfl) ?_
                            refine lv_bipush (v := (-9)) hx hb dX12_close_148 (by decide) ?_
                            refine hp_put hx hb hts ix12 tyX12 tyX12_ok nmX12 hown hK hh (q := 0) rfl (hI.1 _ (by decide)) es1713 rfl 25 (by decide) (hts _ tw_904) (fun _ h9 => h9) rfl (ty := .int) (by decide +kernel) rfl rfl (Nat.le_of_ble_eq_true rfl) dX12_close_150 (fun H locs en_1721 hen_1721 hh => ?_)
                            have es1713_1721 : en_1721 0 = .inr (11, [.int fa_1713, .int hi_1713, .int (nI wd), .int (nI mo), .int (nI tb), .ref (ad 1), .ref (ad 2), .ref (ad 3), .ref (ad 4), .ref (ad 5), .ref (ad 6), .ref (ad 7), .ref (ad 8), .ref (ad 9), .int dp_1713, .long many_1713, .long grt_1713, .long lst_1713, .long nou_1713, .ref (ad 10), .ref (ad 11), .ref (ad 12), .int rm_1713, .long rb_1713, .ref (ad 13), .int (-9), .ref (ad 14), .ref (ad 15), .ref (ad 16), .ref (ad 17), .int (nI wo), .ref (ad 18), .ref (ad 19)]) := by rw [hen_1721]; exact va_up_self _ _ _
                            have hI_1721 : RX cy cs ad en_1721 := by rw [hen_1721]; exact upr_M hI_1712 ⟨fa_1713, hi_1713, wd, mo, tb, dp_1713, many_1713, grt_1713, lst_1713, nou_1713, rm_1713, rb_1713, (-9), wo, rfl, hwd2, hwd3, hmo, htb, hwo⟩
                            have hf_1721 : ∀ c, (c ≠ 0 ∧ c ≠ 6 ∧ c ≠ 14 ∧ c ≠ 15 ∧ c ≠ 16 ∧ c ≠ 17) → en_1721 c = en c := fun c hc => Eq.trans (show en_1721 c = en_1712 c from by rw [hen_1721, va_up_ne _ _ (by omega)]) (hf_1712 c hc)
                            have hkp_1721 : KPp en en_1721 := KPp_fv i1_1712 es1713 es1713_1721 hi_1713 (nI wd) (nI mo) (nI tb) (nI wo) rfl rfl rfl rfl rfl rfl rfl rfl rfl rfl
                            refine lv_bipush (v := (-6)) hx hb dX12_close_153 (by decide) ?_
                            exact hp_iretM hx hb hr rfl hlocks hh (⟨hI_1721, hf_1721, Or.inl (by rw [es1713_1721]; rfl), hkp_1721⟩) dX12_close_155
                        · refine lv_iconst (v := 0) hx hb dX12_close_91 (by decide) ?_
                          refine lv_istore_n (lv' := [(3, .int 0), (2, .int (nI j1712)), (1, .int my1712), (0, .ref (ad 0))]) hx hb dX12_close_92 rfl hl (by decide) rfl (fun ls hl => ?_)
                          have loop_1722 : ∀ (fu j1722 : Nat) (my1722 : Int32) (en_1722 : Nat → va_E) (ls : Array Slot) (H : Heap) (locs : List Loc), 0 ≤ j1722 → j1722 ≤ 6 → 6 < j1722 + fu → RX cy cs ad en_1722 → (∀ c, (c ≠ 0 ∧ c ≠ 6 ∧ c ≠ 14 ∧ c ≠ 15 ∧ c ≠ 16 ∧ c ≠ 17) → en_1722 c = en c) → (∃ P, CH en_1722 P ∧ (my1722 = 0 ∨ 1 ≤ P)) → (KPp en en_1722) → lv_has ls 4 [(3, .int (nI j1722)), (2, .int (nI j1712)), (1, .int my1722), (0, .ref (ad 0))] → Hp D (Af cs ad sz) (Af cs ad sz) s.heap H locs cs ad en_1722 → W p l e (headSpec (Cond.code yX12_close cX12_close 4 (some .int) :: TB) (rmN 3)).room s m ([.ref (ad 0)] : List Value).toArray below meth c H locs 0 0 (MQ below (va_Qi (S := Nat → va_E) (fun r en1 => RX cy cs ad en1 ∧ (∀ c, (c ≠ 0 ∧ c ≠ 6 ∧ c ≠ 14 ∧ c ≠ 15 ∧ c ≠ 16 ∧ c ≠ 17) → en1 c = en c) ∧ CHX en1 ∧ KPp en en1) (PostM D cs ad) (Af cs ad sz)) ([.ref (ad 0)] : List Value).toArray s 0 0 (Af cs ad sz)) (F0 m 93 ls []) := by
                            intro fu
                            induction fu with
                            | zero => intro j1722 my1722 en_1722 ls H locs h0 h1 h2; exact absurd h2 (by omega)
                            | succ fu ih_1722 =>
                              intro j1722 my1722 en_1722 ls H locs hj0_1722 hj_1722 hfu_1722 hI_1722 hf_1722 i0_1722 i1_1722 hl hh
                              obtain ⟨P_1722, hCH_1722, hPx_1722⟩ := i0_1722
                              have hPb_1722 := hCH_1722.1
                              refine lv_iload_n hx hb dX12_close_93 rfl (lv_at hl 0 rfl) ?_
                              refine lv_aload_n hx hb dX12_close_94 rfl (lv_at hl 3 rfl) ?_
                              obtain ⟨fa_1723, hi_1723, wd_1723, mo_1723, tb_1723, dp_1723, many_1723, grt_1723, lst_1723, nou_1723, rm_1723, rb_1723, pr_1723, wo_1723, es1723, p0_1723, p1_1723, p2_1723, p3_1723, p4_1723⟩ := getr_M hI_1722
                              have hfx_1724 : pr_1723 = nI P_1722 := (show pr_1723 = rdI (en_1722 0) 25 from by rw [es1723]; rfl).trans (hCH_1722.2.1)
                              rw [hfx_1724] at es1723
                              have hq2_1725 : wd_1723 = wd := n_eq ((show nI wd_1723 = rdI (en_1722 0) 2 from by rw [es1723]; rfl).trans (i1_1722.2.1.trans (show rdI (en 0) 2 = nI wd from by rw [es1677]; rfl))) (by omega) (by omega)
                              have hq3_1725 : mo_1723 = mo := n_eq ((show nI mo_1723 = rdI (en_1722 0) 3 from by rw [es1723]; rfl).trans (i1_1722.2.2.1.trans (show rdI (en 0) 3 = nI mo from by rw [es1677]; rfl))) (by omega) (by omega)
                              have hq4_1725 : tb_1723 = tb := n_eq ((show nI tb_1723 = rdI (en_1722 0) 4 from by rw [es1723]; rfl).trans (i1_1722.2.2.2.1.trans (show rdI (en 0) 4 = nI tb from by rw [es1677]; rfl))) (by omega) (by omega)
                              have hq30_1725 : wo_1723 = wo := n_eq ((show nI wo_1723 = rdI (en_1722 0) 30 from by rw [es1723]; rfl).trans (i1_1722.2.2.2.2.trans (show rdI (en 0) 30 = nI wo from by rw [es1677]; rfl))) (by omega) (by omega)
                              rw [hq2_1725, hq3_1725, hq4_1725, hq30_1725] at es1723
                              refine hp_get hx hb hts ix12 hown hK hh (q := 0) rfl (hI.1 _ (by decide)) es1723 rfl 4 (by decide) (hts _ tw_883) (fun _ h9 => h9) rfl dX12_close_95 ?_
                              refine lv_icmp_ge (tgt := 137) hx hb dX12_close_98 (by decide) (fun c_1726 => ?_) (fun c_1726 => ?_)
                              · have n_1726 : tb ≤ j1722 := n_le (a := tb) (b := j1722) c_1726 (by omega) (by omega)
                                refine lv_iinc (v := (nI (j1712 + 1))) (lv' := [(2, .int (nI (j1712 + 1))), (3, .int (nI j1722)), (1, .int my1722), (0, .ref (ad 0))]) hx hb dX12_close_137 hl (k := 1) rfl (nI_1 _) (by decide) rfl (fun ls hl => ?_)
                                refine lv_goto (tgt := 79) hx hb dX12_close_140 (by decide) ?_
                                exact ih_1712 ((j1712 + 1)) my1722 en_1722 ls H locs (by omega) (by omega) (by omega) hI_1722 hf_1722 (⟨P_1722, hCH_1722, hPx_1722⟩) (i1_1722) (lv_sub hl [0, 2, 3] rfl) hh
                              · have n_1726 : j1722 < tb := n_nle (a := tb) (b := j1722) c_1726 (by omega) (by omega)
                                refine lv_iload_n hx hb dX12_close_101 rfl (lv_at hl 2 rfl) ?_
                                refine lv_if_eq (tgt := 137) hx hb dX12_close_102 (by decide) (fun c_1727 => ?_) (fun c_1727 => ?_)
                                · refine lv_iinc (v := (nI (j1712 + 1))) (lv' := [(2, .int (nI (j1712 + 1))), (3, .int (nI j1722)), (1, .int my1722), (0, .ref (ad 0))]) hx hb dX12_close_137 hl (k := 1) rfl (nI_1 _) (by decide) rfl (fun ls hl => ?_)
                                  refine lv_goto (tgt := 79) hx hb dX12_close_140 (by decide) ?_
                                  exact ih_1712 ((j1712 + 1)) my1722 en_1722 ls H locs (by omega) (by omega) (by omega) hI_1722 hf_1722 (⟨P_1722, hCH_1722, hPx_1722⟩) (i1_1722) (lv_sub hl [0, 2, 3] rfl) hh
                                · refine lv_aload_n hx hb dX12_close_105 rfl (lv_at hl 3 rfl) ?_
                                  refine lv_iload_n hx hb dX12_close_106 rfl (lv_at hl 1 rfl) ?_
                                  refine lv_iconst (v := 0) hx hb dX12_close_107 (by decide) ?_
                                  refine hp_callMv (va_runV (As := [.int (nI j1712), .int 0]) (rest := []) ⟨hx, hb, hml, hown, hts⟩ (c_X12_layProduct l D cy _ cs ad en_1722 hI_1722 j1712 0 (by omega) (by omega)) (kw_X12_layProduct hts tw_1133 ⟨by decide, by decide⟩) (preV_of hh hK (hI.1 _ (by decide)) es1723 rfl) rfl rfl hl.1 rfl (lv_room (Nat.le_of_ble_eq_true rfl)) dX12_close_108 ⟨Nat.le_of_ble_eq_true rfl, Nat.le_of_ble_eq_true rfl⟩) hh hA (fun H locs en_1728 hw_1728 hh => ?_)
                                  obtain ⟨hI_1728, hu_1728⟩ := hw_1728
                                  have es1723_1728 : en_1728 0 = .inr (11, [.int fa_1723, .int hi_1723, .int (nI wd), .int (nI mo), .int (nI tb), .ref (ad 1), .ref (ad 2), .ref (ad 3), .ref (ad 4), .ref (ad 5), .ref (ad 6), .ref (ad 7), .ref (ad 8), .ref (ad 9), .int dp_1723, .long many_1723, .long grt_1723, .long lst_1723, .long nou_1723, .ref (ad 10), .ref (ad 11), .ref (ad 12), .int rm_1723, .long rb_1723, .ref (ad 13), .int (nI P_1722), .ref (ad 14), .ref (ad 15), .ref (ad 16), .ref (ad 17), .int (nI wo), .ref (ad 18), .ref (ad 19)]) := (hu_1728 0 (by omega)).trans es1723
                                  have hf_1728 : ∀ c, (c ≠ 0 ∧ c ≠ 6 ∧ c ≠ 14 ∧ c ≠ 15 ∧ c ≠ 16 ∧ c ≠ 17) → en_1728 c = en c := fun c hc => (hu_1728 c (by omega)).trans (hf_1722 c hc)
                                  have hkp_1728 : KPp en en_1728 := KPp_same i1_1722 (hu_1728 0 (by omega))
                                  have hcq_1728 := CH_keep (e1 := en_1728) hCH_1722 (by rw [hu_1728 0 (by omega)]) (hu_1728 16 (by omega)) (hu_1728 17 (by omega))
                                  refine lv_aload_n hx hb dX12_close_111 rfl (lv_at hl 3 rfl) ?_
                                  refine lv_iconst (v := 0) hx hb dX12_close_112 (by decide) ?_
                                  refine lv_iload_n hx hb dX12_close_113 rfl (lv_at hl 0 rfl) ?_
                                  refine hp_callMv (va_runV (As := [.int 0, .int (nI j1722)]) (rest := []) ⟨hx, hb, hml, hown, hts⟩ (c_X12_goOn l D cy _ cs ad en_1728 hI_1728 0 j1722 (by omega) (by omega)) (kw_X12_goOn hts tw_1050 ⟨by decide, by decide⟩) (preV_of hh hK (hI.1 _ (by decide)) es1723_1728 rfl) rfl rfl hl.1 rfl (lv_room (Nat.le_of_ble_eq_true rfl)) dX12_close_114 ⟨Nat.le_of_ble_eq_true rfl, Nat.le_of_ble_eq_true rfl⟩) hh hA (fun H locs en_1729 hw_1729 hh => ?_)
                                  obtain ⟨hI_1729, hu_1729, hx_1729⟩ := hw_1729
                                  have es1723_1729 : en_1729 0 = .inr (11, [.int fa_1723, .int hi_1723, .int (nI wd), .int (nI mo), .int (nI tb), .ref (ad 1), .ref (ad 2), .ref (ad 3), .ref (ad 4), .ref (ad 5), .ref (ad 6), .ref (ad 7), .ref (ad 8), .ref (ad 9), .int dp_1723, .long many_1723, .long grt_1723, .long lst_1723, .long nou_1723, .ref (ad 10), .ref (ad 11), .ref (ad 12), .int rm_1723, .long rb_1723, .ref (ad 13), .int (nI P_1722), .ref (ad 14), .ref (ad 15), .ref (ad 16), .ref (ad 17), .int (nI wo), .ref (ad 18), .ref (ad 19)]) := (hu_1729 0 (by omega)).trans es1723_1728
                                  have hf_1729 : ∀ c, (c ≠ 0 ∧ c ≠ 6 ∧ c ≠ 14 ∧ c ≠ 15 ∧ c ≠ 16 ∧ c ≠ 17) → en_1729 c = en c := fun c hc => (hu_1729 c (by omega)).trans (hf_1728 c hc)
                                  have hkp_1729 : KPp en en_1729 := KPp_same hkp_1728 (hu_1729 0 (by omega))
                                  have hcq_1729 := CH_keep (e1 := en_1729) hcq_1728 (by rw [hu_1729 0 (by omega)]) (hu_1729 16 (by omega)) (hu_1729 17 (by omega))
                                  refine lv_aload_n hx hb dX12_close_117 rfl (lv_at hl 3 rfl) ?_
                                  refine lv_iconst (v := 1) hx hb dX12_close_118 (by decide) ?_
                                  refine lv_aload_n hx hb dX12_close_119 rfl (lv_at hl 3 rfl) ?_
                                  refine hp_get hx hb hts ix12 hown hK hh (q := 0) rfl (hI.1 _ (by decide)) es1723_1729 rfl 27 (by decide) (hts _ tw_906) (fun _ h9 => h9) rfl dX12_close_120 ?_
                                  refine lv_iload_n hx hb dX12_close_123 rfl (lv_at hl 1 rfl) ?_
                                  obtain ⟨f_1730, es1730⟩ := getr_ln hI_1729
                                  refine hp_iald hx hb hK hh (q := 15) rfl (hI.1 _ (by decide)) es1730 (vp_in_nI (n := j1712) (by omega) (by decide)) dX12_close_124 ?_
                                  rw [nI_clamp (n := j1712) (by omega)]
                                  refine lv_iconst (v := 1) hx hb dX12_close_125 (by decide) ?_
                                  refine lv_iadd hx hb dX12_close_126 ?_
                                  refine hp_callMi (va_runV (As := [.int 1, .int ((f_1730 j1712) + 1)]) (rest := []) ⟨hx, hb, hml, hown, hts⟩ (c_X12_comes l D cy _ cs ad en_1729 hI_1729 1 ((f_1730 j1712) + 1) (by omega) P_1722 hcq_1729) (kw_X12_comes hts tw_1117 ⟨by decide, by decide⟩) (preV_of hh hK (hI.1 _ (by decide)) es1723_1729 rfl) rfl rfl hl.1 rfl (lv_room (Nat.le_of_ble_eq_true rfl)) dX12_close_127 ⟨Nat.le_of_ble_eq_true rfl, Nat.le_of_ble_eq_true rfl⟩) hh hA (fun r_1731 H locs en_1731 hw_1731 hh => ?_)
                                  obtain ⟨hI_1731, hu_1731, hy_1731, hx_1731⟩ := hw_1731
                                  have hw_1731 := (⟨hI_1731, hu_1731, hx_1731⟩ : _ ∧ _ ∧ _)
                                  obtain ⟨hI_1731, hu_1731, hx_1731⟩ := hw_1731
                                  have hf_1731 : ∀ c, (c ≠ 0 ∧ c ≠ 6 ∧ c ≠ 14 ∧ c ≠ 15 ∧ c ≠ 16 ∧ c ≠ 17) → en_1731 c = en c := fun c hc => (hu_1731 c (by omega)).trans (hf_1729 c hc)
                                  have hkp_1731 : KPp en en_1731 := KPp_tr hkp_1729 hx_1731
                                  rcases hy_1731 with ⟨hr_1731, hch_1731⟩ | ⟨hr_1731, P1_1731, hch_1731, hle_1731, hp1_1731⟩
                                  · rw [hr_1731]
                                    refine lv_istore_n (lv' := [(1, .int 0), (3, .int (nI j1722)), (2, .int (nI j1712)), (0, .ref (ad 0))]) hx hb dX12_close_130 rfl hl (by decide) rfl (fun ls hl => ?_)
                                    refine lv_iinc (v := (nI (j1722 + 1))) (lv' := [(3, .int (nI (j1722 + 1))), (1, .int 0), (2, .int (nI j1712)), (0, .ref (ad 0))]) hx hb dX12_close_131 hl (k := 1) rfl (nI_1 _) (by decide) rfl (fun ls hl => ?_)
                                    refine lv_goto (tgt := 93) hx hb dX12_close_134 (by decide) ?_
                                    exact ih_1722 ((j1722 + 1)) 0 en_1731 ls H locs (by omega) (by omega) (by omega) hI_1731 hf_1731 (⟨P_1722, hch_1731, Or.inl rfl⟩) (hkp_1731) (lv_sub hl [0, 2, 1, 3] rfl) hh
                                  · rw [hr_1731]
                                    refine lv_istore_n (lv' := [(1, .int 1), (3, .int (nI j1722)), (2, .int (nI j1712)), (0, .ref (ad 0))]) hx hb dX12_close_130 rfl hl (by decide) rfl (fun ls hl => ?_)
                                    refine lv_iinc (v := (nI (j1722 + 1))) (lv' := [(3, .int (nI (j1722 + 1))), (1, .int 1), (2, .int (nI j1712)), (0, .ref (ad 0))]) hx hb dX12_close_131 hl (k := 1) rfl (nI_1 _) (by decide) rfl (fun ls hl => ?_)
                                    refine lv_goto (tgt := 93) hx hb dX12_close_134 (by decide) ?_
                                    exact ih_1722 ((j1722 + 1)) 1 en_1731 ls H locs (by omega) (by omega) (by omega) hI_1731 hf_1731 (⟨P1_1731, hch_1731, Or.inr hp1_1731⟩) (hkp_1731) (lv_sub hl [0, 2, 1, 3] rfl) hh
                          exact loop_1722 (6 + 1) 0 my1712 en_1712 ls _ _ (Nat.le_refl _) (by omega) (by omega) hI_1712 hf_1712 (⟨P_1712, hCH_1712, hPx_1712⟩) (i1_1712) (lv_sub hl [0, 1, 2, 3] rfl) hh
                  exact loop_1712 (2000 + 1) 0 my1686 en_1686 ls _ _ (Nat.le_refl _) (by omega) (by omega) hI_1686 hf_1686 (⟨P_1686, hCH_1686, Or.inl c_1711⟩) (i1_1686) (lv_sub hl [0, 1, 2] rfl) hh
                · refine lv_aload_n hx hb dX12_close_58 rfl (lv_at hl 2 rfl) ?_
                  refine lv_iconst (v := 0) hx hb dX12_close_59 (by decide) ?_
                  refine lv_iload_n hx hb dX12_close_60 rfl (lv_at hl 0 rfl) ?_
                  refine hp_callMv (va_runV (As := [.int 0, .int (nI j1686)]) (rest := []) ⟨hx, hb, hml, hown, hts⟩ (c_X12_goOn l D cy _ cs ad en_1686 hI_1686 0 j1686 (by omega) (by omega)) (kw_X12_goOn hts tw_1050 ⟨by decide, by decide⟩) (preV_of hh hK (hI.1 _ (by decide)) es1687 rfl) rfl rfl hl.1 rfl (lv_room (Nat.le_of_ble_eq_true rfl)) dX12_close_61 ⟨Nat.le_of_ble_eq_true rfl, Nat.le_of_ble_eq_true rfl⟩) hh hA (fun H locs en_1732 hw_1732 hh => ?_)
                  obtain ⟨hI_1732, hu_1732, hx_1732⟩ := hw_1732
                  have es1687_1732 : en_1732 0 = .inr (11, [.int fa_1687, .int hi_1687, .int (nI wd), .int (nI mo), .int (nI tb), .ref (ad 1), .ref (ad 2), .ref (ad 3), .ref (ad 4), .ref (ad 5), .ref (ad 6), .ref (ad 7), .ref (ad 8), .ref (ad 9), .int dp_1687, .long many_1687, .long grt_1687, .long lst_1687, .long nou_1687, .ref (ad 10), .ref (ad 11), .ref (ad 12), .int rm_1687, .long rb_1687, .ref (ad 13), .int (nI P_1686), .ref (ad 14), .ref (ad 15), .ref (ad 16), .ref (ad 17), .int (nI wo), .ref (ad 18), .ref (ad 19)]) := (hu_1732 0 (by omega)).trans es1687
                  have hf_1732 : ∀ c, (c ≠ 0 ∧ c ≠ 6 ∧ c ≠ 14 ∧ c ≠ 15 ∧ c ≠ 16 ∧ c ≠ 17) → en_1732 c = en c := fun c hc => (hu_1732 c (by omega)).trans (hf_1686 c hc)
                  have hkp_1732 : KPp en en_1732 := KPp_same i1_1686 (hu_1732 0 (by omega))
                  have hcq_1732 := CH_keep (e1 := en_1732) hCH_1686 (by rw [hu_1732 0 (by omega)]) (hu_1732 16 (by omega)) (hu_1732 17 (by omega))
                  refine lv_aload_n hx hb dX12_close_64 rfl (lv_at hl 2 rfl) ?_
                  refine lv_iconst (v := 1) hx hb dX12_close_65 (by decide) ?_
                  refine lv_iconst (v := 1) hx hb dX12_close_66 (by decide) ?_
                  refine hp_callMi (va_runV (As := [.int 1, .int 1]) (rest := []) ⟨hx, hb, hml, hown, hts⟩ (c_X12_comes l D cy _ cs ad en_1732 hI_1732 1 1 (by omega) P_1686 hcq_1732) (kw_X12_comes hts tw_1117 ⟨by decide, by decide⟩) (preV_of hh hK (hI.1 _ (by decide)) es1687_1732 rfl) rfl rfl hl.1 rfl (lv_room (Nat.le_of_ble_eq_true rfl)) dX12_close_67 ⟨Nat.le_of_ble_eq_true rfl, Nat.le_of_ble_eq_true rfl⟩) hh hA (fun r_1733 H locs en_1733 hw_1733 hh => ?_)
                  obtain ⟨hI_1733, hu_1733, hy_1733, hx_1733⟩ := hw_1733
                  have hw_1733 := (⟨hI_1733, hu_1733, hx_1733⟩ : _ ∧ _ ∧ _)
                  obtain ⟨hI_1733, hu_1733, hx_1733⟩ := hw_1733
                  have hf_1733 : ∀ c, (c ≠ 0 ∧ c ≠ 6 ∧ c ≠ 14 ∧ c ≠ 15 ∧ c ≠ 16 ∧ c ≠ 17) → en_1733 c = en c := fun c hc => (hu_1733 c (by omega)).trans (hf_1732 c hc)
                  have hkp_1733 : KPp en en_1733 := KPp_tr hkp_1732 hx_1733
                  rcases hy_1733 with ⟨hr_1733, hch_1733⟩ | ⟨hr_1733, P1_1733, hch_1733, hle_1733, hp1_1733⟩
                  · rw [hr_1733]
                    refine lv_istore_n (lv' := [(1, .int 0), (2, .int (nI j1686)), (0, .ref (ad 0))]) hx hb dX12_close_70 rfl hl (by decide) rfl (fun ls hl => ?_)
                    refine lv_iinc (v := (nI (j1686 + 1))) (lv' := [(2, .int (nI (j1686 + 1))), (1, .int 0), (0, .ref (ad 0))]) hx hb dX12_close_71 hl (k := 1) rfl (nI_1 _) (by decide) rfl (fun ls hl => ?_)
                    refine lv_goto (tgt := 46) hx hb dX12_close_74 (by decide) ?_
                    exact ih_1686 ((j1686 + 1)) 0 en_1733 ls H locs (by omega) (by omega) (by omega) hI_1733 hf_1733 (⟨P_1686, hch_1733, Or.inr (Or.inl rfl)⟩) (hkp_1733) (lv_sub hl [0, 1, 2] rfl) hh
                  · rw [hr_1733]
                    refine lv_istore_n (lv' := [(1, .int 1), (2, .int (nI j1686)), (0, .ref (ad 0))]) hx hb dX12_close_70 rfl hl (by decide) rfl (fun ls hl => ?_)
                    refine lv_iinc (v := (nI (j1686 + 1))) (lv' := [(2, .int (nI (j1686 + 1))), (1, .int 1), (0, .ref (ad 0))]) hx hb dX12_close_71 hl (k := 1) rfl (nI_1 _) (by decide) rfl (fun ls hl => ?_)
                    refine lv_goto (tgt := 46) hx hb dX12_close_74 (by decide) ?_
                    exact ih_1686 ((j1686 + 1)) 1 en_1733 ls H locs (by omega) (by omega) (by omega) hI_1733 hf_1733 (⟨P1_1733, hch_1733, Or.inr (Or.inr hp1_1733)⟩) (hkp_1733) (lv_sub hl [0, 1, 2] rfl) hh
          exact loop_1686 (6 + 1) 0 1 en_1685 ls _ _ (Nat.le_refl _) (by omega) (by omega) hI_1685 hf_1685 (⟨0, hcq_1685, Or.inl rfl⟩) (hkp_1685) (lv_sub hl [0, 1, 2] rfl) hh
        · have n_1681 : j1680 < 4096 := n_nle (a := 4096) (b := j1680) c_1681 (by decide) (by omega)
          refine lv_aload_n hx hb dX12_close_24 rfl (lv_at hl 1 rfl) ?_
          obtain ⟨fa_1734, hi_1734, wd_1734, mo_1734, tb_1734, dp_1734, many_1734, grt_1734, lst_1734, nou_1734, rm_1734, rb_1734, pr_1734, wo_1734, es1734, p0_1734, p1_1734, p2_1734, p3_1734, p4_1734⟩ := getr_M hI_1680
          have hfx_1735 : pr_1734 = nI 0 := (show pr_1734 = rdI (en_1680 0) 25 from by rw [es1734]; rfl).trans (i1_1680)
          rw [hfx_1735] at es1734
          have hq2_1736 : wd_1734 = wd := n_eq ((show nI wd_1734 = rdI (en_1680 0) 2 from by rw [es1734]; rfl).trans (i2_1680.2.1.trans (show rdI (en 0) 2 = nI wd from by rw [es1677]; rfl))) (by omega) (by omega)
          have hq3_1736 : mo_1734 = mo := n_eq ((show nI mo_1734 = rdI (en_1680 0) 3 from by rw [es1734]; rfl).trans (i2_1680.2.2.1.trans (show rdI (en 0) 3 = nI mo from by rw [es1677]; rfl))) (by omega) (by omega)
          have hq4_1736 : tb_1734 = tb := n_eq ((show nI tb_1734 = rdI (en_1680 0) 4 from by rw [es1734]; rfl).trans (i2_1680.2.2.2.1.trans (show rdI (en 0) 4 = nI tb from by rw [es1677]; rfl))) (by omega) (by omega)
          have hq30_1736 : wo_1734 = wo := n_eq ((show nI wo_1734 = rdI (en_1680 0) 30 from by rw [es1734]; rfl).trans (i2_1680.2.2.2.2.trans (show rdI (en 0) 30 = nI wo from by rw [es1677]; rfl))) (by omega) (by omega)
          rw [hq2_1736, hq3_1736, hq4_1736, hq30_1736] at es1734
          refine hp_get hx hb hts ix12 hown hK hh (q := 0) rfl (hI.1 _ (by decide)) es1734 rfl 28 (by decide) (hts _ tw_907) (fun _ h9 => h9) rfl dX12_close_25 ?_
          refine lv_iload_n hx hb dX12_close_28 rfl (lv_at hl 0 rfl) ?_
          refine lv_bipush (v := (-9)) hx hb dX12_close_29 (by decide) ?_
          obtain ⟨f_1737, es1737⟩ := getr_hd hI_1680
          refine hp_iast hx hb hK hh (q := 16) rfl (hI.1 _ (by decide)) es1737 (vp_in_nI (n := j1680) (by omega) (by decide)) dX12_close_31 (fun H locs en_1738 hen_1738 hh => ?_)
          rw [nI_clamp (n := j1680) (by omega)] at hen_1738
          have es1734_1738 : en_1738 0 = .inr (11, [.int fa_1734, .int hi_1734, .int (nI wd), .int (nI mo), .int (nI tb), .ref (ad 1), .ref (ad 2), .ref (ad 3), .ref (ad 4), .ref (ad 5), .ref (ad 6), .ref (ad 7), .ref (ad 8), .ref (ad 9), .int dp_1734, .long many_1734, .long grt_1734, .long lst_1734, .long nou_1734, .ref (ad 10), .ref (ad 11), .ref (ad 12), .int rm_1734, .long rb_1734, .ref (ad 13), .int (nI 0), .ref (ad 14), .ref (ad 15), .ref (ad 16), .ref (ad 17), .int (nI wo), .ref (ad 18), .ref (ad 19)]) := by rw [hen_1738, va_up_ne _ _ (by decide)]; exact es1734
          have es1737_1738 : en_1738 16 = .inl (cy 0, 4096, .inl (upd f_1737 j1680 (-9))) := by rw [hen_1738]; exact va_up_self _ _ _
          have hI_1738 : RX cy cs ad en_1738 := by rw [hen_1738]; exact upr_hd hI_1680 ⟨(upd f_1737 j1680 (-9)), rfl⟩
          have hf_1738 : ∀ c, (c ≠ 0 ∧ c ≠ 6 ∧ c ≠ 14 ∧ c ≠ 15 ∧ c ≠ 16 ∧ c ≠ 17) → en_1738 c = en c := fun c hc => Eq.trans (show en_1738 c = en_1680 c from by rw [hen_1738, va_up_ne _ _ (by omega)]) (hf_1680 c hc)
          have hkp_1738 : KPp en en_1738 := KPp_same i2_1680 (show en_1738 0 = en_1680 0 from by rw [hen_1738, va_up_ne _ _ (by decide)])
          refine lv_iinc (v := (nI (j1680 + 1))) (lv' := [(1, .int (nI (j1680 + 1))), (0, .ref (ad 0))]) hx hb dX12_close_32 hl (k := 0) rfl (nI_1 _) (by decide) rfl (fun ls hl => ?_)
          refine lv_goto (tgt := 17) hx hb dX12_close_35 (by decide) ?_
          exact ih_1680 ((j1680 + 1))  en_1738 ls H locs (by omega) (by omega) (by omega) hI_1738 hf_1738 (fun i hi => by rw [es1737_1738]; exact z_upd hi rfl (fun h9 => (show f_1737 i = rdF (en_1680 16) i from by rw [es1737]; rfl).trans (i0_1680 i h9))) (by rw [es1734_1738]; rfl) (hkp_1738) (lv_sub hl [0, 1] rfl) hh
    exact loop_1680 (4096 + 1) 0  en_1679 ls _ _ (Nat.le_refl _) (by omega) (by omega) hI_1679 hf_1679 (fun i h => absurd h (Nat.not_lt_zero i)) (by rw [es1677_1679]; rfl) (hkp_1679) (lv_sub hl [0, 1] rfl) hh
  · have n_1678 : tb = 0 := n_eq (a := tb) (b := 0) c_1678 (by omega) (by decide)
    refine lv_bipush (v := (-3)) hx hb dX12_close_7 (by decide) ?_
    exact hp_iretM hx hb hr rfl hlocks hh (⟨hI, hf0, hCX, (KPp_rf en)⟩) dX12_close_9
theorem kw_X12_close {R : Room} {s : State} {args : Array Value} {own : String} {idx : Nat} (hts : ∀ w ∈ TB, w.before args s = true) (hl : Cond.methodLink own idx yX12_close ∈ TB) (hR : 3 + 1 ≤ R.frames ∧ 8 + (4 + 11) + 40 * 3 ≤ R.locals) : CallW R s args own RX12 idx yX12_close cX12_close 4 (some .int) (Cond.code yX12_close cX12_close 4 (some .int) :: TB) (rmN 3) 0 0 0 := cwV 0 hts (TB_V hl tw_1114 tw_1115 tw_9 tw_1116) rfl rfl rfl (by decide +kernel) hR
