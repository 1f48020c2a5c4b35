set_option maxHeartbeats 4000000 in
set_option maxRecDepth 100000 in
/-- chainOf -/
theorem c_X12_chainOf (l : Launch) (D : va_G) (cy : Nat → ClassId) (sz : Nat) (cs : List Nat) (ad : Nat → Nat) (en : Nat → va_E) (hI : RX cy cs ad en) (n : Nat) (hn : n ≤ 12)   : Met l yX12_chainOf (Cond.code yX12_chainOf cX12_chainOf 5 (some .int) :: TB) (rmN 0) (va_Pc [.ref (ad 0), .int (nI n)] (Pre D cy cs ad en sz)) (va_Qi (S := Unit) (fun r _ => ∃ S, S < 4096 ∧ r = nI S) (fun _ _ => True) (Nf sz)) 0 0 (Nf sz) := by
  refine Met.ofW (cc := cX12_chainOf) (maxL := 5) (ret := (some .int)) (by decide) rfl ?_
  intro p e s m args below meth c s₁ B hml hv
  obtain ⟨rfl, hsz, hP, hK, hD0⟩ := hv
  have hx := B.exec
  have hb := B.bytes
  have hr := B.returns
  have hts : ∀ w ∈ TB, w.before _ s = true := fun w h => atoms_spec (ws := _ :: TB) B.pre w (List.mem_cons_of_mem _ h)
  have hown : s.vm.findClass RX12 = some m.cls := findClass_of_methodNamed B.named
  have hlocks := B.notSynchronized
  have hh : Hp D (Nf sz) (fun _ => True) s.heap s.heap [] cs ad en := ⟨hP, hD0, va_S.rf⟩
  have hA : ∀ q : Nat, s.heap.size ≤ q → Nf sz q := fun q h => by rw [hsz] at h; exact h
  have hl := lv_entry ([.ref (ad 0), .int (nI n)]) (n := 5) (Nat.le_of_ble_eq_true rfl)
  rw [lg_entry_eq]
  generalize (lg_sl ([.ref (ad 0), .int (nI n)]) ++ List.replicate (5 - (lg_sl ([.ref (ad 0), .int (nI n)])).length) Slot.unset).toArray = ls at hl ⊢
  have hl : lv_has ls 5 [(0, .ref (ad 0)), (1, .int (nI n))] := hl
  obtain ⟨fa, hi, wd, mo, tb, dp, many, grt, lst, nou, rm, rb, pr, wo, es1598, hwd2, hwd3, hmo, htb, hwo⟩ := getr_M hI
  have hww : wd * wd ≤ 9 := mww (by omega)
  refine lv_lconst (v := 0) hx hb dX12_chainOf_0 (by decide) ?_
  refine lv_lstore_n (lv' := [(2, .long 0), (0, .ref (ad 0)), (1, .int (nI n))]) hx hb dX12_chainOf_1 rfl hl (by decide) rfl (fun ls hl => ?_)
  refine lv_iconst (v := 0) hx hb dX12_chainOf_2 (by decide) ?_
  refine lv_istore (lv' := [(4, .int 0), (2, .long 0), (0, .ref (ad 0)), (1, .int (nI n))]) hx hb dX12_chainOf_3 hl (by decide) rfl (fun ls hl => ?_)
  have loop_1599 : ∀ (fu j1599 : Nat) (v1599 : Int64)  (ls : Array Slot) (H : Heap) (locs : List Loc), 0 ≤ j1599 → j1599 ≤ (wd * wd) → (wd * wd) < j1599 + fu →   lv_has ls 5 [(4, .int (nI j1599)), (2, .long v1599), (0, .ref (ad 0)), (1, .int (nI n))] → Hp D (Nf sz) (fun _ => True) s.heap H locs cs ad en → W p l e (headSpec (Cond.code yX12_chainOf cX12_chainOf 5 (some .int) :: TB) (rmN 0)).room s m ([.ref (ad 0), .int (nI n)] : List Value).toArray below meth c H locs 0 0 (MQ below (va_Qi (S := Unit) (fun r _ => ∃ S, S < 4096 ∧ r = nI S) (fun _ _ => True) (Nf sz)) ([.ref (ad 0), .int (nI n)] : List Value).toArray s 0 0 (Nf sz)) (F0 m 5 ls []) := by
    intro fu
    induction fu with
    | zero => intro j1599 v1599 ls H locs h0 h1 h2; exact absurd h2 (by omega)
    | succ fu ih_1599 =>
      intro j1599 v1599 ls H locs hj0_1599 hj_1599 hfu_1599  hl hh
      refine lv_iload hx hb dX12_chainOf_5 (lv_at hl 0 rfl) ?_
      refine lv_aload_n hx hb dX12_chainOf_7 rfl (lv_at hl 2 rfl) ?_
      refine hp_get hx hb hts ix12 hown hK hh (q := 0) rfl (hI.1 _ (by decide)) es1598 rfl 2 (by decide) (hts _ tw_881) (fun _ h9 => h9) rfl dX12_chainOf_8 ?_
      refine lv_aload_n hx hb dX12_chainOf_11 rfl (lv_at hl 2 rfl) ?_
      refine hp_get hx hb hts ix12 hown hK hh (q := 0) rfl (hI.1 _ (by decide)) es1598 rfl 2 (by decide) (hts _ tw_881) (fun _ h9 => h9) rfl dX12_chainOf_12 ?_
      refine lv_imul hx hb dX12_chainOf_15 ?_
      rw [pk_mul wd wd]
      have hw2_1600 : wd * wd ≤ 9 := mww (by omega)
      refine lv_icmp_ge (tgt := 44) hx hb dX12_chainOf_16 (by decide) (fun c_1601 => ?_) (fun c_1601 => ?_)
      · have n_1601 : (wd * wd) ≤ j1599 := n_le (a := (wd * wd)) (b := j1599) c_1601 (by omega) (by omega)
        refine lv_lload_n hx hb dX12_chainOf_44 rfl (lv_at hl 1 rfl) ?_
        refine lv_lload_n hx hb dX12_chainOf_45 rfl (lv_at hl 1 rfl) ?_
        refine lv_bipush (v := 21) hx hb dX12_chainOf_46 (by decide) ?_
        refine lv_lshr hx hb dX12_chainOf_48 rfl ?_
        refine lv_lxor hx hb dX12_chainOf_49 ?_
        refine lv_ldc2 hx hb hown (hts _ tw_1132) dX12_chainOf_50 ?_
        refine lv_land hx hb dX12_chainOf_53 ?_
        refine lv_l2i hx hb dX12_chainOf_54 rfl ?_
        obtain ⟨S_1602, hS_1602, hSe_1602⟩ := l4095 (v1599 ^^^ (v1599 >>> ((21 : Int32).toInt64 &&& 63)))
        rw [hSe_1602]
        exact hp_iretR hx hb hr rfl hlocks hsz hh (⟨_, hS_1602, rfl⟩) dX12_chainOf_55
      · have n_1601 : j1599 < (wd * wd) := n_nle (a := (wd * wd)) (b := j1599) c_1601 (by omega) (by omega)
        refine lv_lload_n hx hb dX12_chainOf_19 rfl (lv_at hl 1 rfl) ?_
        refine lv_ldc2 hx hb hown (hts _ tw_1131) dX12_chainOf_20 ?_
        refine lv_lmul hx hb dX12_chainOf_23 ?_
        refine lv_aload_n hx hb dX12_chainOf_24 rfl (lv_at hl 2 rfl) ?_
        refine hp_get hx hb hts ix12 hown hK hh (q := 0) rfl (hI.1 _ (by decide)) es1598 rfl 10 (by decide) (hts _ tw_889) (fun _ h9 => h9) rfl dX12_chainOf_25 ?_
        refine lv_bipush (v := 9) hx hb dX12_chainOf_28 (by decide) ?_
        refine lv_iload_n hx hb dX12_chainOf_30 rfl (lv_at hl 3 rfl) ?_
        refine lv_imul hx hb dX12_chainOf_31 ?_
        rw [show (9 : Int32) = nI 9 from rfl, pk_mul 9 n]
        refine lv_iload hx hb dX12_chainOf_32 (lv_at hl 0 rfl) ?_
        refine lv_iadd hx hb dX12_chainOf_34 ?_
        rw [nI_add (9 * n) j1599]
        obtain ⟨f_1603, es1603⟩ := getr_lv hI
        refine hp_lald hx hb hK hh (q := 6) rfl (hI.1 _ (by decide)) es1603 (vp_in_nI (n := ((9 * n) + j1599)) (by omega) (by decide)) dX12_chainOf_35 ?_
        rw [nI_clamp (n := ((9 * n) + j1599)) (by omega)]
        refine lv_ladd hx hb dX12_chainOf_36 ?_
        refine lv_lstore_n (lv' := [(2, .long ((v1599 * 1000003) + (f_1603 ((9 * n) + j1599)))), (4, .int (nI j1599)), (0, .ref (ad 0)), (1, .int (nI n))]) hx hb dX12_chainOf_37 rfl hl (by decide) rfl (fun ls hl => ?_)
        refine lv_iinc (v := (nI (j1599 + 1))) (lv' := [(4, .int (nI (j1599 + 1))), (2, .long ((v1599 * 1000003) + (f_1603 ((9 * n) + j1599)))), (0, .ref (ad 0)), (1, .int (nI n))]) hx hb dX12_chainOf_38 hl (k := 1) rfl (nI_1 _) (by decide) rfl (fun ls hl => ?_)
        refine lv_goto (tgt := 5) hx hb dX12_chainOf_41 (by decide) ?_
        exact ih_1599 ((j1599 + 1)) ((v1599 * 1000003) + (f_1603 ((9 * n) + j1599))) ls H locs (by omega) (by omega) (by omega)  (lv_sub hl [0, 1, 2, 3] rfl) hh
  exact loop_1599 ((wd * wd) + 1) 0 0 ls _ _ (Nat.le_refl _) (by omega) (by omega)  (lv_sub hl [0, 1, 2, 3] rfl) hh
theorem kw_X12_chainOf {R : Room} {s : State} {args : Array Value} {own : String} {idx : Nat} (hts : ∀ w ∈ TB, w.before args s = true) (hl : Cond.methodLink own idx yX12_chainOf ∈ TB) (hR : 0 + 1 ≤ R.frames ∧ 8 + (5 + 11) + 40 * 0 ≤ R.locals) : CallW R s args own RX12 idx yX12_chainOf cX12_chainOf 5 (some .int) (Cond.code yX12_chainOf cX12_chainOf 5 (some .int) :: TB) (rmN 0) 0 0 1 := cwV 1 hts (TB_V hl tw_1129 ts_52 tw_9 tw_1130) rfl rfl rfl (by decide +kernel) hR
set_option maxHeartbeats 4000000 in
set_option maxRecDepth 100000 in
/-- findAt -/
theorem c_X12_findAt (l : Launch) (D : va_G) (cy : Nat → ClassId) (sz : Nat) (cs : List Nat) (ad : Nat → Nat) (en : Nat → va_E) (hI : RX cy cs ad en) (n : Nat) (hn : n ≤ 12) (P : Nat) (hCH : CH en P)   : Met l yX12_findAt (Cond.code yX12_findAt cX12_findAt 4 (some .int) :: TB) (rmN 1) (va_Pc [.ref (ad 0), .int (nI n)] (Pre D cy cs ad en sz)) (va_Qi (S := Unit) (fun r _ => (r = -9 ∨ ∃ v, v < P ∧ r = nI v)) (fun _ _ => True) (Nf sz)) 0 0 (Nf sz) := by
  refine Met.ofW (cc := cX12_findAt) (maxL := 4) (ret := (some .int)) (by decide) rfl ?_
  intro p e s m args below meth c s₁ B hml hv
  obtain ⟨rfl, hsz, hP, hK, hD0⟩ := hv
  have hx := B.exec
  have hb := B.bytes
  have hr := B.returns
  have hts : ∀ w ∈ TB, w.before _ s = true := fun w h => atoms_spec (ws := _ :: TB) B.pre w (List.mem_cons_of_mem _ h)
  have hown : s.vm.findClass RX12 = some m.cls := findClass_of_methodNamed B.named
  have hlocks := B.notSynchronized
  have hh : Hp D (Nf sz) (fun _ => True) s.heap s.heap [] cs ad en := ⟨hP, hD0, va_S.rf⟩
  have hA : ∀ q : Nat, s.heap.size ≤ q → Nf sz q := fun q h => by rw [hsz] at h; exact h
  have hl := lv_entry ([.ref (ad 0), .int (nI n)]) (n := 4) (Nat.le_of_ble_eq_true rfl)
  rw [lg_entry_eq]
  generalize (lg_sl ([.ref (ad 0), .int (nI n)]) ++ List.replicate (4 - (lg_sl ([.ref (ad 0), .int (nI n)])).length) Slot.unset).toArray = ls at hl ⊢
  have hl : lv_has ls 4 [(0, .ref (ad 0)), (1, .int (nI n))] := hl
  obtain ⟨fa, hi, wd, mo, tb, dp, many, grt, lst, nou, rm, rb, pr, wo, es1604, hwd2, hwd3, hmo, htb, hwo⟩ := getr_M hI
  obtain ⟨f_1605, es1605⟩ := getr_hd hI
  obtain ⟨f_1606, es1606⟩ := getr_ch hI
  obtain ⟨f_1607, es1607⟩ := getr_pd hI
  obtain ⟨f_1608, es1608⟩ := getr_lv hI
  have hww : wd * wd ≤ 9 := mww (by omega)
  have hP9 := hCH.1
  refine lv_aload_n hx hb dX12_findAt_0 rfl (lv_at hl 0 rfl) ?_
  refine hp_get hx hb hts ix12 hown hK hh (q := 0) rfl (hI.1 _ (by decide)) es1604 rfl 28 (by decide) (hts _ tw_907) (fun _ h9 => h9) rfl dX12_findAt_1 ?_
  refine lv_aload_n hx hb dX12_findAt_4 rfl (lv_at hl 0 rfl) ?_
  refine lv_iload_n hx hb dX12_findAt_5 rfl (lv_at hl 1 rfl) ?_
  refine hp_callRi (va_runV (As := [.int (nI n)]) (rest := [.ref (ad 16)]) ⟨hx, hb, hml, hown, hts⟩ (c_X12_chainOf l D cy _ cs ad en hI n (by omega)) (kw_X12_chainOf hts tw_1127 ⟨by decide, by decide⟩) (preV_of hh hK (hI.1 _ (by decide)) es1604 rfl) rfl rfl hl.1 rfl (lv_room (Nat.le_of_ble_eq_true rfl)) dX12_findAt_6 ⟨Nat.le_of_ble_eq_true rfl, Nat.le_of_ble_eq_true rfl⟩) hh hA (fun r_1609 H locs hw_1609 hh => ?_)
  obtain ⟨S_1609, hS_1609, rfl⟩ := hw_1609
  refine hp_iald hx hb hK hh (q := 16) rfl (hI.1 _ (by decide)) es1605 (vp_in_nI (n := S_1609) (by omega) (by decide)) dX12_findAt_9 ?_
  rw [nI_clamp (n := S_1609) (by omega)]
  refine lv_istore_n (lv' := [(2, .int (f_1605 S_1609)), (0, .ref (ad 0)), (1, .int (nI n))]) hx hb dX12_findAt_10 rfl hl (by decide) rfl (fun ls hl => ?_)
  have loop_1610 : ∀ (fu mm1610 : Nat) (pp1610 : Int32)   (ls : Array Slot) (H : Heap) (locs : List Loc), mm1610 < fu →  (pp1610 = -9 ∨ ∃ v, v < mm1610 ∧ v < P ∧ pp1610 = nI v) → lv_has ls 4 [(2, .int pp1610), (0, .ref (ad 0)), (1, .int (nI n))] → Hp D (Nf sz) (fun _ => True) s.heap H locs cs ad en → W p l e (headSpec (Cond.code yX12_findAt cX12_findAt 4 (some .int) :: TB) (rmN 1)).room s m ([.ref (ad 0), .int (nI n)] : List Value).toArray below meth c H locs 0 0 (MQ below (va_Qi (S := Unit) (fun r _ => (r = -9 ∨ ∃ v, v < P ∧ r = nI v)) (fun _ _ => True) (Nf sz)) ([.ref (ad 0), .int (nI n)] : List Value).toArray s 0 0 (Nf sz)) (F0 m 11 ls []) := by
    intro fu
    induction fu with
    | zero => intro mm1610 pp1610 ls H locs h2; exact absurd h2 (by omega)
    | succ fu ih_1610 =>
      intro mm1610 pp1610 ls H locs hmm_1610 i0_1610 hl hh
      refine lv_iload_n hx hb dX12_findAt_11 rfl (lv_at hl 0 rfl) ?_
      refine lv_bipush (v := (-9)) hx hb dX12_findAt_12 (by decide) ?_
      refine lv_icmp_eq (tgt := 89) hx hb dX12_findAt_14 (by decide) (fun c_1611 => ?_) (fun c_1611 => ?_)
      · refine lv_bipush (v := (-9)) hx hb dX12_findAt_89 (by decide) ?_
        exact hp_iretR hx hb hr rfl hlocks hsz hh (Or.inl rfl) dX12_findAt_91
      · rcases i0_1610 with hq9_1610 | ⟨v9_1610, hv9a_1610, hv9b_1610, hv9e_1610⟩
        · exact absurd hq9_1610 c_1611
        subst hv9e_1610
        refine lv_iconst (v := 0) hx hb dX12_findAt_17 (by decide) ?_
        refine lv_istore_n (lv' := [(3, .int 0), (2, .int (nI v9_1610)), (0, .ref (ad 0)), (1, .int (nI n))]) hx hb dX12_findAt_18 rfl hl (by decide) rfl (fun ls hl => ?_)
        have loop_1612 : ∀ (fu j1612 : Nat)   (ls : Array Slot) (H : Heap) (locs : List Loc), 0 ≤ j1612 → j1612 ≤ (wd * wd) → (wd * wd) < j1612 + fu →   lv_has ls 4 [(3, .int (nI j1612)), (2, .int (nI v9_1610)), (0, .ref (ad 0)), (1, .int (nI n))] → Hp D (Nf sz) (fun _ => True) s.heap H locs cs ad en → W p l e (headSpec (Cond.code yX12_findAt cX12_findAt 4 (some .int) :: TB) (rmN 1)).room s m ([.ref (ad 0), .int (nI n)] : List Value).toArray below meth c H locs 0 0 (MQ below (va_Qi (S := Unit) (fun r _ => (r = -9 ∨ ∃ v, v < P ∧ r = nI v)) (fun _ _ => True) (Nf sz)) ([.ref (ad 0), .int (nI n)] : List Value).toArray s 0 0 (Nf sz)) (F0 m 19 ls []) := by
          intro fu
          induction fu with
          | zero => intro j1612  ls H locs h0 h1 h2; exact absurd h2 (by omega)
          | succ fu ih_1612 =>
            intro j1612  ls H locs hj0_1612 hj_1612 hfu_1612  hl hh
            refine lv_iload_n hx hb dX12_findAt_19 rfl (lv_at hl 0 rfl) ?_
            refine lv_aload_n hx hb dX12_findAt_20 rfl (lv_at hl 2 rfl) ?_
            refine hp_get hx hb hts ix12 hown hK hh (q := 0) rfl (hI.1 _ (by decide)) es1604 rfl 2 (by decide) (hts _ tw_881) (fun _ h9 => h9) rfl dX12_findAt_21 ?_
            refine lv_aload_n hx hb dX12_findAt_24 rfl (lv_at hl 2 rfl) ?_
            refine hp_get hx hb hts ix12 hown hK hh (q := 0) rfl (hI.1 _ (by decide)) es1604 rfl 2 (by decide) (hts _ tw_881) (fun _ h9 => h9) rfl dX12_findAt_25 ?_
            refine lv_imul hx hb dX12_findAt_28 ?_
            rw [pk_mul wd wd]
            have hw2_1613 : wd * wd ≤ 9 := mww (by omega)
            refine lv_icmp_ge (tgt := 64) hx hb dX12_findAt_29 (by decide) (fun c_1614 => ?_) (fun c_1614 => ?_)
            · have n_1614 : (wd * wd) ≤ j1612 := n_le (a := (wd * wd)) (b := j1612) c_1614 (by omega) (by omega)
              refine lv_iload_n hx hb dX12_findAt_64 rfl (lv_at hl 0 rfl) ?_
              refine lv_aload_n hx hb dX12_findAt_65 rfl (lv_at hl 2 rfl) ?_
              refine hp_get hx hb hts ix12 hown hK hh (q := 0) rfl (hI.1 _ (by decide)) es1604 rfl 2 (by decide) (hts _ tw_881) (fun _ h9 => h9) rfl dX12_findAt_66 ?_
              refine lv_aload_n hx hb dX12_findAt_69 rfl (lv_at hl 2 rfl) ?_
              refine hp_get hx hb hts ix12 hown hK hh (q := 0) rfl (hI.1 _ (by decide)) es1604 rfl 2 (by decide) (hts _ tw_881) (fun _ h9 => h9) rfl dX12_findAt_70 ?_
              refine lv_imul hx hb dX12_findAt_73 ?_
              rw [pk_mul wd wd]
              have hw2_1615 : wd * wd ≤ 9 := mww (by omega)
              refine lv_icmp_ne (tgt := 79) hx hb dX12_findAt_74 (by decide) (fun c_1616 => ?_) (fun c_1616 => ?_)
              · have n_1616 : j1612 ≠ (wd * wd) := n_neq (a := j1612) (b := (wd * wd)) c_1616 (by omega) (by omega)
                refine lv_aload_n hx hb dX12_findAt_79 rfl (lv_at hl 2 rfl) ?_
                refine hp_get hx hb hts ix12 hown hK hh (q := 0) rfl (hI.1 _ (by decide)) es1604 rfl 29 (by decide) (hts _ tw_908) (fun _ h9 => h9) rfl dX12_findAt_80 ?_
                refine lv_iload_n hx hb dX12_findAt_83 rfl (lv_at hl 1 rfl) ?_
                refine hp_iald hx hb hK hh (q := 17) rfl (hI.1 _ (by decide)) es1606 (vp_in_nI (n := v9_1610) (by omega) (by decide)) dX12_findAt_84 ?_
                rw [nI_clamp (n := v9_1610) (by omega)]
                refine lv_istore_n (lv' := [(2, .int (f_1606 v9_1610)), (3, .int (nI j1612)), (0, .ref (ad 0)), (1, .int (nI n))]) hx hb dX12_findAt_85 rfl hl (by decide) rfl (fun ls hl => ?_)
                refine lv_goto (tgt := 11) hx hb dX12_findAt_86 (by decide) ?_
                exact ih_1610 (v9_1610) (f_1606 v9_1610) ls H locs (by omega) (by have h9 := hCH.2.2.2 v9_1610 hv9b_1610; rw [show rdF (en 17) = f_1606 from by rw [es1606]; rfl] at h9; rcases h9 with h9 | ⟨v, h1, h2⟩; exact Or.inl h9; exact Or.inr ⟨v, h1, by omega, h2⟩) (lv_sub hl [0, 2, 3] rfl) hh
              · have n_1616 : j1612 = (wd * wd) := n_eq (a := j1612) (b := (wd * wd)) c_1616 (by omega) (by omega)
                refine lv_iload_n hx hb dX12_findAt_77 rfl (lv_at hl 1 rfl) ?_
                exact hp_iretR hx hb hr rfl hlocks hsz hh (Or.inr ⟨_, hv9b_1610, rfl⟩) dX12_findAt_78
            · have n_1614 : j1612 < (wd * wd) := n_nle (a := (wd * wd)) (b := j1612) c_1614 (by omega) (by omega)
              refine lv_aload_n hx hb dX12_findAt_32 rfl (lv_at hl 2 rfl) ?_
              refine hp_get hx hb hts ix12 hown hK hh (q := 0) rfl (hI.1 _ (by decide)) es1604 rfl 26 (by decide) (hts _ tw_905) (fun _ h9 => h9) rfl dX12_findAt_33 ?_
              refine lv_bipush (v := 9) hx hb dX12_findAt_36 (by decide) ?_
              refine lv_iload_n hx hb dX12_findAt_38 rfl (lv_at hl 1 rfl) ?_
              refine lv_imul hx hb dX12_findAt_39 ?_
              rw [show (9 : Int32) = nI 9 from rfl, pk_mul 9 v9_1610]
              refine lv_iload_n hx hb dX12_findAt_40 rfl (lv_at hl 0 rfl) ?_
              refine lv_iadd hx hb dX12_findAt_41 ?_
              rw [nI_add (9 * v9_1610) j1612]
              refine hp_lald hx hb hK hh (q := 14) rfl (hI.1 _ (by decide)) es1607 (vp_in_nI (n := ((9 * v9_1610) + j1612)) (by omega) (by decide)) dX12_findAt_42 ?_
              rw [nI_clamp (n := ((9 * v9_1610) + j1612)) (by omega)]
              refine lv_aload_n hx hb dX12_findAt_43 rfl (lv_at hl 2 rfl) ?_
              refine hp_get hx hb hts ix12 hown hK hh (q := 0) rfl (hI.1 _ (by decide)) es1604 rfl 10 (by decide) (hts _ tw_889) (fun _ h9 => h9) rfl dX12_findAt_44 ?_
              refine lv_bipush (v := 9) hx hb dX12_findAt_47 (by decide) ?_
              refine lv_iload_n hx hb dX12_findAt_49 rfl (lv_at hl 3 rfl) ?_
              refine lv_imul hx hb dX12_findAt_50 ?_
              rw [show (9 : Int32) = nI 9 from rfl, pk_mul 9 n]
              refine lv_iload_n hx hb dX12_findAt_51 rfl (lv_at hl 0 rfl) ?_
              refine lv_iadd hx hb dX12_findAt_52 ?_
              rw [nI_add (9 * n) j1612]
              refine hp_lald hx hb hK hh (q := 6) rfl (hI.1 _ (by decide)) es1608 (vp_in_nI (n := ((9 * n) + j1612)) (by omega) (by decide)) dX12_findAt_53 ?_
              rw [nI_clamp (n := ((9 * n) + j1612)) (by omega)]
              refine W.lcmp hx hb dX12_findAt_54 ?_
              refine lv_if_ne (tgt := 64) hx hb dX12_findAt_55 (by decide) (fun c_1617 => ?_) (fun c_1617 => ?_)
              · refine lv_iload_n hx hb dX12_findAt_64 rfl (lv_at hl 0 rfl) ?_
                refine lv_aload_n hx hb dX12_findAt_65 rfl (lv_at hl 2 rfl) ?_
                refine hp_get hx hb hts ix12 hown hK hh (q := 0) rfl (hI.1 _ (by decide)) es1604 rfl 2 (by decide) (hts _ tw_881) (fun _ h9 => h9) rfl dX12_findAt_66 ?_
                refine lv_aload_n hx hb dX12_findAt_69 rfl (lv_at hl 2 rfl) ?_
                refine hp_get hx hb hts ix12 hown hK hh (q := 0) rfl (hI.1 _ (by decide)) es1604 rfl 2 (by decide) (hts _ tw_881) (fun _ h9 => h9) rfl dX12_findAt_70 ?_
                refine lv_imul hx hb dX12_findAt_73 ?_
                rw [pk_mul wd wd]
                have hw2_1618 : wd * wd ≤ 9 := mww (by omega)
                refine lv_icmp_ne (tgt := 79) hx hb dX12_findAt_74 (by decide) (fun c_1619 => ?_) (fun c_1619 => ?_)
                · have n_1619 : j1612 ≠ (wd * wd) := n_neq (a := j1612) (b := (wd * wd)) c_1619 (by omega) (by omega)
                  refine lv_aload_n hx hb dX12_findAt_79 rfl (lv_at hl 2 rfl) ?_
                  refine hp_get hx hb hts ix12 hown hK hh (q := 0) rfl (hI.1 _ (by decide)) es1604 rfl 29 (by decide) (hts _ tw_908) (fun _ h9 => h9) rfl dX12_findAt_80 ?_
                  refine lv_iload_n hx hb dX12_findAt_83 rfl (lv_at hl 1 rfl) ?_
                  refine hp_iald hx hb hK hh (q := 17) rfl (hI.1 _ (by decide)) es1606 (vp_in_nI (n := v9_1610) (by omega) (by decide)) dX12_findAt_84 ?_
                  rw [nI_clamp (n := v9_1610) (by omega)]
                  refine lv_istore_n (lv' := [(2, .int (f_1606 v9_1610)), (3, .int (nI j1612)), (0, .ref (ad 0)), (1, .int (nI n))]) hx hb dX12_findAt_85 rfl hl (by decide) rfl (fun ls hl => ?_)
                  refine lv_goto (tgt := 11) hx hb dX12_findAt_86 (by decide) ?_
                  exact ih_1610 (v9_1610) (f_1606 v9_1610) ls H locs (by omega) (by have h9 := hCH.2.2.2 v9_1610 hv9b_1610; rw [show rdF (en 17) = f_1606 from by rw [es1606]; rfl] at h9; rcases h9 with h9 | ⟨v, h1, h2⟩; exact Or.inl h9; exact Or.inr ⟨v, h1, by omega, h2⟩) (lv_sub hl [0, 2, 3] rfl) hh
                · have n_1619 : j1612 = (wd * wd) := n_eq (a := j1612) (b := (wd * wd)) c_1619 (by omega) (by omega)
                  refine lv_iload_n hx hb dX12_findAt_77 rfl (lv_at hl 1 rfl) ?_
                  exact hp_iretR hx hb hr rfl hlocks hsz hh (Or.inr ⟨_, hv9b_1610, rfl⟩) dX12_findAt_78
              · refine lv_iinc (v := (nI (j1612 + 1))) (lv' := [(3, .int (nI (j1612 + 1))), (2, .int (nI v9_1610)), (0, .ref (ad 0)), (1, .int (nI n))]) hx hb dX12_findAt_58 hl (k := 0) rfl (nI_1 _) (by decide) rfl (fun ls hl => ?_)
                refine lv_goto (tgt := 19) hx hb dX12_findAt_61 (by decide) ?_
                exact ih_1612 ((j1612 + 1))  ls H locs (by omega) (by omega) (by omega)  (lv_sub hl [0, 1, 2, 3] rfl) hh
        exact loop_1612 ((wd * wd) + 1) 0  ls _ _ (Nat.le_refl _) (by omega) (by omega)  (lv_sub hl [0, 1, 2, 3] rfl) hh
  exact loop_1610 (P + 1) P (f_1605 S_1609) ls _ _ (by omega) (by have h9 := hCH.2.2.1 S_1609 (by omega); rw [show rdF (en 16) = f_1605 from by rw [es1605]; rfl] at h9; rcases h9 with h9 | ⟨v, h1, h2⟩; exact Or.inl h9; exact Or.inr ⟨v, h1, h1, h2⟩) (lv_sub hl [0, 1, 2] rfl) hh
theorem kw_X12_findAt {R : Room} {s : State} {args : Array Value} {own : String} {idx : Nat} (hts : ∀ w ∈ TB, w.before args s = true) (hl : Cond.methodLink own idx yX12_findAt ∈ TB) (hR : 1 + 1 ≤ R.frames ∧ 8 + (4 + 11) + 40 * 1 ≤ R.locals) : CallW R s args own RX12 idx yX12_findAt cX12_findAt 4 (some .int) (Cond.code yX12_findAt cX12_findAt 4 (some .int) :: TB) (rmN 1) 0 0 1 := cwV 1 hts (TB_V hl tw_1125 ts_51 tw_9 tw_1126) rfl rfl rfl (by decide +kernel) hR
set_option maxHeartbeats 4000000 in
set_option maxRecDepth 100000 in
/-- comes -/
theorem c_X12_comes (l : Launch) (D : va_G) (cy : Nat → ClassId) (sz : Nat) (cs : List Nat) (ad : Nat → Nat) (en : Nat → va_E) (hI : RX cy cs ad en) (n : Nat) (le9 : Int32) (hn : n ≤ 12) (P : Nat) (hCH : CH en P)   : Met l yX12_comes (Cond.code yX12_comes cX12_comes 5 (some .boolean) :: TB) (rmN 2) (va_Pc [.ref (ad 0), .int (nI n), .int le9] (Pre D cy cs ad en sz)) (va_Qi (S := Nat → va_E) (fun r en1 => RX cy cs ad en1 ∧ (∀ c, (c ≠ 0 ∧ c ≠ 14 ∧ c ≠ 15 ∧ c ≠ 16 ∧ c ≠ 17) → en1 c = en c) ∧ ((r = 0 ∧ CH en1 P) ∨ (r = 1 ∧ ∃ P1, CH en1 P1 ∧ P ≤ P1 ∧ 1 ≤ P1)) ∧ KPp en en1) (PostM D cs ad) (Af cs ad sz)) 0 0 (Af cs ad sz) := by
  refine Met.ofW (cc := cX12_comes) (maxL := 5) (ret := (some .boolean)) (by decide) rfl ?_
  intro p e s m args below meth c s₁ B hml hv
  obtain ⟨rfl, hsz, hP, hK, hD0⟩ := hv
  have hx := B.exec
  have hb := B.bytes
  have hr := B.returns
  have hts : ∀ w ∈ TB, w.before _ s = true := fun w h => atoms_spec (ws := _ :: TB) B.pre w (List.mem_cons_of_mem _ h)
  have hown : s.vm.findClass RX12 = some m.cls := findClass_of_methodNamed B.named
  have hlocks := B.notSynchronized
  have hh : Hp D (Af cs ad sz) (Af cs ad sz) s.heap s.heap [] cs ad en := ⟨hP, Af_self hD0, va_S.rf⟩
  have hA : ∀ q : Nat, s.heap.size ≤ q → Af cs ad sz q := fun q h => Or.inr (by rw [hsz] at h; exact h)
  have hl := lv_entry ([.ref (ad 0), .int (nI n), .int le9]) (n := 5) (Nat.le_of_ble_eq_true rfl)
  rw [lg_entry_eq]
  generalize (lg_sl ([.ref (ad 0), .int (nI n), .int le9]) ++ List.replicate (5 - (lg_sl ([.ref (ad 0), .int (nI n), .int le9])).length) Slot.unset).toArray = ls at hl ⊢
  have hl : lv_has ls 5 [(0, .ref (ad 0)), (1, .int (nI n)), (2, .int le9)] := hl
  have hf0 : ∀ c, (c ≠ 0 ∧ c ≠ 14 ∧ c ≠ 15 ∧ c ≠ 16 ∧ c ≠ 17) → en c = en c := fun _ _ => rfl
  obtain ⟨fa, hi, wd, mo, tb, dp, many, grt, lst, nou, rm, rb, pr, wo, es1620, hwd2, hwd3, hmo, htb, hwo⟩ := getr_M hI
  obtain ⟨f_1621, es1621⟩ := getr_hd hI
  obtain ⟨f_1622, es1622⟩ := getr_ch hI
  have hP9 := hCH.1
  have hww : wd * wd ≤ 9 := mww (by omega)
  have hfx_1623 : pr = nI P := (show pr = rdI (en 0) 25 from by rw [es1620]; rfl).trans (hCH.2.1)
  rw [hfx_1623] at es1620
  refine lv_iconst (v := 0) hx hb dX12_comes_0 (by decide) ?_
  refine lv_istore_n (lv' := [(3, .int 0), (0, .ref (ad 0)), (1, .int (nI n)), (2, .int le9)]) hx hb dX12_comes_1 rfl hl (by decide) rfl (fun ls hl => ?_)
  have loop_1624 : ∀ (fu j1624 : Nat)   (ls : Array Slot) (H : Heap) (locs : List Loc), 0 ≤ j1624 → j1624 ≤ (wd * wd) → (wd * wd) < j1624 + fu →   lv_has ls 5 [(3, .int (nI j1624)), (0, .ref (ad 0)), (1, .int (nI n)), (2, .int le9)] → Hp D (Af cs ad sz) (Af cs ad sz) s.heap H locs cs ad en → W p l e (headSpec (Cond.code yX12_comes cX12_comes 5 (some .boolean) :: TB) (rmN 2)).room s m ([.ref (ad 0), .int (nI n), .int le9] : List Value).toArray below meth c H locs 0 0 (MQ below (va_Qi (S := Nat → va_E) (fun r en1 => RX cy cs ad en1 ∧ (∀ c, (c ≠ 0 ∧ c ≠ 14 ∧ c ≠ 15 ∧ c ≠ 16 ∧ c ≠ 17) → en1 c = en c) ∧ ((r = 0 ∧ CH en1 P) ∨ (r = 1 ∧ ∃ P1, CH en1 P1 ∧ P ≤ P1 ∧ 1 ≤ P1)) ∧ KPp en en1) (PostM D cs ad) (Af cs ad sz)) ([.ref (ad 0), .int (nI n), .int le9] : List Value).toArray s 0 0 (Af cs ad sz)) (F0 m 2 ls []) := by
    intro fu
    induction fu with
    | zero => intro j1624  ls H locs h0 h1 h2; exact absurd h2 (by omega)
    | succ fu ih_1624 =>
      intro j1624  ls H locs hj0_1624 hj_1624 hfu_1624  hl hh
      refine lv_iload_n hx hb dX12_comes_2 rfl (lv_at hl 0 rfl) ?_
      refine lv_aload_n hx hb dX12_comes_3 rfl (lv_at hl 1 rfl) ?_
      refine hp_get hx hb hts ix12 hown hK hh (q := 0) rfl (hI.1 _ (by decide)) es1620 rfl 2 (by decide) (hts _ tw_881) (fun _ h9 => h9) rfl dX12_comes_4 ?_
      refine lv_aload_n hx hb dX12_comes_7 rfl (lv_at hl 1 rfl) ?_
      refine hp_get hx hb hts ix12 hown hK hh (q := 0) rfl (hI.1 _ (by decide)) es1620 rfl 2 (by decide) (hts _ tw_881) (fun _ h9 => h9) rfl dX12_comes_8 ?_
      refine lv_imul hx hb dX12_comes_11 ?_
      rw [pk_mul wd wd]
      have hw2_1625 : wd * wd ≤ 9 := mww (by omega)
      refine lv_icmp_ge (tgt := 46) hx hb dX12_comes_12 (by decide) (fun c_1626 => ?_) (fun c_1626 => ?_)
      · have n_1626 : (wd * wd) ≤ j1624 := n_le (a := (wd * wd)) (b := j1624) c_1626 (by omega) (by omega)
        refine lv_aload_n hx hb dX12_comes_46 rfl (lv_at hl 1 rfl) ?_
        refine lv_iload_n hx hb dX12_comes_47 rfl (lv_at hl 2 rfl) ?_
        refine hp_callRi (va_runV (As := [.int (nI n)]) (rest := []) ⟨hx, hb, hml, hown, hts⟩ (c_X12_findAt l D cy _ cs ad en hI n (by omega) P hCH) (kw_X12_findAt hts tw_1123 ⟨by decide, by decide⟩) (preV_of hh hK (hI.1 _ (by decide)) es1620 rfl) rfl rfl hl.1 rfl (lv_room (Nat.le_of_ble_eq_true rfl)) dX12_comes_48 ⟨Nat.le_of_ble_eq_true rfl, Nat.le_of_ble_eq_true rfl⟩) hh hA (fun r_1627 H locs hw_1627 hh => ?_)
        rcases hw_1627 with hb_1627 | ⟨F_1627, hF_1627, hb_1627⟩
        · obtain rfl : r_1627 = (-9) := hb_1627
          refine lv_bipush (v := (-9)) hx hb dX12_comes_51 (by decide) ?_
          refine lv_icmp_eq (tgt := 58) hx hb dX12_comes_53 (by decide) (fun _ => ?_) (fun c_0 => absurd c_0 (by decide))
          refine lv_aload_n hx hb dX12_comes_58 rfl (lv_at hl 1 rfl) ?_
          refine hp_get hx hb hts ix12 hown hK hh (q := 0) rfl (hI.1 _ (by decide)) es1620 rfl 25 (by decide) (hts _ tw_904) (fun _ h9 => h9) rfl dX12_comes_59 ?_
          refine lv_sipush (v := 2000) hx hb dX12_comes_62 (by decide) ?_
          refine lv_icmp_ne (tgt := 70) hx hb dX12_comes_65 (by decide) (fun c_1628 => ?_) (fun c_1628 => ?_)
          · have n_1628 : P ≠ 2000 := n_neq (a := P) (b := 2000) c_1628 (by omega) (by decide)
            refine lv_aload_n hx hb dX12_comes_70 rfl (lv_at hl 1 rfl) ?_
            refine lv_iload_n hx hb dX12_comes_71 rfl (lv_at hl 2 rfl) ?_
            refine hp_callRi (va_runV (As := [.int (nI n)]) (rest := []) ⟨hx, hb, hml, hown, hts⟩ (c_X12_chainOf l D cy _ cs ad en hI n (by omega)) (kw_X12_chainOf hts tw_1127 ⟨by decide, by decide⟩) (preV_of hh hK (hI.1 _ (by decide)) es1620 rfl) rfl rfl hl.1 rfl (lv_room (Nat.le_of_ble_eq_true rfl)) dX12_comes_72 ⟨Nat.le_of_ble_eq_true rfl, Nat.le_of_ble_eq_true rfl⟩) hh hA (fun r_1629 H locs hw_1629 hh => ?_)
            obtain ⟨S_1629, hS_1629, rfl⟩ := hw_1629
            refine lv_istore_n (lv' := [(3, .int (nI S_1629)), (0, .ref (ad 0)), (1, .int (nI n)), (2, .int le9)]) hx hb dX12_comes_75 rfl hl (by decide) rfl (fun ls hl => ?_)
            refine lv_iconst (v := 0) hx hb dX12_comes_76 (by decide) ?_
            refine lv_istore (lv' := [(4, .int 0), (3, .int (nI S_1629)), (0, .ref (ad 0)), (1, .int (nI n)), (2, .int le9)]) hx hb dX12_comes_77 hl (by decide) rfl (fun ls hl => ?_)
            have loop_1630 : ∀ (fu j1630 : Nat)  (en_1630 : Nat → va_E) (ls : Array Slot) (H : Heap) (locs : List Loc), 0 ≤ j1630 → j1630 ≤ (wd * wd) → (wd * wd) < j1630 + fu → RX cy cs ad en_1630 → (∀ c, (c ≠ 0 ∧ c ≠ 14 ∧ c ≠ 15 ∧ c ≠ 16 ∧ c ≠ 17) → en_1630 c = en c) → (rdI (en_1630 0) 25 = nI P) → (KPp en en_1630) → (en_1630 16 = en 16) → (en_1630 17 = en 17) → lv_has ls 5 [(4, .int (nI j1630)), (3, .int (nI S_1629)), (0, .ref (ad 0)), (1, .int (nI n)), (2, .int le9)] → Hp D (Af cs ad sz) (Af cs ad sz) s.heap H locs cs ad en_1630 → W p l e (headSpec (Cond.code yX12_comes cX12_comes 5 (some .boolean) :: TB) (rmN 2)).room s m ([.ref (ad 0), .int (nI n), .int le9] : List Value).toArray below meth c H locs 0 0 (MQ below (va_Qi (S := Nat → va_E) (fun r en1 => RX cy cs ad en1 ∧ (∀ c, (c ≠ 0 ∧ c ≠ 14 ∧ c ≠ 15 ∧ c ≠ 16 ∧ c ≠ 17) → en1 c = en c) ∧ ((r = 0 ∧ CH en1 P) ∨ (r = 1 ∧ ∃ P1, CH en1 P1 ∧ P ≤ P1 ∧ 1 ≤ P1)) ∧ KPp en en1) (PostM D cs ad) (Af cs ad sz)) ([.ref (ad 0), .int (nI n), .int le9] : List Value).toArray s 0 0 (Af cs ad sz)) (F0 m 79 ls []) := by
              intro fu
              induction fu with
              | zero => intro j1630  en_1630 ls H locs h0 h1 h2; exact absurd h2 (by omega)
              | succ fu ih_1630 =>
                intro j1630  en_1630 ls H locs hj0_1630 hj_1630 hfu_1630 hI_1630 hf_1630 i0_1630 i1_1630 i2_1630 i3_1630 hl hh
                refine lv_iload hx hb dX12_comes_79 (lv_at hl 0 rfl) ?_
                refine lv_aload_n hx hb dX12_comes_81 rfl (lv_at hl 2 rfl) ?_
                obtain ⟨fa_1631, hi_1631, wd_1631, mo_1631, tb_1631, dp_1631, many_1631, grt_1631, lst_1631, nou_1631, rm_1631, rb_1631, pr_1631, wo_1631, es1631, p0_1631, p1_1631, p2_1631, p3_1631, p4_1631⟩ := getr_M hI_1630
                have hfx_1632 : pr_1631 = nI P := (show pr_1631 = rdI (en_1630 0) 25 from by rw [es1631]; rfl).trans (i0_1630)
                rw [hfx_1632] at es1631
                have hq2_1633 : wd_1631 = wd := n_eq ((show nI wd_1631 = rdI (en_1630 0) 2 from by rw [es1631]; rfl).trans (i1_1630.2.1.trans (show rdI (en 0) 2 = nI wd from by rw [es1620]; rfl))) (by omega) (by omega)
                have hq3_1633 : mo_1631 = mo := n_eq ((show nI mo_1631 = rdI (en_1630 0) 3 from by rw [es1631]; rfl).trans (i1_1630.2.2.1.trans (show rdI (en 0) 3 = nI mo from by rw [es1620]; rfl))) (by omega) (by omega)
                have hq4_1633 : tb_1631 = tb := n_eq ((show nI tb_1631 = rdI (en_1630 0) 4 from by rw [es1631]; rfl).trans (i1_1630.2.2.2.1.trans (show rdI (en 0) 4 = nI tb from by rw [es1620]; rfl))) (by omega) (by omega)
                have hq30_1633 : wo_1631 = wo := n_eq ((show nI wo_1631 = rdI (en_1630 0) 30 from by rw [es1631]; rfl).trans (i1_1630.2.2.2.2.trans (show rdI (en 0) 30 = nI wo from by rw [es1620]; rfl))) (by omega) (by omega)
                rw [hq2_1633, hq3_1633, hq4_1633, hq30_1633] at es1631
                refine hp_get hx hb hts ix12 hown hK hh (q := 0) rfl (hI.1 _ (by decide)) es1631 rfl 2 (by decide) (hts _ tw_881) (fun _ h9 => h9) rfl dX12_comes_82 ?_
                refine lv_aload_n hx hb dX12_comes_85 rfl (lv_at hl 2 rfl) ?_
                refine hp_get hx hb hts ix12 hown hK hh (q := 0) rfl (hI.1 _ (by decide)) es1631 rfl 2 (by decide) (hts _ tw_881) (fun _ h9 => h9) rfl dX12_comes_86 ?_
                refine lv_imul hx hb dX12_comes_89 ?_
                rw [pk_mul wd wd]
                have hw2_1634 : wd * wd ≤ 9 := mww (by omega)
                refine lv_icmp_ge (tgt := 126) hx hb dX12_comes_90 (by decide) (fun c_1635 => ?_) (fun c_1635 => ?_)
                · have n_1635 : (wd * wd) ≤ j1630 := n_le (a := (wd * wd)) (b := j1630) c_1635 (by omega) (by omega)
                  refine lv_aload_n hx hb dX12_comes_126 rfl (lv_at hl 2 rfl) ?_
                  refine hp_get hx hb hts ix12 hown hK hh (q := 0) rfl (hI.1 _ (by decide)) es1631 rfl 27 (by decide) (hts _ tw_906) (fun _ h9 => h9) rfl dX12_comes_127 ?_
                  refine lv_aload_n hx hb dX12_comes_130 rfl (lv_at hl 2 rfl) ?_
                  refine hp_get hx hb hts ix12 hown hK hh (q := 0) rfl (hI.1 _ (by decide)) es1631 rfl 25 (by decide) (hts _ tw_904) (fun _ h9 => h9) rfl dX12_comes_131 ?_
                  refine lv_iload_n hx hb dX12_comes_134 rfl (lv_at hl 4 rfl) ?_
                  obtain ⟨f_1636, es1636⟩ := getr_ln hI_1630
                  refine hp_iast hx hb hK hh (q := 15) rfl (hI.1 _ (by decide)) es1636 (vp_in_nI (n := P) (by omega) (by decide)) dX12_comes_135 (fun H locs en_1637 hen_1637 hh => ?_)
                  rw [nI_clamp (n := P) (by omega)] at hen_1637
                  have es1631_1637 : en_1637 0 = .inr (11, [.int fa_1631, .int hi_1631, .int (nI wd), .int (nI mo), .int (nI tb), .ref (ad 1), .ref (ad 2), .ref (ad 3), .ref (ad 4), .ref (ad 5), .ref (ad 6), .ref (ad 7), .ref (ad 8), .ref (ad 9), .int dp_1631, .long many_1631, .long grt_1631, .long lst_1631, .long nou_1631, .ref (ad 10), .ref (ad 11), .ref (ad 12), .int rm_1631, .long rb_1631, .ref (ad 13), .int (nI P), .ref (ad 14), .ref (ad 15), .ref (ad 16), .ref (ad 17), .int (nI wo), .ref (ad 18), .ref (ad 19)]) := by rw [hen_1637, va_up_ne _ _ (by decide)]; exact es1631
                  have es1636_1637 : en_1637 15 = .inl (cy 0, 2001, .inl (upd f_1636 P le9)) := by rw [hen_1637]; exact va_up_self _ _ _
                  have hI_1637 : RX cy cs ad en_1637 := by rw [hen_1637]; exact upr_ln hI_1630 ⟨(upd f_1636 P le9), rfl⟩
                  have hf_1637 : ∀ c, (c ≠ 0 ∧ c ≠ 14 ∧ c ≠ 15 ∧ c ≠ 16 ∧ c ≠ 17) → en_1637 c = en c := fun c hc => Eq.trans (show en_1637 c = en_1630 c from by rw [hen_1637, va_up_ne _ _ (by omega)]) (hf_1630 c hc)
                  have hkc16_1637 : en_1637 16 = en 16 := (show en_1637 16 = en_1630 16 from by rw [hen_1637, va_up_ne _ _ (by decide)]).trans i2_1630
                  have hkc17_1637 : en_1637 17 = en 17 := (show en_1637 17 = en_1630 17 from by rw [hen_1637, va_up_ne _ _ (by decide)]).trans i3_1630
                  have hkp_1637 : KPp en en_1637 := KPp_same i1_1630 (show en_1637 0 = en_1630 0 from by rw [hen_1637, va_up_ne _ _ (by decide)])
                  refine lv_aload_n hx hb dX12_comes_136 rfl (lv_at hl 2 rfl) ?_
                  refine hp_get hx hb hts ix12 hown hK hh (q := 0) rfl (hI.1 _ (by decide)) es1631_1637 rfl 29 (by decide) (hts _ tw_908) (fun _ h9 => h9) rfl dX12_comes_137 ?_
                  refine lv_aload_n hx hb dX12_comes_140 rfl (lv_at hl 2 rfl) ?_
                  refine hp_get hx hb hts ix12 hown hK hh (q := 0) rfl (hI.1 _ (by decide)) es1631_1637 rfl 25 (by decide) (hts _ tw_904) (fun _ h9 => h9) rfl dX12_comes_141 ?_
                  refine lv_aload_n hx hb dX12_comes_144 rfl (lv_at hl 2 rfl) ?_
                  refine hp_get hx hb hts ix12 hown hK hh (q := 0) rfl (hI.1 _ (by decide)) es1631_1637 rfl 28 (by decide) (hts _ tw_907) (fun _ h9 => h9) rfl dX12_comes_145 ?_
                  refine lv_iload_n hx hb dX12_comes_148 rfl (lv_at hl 1 rfl) ?_
                  have es1621_1638 : en_1637 16 = .inl (cy 0, 4096, .inl f_1621) := hkc16_1637.trans es1621
                  refine hp_iald hx hb hK hh (q := 16) rfl (hI.1 _ (by decide)) es1621_1638 (vp_in_nI (n := S_1629) (by omega) (by decide)) dX12_comes_149 ?_
                  rw [nI_clamp (n := S_1629) (by omega)]
                  have es1622_1639 : en_1637 17 = .inl (cy 0, 2001, .inl f_1622) := hkc17_1637.trans es1622
                  refine hp_iast hx hb hK hh (q := 17) rfl (hI.1 _ (by decide)) es1622_1639 (vp_in_nI (n := P) (by omega) (by decide)) dX12_comes_150 (fun H locs en_1640 hen_1640 hh => ?_)
                  rw [nI_clamp (n := P) (by omega)] at hen_1640
                  have es1631_1640 : en_1640 0 = .inr (11, [.int fa_1631, .int hi_1631, .int (nI wd), .int (nI mo), .int (nI tb), .ref (ad 1), .ref (ad 2), .ref (ad 3), .ref (ad 4), .ref (ad 5), .ref (ad 6), .ref (ad 7), .ref (ad 8), .ref (ad 9), .int dp_1631, .long many_1631, .long grt_1631, .long lst_1631, .long nou_1631, .ref (ad 10), .ref (ad 11), .ref (ad 12), .int rm_1631, .long rb_1631, .ref (ad 13), .int (nI P), .ref (ad 14), .ref (ad 15), .ref (ad 16), .ref (ad 17), .int (nI wo), .ref (ad 18), .ref (ad 19)]) := by rw [hen_1640, va_up_ne _ _ (by decide)]; exact es1631_1637
                  have es1636_1640 : en_1640 15 = .inl (cy 0, 2001, .inl (upd f_1636 P le9)) := by rw [hen_1640, va_up_ne _ _ (by decide)]; exact es1636_1637
                  have es1621_1640 : en_1640 16 = .inl (cy 0, 4096, .inl f_1621) := by rw [hen_1640, va_up_ne _ _ (by decide)]; exact es1621_1638
                  have es1622_1640 : en_1640 17 = .inl (cy 0, 2001, .inl (upd f_1622 P (f_1621 S_1629))) := by rw [hen_1640]; exact va_up_self _ _ _
                  have hI_1640 : RX cy cs ad en_1640 := by rw [hen_1640]; exact upr_ch hI_1637 ⟨(upd f_1622 P (f_1621 S_1629)), rfl⟩
                  have hf_1640 : ∀ c, (c ≠ 0 ∧ c ≠ 14 ∧ c ≠ 15 ∧ c ≠ 16 ∧ c ≠ 17) → en_1640 c = en c := fun c hc => Eq.trans (show en_1640 c = en_1637 c from by rw [hen_1640, va_up_ne _ _ (by omega)]) (hf_1637 c hc)
                  have hkc16_1640 : en_1640 16 = en 16 := (show en_1640 16 = en_1637 16 from by rw [hen_1640, va_up_ne _ _ (by decide)]).trans hkc16_1637
                  have hkp_1640 : KPp en en_1640 := KPp_same hkp_1637 (show en_1640 0 = en_1637 0 from by rw [hen_1640, va_up_ne _ _ (by decide)])
                  refine lv_aload_n hx hb dX12_comes_151 rfl (lv_at hl 2 rfl) ?_
                  refine hp_get hx hb hts ix12 hown hK hh (q := 0) rfl (hI.1 _ (by decide)) es1631_1640 rfl 28 (by decide) (hts _ tw_907) (fun _ h9 => h9) rfl dX12_comes_152 ?_
                  refine lv_iload_n hx hb dX12_comes_155 rfl (lv_at hl 1 rfl) ?_
                  refine lv_aload_n hx hb dX12_comes_156 rfl (lv_at hl 2 rfl) ?_
                  refine hp_get hx hb hts ix12 hown hK hh (q := 0) rfl (hI.1 _ (by decide)) es1631_1640 rfl 25 (by decide) (hts _ tw_904) (fun _ h9 => h9) rfl dX12_comes_157 ?_
                  refine hp_iast hx hb hK hh (q := 16) rfl (hI.1 _ (by decide)) es1621_1640 (vp_in_nI (n := S_1629) (by omega) (by decide)) dX12_comes_160 (fun H locs en_1641 hen_1641 hh => ?_)
                  rw [nI_clamp (n := S_1629) (by omega)] at hen_1641
                  have es1631_1641 : en_1641 0 = .inr (11, [.int fa_1631, .int hi_1631, .int (nI wd), .int (nI mo), .int (nI tb), .ref (ad 1), .ref (ad 2), .ref (ad 3), .ref (ad 4), .ref (ad 5), .ref (ad 6), .ref (ad 7), .ref (ad 8), .ref (ad 9), .int dp_1631, .long many_1631, .long grt_1631, .long lst_1631, .long nou_1631, .ref (ad 10), .ref (ad 11), .ref (ad 12), .int rm_1631, .long rb_1631, .ref (ad 13), .int (nI P), .ref (ad 14), .ref (ad 15), .ref (ad 16), .ref (ad 17), .int (nI wo), .ref (ad 18), .ref (ad 19)]) := by rw [hen_1641, va_up_ne _ _ (by decide)]; exact es1631_1640
                  have es1636_1641 : en_1641 15 = .inl (cy 0, 2001, .inl (upd f_1636 P le9)) := by rw [hen_1641, va_up_ne _ _ (by decide)]; exact es1636_1640
                  have es1622_1641 : en_1641 17 = .inl (cy 0, 2001, .inl (upd f_1622 P (f_1621 S_1629))) := by rw [hen_1641, va_up_ne _ _ (by decide)]; exact es1622_1640
                  have es1621_1641 : en_1641 16 = .inl (cy 0, 4096, .inl (upd f_1621 S_1629 (nI P))) := by rw [hen_1641]; exact va_up_self _ _ _
                  have hI_1641 : RX cy cs ad en_1641 := by rw [hen_1641]; exact upr_hd hI_1640 ⟨(upd f_1621 S_1629 (nI P)), rfl⟩
                  have hf_1641 : ∀ c, (c ≠ 0 ∧ c ≠ 14 ∧ c ≠ 15 ∧ c ≠ 16 ∧ c ≠ 17) → en_1641 c = en c := fun c hc => Eq.trans (show en_1641 c = en_1640 c from by rw [hen_1641, va_up_ne _ _ (by omega)]) (hf_1640 c hc)
                  have hkp_1641 : KPp en en_1641 := KPp_same hkp_1640 (show en_1641 0 = en_1640 0 from by rw [hen_1641, va_up_ne _ _ (by decide)])
                  refine lv_aload_n hx hb dX12_comes_161 rfl (lv_at hl 2 rfl) ?_
                  refine lv_dup hx hb dX12_comes_162 rfl ?_
                  refine hp_get hx hb hts ix12 hown hK hh (q := 0) rfl (hI.1 _ (by decide)) es1631_1641 rfl 25 (by decide) (hts _ tw_904) (fun _ h9 => h9) rfl dX12_comes_163 ?_
                  refine lv_iconst (v := 1) hx hb dX12_comes_166 (by decide) ?_
                  refine lv_iadd hx hb dX12_comes_167 ?_
                  rw [show (1 : Int32) = nI 1 from rfl, nI_add P 1]
                  refine hp_put hx hb hts ix12 tyX12 tyX12_ok nmX12 hown hK hh (q := 0) rfl (hI.1 _ (by decide)) es1631_1641 rfl 25 (by decide) (hts _ tw_904) (fun _ h9 => h9) rfl (ty := .int) (by decide +kernel) rfl rfl (Nat.le_of_ble_eq_true rfl) dX12_comes_168 (fun H locs en_1642 hen_1642 hh => ?_)
                  have es1636_1642 : en_1642 15 = .inl (cy 0, 2001, .inl (upd f_1636 P le9)) := by rw [hen_1642, va_up_ne _ _ (by decide)]; exact es1636_1641
                  have es1622_1642 : en_1642 17 = .inl (cy 0, 2001, .inl (upd f_1622 P (f_1621 S_1629))) := by rw [hen_1642, va_up_ne _ _ (by decide)]; exact es1622_1641
                  have es1621_1642 : en_1642 16 = .inl (cy 0, 4096, .inl (upd f_1621 S_1629 (nI P))) := by rw [hen_1642, va_up_ne _ _ (by decide)]; exact es1621_1641
                  have es1631_1642 : en_1642 0 = .inr (11, [.int fa_1631, .int hi_1631, .int (nI wd), .int (nI mo), .int (nI tb), .ref (ad 1), .ref (ad 2), .ref (ad 3), .ref (ad 4), .ref (ad 5), .ref (ad 6), .ref (ad 7), .ref (ad 8), .ref (ad 9), .int dp_1631, .long many_1631, .long grt_1631, .long lst_1631, .long nou_1631, .ref (ad 10), .ref (ad 11), .ref (ad 12), .int rm_1631, .long rb_1631, .ref (ad 13), .int (nI (P + 1)), .ref (ad 14), .ref (ad 15), .ref (ad 16), .ref (ad 17), .int (nI wo), .ref (ad 18), .ref (ad 19)]) := by rw [hen_1642]; exact va_up_self _ _ _
                  have hI_1642 : RX cy cs ad en_1642 := by rw [hen_1642]; exact upr_M hI_1641 ⟨fa_1631, hi_1631, wd, mo, tb, dp_1631, many_1631, grt_1631, lst_1631, nou_1631, rm_1631, rb_1631, (nI (P + 1)), wo, rfl, hwd2, hwd3, hmo, htb, hwo⟩
                  have hf_1642 : ∀ c, (c ≠ 0 ∧ c ≠ 14 ∧ c ≠ 15 ∧ c ≠ 16 ∧ c ≠ 17) → en_1642 c = en c := fun c hc => Eq.trans (show en_1642 c = en_1641 c from by rw [hen_1642, va_up_ne _ _ (by omega)]) (hf_1641 c hc)
                  have hkp_1642 : KPp en en_1642 := KPp_fv hkp_1641 es1631_1641 es1631_1642 hi_1631 (nI wd) (nI mo) (nI tb) (nI wo) rfl rfl rfl rfl rfl rfl rfl rfl rfl rfl
                  refine lv_iconst (v := 1) hx hb dX12_comes_171 (by decide) ?_
                  exact hp_iretM hx hb hr rfl hlocks hh (⟨hI_1642, hf_1642, Or.inr ⟨rfl, P + 1, CH_add hCH (by omega) hS_1629 (h := f_1621) (c := f_1622) (by rw [es1621]; rfl) (by rw [es1622]; rfl) (by rw [es1631_1642]; rfl) (by rw [es1621_1642]; rfl) (by rw [es1622_1642]; rfl), by omega, by omega⟩, hkp_1642⟩) dX12_comes_172
                · have n_1635 : j1630 < (wd * wd) := n_nle (a := (wd * wd)) (b := j1630) c_1635 (by omega) (by omega)
                  refine lv_aload_n hx hb dX12_comes_93 rfl (lv_at hl 2 rfl) ?_
                  refine hp_get hx hb hts ix12 hown hK hh (q := 0) rfl (hI.1 _ (by decide)) es1631 rfl 26 (by decide) (hts _ tw_905) (fun _ h9 => h9) rfl dX12_comes_94 ?_
                  refine lv_bipush (v := 9) hx hb dX12_comes_97 (by decide) ?_
                  refine lv_aload_n hx hb dX12_comes_99 rfl (lv_at hl 2 rfl) ?_
                  refine hp_get hx hb hts ix12 hown hK hh (q := 0) rfl (hI.1 _ (by decide)) es1631 rfl 25 (by decide) (hts _ tw_904) (fun _ h9 => h9) rfl dX12_comes_100 ?_
                  refine lv_imul hx hb dX12_comes_103 ?_
                  rw [show (9 : Int32) = nI 9 from rfl, pk_mul 9 P]
                  refine lv_iload hx hb dX12_comes_104 (lv_at hl 0 rfl) ?_
                  refine lv_iadd hx hb dX12_comes_106 ?_
                  rw [nI_add (9 * P) j1630]
                  refine lv_aload_n hx hb dX12_comes_107 rfl (lv_at hl 2 rfl) ?_
                  refine hp_get hx hb hts ix12 hown hK hh (q := 0) rfl (hI.1 _ (by decide)) es1631 rfl 10 (by decide) (hts _ tw_889) (fun _ h9 => h9) rfl dX12_comes_108 ?_
                  refine lv_bipush (v := 9) hx hb dX12_comes_111 (by decide) ?_
                  refine lv_iload_n hx hb dX12_comes_113 rfl (lv_at hl 3 rfl) ?_
                  refine lv_imul hx hb dX12_comes_114 ?_
                  rw [show (9 : Int32) = nI 9 from rfl, pk_mul 9 n]
                  refine lv_iload hx hb dX12_comes_115 (lv_at hl 0 rfl) ?_
                  refine lv_iadd hx hb dX12_comes_117 ?_
                  rw [nI_add (9 * n) j1630]
                  obtain ⟨f_1643, es1643⟩ := getr_lv hI_1630
                  refine hp_lald hx hb hK hh (q := 6) rfl (hI.1 _ (by decide)) es1643 (vp_in_nI (n := ((9 * n) + j1630)) (by omega) (by decide)) dX12_comes_118 ?_
                  rw [nI_clamp (n := ((9 * n) + j1630)) (by omega)]
                  obtain ⟨f_1644, es1644⟩ := getr_pd hI_1630
                  refine hp_last hx hb hK hh (q := 14) rfl (hI.1 _ (by decide)) es1644 (vp_in_nI (n := ((9 * P) + j1630)) (by omega) (by decide)) dX12_comes_119 (fun H locs en_1645 hen_1645 hh => ?_)
                  rw [nI_clamp (n := ((9 * P) + j1630)) (by omega)] at hen_1645
                  have es1631_1645 : en_1645 0 = .inr (11, [.int fa_1631, .int hi_1631, .int (nI wd), .int (nI mo), .int (nI tb), .ref (ad 1), .ref (ad 2), .ref (ad 3), .ref (ad 4), .ref (ad 5), .ref (ad 6), .ref (ad 7), .ref (ad 8), .ref (ad 9), .int dp_1631, .long many_1631, .long grt_1631, .long lst_1631, .long nou_1631, .ref (ad 10), .ref (ad 11), .ref (ad 12), .int rm_1631, .long rb_1631, .ref (ad 13), .int (nI P), .ref (ad 14), .ref (ad 15), .ref (ad 16), .ref (ad 17), .int (nI wo), .ref (ad 18), .ref (ad 19)]) := by rw [hen_1645, va_up_ne _ _ (by decide)]; exact es1631
                  have es1643_1645 : en_1645 6 = .inl (cy 1, 117, .inr (.inl f_1643)) := by rw [hen_1645, va_up_ne _ _ (by decide)]; exact es1643
                  have es1644_1645 : en_1645 14 = .inl (cy 1, 18009, .inr (.inl (vp_updL f_1644 ((9 * P) + j1630) (f_1643 ((9 * n) + j1630))))) := by rw [hen_1645]; exact va_up_self _ _ _
                  have hI_1645 : RX cy cs ad en_1645 := by rw [hen_1645]; exact upr_pd hI_1630 ⟨(vp_updL f_1644 ((9 * P) + j1630) (f_1643 ((9 * n) + j1630))), rfl⟩
                  have hf_1645 : ∀ c, (c ≠ 0 ∧ c ≠ 14 ∧ c ≠ 15 ∧ c ≠ 16 ∧ c ≠ 17) → en_1645 c = en c := fun c hc => Eq.trans (show en_1645 c = en_1630 c from by rw [hen_1645, va_up_ne _ _ (by omega)]) (hf_1630 c hc)
                  have hkc16_1645 : en_1645 16 = en 16 := (show en_1645 16 = en_1630 16 from by rw [hen_1645, va_up_ne _ _ (by decide)]).trans i2_1630
                  have hkc17_1645 : en_1645 17 = en 17 := (show en_1645 17 = en_1630 17 from by rw [hen_1645, va_up_ne _ _ (by decide)]).trans i3_1630
                  have hkp_1645 : KPp en en_1645 := KPp_same i1_1630 (show en_1645 0 = en_1630 0 from by rw [hen_1645, va_up_ne _ _ (by decide)])
                  refine lv_iinc (v := (nI (j1630 + 1))) (lv' := [(4, .int (nI (j1630 + 1))), (3, .int (nI S_1629)), (0, .ref (ad 0)), (1, .int (nI n)), (2, .int le9)]) hx hb dX12_comes_120 hl (k := 0) rfl (nI_1 _) (by decide) rfl (fun ls hl => ?_)
                  refine lv_goto (tgt := 79) hx hb dX12_comes_123 (by decide) ?_
                  exact ih_1630 ((j1630 + 1))  en_1645 ls H locs (by omega) (by omega) (by omega) hI_1645 hf_1645 (by rw [es1631_1645]; rfl) (hkp_1645) (hkc16_1645) (hkc17_1645) (lv_sub hl [0, 1, 2, 3, 4] rfl) hh
            exact loop_1630 ((wd * wd) + 1) 0  en ls _ _ (Nat.le_refl _) (by omega) (by omega) hI hf0 (by rw [es1620]; rfl) ((KPp_rf en)) (rfl) (rfl) (lv_sub hl [0, 1, 2, 3, 4] rfl) hh
          · have n_1628 : P = 2000 := n_eq (a := P) (b := 2000) c_1628 (by omega) (by decide)
            refine lv_iconst (v := 0) hx hb dX12_comes_68 (by decide) ?_
            exact hp_iretM hx hb hr rfl hlocks hh (⟨hI, hf0, Or.inl ⟨rfl, hCH⟩, (KPp_rf en)⟩) dX12_comes_69
        · obtain rfl : r_1627 = nI F_1627 := hb_1627
          have hn9_1627 : ¬ nI F_1627 = (-9 : Int32) := nI_n9 (by have h9 := hCH.1; omega)
          refine lv_bipush (v := (-9)) hx hb dX12_comes_51 (by decide) ?_
          refine lv_icmp_eq (tgt := 58) hx hb dX12_comes_53 (by decide) (fun c_0 => absurd c_0 (hn9_1627)) (fun _ => ?_)
          refine lv_iconst (v := 1) hx hb dX12_comes_56 (by decide) ?_
          exact hp_iretM hx hb hr rfl hlocks hh (⟨hI, hf0, Or.inr ⟨rfl, P, hCH, Nat.le_refl _, by have h9 := hF_1627; omega⟩, (KPp_rf en)⟩) dX12_comes_57
      · have n_1626 : j1624 < (wd * wd) := n_nle (a := (wd * wd)) (b := j1624) c_1626 (by omega) (by omega)
        refine lv_aload_n hx hb dX12_comes_15 rfl (lv_at hl 1 rfl) ?_
        refine hp_get hx hb hts ix12 hown hK hh (q := 0) rfl (hI.1 _ (by decide)) es1620 rfl 10 (by decide) (hts _ tw_889) (fun _ h9 => h9) rfl dX12_comes_16 ?_
        refine lv_bipush (v := 9) hx hb dX12_comes_19 (by decide) ?_
        refine lv_iload_n hx hb dX12_comes_21 rfl (lv_at hl 2 rfl) ?_
        refine lv_imul hx hb dX12_comes_22 ?_
        rw [show (9 : Int32) = nI 9 from rfl, pk_mul 9 n]
        refine lv_iload_n hx hb dX12_comes_23 rfl (lv_at hl 0 rfl) ?_
        refine lv_iadd hx hb dX12_comes_24 ?_
        rw [nI_add (9 * n) j1624]
        obtain ⟨f_1646, es1646⟩ := getr_lv hI
        refine hp_lald hx hb hK hh (q := 6) rfl (hI.1 _ (by decide)) es1646 (vp_in_nI (n := ((9 * n) + j1624)) (by omega) (by decide)) dX12_comes_25 ?_
        rw [nI_clamp (n := ((9 * n) + j1624)) (by omega)]
        refine lv_ldc2 hx hb hown (hts _ tw_1121) dX12_comes_26 ?_
        refine lv_ldc2 hx hb hown (hts _ tw_1122) dX12_comes_29 ?_
        refine hp_callRi (va_runS (As := [.long (f_1646 ((9 * n) + j1624)), .long (-1000000), .long 1000000]) (rest := []) ⟨hx, hb, hml, hown, hts⟩ (c_X12_within l D cy _ cs ad en (f_1646 ((9 * n) + j1624)) (-1000000) 1000000) (kw_X12_within hts tw_985 ⟨by decide, by decide⟩) (preS_of hh hK) rfl rfl hl.1 rfl (lv_room (Nat.le_of_ble_eq_true rfl)) dX12_comes_32 ⟨Nat.le_of_ble_eq_true rfl, Nat.le_of_ble_eq_true rfl⟩) hh hA (fun r_1647 H locs hw_1647 hh => ?_)
        rcases Decidable.em (wj (f_1646 ((9 * n) + j1624)) (-1000000) 1000000) with hp_1647 | hp_1647
        · obtain rfl : r_1647 = 1 := Eq.trans hw_1647 (if_pos hp_1647)
          refine lv_if_ne (tgt := 40) hx hb dX12_comes_35 (by decide) (fun _ => ?_) (fun c_0 => absurd c_0 (by decide))
          refine lv_iinc (v := (nI (j1624 + 1))) (lv' := [(3, .int (nI (j1624 + 1))), (0, .ref (ad 0)), (1, .int (nI n)), (2, .int le9)]) hx hb dX12_comes_40 hl (k := 0) rfl (nI_1 _) (by decide) rfl (fun ls hl => ?_)
          refine lv_goto (tgt := 2) hx hb dX12_comes_43 (by decide) ?_
          exact ih_1624 ((j1624 + 1))  ls H locs (by omega) (by omega) (by omega)  (lv_sub hl [0, 1, 2, 3] rfl) hh
        · obtain rfl : r_1647 = 0 := Eq.trans hw_1647 (if_neg hp_1647)
          refine lv_if_ne (tgt := 40) hx hb dX12_comes_35 (by decide) (fun c_0 => absurd c_0 (by decide)) (fun _ => ?_)
          refine lv_iconst (v := 0) hx hb dX12_comes_38 (by decide) ?_
          exact hp_iretM hx hb hr rfl hlocks hh (⟨hI, hf0, Or.inl ⟨rfl, hCH⟩, (KPp_rf en)⟩) dX12_comes_39
  exact loop_1624 ((wd * wd) + 1) 0  ls _ _ (Nat.le_refl _) (by omega) (by omega)  (lv_sub hl [0, 1, 2, 3] rfl) hh
theorem kw_X12_comes {R : Room} {s : State} {args : Array Value} {own : String} {idx : Nat} (hts : ∀ w ∈ TB, w.before args s = true) (hl : Cond.methodLink own idx yX12_comes ∈ TB) (hR : 2 + 1 ≤ R.frames ∧ 8 + (5 + 11) + 40 * 2 ≤ R.locals) : CallW R s args own RX12 idx yX12_comes cX12_comes 5 (some .boolean) (Cond.code yX12_comes cX12_comes 5 (some .boolean) :: TB) (rmN 2) 0 0 2 := cwV 2 hts (TB_V hl tw_1119 ts_50 tw_9 tw_1120) rfl rfl rfl (by decide +kernel) hR
set_option maxHeartbeats 4000000 in
set_option maxRecDepth 100000 in
/-- layProduct -/
theorem c_X12_layProduct (l : Launch) (D : va_G) (cy : Nat → ClassId) (sz : Nat) (cs : List Nat) (ad : Nat → Nat) (en : Nat → va_E) (hI : RX cy cs ad en) (p9 n : Nat) (hp : p9 < 2001) (hn : n ≤ 12)   : Met l yX12_layProduct (Cond.code yX12_layProduct cX12_layProduct 4 none :: TB) (rmN 0) (va_Pc [.ref (ad 0), .int (nI p9), .int (nI n)] (Pre D cy cs ad en sz)) (va_Qv (S := Nat → va_E) (fun en1 => RX cy cs ad en1 ∧ (∀ c, (c ≠ 6) → en1 c = en c)) (PostM D cs ad) (Af cs ad sz)) 0 0 (Af cs ad sz) := by
  refine Met.ofW (cc := cX12_layProduct) (maxL := 4) (ret := none) (by decide) rfl ?_
  intro p e s m args below meth c s₁ B hml hv
  obtain ⟨rfl, hsz, hP, hK, hD0⟩ := hv
  have hx := B.exec
  have hb := B.bytes
  have hr := B.returns
  have hts : ∀ w ∈ TB, w.before _ s = true := fun w h => atoms_spec (ws := _ :: TB) B.pre w (List.mem_cons_of_mem _ h)
  have hown : s.vm.findClass RX12 = some m.cls := findClass_of_methodNamed B.named
  have hlocks := B.notSynchronized
  have hh : Hp D (Af cs ad sz) (Af cs ad sz) s.heap s.heap [] cs ad en := ⟨hP, Af_self hD0, va_S.rf⟩
  have hA : ∀ q : Nat, s.heap.size ≤ q → Af cs ad sz q := fun q h => Or.inr (by rw [hsz] at h; exact h)
  have hl := lv_entry ([.ref (ad 0), .int (nI p9), .int (nI n)]) (n := 4) (Nat.le_of_ble_eq_true rfl)
  rw [lg_entry_eq]
  generalize (lg_sl ([.ref (ad 0), .int (nI p9), .int (nI n)]) ++ List.replicate (4 - (lg_sl ([.ref (ad 0), .int (nI p9), .int (nI n)])).length) Slot.unset).toArray = ls at hl ⊢
  have hl : lv_has ls 4 [(0, .ref (ad 0)), (1, .int (nI p9)), (2, .int (nI n))] := hl
  have hf0 : ∀ c, (c ≠ 6) → en c = en c := fun _ _ => rfl
  obtain ⟨fa, hi, wd, mo, tb, dp, many, grt, lst, nou, rm, rb, pr, wo, es1648, hwd2, hwd3, hmo, htb, hwo⟩ := getr_M hI
  have hww : wd * wd ≤ 9 := mww (by omega)
  refine lv_iconst (v := 0) hx hb dX12_layProduct_0 (by decide) ?_
  refine lv_istore_n (lv' := [(3, .int 0), (0, .ref (ad 0)), (1, .int (nI p9)), (2, .int (nI n))]) hx hb dX12_layProduct_1 rfl hl (by decide) rfl (fun ls hl => ?_)
  have loop_1649 : ∀ (fu j1649 : Nat)  (en_1649 : Nat → va_E) (ls : Array Slot) (H : Heap) (locs : List Loc), 0 ≤ j1649 → j1649 ≤ (wd * wd) → (wd * wd) < j1649 + fu → RX cy cs ad en_1649 → (∀ c, (c ≠ 6) → en_1649 c = en c) →  lv_has ls 4 [(3, .int (nI j1649)), (0, .ref (ad 0)), (1, .int (nI p9)), (2, .int (nI n))] → Hp D (Af cs ad sz) (Af cs ad sz) s.heap H locs cs ad en_1649 → W p l e (headSpec (Cond.code yX12_layProduct cX12_layProduct 4 none :: TB) (rmN 0)).room s m ([.ref (ad 0), .int (nI p9), .int (nI n)] : List Value).toArray below meth c H locs 0 0 (MQ below (va_Qv (S := Nat → va_E) (fun en1 => RX cy cs ad en1 ∧ (∀ c, (c ≠ 6) → en1 c = en c)) (PostM D cs ad) (Af cs ad sz)) ([.ref (ad 0), .int (nI p9), .int (nI n)] : List Value).toArray s 0 0 (Af cs ad sz)) (F0 m 2 ls []) := by
    intro fu
    induction fu with
    | zero => intro j1649  en_1649 ls H locs h0 h1 h2; exact absurd h2 (by omega)
    | succ fu ih_1649 =>
      intro j1649  en_1649 ls H locs hj0_1649 hj_1649 hfu_1649 hI_1649 hf_1649  hl hh
      refine lv_iload_n hx hb dX12_layProduct_2 rfl (lv_at hl 0 rfl) ?_
      refine lv_aload_n hx hb dX12_layProduct_3 rfl (lv_at hl 1 rfl) ?_
      have es1648_1650 : en_1649 0 = .inr (11, [.int fa, .int hi, .int (nI wd), .int (nI mo), .int (nI tb), .ref (ad 1), .ref (ad 2), .ref (ad 3), .ref (ad 4), .ref (ad 5), .ref (ad 6), .ref (ad 7), .ref (ad 8), .ref (ad 9), .int dp, .long many, .long grt, .long lst, .long nou, .ref (ad 10), .ref (ad 11), .ref (ad 12), .int rm, .long rb, .ref (ad 13), .int pr, .ref (ad 14), .ref (ad 15), .ref (ad 16), .ref (ad 17), .int (nI wo), .ref (ad 18), .ref (ad 19)]) := (hf_1649 0 (by omega)).trans es1648
      refine hp_get hx hb hts ix12 hown hK hh (q := 0) rfl (hI.1 _ (by decide)) es1648_1650 rfl 2 (by decide) (hts _ tw_881) (fun _ h9 => h9) rfl dX12_layProduct_4 ?_
      refine lv_aload_n hx hb dX12_layProduct_7 rfl (lv_at hl 1 rfl) ?_
      refine hp_get hx hb hts ix12 hown hK hh (q := 0) rfl (hI.1 _ (by decide)) es1648_1650 rfl 2 (by decide) (hts _ tw_881) (fun _ h9 => h9) rfl dX12_layProduct_8 ?_
      refine lv_imul hx hb dX12_layProduct_11 ?_
      rw [pk_mul wd wd]
      have hw2_1651 : wd * wd ≤ 9 := mww (by omega)
      refine lv_icmp_ge (tgt := 43) hx hb dX12_layProduct_12 (by decide) (fun c_1652 => ?_) (fun c_1652 => ?_)
      · have n_1652 : (wd * wd) ≤ j1649 := n_le (a := (wd * wd)) (b := j1649) c_1652 (by omega) (by omega)
        exact hp_vretM hx hb hr hlocks hh (⟨hI_1649, hf_1649⟩) dX12_layProduct_43
      · have n_1652 : j1649 < (wd * wd) := n_nle (a := (wd * wd)) (b := j1649) c_1652 (by omega) (by omega)
        refine lv_aload_n hx hb dX12_layProduct_15 rfl (lv_at hl 1 rfl) ?_
        refine hp_get hx hb hts ix12 hown hK hh (q := 0) rfl (hI.1 _ (by decide)) es1648_1650 rfl 10 (by decide) (hts _ tw_889) (fun _ h9 => h9) rfl dX12_layProduct_16 ?_
        refine lv_bipush (v := 9) hx hb dX12_layProduct_19 (by decide) ?_
        refine lv_iload_n hx hb dX12_layProduct_21 rfl (lv_at hl 3 rfl) ?_
        refine lv_imul hx hb dX12_layProduct_22 ?_
        rw [show (9 : Int32) = nI 9 from rfl, pk_mul 9 n]
        refine lv_iload_n hx hb dX12_layProduct_23 rfl (lv_at hl 0 rfl) ?_
        refine lv_iadd hx hb dX12_layProduct_24 ?_
        rw [nI_add (9 * n) j1649]
        refine lv_aload_n hx hb dX12_layProduct_25 rfl (lv_at hl 1 rfl) ?_
        refine hp_get hx hb hts ix12 hown hK hh (q := 0) rfl (hI.1 _ (by decide)) es1648_1650 rfl 26 (by decide) (hts _ tw_905) (fun _ h9 => h9) rfl dX12_layProduct_26 ?_
        refine lv_bipush (v := 9) hx hb dX12_layProduct_29 (by decide) ?_
        refine lv_iload_n hx hb dX12_layProduct_31 rfl (lv_at hl 2 rfl) ?_
        refine lv_imul hx hb dX12_layProduct_32 ?_
        rw [show (9 : Int32) = nI 9 from rfl, pk_mul 9 p9]
        refine lv_iload_n hx hb dX12_layProduct_33 rfl (lv_at hl 0 rfl) ?_
        refine lv_iadd hx hb dX12_layProduct_34 ?_
        rw [nI_add (9 * p9) j1649]
        obtain ⟨f_1653, es1653⟩ := getr_pd hI_1649
        refine hp_lald hx hb hK hh (q := 14) rfl (hI.1 _ (by decide)) es1653 (vp_in_nI (n := ((9 * p9) + j1649)) (by omega) (by decide)) dX12_layProduct_35 ?_
        rw [nI_clamp (n := ((9 * p9) + j1649)) (by omega)]
        obtain ⟨f_1654, es1654⟩ := getr_lv hI_1649
        refine hp_last hx hb hK hh (q := 6) rfl (hI.1 _ (by decide)) es1654 (vp_in_nI (n := ((9 * n) + j1649)) (by omega) (by decide)) dX12_layProduct_36 (fun H locs en_1655 hen_1655 hh => ?_)
        rw [nI_clamp (n := ((9 * n) + j1649)) (by omega)] at hen_1655
        have es1648_1655 : en_1655 0 = .inr (11, [.int fa, .int hi, .int (nI wd), .int (nI mo), .int (nI tb), .ref (ad 1), .ref (ad 2), .ref (ad 3), .ref (ad 4), .ref (ad 5), .ref (ad 6), .ref (ad 7), .ref (ad 8), .ref (ad 9), .int dp, .long many, .long grt, .long lst, .long nou, .ref (ad 10), .ref (ad 11), .ref (ad 12), .int rm, .long rb, .ref (ad 13), .int pr, .ref (ad 14), .ref (ad 15), .ref (ad 16), .ref (ad 17), .int (nI wo), .ref (ad 18), .ref (ad 19)]) := by rw [hen_1655, va_up_ne _ _ (by decide)]; exact es1648_1650
        have es1653_1655 : en_1655 14 = .inl (cy 1, 18009, .inr (.inl f_1653)) := by rw [hen_1655, va_up_ne _ _ (by decide)]; exact es1653
        have es1654_1655 : en_1655 6 = .inl (cy 1, 117, .inr (.inl (vp_updL f_1654 ((9 * n) + j1649) (f_1653 ((9 * p9) + j1649))))) := by rw [hen_1655]; exact va_up_self _ _ _
        have hI_1655 : RX cy cs ad en_1655 := by rw [hen_1655]; exact upr_lv hI_1649 ⟨(vp_updL f_1654 ((9 * n) + j1649) (f_1653 ((9 * p9) + j1649))), rfl⟩
        have hf_1655 : ∀ c, (c ≠ 6) → en_1655 c = en c := fun c hc => Eq.trans (show en_1655 c = en_1649 c from by rw [hen_1655, va_up_ne _ _ (by omega)]) (hf_1649 c hc)
        refine lv_iinc (v := (nI (j1649 + 1))) (lv' := [(3, .int (nI (j1649 + 1))), (0, .ref (ad 0)), (1, .int (nI p9)), (2, .int (nI n))]) hx hb dX12_layProduct_37 hl (k := 0) rfl (nI_1 _) (by decide) rfl (fun ls hl => ?_)
        refine lv_goto (tgt := 2) hx hb dX12_layProduct_40 (by decide) ?_
        exact ih_1649 ((j1649 + 1))  en_1655 ls H locs (by omega) (by omega) (by omega) hI_1655 hf_1655  (lv_sub hl [0, 1, 2, 3] rfl) hh
  exact loop_1649 ((wd * wd) + 1) 0  en ls _ _ (Nat.le_refl _) (by omega) (by omega) hI hf0  (lv_sub hl [0, 1, 2, 3] rfl) hh
theorem kw_X12_layProduct {R : Room} {s : State} {args : Array Value} {own : String} {idx : Nat} (hts : ∀ w ∈ TB, w.before args s = true) (hl : Cond.methodLink own idx yX12_layProduct ∈ TB) (hR : 0 + 1 ≤ R.frames ∧ 8 + (4 + 11) + 40 * 0 ≤ R.locals) : CallW R s args own RX12 idx yX12_layProduct cX12_layProduct 4 none (Cond.code yX12_layProduct cX12_layProduct 4 none :: TB) (rmN 0) 0 0 2 := cwV 2 hts (TB_V hl tw_1135 ts_53 tw_9 tw_1136) rfl rfl rfl (by decide +kernel) hR
set_option maxHeartbeats 4000000 in
set_option maxRecDepth 100000 in
/-- multiply -/
theorem c_X12_multiply (l : Launch) (D : va_G) (cy : Nat → ClassId) (sz : Nat) (cs : List Nat) (ad : Nat → Nat) (en : Nat → va_E) (hI : RX cy cs ad en) (p9 q9 : Nat) (hp : p9 < 2001) (hq9 : q9 < 2001)   : Met l yX12_multiply (Cond.code yX12_multiply cX12_multiply 8 none :: TB) (rmN 1) (va_Pc [.ref (ad 0), .int (nI p9), .int (nI q9)] (Pre D cy cs ad en sz)) (va_Qv (S := Nat → va_E) (fun en1 => RX cy cs ad en1 ∧ (∀ c, (c ≠ 6) → en1 c = en c)) (PostM D cs ad) (Af cs ad sz)) 0 0 (Af cs ad sz) := by
  refine Met.ofW (cc := cX12_multiply) (maxL := 8) (ret := none) (by decide) rfl ?_
  intro p e s m args below meth c s₁ B hml hv
  obtain ⟨rfl, hsz, hP, hK, hD0⟩ := hv
  have hx := B.exec
  have hb := B.bytes
  have hr := B.returns
  have hts : ∀ w ∈ TB, w.before _ s = true := fun w h => atoms_spec (ws := _ :: TB) B.pre w (List.mem_cons_of_mem _ h)
  have hown : s.vm.findClass RX12 = some m.cls := findClass_of_methodNamed B.named
  have hlocks := B.notSynchronized
  have hh : Hp D (Af cs ad sz) (Af cs ad sz) s.heap s.heap [] cs ad en := ⟨hP, Af_self hD0, va_S.rf⟩
  have hA : ∀ q : Nat, s.heap.size ≤ q → Af cs ad sz q := fun q h => Or.inr (by rw [hsz] at h; exact h)
  have hl := lv_entry ([.ref (ad 0), .int (nI p9), .int (nI q9)]) (n := 8) (Nat.le_of_ble_eq_true rfl)
  rw [lg_entry_eq]
  generalize (lg_sl ([.ref (ad 0), .int (nI p9), .int (nI q9)]) ++ List.replicate (8 - (lg_sl ([.ref (ad 0), .int (nI p9), .int (nI q9)])).length) Slot.unset).toArray = ls at hl ⊢
  have hl : lv_has ls 8 [(0, .ref (ad 0)), (1, .int (nI p9)), (2, .int (nI q9))] := hl
  have hf0 : ∀ c, (c ≠ 6) → en c = en c := fun _ _ => rfl
  obtain ⟨fa, hi, wd, mo, tb, dp, many, grt, lst, nou, rm, rb, pr, wo, es1656, hwd2, hwd3, hmo, htb, hwo⟩ := getr_M hI
  refine lv_iconst (v := 0) hx hb dX12_multiply_0 (by decide) ?_
  refine lv_istore_n (lv' := [(3, .int 0), (0, .ref (ad 0)), (1, .int (nI p9)), (2, .int (nI q9))]) hx hb dX12_multiply_1 rfl hl (by decide) rfl (fun ls hl => ?_)
  have loop_1657 : ∀ (fu j1657 : Nat)  (en_1657 : Nat → va_E) (ls : Array Slot) (H : Heap) (locs : List Loc), 0 ≤ j1657 → j1657 ≤ wd → wd < j1657 + fu → RX cy cs ad en_1657 → (∀ c, (c ≠ 6) → en_1657 c = en c) →  lv_has ls 8 [(3, .int (nI j1657)), (0, .ref (ad 0)), (1, .int (nI p9)), (2, .int (nI q9))] → Hp D (Af cs ad sz) (Af cs ad sz) s.heap H locs cs ad en_1657 → W p l e (headSpec (Cond.code yX12_multiply cX12_multiply 8 none :: TB) (rmN 1)).room s m ([.ref (ad 0), .int (nI p9), .int (nI q9)] : List Value).toArray below meth c H locs 0 0 (MQ below (va_Qv (S := Nat → va_E) (fun en1 => RX cy cs ad en1 ∧ (∀ c, (c ≠ 6) → en1 c = en c)) (PostM D cs ad) (Af cs ad sz)) ([.ref (ad 0), .int (nI p9), .int (nI q9)] : List Value).toArray s 0 0 (Af cs ad sz)) (F0 m 2 ls []) := by
    intro fu
    induction fu with
    | zero => intro j1657  en_1657 ls H locs h0 h1 h2; exact absurd h2 (by omega)
    | succ fu ih_1657 =>
      intro j1657  en_1657 ls H locs hj0_1657 hj_1657 hfu_1657 hI_1657 hf_1657  hl hh
      refine lv_iload_n hx hb dX12_multiply_2 rfl (lv_at hl 0 rfl) ?_
      refine lv_aload_n hx hb dX12_multiply_3 rfl (lv_at hl 1 rfl) ?_
      have es1656_1658 : en_1657 0 = .inr (11, [.int fa, .int hi, .int (nI wd), .int (nI mo), .int (nI tb), .ref (ad 1), .ref (ad 2), .ref (ad 3), .ref (ad 4), .ref (ad 5), .ref (ad 6), .ref (ad 7), .ref (ad 8), .ref (ad 9), .int dp, .long many, .long grt, .long lst, .long nou, .ref (ad 10), .ref (ad 11), .ref (ad 12), .int rm, .long rb, .ref (ad 13), .int pr, .ref (ad 14), .ref (ad 15), .ref (ad 16), .ref (ad 17), .int (nI wo), .ref (ad 18), .ref (ad 19)]) := (hf_1657 0 (by omega)).trans es1656
      refine hp_get hx hb hts ix12 hown hK hh (q := 0) rfl (hI.1 _ (by decide)) es1656_1658 rfl 2 (by decide) (hts _ tw_881) (fun _ h9 => h9) rfl dX12_multiply_4 ?_
      refine lv_icmp_ge (tgt := 123) hx hb dX12_multiply_7 (by decide) (fun c_1659 => ?_) (fun c_1659 => ?_)
      · have n_1659 : wd ≤ j1657 := n_le (a := wd) (b := j1657) c_1659 (by omega) (by omega)
        exact hp_vretM hx hb hr hlocks hh (⟨hI_1657, hf_1657⟩) dX12_multiply_123
      · have n_1659 : j1657 < wd := n_nle (a := wd) (b := j1657) c_1659 (by omega) (by omega)
        refine lv_iconst (v := 0) hx hb dX12_multiply_10 (by decide) ?_
        refine lv_istore (lv' := [(4, .int 0), (3, .int (nI j1657)), (0, .ref (ad 0)), (1, .int (nI p9)), (2, .int (nI q9))]) hx hb dX12_multiply_11 hl (by decide) rfl (fun ls hl => ?_)
        have loop_1660 : ∀ (fu j1660 : Nat)  (en_1660 : Nat → va_E) (ls : Array Slot) (H : Heap) (locs : List Loc), 0 ≤ j1660 → j1660 ≤ wd → wd < j1660 + fu → RX cy cs ad en_1660 → (∀ c, (c ≠ 6) → en_1660 c = en c) →  lv_has ls 8 [(4, .int (nI j1660)), (3, .int (nI j1657)), (0, .ref (ad 0)), (1, .int (nI p9)), (2, .int (nI q9))] → Hp D (Af cs ad sz) (Af cs ad sz) s.heap H locs cs ad en_1660 → W p l e (headSpec (Cond.code yX12_multiply cX12_multiply 8 none :: TB) (rmN 1)).room s m ([.ref (ad 0), .int (nI p9), .int (nI q9)] : List Value).toArray below meth c H locs 0 0 (MQ below (va_Qv (S := Nat → va_E) (fun en1 => RX cy cs ad en1 ∧ (∀ c, (c ≠ 6) → en1 c = en c)) (PostM D cs ad) (Af cs ad sz)) ([.ref (ad 0), .int (nI p9), .int (nI q9)] : List Value).toArray s 0 0 (Af cs ad sz)) (F0 m 13 ls []) := by
          intro fu
          induction fu with
          | zero => intro j1660  en_1660 ls H locs h0 h1 h2; exact absurd h2 (by omega)
          | succ fu ih_1660 =>
            intro j1660  en_1660 ls H locs hj0_1660 hj_1660 hfu_1660 hI_1660 hf_1660  hl hh
            refine lv_iload hx hb dX12_multiply_13 (lv_at hl 0 rfl) ?_
            refine lv_aload_n hx hb dX12_multiply_15 rfl (lv_at hl 2 rfl) ?_
            have es1656_1661 : en_1660 0 = .inr (11, [.int fa, .int hi, .int (nI wd), .int (nI mo), .int (nI tb), .ref (ad 1), .ref (ad 2), .ref (ad 3), .ref (ad 4), .ref (ad 5), .ref (ad 6), .ref (ad 7), .ref (ad 8), .ref (ad 9), .int dp, .long many, .long grt, .long lst, .long nou, .ref (ad 10), .ref (ad 11), .ref (ad 12), .int rm, .long rb, .ref (ad 13), .int pr, .ref (ad 14), .ref (ad 15), .ref (ad 16), .ref (ad 17), .int (nI wo), .ref (ad 18), .ref (ad 19)]) := (hf_1660 0 (by omega)).trans es1656
            refine hp_get hx hb hts ix12 hown hK hh (q := 0) rfl (hI.1 _ (by decide)) es1656_1661 rfl 2 (by decide) (hts _ tw_881) (fun _ h9 => h9) rfl dX12_multiply_16 ?_
            refine lv_icmp_ge (tgt := 117) hx hb dX12_multiply_19 (by decide) (fun c_1662 => ?_) (fun c_1662 => ?_)
            · have n_1662 : wd ≤ j1660 := n_le (a := wd) (b := j1660) c_1662 (by omega) (by omega)
              refine lv_iinc (v := (nI (j1657 + 1))) (lv' := [(3, .int (nI (j1657 + 1))), (4, .int (nI j1660)), (0, .ref (ad 0)), (1, .int (nI p9)), (2, .int (nI q9))]) hx hb dX12_multiply_117 hl (k := 1) rfl (nI_1 _) (by decide) rfl (fun ls hl => ?_)
              refine lv_goto (tgt := 2) hx hb dX12_multiply_120 (by decide) ?_
              exact ih_1657 ((j1657 + 1))  en_1660 ls H locs (by omega) (by omega) (by omega) hI_1660 hf_1660  (lv_sub hl [0, 2, 3, 4] rfl) hh
            · have n_1662 : j1660 < wd := n_nle (a := wd) (b := j1660) c_1662 (by omega) (by omega)
              refine lv_lconst (v := 0) hx hb dX12_multiply_22 (by decide) ?_
              refine lv_lstore (lv' := [(5, .long 0), (4, .int (nI j1660)), (3, .int (nI j1657)), (0, .ref (ad 0)), (1, .int (nI p9)), (2, .int (nI q9))]) hx hb dX12_multiply_23 hl (by decide) rfl (fun ls hl => ?_)
              refine lv_iconst (v := 0) hx hb dX12_multiply_25 (by decide) ?_
              refine lv_istore (lv' := [(7, .int 0), (5, .long 0), (4, .int (nI j1660)), (3, .int (nI j1657)), (0, .ref (ad 0)), (1, .int (nI p9)), (2, .int (nI q9))]) hx hb dX12_multiply_26 hl (by decide) rfl (fun ls hl => ?_)
              have loop_1663 : ∀ (fu j1663 : Nat) (ac1663 : Int64)  (ls : Array Slot) (H : Heap) (locs : List Loc), 0 ≤ j1663 → j1663 ≤ wd → wd < j1663 + fu →   lv_has ls 8 [(7, .int (nI j1663)), (5, .long ac1663), (4, .int (nI j1660)), (3, .int (nI j1657)), (0, .ref (ad 0)), (1, .int (nI p9)), (2, .int (nI q9))] → Hp D (Af cs ad sz) (Af cs ad sz) s.heap H locs cs ad en_1660 → W p l e (headSpec (Cond.code yX12_multiply cX12_multiply 8 none :: TB) (rmN 1)).room s m ([.ref (ad 0), .int (nI p9), .int (nI q9)] : List Value).toArray below meth c H locs 0 0 (MQ below (va_Qv (S := Nat → va_E) (fun en1 => RX cy cs ad en1 ∧ (∀ c, (c ≠ 6) → en1 c = en c)) (PostM D cs ad) (Af cs ad sz)) ([.ref (ad 0), .int (nI p9), .int (nI q9)] : List Value).toArray s 0 0 (Af cs ad sz)) (F0 m 28 ls []) := by
                intro fu
                induction fu with
                | zero => intro j1663 ac1663 ls H locs h0 h1 h2; exact absurd h2 (by omega)
                | succ fu ih_1663 =>
                  intro j1663 ac1663 ls H locs hj0_1663 hj_1663 hfu_1663  hl hh
                  refine lv_iload hx hb dX12_multiply_28 (lv_at hl 0 rfl) ?_
                  refine lv_aload_n hx hb dX12_multiply_30 rfl (lv_at hl 4 rfl) ?_
                  refine hp_get hx hb hts ix12 hown hK hh (q := 0) rfl (hI.1 _ (by decide)) es1656_1661 rfl 2 (by decide) (hts _ tw_881) (fun _ h9 => h9) rfl dX12_multiply_31 ?_
                  refine lv_icmp_ge (tgt := 88) hx hb dX12_multiply_34 (by decide) (fun c_1664 => ?_) (fun c_1664 => ?_)
                  · have n_1664 : wd ≤ j1663 := n_le (a := wd) (b := j1663) c_1664 (by omega) (by omega)
                    refine lv_aload_n hx hb dX12_multiply_88 rfl (lv_at hl 4 rfl) ?_
                    refine hp_get hx hb hts ix12 hown hK hh (q := 0) rfl (hI.1 _ (by decide)) es1656_1661 rfl 10 (by decide) (hts _ tw_889) (fun _ h9 => h9) rfl dX12_multiply_89 ?_
                    refine lv_bipush (v := 9) hx hb dX12_multiply_92 (by decide) ?_
                    refine lv_aload_n hx hb dX12_multiply_94 rfl (lv_at hl 4 rfl) ?_
                    refine hp_get hx hb hts ix12 hown hK hh (q := 0) rfl (hI.1 _ (by decide)) es1656_1661 rfl 2 (by decide) (hts _ tw_881) (fun _ h9 => h9) rfl dX12_multiply_95 ?_
                    refine lv_iload_n hx hb dX12_multiply_98 rfl (lv_at hl 3 rfl) ?_
                    refine lv_imul hx hb dX12_multiply_99 ?_
                    rw [pk_mul wd j1657]
                    refine lv_iadd hx hb dX12_multiply_100 ?_
                    rw [show (9 : Int32) = nI 9 from rfl, nI_add 9 (wd * j1657)]
                    refine lv_iload hx hb dX12_multiply_101 (lv_at hl 2 rfl) ?_
                    refine lv_iadd hx hb dX12_multiply_103 ?_
                    rw [nI_add (9 + (wd * j1657)) j1660]
                    refine lv_aload_n hx hb dX12_multiply_104 rfl (lv_at hl 4 rfl) ?_
                    refine lv_lload hx hb dX12_multiply_105 (lv_at hl 1 rfl) ?_
                    refine hp_callRl (va_runV (As := [.long ac1663]) (rest := [.int (nI ((9 + (wd * j1657)) + j1660)), .ref (ad 6)]) ⟨hx, hb, hml, hown, hts⟩ (c_X12_rest l D cy _ cs ad en_1660 hI_1660 ac1663 ) (kw_X12_rest hts tw_1054 ⟨by decide, by decide⟩) (preV_of hh hK (hI.1 _ (by decide)) es1656_1661 rfl) rfl rfl hl.1 rfl (lv_room (Nat.le_of_ble_eq_true rfl)) dX12_multiply_107 ⟨Nat.le_of_ble_eq_true rfl, Nat.le_of_ble_eq_true rfl⟩) hh hA (fun r_1665 H locs hw_1665 hh => ?_)
                    have hi_1666 : wd * j1657 + j1660 < 9 := mdr (by omega) (by omega) (by omega)
                    obtain ⟨f_1667, es1667⟩ := getr_lv hI_1660
                    refine hp_last hx hb hK hh (q := 6) rfl (hI.1 _ (by decide)) es1667 (vp_in_nI (n := ((9 + (wd * j1657)) + j1660)) (by omega) (by decide)) dX12_multiply_110 (fun H locs en_1668 hen_1668 hh => ?_)
                    rw [nI_clamp (n := ((9 + (wd * j1657)) + j1660)) (by omega)] at hen_1668
                    have es1656_1668 : en_1668 0 = .inr (11, [.int fa, .int hi, .int (nI wd), .int (nI mo), .int (nI tb), .ref (ad 1), .ref (ad 2), .ref (ad 3), .ref (ad 4), .ref (ad 5), .ref (ad 6), .ref (ad 7), .ref (ad 8), .ref (ad 9), .int dp, .long many, .long grt, .long lst, .long nou, .ref (ad 10), .ref (ad 11), .ref (ad 12), .int rm, .long rb, .ref (ad 13), .int pr, .ref (ad 14), .ref (ad 15), .ref (ad 16), .ref (ad 17), .int (nI wo), .ref (ad 18), .ref (ad 19)]) := by rw [hen_1668, va_up_ne _ _ (by decide)]; exact es1656_1661
                    have es1667_1668 : en_1668 6 = .inl (cy 1, 117, .inr (.inl (vp_updL f_1667 ((9 + (wd * j1657)) + j1660) r_1665))) := by rw [hen_1668]; exact va_up_self _ _ _
                    have hI_1668 : RX cy cs ad en_1668 := by rw [hen_1668]; exact upr_lv hI_1660 ⟨(vp_updL f_1667 ((9 + (wd * j1657)) + j1660) r_1665), rfl⟩
                    have hf_1668 : ∀ c, (c ≠ 6) → en_1668 c = en c := fun c hc => Eq.trans (show en_1668 c = en_1660 c from by rw [hen_1668, va_up_ne _ _ (by omega)]) (hf_1660 c hc)
                    refine lv_iinc (v := (nI (j1660 + 1))) (lv' := [(4, .int (nI (j1660 + 1))), (7, .int (nI j1663)), (5, .long ac1663), (3, .int (nI j1657)), (0, .ref (ad 0)), (1, .int (nI p9)), (2, .int (nI q9))]) hx hb dX12_multiply_111 hl (k := 2) rfl (nI_1 _) (by decide) rfl (fun ls hl => ?_)
                    refine lv_goto (tgt := 13) hx hb dX12_multiply_114 (by decide) ?_
                    exact ih_1660 ((j1660 + 1))  en_1668 ls H locs (by omega) (by omega) (by omega) hI_1668 hf_1668  (lv_sub hl [0, 3, 4, 5, 6] rfl) hh
                  · have n_1664 : j1663 < wd := n_nle (a := wd) (b := j1663) c_1664 (by omega) (by omega)
                    refine lv_lload hx hb dX12_multiply_37 (lv_at hl 1 rfl) ?_
                    refine lv_aload_n hx hb dX12_multiply_39 rfl (lv_at hl 4 rfl) ?_
                    refine hp_get hx hb hts ix12 hown hK hh (q := 0) rfl (hI.1 _ (by decide)) es1656_1661 rfl 26 (by decide) (hts _ tw_905) (fun _ h9 => h9) rfl dX12_multiply_40 ?_
                    refine lv_bipush (v := 9) hx hb dX12_multiply_43 (by decide) ?_
                    refine lv_iload_n hx hb dX12_multiply_45 rfl (lv_at hl 5 rfl) ?_
                    refine lv_imul hx hb dX12_multiply_46 ?_
                    rw [show (9 : Int32) = nI 9 from rfl, pk_mul 9 p9]
                    refine lv_aload_n hx hb dX12_multiply_47 rfl (lv_at hl 4 rfl) ?_
                    refine hp_get hx hb hts ix12 hown hK hh (q := 0) rfl (hI.1 _ (by decide)) es1656_1661 rfl 2 (by decide) (hts _ tw_881) (fun _ h9 => h9) rfl dX12_multiply_48 ?_
                    refine lv_iload_n hx hb dX12_multiply_51 rfl (lv_at hl 3 rfl) ?_
                    refine lv_imul hx hb dX12_multiply_52 ?_
                    rw [pk_mul wd j1657]
                    refine lv_iadd hx hb dX12_multiply_53 ?_
                    rw [nI_add (9 * p9) (wd * j1657)]
                    refine lv_iload hx hb dX12_multiply_54 (lv_at hl 0 rfl) ?_
                    refine lv_iadd hx hb dX12_multiply_56 ?_
                    rw [nI_add ((9 * p9) + (wd * j1657)) j1663]
                    have hi_1669 : wd * j1657 + j1663 < 9 := mdr (by omega) (by omega) (by omega)
                    obtain ⟨f_1670, es1670⟩ := getr_pd hI_1660
                    refine hp_lald hx hb hK hh (q := 14) rfl (hI.1 _ (by decide)) es1670 (vp_in_nI (n := (((9 * p9) + (wd * j1657)) + j1663)) (by omega) (by decide)) dX12_multiply_57 ?_
                    rw [nI_clamp (n := (((9 * p9) + (wd * j1657)) + j1663)) (by omega)]
                    refine lv_aload_n hx hb dX12_multiply_58 rfl (lv_at hl 4 rfl) ?_
                    refine hp_get hx hb hts ix12 hown hK hh (q := 0) rfl (hI.1 _ (by decide)) es1656_1661 rfl 26 (by decide) (hts _ tw_905) (fun _ h9 => h9) rfl dX12_multiply_59 ?_
                    refine lv_bipush (v := 9) hx hb dX12_multiply_62 (by decide) ?_
                    refine lv_iload_n hx hb dX12_multiply_64 rfl (lv_at hl 6 rfl) ?_
                    refine lv_imul hx hb dX12_multiply_65 ?_
                    rw [show (9 : Int32) = nI 9 from rfl, pk_mul 9 q9]
                    refine lv_aload_n hx hb dX12_multiply_66 rfl (lv_at hl 4 rfl) ?_
                    refine hp_get hx hb hts ix12 hown hK hh (q := 0) rfl (hI.1 _ (by decide)) es1656_1661 rfl 2 (by decide) (hts _ tw_881) (fun _ h9 => h9) rfl dX12_multiply_67 ?_
                    refine lv_iload hx hb dX12_multiply_70 (lv_at hl 0 rfl) ?_
                    refine lv_imul hx hb dX12_multiply_72 ?_
                    rw [pk_mul wd j1663]
                    refine lv_iadd hx hb dX12_multiply_73 ?_
                    rw [nI_add (9 * q9) (wd * j1663)]
                    refine lv_iload hx hb dX12_multiply_74 (lv_at hl 2 rfl) ?_
                    refine lv_iadd hx hb dX12_multiply_76 ?_
                    rw [nI_add ((9 * q9) + (wd * j1663)) j1660]
                    have hi_1671 : wd * j1663 + j1660 < 9 := mdr (by omega) (by omega) (by omega)
                    refine hp_lald hx hb hK hh (q := 14) rfl (hI.1 _ (by decide)) es1670 (vp_in_nI (n := (((9 * q9) + (wd * j1663)) + j1660)) (by omega) (by decide)) dX12_multiply_77 ?_
                    rw [nI_clamp (n := (((9 * q9) + (wd * j1663)) + j1660)) (by omega)]
                    refine lv_lmul hx hb dX12_multiply_78 ?_
                    refine lv_ladd hx hb dX12_multiply_79 ?_
                    refine lv_lstore (lv' := [(5, .long (ac1663 + ((f_1670 (((9 * p9) + (wd * j1657)) + j1663)) * (f_1670 (((9 * q9) + (wd * j1663)) + j1660))))), (7, .int (nI j1663)), (4, .int (nI j1660)), (3, .int (nI j1657)), (0, .ref (ad 0)), (1, .int (nI p9)), (2, .int (nI q9))]) hx hb dX12_multiply_80 hl (by decide) rfl (fun ls hl => ?_)
                    refine lv_iinc (v := (nI (j1663 + 1))) (lv' := [(7, .int (nI (j1663 + 1))), (5, .long (ac1663 + ((f_1670 (((9 * p9) + (wd * j1657)) + j1663)) * (f_1670 (((9 * q9) + (wd * j1663)) + j1660))))), (4, .int (nI j1660)), (3, .int (nI j1657)), (0, .ref (ad 0)), (1, .int (nI p9)), (2, .int (nI q9))]) hx hb dX12_multiply_82 hl (k := 1) rfl (nI_1 _) (by decide) rfl (fun ls hl => ?_)
                    refine lv_goto (tgt := 28) hx hb dX12_multiply_85 (by decide) ?_
                    exact ih_1663 ((j1663 + 1)) (ac1663 + ((f_1670 (((9 * p9) + (wd * j1657)) + j1663)) * (f_1670 (((9 * q9) + (wd * j1663)) + j1660)))) ls H locs (by omega) (by omega) (by omega)  (lv_sub hl [0, 1, 2, 3, 4, 5, 6] rfl) hh
              exact loop_1663 (wd + 1) 0 0 ls _ _ (Nat.le_refl _) (by omega) (by omega)  (lv_sub hl [0, 1, 2, 3, 4, 5, 6] rfl) hh
        exact loop_1660 (wd + 1) 0  en_1657 ls _ _ (Nat.le_refl _) (by omega) (by omega) hI_1657 hf_1657  (lv_sub hl [0, 1, 2, 3, 4] rfl) hh
  exact loop_1657 (wd + 1) 0  en ls _ _ (Nat.le_refl _) (by omega) (by omega) hI hf0  (lv_sub hl [0, 1, 2, 3] rfl) hh
theorem kw_X12_multiply {R : Room} {s : State} {args : Array Value} {own : String} {idx : Nat} (hts : ∀ w ∈ TB, w.before args s = true) (hl : Cond.methodLink own idx yX12_multiply ∈ TB) (hR : 1 + 1 ≤ R.frames ∧ 8 + (8 + 11) + 40 * 1 ≤ R.locals) : CallW R s args own RX12 idx yX12_multiply cX12_multiply 8 none (Cond.code yX12_multiply cX12_multiply 8 none :: TB) (rmN 1) 0 0 2 := cwV 2 hts (TB_V hl tw_1152 ts_56 tw_9 tw_1153) rfl rfl rfl (by decide +kernel) hR
set_option maxHeartbeats 4000000 in
set_option maxRecDepth 100000 in
/-- isNought -/
theorem c_X12_isNought (l : Launch) (D : va_G) (cy : Nat → ClassId) (sz : Nat) (cs : List Nat) (ad : Nat → Nat) (en : Nat → va_E) (hI : RX cy cs ad en) (p9 : Nat) (hp : p9 < 2001)   : Met l yX12_isNought (Cond.code yX12_isNought cX12_isNought 4 (some .boolean) :: TB) (rmN 0) (va_Pc [.ref (ad 0), .int (nI p9)] (Pre D cy cs ad en sz)) (va_Qi (S := Unit) (fun r _ => r = 0 ∨ r = 1) (fun _ _ => True) (Nf sz)) 0 0 (Nf sz) := by
  refine Met.ofW (cc := cX12_isNought) (maxL := 4) (ret := (some .boolean)) (by decide) rfl ?_
  intro p e s m args below meth c s₁ B hml hv
  obtain ⟨rfl, hsz, hP, hK, hD0⟩ := hv
  have hx := B.exec
  have hb := B.bytes
  have hr := B.returns
  have hts : ∀ w ∈ TB, w.before _ s = true := fun w h => atoms_spec (ws := _ :: TB) B.pre w (List.mem_cons_of_mem _ h)
  have hown : s.vm.findClass RX12 = some m.cls := findClass_of_methodNamed B.named
  have hlocks := B.notSynchronized
  have hh : Hp D (Nf sz) (fun _ => True) s.heap s.heap [] cs ad en := ⟨hP, hD0, va_S.rf⟩
  have hA : ∀ q : Nat, s.heap.size ≤ q → Nf sz q := fun q h => by rw [hsz] at h; exact h
  have hl := lv_entry ([.ref (ad 0), .int (nI p9)]) (n := 4) (Nat.le_of_ble_eq_true rfl)
  rw [lg_entry_eq]
  generalize (lg_sl ([.ref (ad 0), .int (nI p9)]) ++ List.replicate (4 - (lg_sl ([.ref (ad 0), .int (nI p9)])).length) Slot.unset).toArray = ls at hl ⊢
  have hl : lv_has ls 4 [(0, .ref (ad 0)), (1, .int (nI p9))] := hl
  obtain ⟨fa, hi, wd, mo, tb, dp, many, grt, lst, nou, rm, rb, pr, wo, es1672, hwd2, hwd3, hmo, htb, hwo⟩ := getr_M hI
  have hww : wd * wd ≤ 9 := mww (by omega)
  refine lv_iconst (v := 1) hx hb dX12_isNought_0 (by decide) ?_
  refine lv_istore_n (lv' := [(2, .int 1), (0, .ref (ad 0)), (1, .int (nI p9))]) hx hb dX12_isNought_1 rfl hl (by decide) rfl (fun ls hl => ?_)
  refine lv_iconst (v := 0) hx hb dX12_isNought_2 (by decide) ?_
  refine lv_istore_n (lv' := [(3, .int 0), (2, .int 1), (0, .ref (ad 0)), (1, .int (nI p9))]) hx hb dX12_isNought_3 rfl hl (by decide) rfl (fun ls hl => ?_)
  have loop_1673 : ∀ (fu j1673 : Nat) (no1673 : Int32)  (ls : Array Slot) (H : Heap) (locs : List Loc), 0 ≤ j1673 → j1673 ≤ (wd * wd) → (wd * wd) < j1673 + fu →  (no1673 = 0 ∨ no1673 = 1) → lv_has ls 4 [(3, .int (nI j1673)), (2, .int no1673), (0, .ref (ad 0)), (1, .int (nI p9))] → Hp D (Nf sz) (fun _ => True) s.heap H locs cs ad en → W p l e (headSpec (Cond.code yX12_isNought cX12_isNought 4 (some .boolean) :: TB) (rmN 0)).room s m ([.ref (ad 0), .int (nI p9)] : List Value).toArray below meth c H locs 0 0 (MQ below (va_Qi (S := Unit) (fun r _ => r = 0 ∨ r = 1) (fun _ _ => True) (Nf sz)) ([.ref (ad 0), .int (nI p9)] : List Value).toArray s 0 0 (Nf sz)) (F0 m 4 ls []) := by
    intro fu
    induction fu with
    | zero => intro j1673 no1673 ls H locs h0 h1 h2; exact absurd h2 (by omega)
    | succ fu ih_1673 =>
      intro j1673 no1673 ls H locs hj0_1673 hj_1673 hfu_1673 i0_1673 hl hh
      refine lv_iload_n hx hb dX12_isNought_4 rfl (lv_at hl 0 rfl) ?_
      refine lv_aload_n hx hb dX12_isNought_5 rfl (lv_at hl 2 rfl) ?_
      refine hp_get hx hb hts ix12 hown hK hh (q := 0) rfl (hI.1 _ (by decide)) es1672 rfl 2 (by decide) (hts _ tw_881) (fun _ h9 => h9) rfl dX12_isNought_6 ?_
      refine lv_aload_n hx hb dX12_isNought_9 rfl (lv_at hl 2 rfl) ?_
      refine hp_get hx hb hts ix12 hown hK hh (q := 0) rfl (hI.1 _ (by decide)) es1672 rfl 2 (by decide) (hts _ tw_881) (fun _ h9 => h9) rfl dX12_isNought_10 ?_
      refine lv_imul hx hb dX12_isNought_13 ?_
      rw [pk_mul wd wd]
      have hw2_1674 : wd * wd ≤ 9 := mww (by omega)
      refine lv_icmp_ge (tgt := 47) hx hb dX12_isNought_14 (by decide) (fun c_1675 => ?_) (fun c_1675 => ?_)
      · have n_1675 : (wd * wd) ≤ j1673 := n_le (a := (wd * wd)) (b := j1673) c_1675 (by omega) (by omega)
        refine lv_iload_n hx hb dX12_isNought_47 rfl (lv_at hl 1 rfl) ?_
        exact hp_iretR hx hb hr (nar_bit i0_1673) hlocks hsz hh (i0_1673) dX12_isNought_48
      · have n_1675 : j1673 < (wd * wd) := n_nle (a := (wd * wd)) (b := j1673) c_1675 (by omega) (by omega)
        refine lv_iload_n hx hb dX12_isNought_17 rfl (lv_at hl 1 rfl) ?_
        refine lv_aload_n hx hb dX12_isNought_18 rfl (lv_at hl 2 rfl) ?_
        refine hp_get hx hb hts ix12 hown hK hh (q := 0) rfl (hI.1 _ (by decide)) es1672 rfl 26 (by decide) (hts _ tw_905) (fun _ h9 => h9) rfl dX12_isNought_19 ?_
        refine lv_bipush (v := 9) hx hb dX12_isNought_22 (by decide) ?_
        refine lv_iload_n hx hb dX12_isNought_24 rfl (lv_at hl 3 rfl) ?_
        refine lv_imul hx hb dX12_isNought_25 ?_
        rw [show (9 : Int32) = nI 9 from rfl, pk_mul 9 p9]
        refine lv_iload_n hx hb dX12_isNought_26 rfl (lv_at hl 0 rfl) ?_
        refine lv_iadd hx hb dX12_isNought_27 ?_
        rw [nI_add (9 * p9) j1673]
        obtain ⟨f_1676, es1676⟩ := getr_pd hI
        refine hp_lald hx hb hK hh (q := 14) rfl (hI.1 _ (by decide)) es1676 (vp_in_nI (n := ((9 * p9) + j1673)) (by omega) (by decide)) dX12_isNought_28 ?_
        rw [nI_clamp (n := ((9 * p9) + j1673)) (by omega)]
        refine lv_lconst (v := 0) hx hb dX12_isNought_29 (by decide) ?_
        refine W.lcmp hx hb dX12_isNought_30 ?_
        refine lv_if_ne (tgt := 38) hx hb dX12_isNought_31 (by decide) (fun c_1677 => ?_) (fun c_1677 => ?_)
        · refine lv_iconst (v := 0) hx hb dX12_isNought_38 (by decide) ?_
          refine lv_iand hx hb dX12_isNought_39 ?_
          refine lv_istore_n (lv' := [(2, .int (no1673 &&& 0)), (3, .int (nI j1673)), (0, .ref (ad 0)), (1, .int (nI p9))]) hx hb dX12_isNought_40 rfl hl (by decide) rfl (fun ls hl => ?_)
          refine lv_iinc (v := (nI (j1673 + 1))) (lv' := [(3, .int (nI (j1673 + 1))), (2, .int (no1673 &&& 0)), (0, .ref (ad 0)), (1, .int (nI p9))]) hx hb dX12_isNought_41 hl (k := 1) rfl (nI_1 _) (by decide) rfl (fun ls hl => ?_)
          refine lv_goto (tgt := 4) hx hb dX12_isNought_44 (by decide) ?_
          exact ih_1673 ((j1673 + 1)) (no1673 &&& 0) ls H locs (by omega) (by omega) (by omega) (bit_and i0_1673 (by decide)) (lv_sub hl [0, 1, 2, 3] rfl) hh
        · refine lv_iconst (v := 1) hx hb dX12_isNought_34 (by decide) ?_
          refine lv_goto (tgt := 39) hx hb dX12_isNought_35 (by decide) ?_
          refine lv_iand hx hb dX12_isNought_39 ?_
          refine lv_istore_n (lv' := [(2, .int (no1673 &&& 1)), (3, .int (nI j1673)), (0, .ref (ad 0)), (1, .int (nI p9))]) hx hb dX12_isNought_40 rfl hl (by decide) rfl (fun ls hl => ?_)
          refine lv_iinc (v := (nI (j1673 + 1))) (lv' := [(3, .int (nI (j1673 + 1))), (2, .int (no1673 &&& 1)), (0, .ref (ad 0)), (1, .int (nI p9))]) hx hb dX12_isNought_41 hl (k := 1) rfl (nI_1 _) (by decide) rfl (fun ls hl => ?_)
          refine lv_goto (tgt := 4) hx hb dX12_isNought_44 (by decide) ?_
          exact ih_1673 ((j1673 + 1)) (no1673 &&& 1) ls H locs (by omega) (by omega) (by omega) (bit_and i0_1673 (by decide)) (lv_sub hl [0, 1, 2, 3] rfl) hh
  exact loop_1673 ((wd * wd) + 1) 0 1 ls _ _ (Nat.le_refl _) (by omega) (by omega) (by decide) (lv_sub hl [0, 1, 2, 3] rfl) hh
theorem kw_X12_isNought {R : Room} {s : State} {args : Array Value} {own : String} {idx : Nat} (hts : ∀ w ∈ TB, w.before args s = true) (hl : Cond.methodLink own idx yX12_isNought ∈ TB) (hR : 0 + 1 ≤ R.frames ∧ 8 + (4 + 11) + 40 * 0 ≤ R.locals) : CallW R s args own RX12 idx yX12_isNought cX12_isNought 4 (some .boolean) (Cond.code yX12_isNought cX12_isNought 4 (some .boolean) :: TB) (rmN 0) 0 0 1 := cwV 1 hts (TB_V hl tw_1144 ts_54 tw_9 tw_1145) rfl rfl rfl (by decide +kernel) hR
set_option maxHeartbeats 4000000 in
set_option maxRecDepth 100000 in
/-- isOne -/
theorem c_X12_isOne (l : Launch) (D : va_G) (cy : Nat → ClassId) (sz : Nat) (cs : List Nat) (ad : Nat → Nat) (en : Nat → va_E) (hI : RX cy cs ad en) (p9 : Nat) (hp : p9 < 2001)   : Met l yX12_isOne (Cond.code yX12_isOne cX12_isOne 5 (some .boolean) :: TB) (rmN 0) (va_Pc [.ref (ad 0), .int (nI p9)] (Pre D cy cs ad en sz)) (va_Qi (S := Unit) (fun r _ => r = 0 ∨ r = 1) (fun _ _ => True) (Nf sz)) 0 0 (Nf sz) := by
  refine Met.ofW (cc := cX12_isOne) (maxL := 5) (ret := (some .boolean)) (by decide) rfl ?_
  intro p e s m args below meth c s₁ B hml hv
  obtain ⟨rfl, hsz, hP, hK, hD0⟩ := hv
  have hx := B.exec
  have hb := B.bytes
  have hr := B.returns
  have hts : ∀ w ∈ TB, w.before _ s = true := fun w h => atoms_spec (ws := _ :: TB) B.pre w (List.mem_cons_of_mem _ h)
  have hown : s.vm.findClass RX12 = some m.cls := findClass_of_methodNamed B.named
  have hlocks := B.notSynchronized
  have hh : Hp D (Nf sz) (fun _ => True) s.heap s.heap [] cs ad en := ⟨hP, hD0, va_S.rf⟩
  have hA : ∀ q : Nat, s.heap.size ≤ q → Nf sz q := fun q h => by rw [hsz] at h; exact h
  have hl := lv_entry ([.ref (ad 0), .int (nI p9)]) (n := 5) (Nat.le_of_ble_eq_true rfl)
  rw [lg_entry_eq]
  generalize (lg_sl ([.ref (ad 0), .int (nI p9)]) ++ List.replicate (5 - (lg_sl ([.ref (ad 0), .int (nI p9)])).length) Slot.unset).toArray = ls at hl ⊢
  have hl : lv_has ls 5 [(0, .ref (ad 0)), (1, .int (nI p9))] := hl
  obtain ⟨fa, hi, wd, mo, tb, dp, many, grt, lst, nou, rm, rb, pr, wo, es1678, hwd2, hwd3, hmo, htb, hwo⟩ := getr_M hI
  refine lv_iconst (v := 1) hx hb dX12_isOne_0 (by decide) ?_
  refine lv_istore_n (lv' := [(2, .int 1), (0, .ref (ad 0)), (1, .int (nI p9))]) hx hb dX12_isOne_1 rfl hl (by decide) rfl (fun ls hl => ?_)
  refine lv_iconst (v := 0) hx hb dX12_isOne_2 (by decide) ?_
  refine lv_istore_n (lv' := [(3, .int 0), (2, .int 1), (0, .ref (ad 0)), (1, .int (nI p9))]) hx hb dX12_isOne_3 rfl hl (by decide) rfl (fun ls hl => ?_)
  have loop_1679 : ∀ (fu j1679 : Nat) (no1679 : Int32)  (ls : Array Slot) (H : Heap) (locs : List Loc), 0 ≤ j1679 → j1679 ≤ wd → wd < j1679 + fu →  (no1679 = 0 ∨ no1679 = 1) → lv_has ls 5 [(3, .int (nI j1679)), (2, .int no1679), (0, .ref (ad 0)), (1, .int (nI p9))] → Hp D (Nf sz) (fun _ => True) s.heap H locs cs ad en → W p l e (headSpec (Cond.code yX12_isOne cX12_isOne 5 (some .boolean) :: TB) (rmN 0)).room s m ([.ref (ad 0), .int (nI p9)] : List Value).toArray below meth c H locs 0 0 (MQ below (va_Qi (S := Unit) (fun r _ => r = 0 ∨ r = 1) (fun _ _ => True) (Nf sz)) ([.ref (ad 0), .int (nI p9)] : List Value).toArray s 0 0 (Nf sz)) (F0 m 4 ls []) := by
    intro fu
    induction fu with
    | zero => intro j1679 no1679 ls H locs h0 h1 h2; exact absurd h2 (by omega)
    | succ fu ih_1679 =>
      intro j1679 no1679 ls H locs hj0_1679 hj_1679 hfu_1679 i0_1679 hl hh
      refine lv_iload_n hx hb dX12_isOne_4 rfl (lv_at hl 0 rfl) ?_
      refine lv_aload_n hx hb dX12_isOne_5 rfl (lv_at hl 2 rfl) ?_
      refine hp_get hx hb hts ix12 hown hK hh (q := 0) rfl (hI.1 _ (by decide)) es1678 rfl 2 (by decide) (hts _ tw_881) (fun _ h9 => h9) rfl dX12_isOne_6 ?_
      refine lv_icmp_ge (tgt := 78) hx hb dX12_isOne_9 (by decide) (fun c_1680 => ?_) (fun c_1680 => ?_)
      · have n_1680 : wd ≤ j1679 := n_le (a := wd) (b := j1679) c_1680 (by omega) (by omega)
        refine lv_iload_n hx hb dX12_isOne_78 rfl (lv_at hl 1 rfl) ?_
        exact hp_iretR hx hb hr (nar_bit i0_1679) hlocks hsz hh (i0_1679) dX12_isOne_79
      · have n_1680 : j1679 < wd := n_nle (a := wd) (b := j1679) c_1680 (by omega) (by omega)
        refine lv_iconst (v := 0) hx hb dX12_isOne_12 (by decide) ?_
        refine lv_istore (lv' := [(4, .int 0), (3, .int (nI j1679)), (2, .int no1679), (0, .ref (ad 0)), (1, .int (nI p9))]) hx hb dX12_isOne_13 hl (by decide) rfl (fun ls hl => ?_)
        have loop_1681 : ∀ (fu j1681 : Nat) (no1681 : Int32)  (ls : Array Slot) (H : Heap) (locs : List Loc), 0 ≤ j1681 → j1681 ≤ wd → wd < j1681 + fu →  (no1681 = 0 ∨ no1681 = 1) → lv_has ls 5 [(4, .int (nI j1681)), (3, .int (nI j1679)), (2, .int no1681), (0, .ref (ad 0)), (1, .int (nI p9))] → Hp D (Nf sz) (fun _ => True) s.heap H locs cs ad en → W p l e (headSpec (Cond.code yX12_isOne cX12_isOne 5 (some .boolean) :: TB) (rmN 0)).room s m ([.ref (ad 0), .int (nI p9)] : List Value).toArray below meth c H locs 0 0 (MQ below (va_Qi (S := Unit) (fun r _ => r = 0 ∨ r = 1) (fun _ _ => True) (Nf sz)) ([.ref (ad 0), .int (nI p9)] : List Value).toArray s 0 0 (Nf sz)) (F0 m 15 ls []) := by
          intro fu
          induction fu with
          | zero => intro j1681 no1681 ls H locs h0 h1 h2; exact absurd h2 (by omega)
          | succ fu ih_1681 =>
            intro j1681 no1681 ls H locs hj0_1681 hj_1681 hfu_1681 i0_1681 hl hh
            refine lv_iload hx hb dX12_isOne_15 (lv_at hl 0 rfl) ?_
            refine lv_aload_n hx hb dX12_isOne_17 rfl (lv_at hl 3 rfl) ?_
            refine hp_get hx hb hts ix12 hown hK hh (q := 0) rfl (hI.1 _ (by decide)) es1678 rfl 2 (by decide) (hts _ tw_881) (fun _ h9 => h9) rfl dX12_isOne_18 ?_
            refine lv_icmp_ge (tgt := 72) hx hb dX12_isOne_21 (by decide) (fun c_1682 => ?_) (fun c_1682 => ?_)
            · have n_1682 : wd ≤ j1681 := n_le (a := wd) (b := j1681) c_1682 (by omega) (by omega)
              refine lv_iinc (v := (nI (j1679 + 1))) (lv' := [(3, .int (nI (j1679 + 1))), (4, .int (nI j1681)), (2, .int no1681), (0, .ref (ad 0)), (1, .int (nI p9))]) hx hb dX12_isOne_72 hl (k := 1) rfl (nI_1 _) (by decide) rfl (fun ls hl => ?_)
              refine lv_goto (tgt := 4) hx hb dX12_isOne_75 (by decide) ?_
              exact ih_1679 ((j1679 + 1)) no1681 ls H locs (by omega) (by omega) (by omega) (i0_1681) (lv_sub hl [0, 2, 3, 4] rfl) hh
            · have n_1682 : j1681 < wd := n_nle (a := wd) (b := j1681) c_1682 (by omega) (by omega)
              refine lv_iload_n hx hb dX12_isOne_24 rfl (lv_at hl 2 rfl) ?_
              refine lv_aload_n hx hb dX12_isOne_25 rfl (lv_at hl 3 rfl) ?_
              refine hp_get hx hb hts ix12 hown hK hh (q := 0) rfl (hI.1 _ (by decide)) es1678 rfl 26 (by decide) (hts _ tw_905) (fun _ h9 => h9) rfl dX12_isOne_26 ?_
              refine lv_bipush (v := 9) hx hb dX12_isOne_29 (by decide) ?_
              refine lv_iload_n hx hb dX12_isOne_31 rfl (lv_at hl 4 rfl) ?_
              refine lv_imul hx hb dX12_isOne_32 ?_
              rw [show (9 : Int32) = nI 9 from rfl, pk_mul 9 p9]
              refine lv_aload_n hx hb dX12_isOne_33 rfl (lv_at hl 3 rfl) ?_
              refine hp_get hx hb hts ix12 hown hK hh (q := 0) rfl (hI.1 _ (by decide)) es1678 rfl 2 (by decide) (hts _ tw_881) (fun _ h9 => h9) rfl dX12_isOne_34 ?_
              refine lv_iload_n hx hb dX12_isOne_37 rfl (lv_at hl 1 rfl) ?_
              refine lv_imul hx hb dX12_isOne_38 ?_
              rw [pk_mul wd j1679]
              refine lv_iadd hx hb dX12_isOne_39 ?_
              rw [nI_add (9 * p9) (wd * j1679)]
              refine lv_iload hx hb dX12_isOne_40 (lv_at hl 0 rfl) ?_
              refine lv_iadd hx hb dX12_isOne_42 ?_
              rw [nI_add ((9 * p9) + (wd * j1679)) j1681]
              have hi_1683 : wd * j1679 + j1681 < 9 := mdr (by omega) (by omega) (by omega)
              obtain ⟨f_1684, es1684⟩ := getr_pd hI
              refine hp_lald hx hb hK hh (q := 14) rfl (hI.1 _ (by decide)) es1684 (vp_in_nI (n := (((9 * p9) + (wd * j1679)) + j1681)) (by omega) (by decide)) dX12_isOne_43 ?_
              rw [nI_clamp (n := (((9 * p9) + (wd * j1679)) + j1681)) (by omega)]
              refine lv_iload_n hx hb dX12_isOne_44 rfl (lv_at hl 1 rfl) ?_
              refine lv_iload hx hb dX12_isOne_45 (lv_at hl 0 rfl) ?_
              refine lv_icmp_ne (tgt := 54) hx hb dX12_isOne_47 (by decide) (fun c_1685 => ?_) (fun c_1685 => ?_)
              · have n_1685 : j1679 ≠ j1681 := n_neq (a := j1679) (b := j1681) c_1685 (by omega) (by omega)
                refine lv_lconst (v := 0) hx hb dX12_isOne_54 (by decide) ?_
                refine W.lcmp hx hb dX12_isOne_55 ?_
                refine lv_if_ne (tgt := 63) hx hb dX12_isOne_56 (by decide) (fun c_1686 => ?_) (fun c_1686 => ?_)
                · refine lv_iconst (v := 0) hx hb dX12_isOne_63 (by decide) ?_
                  refine lv_iand hx hb dX12_isOne_64 ?_
                  refine lv_istore_n (lv' := [(2, .int (no1681 &&& 0)), (4, .int (nI j1681)), (3, .int (nI j1679)), (0, .ref (ad 0)), (1, .int (nI p9))]) hx hb dX12_isOne_65 rfl hl (by decide) rfl (fun ls hl => ?_)
                  refine lv_iinc (v := (nI (j1681 + 1))) (lv' := [(4, .int (nI (j1681 + 1))), (2, .int (no1681 &&& 0)), (3, .int (nI j1679)), (0, .ref (ad 0)), (1, .int (nI p9))]) hx hb dX12_isOne_66 hl (k := 1) rfl (nI_1 _) (by decide) rfl (fun ls hl => ?_)
                  refine lv_goto (tgt := 15) hx hb dX12_isOne_69 (by decide) ?_
                  exact ih_1681 ((j1681 + 1)) (no1681 &&& 0) ls H locs (by omega) (by omega) (by omega) (bit_and i0_1681 (by decide)) (lv_sub hl [0, 2, 1, 3, 4] rfl) hh
                · refine lv_iconst (v := 1) hx hb dX12_isOne_59 (by decide) ?_
                  refine lv_goto (tgt := 64) hx hb dX12_isOne_60 (by decide) ?_
                  refine lv_iand hx hb dX12_isOne_64 ?_
                  refine lv_istore_n (lv' := [(2, .int (no1681 &&& 1)), (4, .int (nI j1681)), (3, .int (nI j1679)), (0, .ref (ad 0)), (1, .int (nI p9))]) hx hb dX12_isOne_65 rfl hl (by decide) rfl (fun ls hl => ?_)
                  refine lv_iinc (v := (nI (j1681 + 1))) (lv' := [(4, .int (nI (j1681 + 1))), (2, .int (no1681 &&& 1)), (3, .int (nI j1679)), (0, .ref (ad 0)), (1, .int (nI p9))]) hx hb dX12_isOne_66 hl (k := 1) rfl (nI_1 _) (by decide) rfl (fun ls hl => ?_)
                  refine lv_goto (tgt := 15) hx hb dX12_isOne_69 (by decide) ?_
                  exact ih_1681 ((j1681 + 1)) (no1681 &&& 1) ls H locs (by omega) (by omega) (by omega) (bit_and i0_1681 (by decide)) (lv_sub hl [0, 2, 1, 3, 4] rfl) hh
              · have n_1685 : j1679 = j1681 := n_eq (a := j1679) (b := j1681) c_1685 (by omega) (by omega)
                refine lv_lconst (v := 1) hx hb dX12_isOne_50 (by decide) ?_
                refine lv_goto (tgt := 55) hx hb dX12_isOne_51 (by decide) ?_
                refine W.lcmp hx hb dX12_isOne_55 ?_
                refine lv_if_ne (tgt := 63) hx hb dX12_isOne_56 (by decide) (fun c_1687 => ?_) (fun c_1687 => ?_)
                · refine lv_iconst (v := 0) hx hb dX12_isOne_63 (by decide) ?_
                  refine lv_iand hx hb dX12_isOne_64 ?_
                  refine lv_istore_n (lv' := [(2, .int (no1681 &&& 0)), (4, .int (nI j1681)), (3, .int (nI j1679)), (0, .ref (ad 0)), (1, .int (nI p9))]) hx hb dX12_isOne_65 rfl hl (by decide) rfl (fun ls hl => ?_)
                  refine lv_iinc (v := (nI (j1681 + 1))) (lv' := [(4, .int (nI (j1681 + 1))), (2, .int (no1681 &&& 0)), (3, .int (nI j1679)), (0, .ref (ad 0)), (1, .int (nI p9))]) hx hb dX12_isOne_66 hl (k := 1) rfl (nI_1 _) (by decide) rfl (fun ls hl => ?_)
                  refine lv_goto (tgt := 15) hx hb dX12_isOne_69 (by decide) ?_
                  exact ih_1681 ((j1681 + 1)) (no1681 &&& 0) ls H locs (by omega) (by omega) (by omega) (bit_and i0_1681 (by decide)) (lv_sub hl [0, 2, 1, 3, 4] rfl) hh
                · refine lv_iconst (v := 1) hx hb dX12_isOne_59 (by decide) ?_
                  refine lv_goto (tgt := 64) hx hb dX12_isOne_60 (by decide) ?_
                  refine lv_iand hx hb dX12_isOne_64 ?_
                  refine lv_istore_n (lv' := [(2, .int (no1681 &&& 1)), (4, .int (nI j1681)), (3, .int (nI j1679)), (0, .ref (ad 0)), (1, .int (nI p9))]) hx hb dX12_isOne_65 rfl hl (by decide) rfl (fun ls hl => ?_)
                  refine lv_iinc (v := (nI (j1681 + 1))) (lv' := [(4, .int (nI (j1681 + 1))), (2, .int (no1681 &&& 1)), (3, .int (nI j1679)), (0, .ref (ad 0)), (1, .int (nI p9))]) hx hb dX12_isOne_66 hl (k := 1) rfl (nI_1 _) (by decide) rfl (fun ls hl => ?_)
                  refine lv_goto (tgt := 15) hx hb dX12_isOne_69 (by decide) ?_
                  exact ih_1681 ((j1681 + 1)) (no1681 &&& 1) ls H locs (by omega) (by omega) (by omega) (bit_and i0_1681 (by decide)) (lv_sub hl [0, 2, 1, 3, 4] rfl) hh
        exact loop_1681 (wd + 1) 0 no1679 ls _ _ (Nat.le_refl _) (by omega) (by omega) (i0_1679) (lv_sub hl [0, 1, 2, 3, 4] rfl) hh
  exact loop_1679 (wd + 1) 0 1 ls _ _ (Nat.le_refl _) (by omega) (by omega) (by decide) (lv_sub hl [0, 1, 2, 3] rfl) hh
theorem kw_X12_isOne {R : Room} {s : State} {args : Array Value} {own : String} {idx : Nat} (hts : ∀ w ∈ TB, w.before args s = true) (hl : Cond.methodLink own idx yX12_isOne ∈ TB) (hR : 0 + 1 ≤ R.frames ∧ 8 + (5 + 11) + 40 * 0 ≤ R.locals) : CallW R s args own RX12 idx yX12_isOne cX12_isOne 5 (some .boolean) (Cond.code yX12_isOne cX12_isOne 5 (some .boolean) :: TB) (rmN 0) 0 0 1 := cwV 1 hts (TB_V hl tw_1148 ts_55 tw_9 tw_1149) rfl rfl rfl (by decide +kernel) hR
set_option maxHeartbeats 4000000 in
set_option maxRecDepth 100000 in
/-- close -/
theorem c_X12_close (l : Launch) (D : va_G) (cy : Nat → ClassId) (sz : Nat) (cs : List Nat) (ad : Nat → Nat) (en : Nat → va_E) (hI : RX cy cs ad en) (hCX : CHX en)   : Met l yX12_close (Cond.code yX12_close cX12_close 4 (some .int) :: TB) (rmN 3) (va_Pc [.ref (ad 0)] (Pre D cy cs ad en sz)) (va_Qi (S := Nat → va_E) (fun r en1 => RX cy cs ad en1 ∧ (∀ c, (c ≠ 0 ∧ c ≠ 6 ∧ c ≠ 14 ∧ c ≠ 15 ∧ c ≠ 16 ∧ c ≠ 17) → en1 c = en c) ∧ CHX en1 ∧ KPp en en1) (PostM D cs ad) (Af cs ad sz)) 0 0 (Af cs ad sz) := by
  refine Met.ofW (cc := cX12_close) (maxL := 4) (ret := (some .int)) (by decide) rfl ?_
  intro p e s m args below meth c s₁ B hml hv
  obtain ⟨rfl, hsz, hP, hK, hD0⟩ := hv
  have hx := B.exec
  have hb := B.bytes
  have hr := B.returns
  have hts : ∀ w ∈ TB, w.before _ s = true := fun w h => atoms_spec (ws := _ :: TB) B.pre w (List.mem_cons_of_mem _ h)
  have hown : s.vm.findClass RX12 = some m.cls := findClass_of_methodNamed B.named
  have hlocks := B.notSynchronized
  have hh : Hp D (Af cs ad sz) (Af cs ad sz) s.heap s.heap [] cs ad en := ⟨hP, Af_self hD0, va_S.rf⟩
  have hA : ∀ q : Nat, s.heap.size ≤ q → Af cs ad sz q := fun q h => Or.inr (by rw [hsz] at h; exact h)
  have hl := lv_entry ([.ref (ad 0)]) (n := 4) (Nat.le_of_ble_eq_true rfl)
  rw [lg_entry_eq]
  generalize (lg_sl ([.ref (ad 0)]) ++ List.replicate (4 - (lg_sl ([.ref (ad 0)])).length) Slot.unset).toArray = ls at hl ⊢
  have hl : lv_has ls 4 [(0, .ref (ad 0))] := hl
  have hf0 : ∀ c, (c ≠ 0 ∧ c ≠ 6 ∧ c ≠ 14 ∧ c ≠ 15 ∧ c ≠ 16 ∧ c ≠ 17) → en c = en c := fun _ _ => rfl
  obtain ⟨fa, hi, wd, mo, tb, dp, many, grt, lst, nou, rm, rb, pr, wo, es1688, hwd2, hwd3, hmo, htb, hwo⟩ := getr_M hI
  refine lv_aload_n hx hb dX12_close_0 rfl (lv_at hl 0 rfl) ?_
  refine hp_get hx hb hts ix12 hown hK hh (q := 0) rfl (hI.1 _ (by decide)) es1688 rfl 4 (by decide) (hts _ tw_883) (fun _ h9 => h9) rfl dX12_close_1 ?_
  refine lv_if_ne (tgt := 10) hx hb dX12_close_4 (by decide) (fun c_1689 => ?_) (fun c_1689 => ?_)
  · have n_1689 : tb ≠ 0 := n_neq (a := tb) (b := 0) c_1689 (by omega) (by decide)
    refine lv_aload_n hx hb dX12_close_10 rfl (lv_at hl 0 rfl) ?_
    refine lv_iconst (v := 0) hx hb dX12_close_11 (by decide) ?_
    refine hp_put hx hb hts ix12 tyX12 tyX12_ok nmX12 hown hK hh (q := 0) rfl (hI.1 _ (by decide)) es1688 rfl 25 (by decide) (hts _ tw_904) (fun _ h9 => h9) rfl (ty := .int) (by decide +kernel) rfl rfl (Nat.le_of_ble_eq_true rfl) dX12_close_12 (fun H locs en_1690 hen_1690 hh => ?_)
    have es1688_1690 : en_1690 0 = .inr (11, [.int fa, .int hi, .int (nI wd), .int (nI mo), .int (nI tb), .ref (ad 1), .ref (ad 2), .ref (ad 3), .ref (ad 4), .ref (ad 5), .ref (ad 6), .ref (ad 7), .ref (ad 8), .ref (ad 9), .int dp, .long many, .long grt, .long lst, .long nou, .ref (ad 10), .ref (ad 11), .ref (ad 12), .int rm, .long rb, .ref (ad 13), .int 0, .ref (ad 14), .ref (ad 15), .ref (ad 16), .ref (ad 17), .int (nI wo), .ref (ad 18), .ref (ad 19)]) := by rw [hen_1690]; exact va_up_self _ _ _
    have hI_1690 : RX cy cs ad en_1690 := by rw [hen_1690]; exact upr_M hI ⟨fa, hi, wd, mo, tb, dp, many, grt, lst, nou, rm, rb, 0, wo, rfl, hwd2, hwd3, hmo, htb, hwo⟩
    have hf_1690 : ∀ c, (c ≠ 0 ∧ c ≠ 6 ∧ c ≠ 14 ∧ c ≠ 15 ∧ c ≠ 16 ∧ c ≠ 17) → en_1690 c = en c := fun c hc => Eq.trans (show en_1690 c = en c from by rw [hen_1690, va_up_ne _ _ (by omega)]) (hf0 c hc)
    have hkp_1690 : KPp en en_1690 := KPp_fv (KPp_rf en) es1688 es1688_1690 hi (nI wd) (nI mo) (nI tb) (nI wo) rfl rfl rfl rfl rfl rfl rfl rfl rfl rfl
    refine lv_iconst (v := 0) hx hb dX12_close_15 (by decide) ?_
    refine lv_istore_n (lv' := [(1, .int 0), (0, .ref (ad 0))]) hx hb dX12_close_16 rfl hl (by decide) rfl (fun ls hl => ?_)
    have loop_1691 : ∀ (fu j1691 : Nat)  (en_1691 : Nat → va_E) (ls : Array Slot) (H : Heap) (locs : List Loc), 0 ≤ j1691 → j1691 ≤ 4096 → 4096 < j1691 + fu → RX cy cs ad en_1691 → (∀ c, (c ≠ 0 ∧ c ≠ 6 ∧ c ≠ 14 ∧ c ≠ 15 ∧ c ≠ 16 ∧ c ≠ 17) → en_1691 c = en c) → (∀ i, i < j1691 → rdF (en_1691 16) i = -9) → (rdI (en_1691 0) 25 = nI 0) → (KPp en en_1691) → lv_has ls 4 [(1, .int (nI j1691)), (0, .ref (ad 0))] → Hp D (Af cs ad sz) (Af cs ad sz) s.heap H locs cs ad en_1691 → W p l e (headSpec (Cond.code yX12_close cX12_close 4 (some .int) :: TB) (rmN 3)).room s m ([.ref (ad 0)] : List Value).toArray below meth c H locs 0 0 (MQ below (va_Qi (S := Nat → va_E) (fun r en1 => RX cy cs ad en1 ∧ (∀ c, (c ≠ 0 ∧ c ≠ 6 ∧ c ≠ 14 ∧ c ≠ 15 ∧ c ≠ 16 ∧ c ≠ 17) → en1 c = en c) ∧ CHX en1 ∧ KPp en en1) (PostM D cs ad) (Af cs ad sz)) ([.ref (ad 0)] : List Value).toArray s 0 0 (Af cs ad sz)) (F0 m 17 ls []) := by
      intro fu
      induction fu with
      | zero => intro j1691  en_1691 ls H locs h0 h1 h2; exact absurd h2 (by omega)
      | succ fu ih_1691 =>
        intro j1691  en_1691 ls H locs hj0_1691 hj_1691 hfu_1691 hI_1691 hf_1691 i0_1691 i1_1691 i2_1691 hl hh
        refine lv_iload_n hx hb dX12_close_17 rfl (lv_at hl 0 rfl) ?_
        refine lv_sipush (v := 4096) hx hb dX12_close_18 (by decide) ?_
        refine lv_icmp_ge (tgt := 38) hx hb dX12_close_21 (by decide) (fun c_1692 => ?_) (fun c_1692 => ?_)
        · have n_1692 : 4096 ≤ j1691 := n_le (a := 4096) (b := j1691) c_1692 (by decide) (by omega)
          have hCH0 : CH en_1691 0 := CH_0 i1_1691 (fun i hi => i0_1691 i (by omega))
          refine lv_iconst (v := 1) hx hb dX12_close_38 (by decide) ?_
          refine lv_istore_n (lv' := [(1, .int 1), (0, .ref (ad 0))]) hx hb dX12_close_39 rfl hl (by decide) rfl (fun ls hl => ?_)
          refine lv_aload_n hx hb dX12_close_40 rfl (lv_at hl 1 rfl) ?_
          obtain ⟨fa_1693, hi_1693, wd_1693, mo_1693, tb_1693, dp_1693, many_1693, grt_1693, lst_1693, nou_1693, rm_1693, rb_1693, pr_1693, wo_1693, es1693, p0_1693, p1_1693, p2_1693, p3_1693, p4_1693⟩ := getr_M hI_1691
          have hfx_1694 : pr_1693 = nI 0 := (show pr_1693 = rdI (en_1691 0) 25 from by rw [es1693]; rfl).trans (i1_1691)
          rw [hfx_1694] at es1693
          have hq2_1695 : wd_1693 = wd := n_eq ((show nI wd_1693 = rdI (en_1691 0) 2 from by rw [es1693]; rfl).trans (i2_1691.2.1.trans (show rdI (en 0) 2 = nI wd from by rw [es1688]; rfl))) (by omega) (by omega)
          have hq3_1695 : mo_1693 = mo := n_eq ((show nI mo_1693 = rdI (en_1691 0) 3 from by rw [es1693]; rfl).trans (i2_1691.2.2.1.trans (show rdI (en 0) 3 = nI mo from by rw [es1688]; rfl))) (by omega) (by omega)
          have hq4_1695 : tb_1693 = tb := n_eq ((show nI tb_1693 = rdI (en_1691 0) 4 from by rw [es1693]; rfl).trans (i2_1691.2.2.2.1.trans (show rdI (en 0) 4 = nI tb from by rw [es1688]; rfl))) (by omega) (by omega)
          have hq30_1695 : wo_1693 = wo := n_eq ((show nI wo_1693 = rdI (en_1691 0) 30 from by rw [es1693]; rfl).trans (i2_1691.2.2.2.2.trans (show rdI (en 0) 30 = nI wo from by rw [es1688]; rfl))) (by omega) (by omega)
          rw [hq2_1695, hq3_1695, hq4_1695, hq30_1695] at es1693
          refine hp_callMv (va_runV (As := []) (rest := []) ⟨hx, hb, hml, hown, hts⟩ (c_X12_beginLevels l D cy _ cs ad en_1691 hI_1691  ) (kw_X12_beginLevels hts tw_1042 ⟨by decide, by decide⟩) (preV_of hh hK (hI.1 _ (by decide)) es1693 rfl) rfl rfl hl.1 rfl (lv_room (Nat.le_of_ble_eq_true rfl)) dX12_close_41 ⟨Nat.le_of_ble_eq_true rfl, Nat.le_of_ble_eq_true rfl⟩) hh hA (fun H locs en_1696 hw_1696 hh => ?_)
          obtain ⟨hI_1696, hu_1696⟩ := hw_1696
          have es1693_1696 : en_1696 0 = .inr (11, [.int fa_1693, .int hi_1693, .int (nI wd), .int (nI mo), .int (nI tb), .ref (ad 1), .ref (ad 2), .ref (ad 3), .ref (ad 4), .ref (ad 5), .ref (ad 6), .ref (ad 7), .ref (ad 8), .ref (ad 9), .int dp_1693, .long many_1693, .long grt_1693, .long lst_1693, .long nou_1693, .ref (ad 10), .ref (ad 11), .ref (ad 12), .int rm_1693, .long rb_1693, .ref (ad 13), .int (nI 0), .ref (ad 14), .ref (ad 15), .ref (ad 16), .ref (ad 17), .int (nI wo), .ref (ad 18), .ref (ad 19)]) := (hu_1696 0 (by omega)).trans es1693
          have hf_1696 : ∀ c, (c ≠ 0 ∧ c ≠ 6 ∧ c ≠ 14 ∧ c ≠ 15 ∧ c ≠ 16 ∧ c ≠ 17) → en_1696 c = en c := fun c hc => (hu_1696 c (by omega)).trans (hf_1691 c hc)
          have hkp_1696 : KPp en en_1696 := KPp_same i2_1691 (hu_1696 0 (by omega))
          have hcq_1696 := CH_keep (e1 := en_1696) hCH0 (by rw [hu_1696 0 (by omega)]) (hu_1696 16 (by omega)) (hu_1696 17 (by omega))
          refine lv_iconst (v := 0) hx hb dX12_close_44 (by decide) ?_
          refine lv_istore_n (lv' := [(2, .int 0), (1, .int 1), (0, .ref (ad 0))]) hx hb dX12_close_45 rfl hl (by decide) rfl (fun ls hl => ?_)
          have loop_1697 : ∀ (fu j1697 : Nat) (my1697 : Int32) (en_1697 : Nat → va_E) (ls : Array Slot) (H : Heap) (locs : List Loc), 0 ≤ j1697 → j1697 ≤ 6 → 6 < j1697 + fu → RX cy cs ad en_1697 → (∀ c, (c ≠ 0 ∧ c ≠ 6 ∧ c ≠ 14 ∧ c ≠ 15 ∧ c ≠ 16 ∧ c ≠ 17) → en_1697 c = en c) → (∃ P, CH en_1697 P ∧ (j1697 = 0 ∨ my1697 = 0 ∨ 1 ≤ P)) → (KPp en en_1697) → lv_has ls 4 [(2, .int (nI j1697)), (1, .int my1697), (0, .ref (ad 0))] → Hp D (Af cs ad sz) (Af cs ad sz) s.heap H locs cs ad en_1697 → W p l e (headSpec (Cond.code yX12_close cX12_close 4 (some .int) :: TB) (rmN 3)).room s m ([.ref (ad 0)] : List Value).toArray below meth c H locs 0 0 (MQ below (va_Qi (S := Nat → va_E) (fun r en1 => RX cy cs ad en1 ∧ (∀ c, (c ≠ 0 ∧ c ≠ 6 ∧ c ≠ 14 ∧ c ≠ 15 ∧ c ≠ 16 ∧ c ≠ 17) → en1 c = en c) ∧ CHX en1 ∧ KPp en en1) (PostM D cs ad) (Af cs ad sz)) ([.ref (ad 0)] : List Value).toArray s 0 0 (Af cs ad sz)) (F0 m 46 ls []) := by
            intro fu
            induction fu with
            | zero => intro j1697 my1697 en_1697 ls H locs h0 h1 h2; exact absurd h2 (by omega)
            | succ fu ih_1697 =>
              intro j1697 my1697 en_1697 ls H locs hj0_1697 hj_1697 hfu_1697 hI_1697 hf_1697 i0_1697 i1_1697 hl hh
              obtain ⟨P_1697, hCH_1697, hPx_1697⟩ := i0_1697
              have hPb_1697 := hCH_1697.1
              refine lv_iload_n hx hb dX12_close_46 rfl (lv_at hl 0 rfl) ?_
              refine lv_aload_n hx hb dX12_close_47 rfl (lv_at hl 2 rfl) ?_
              obtain ⟨fa_1698, hi_1698, wd_1698, mo_1698, tb_1698, dp_1698, many_1698, grt_1698, lst_1698, nou_1698, rm_1698, rb_1698, pr_1698, wo_1698, es1698, p0_1698, p1_1698, p2_1698, p3_1698, p4_1698⟩ := getr_M hI_1697
              have hfx_1699 : pr_1698 = nI P_1697 := (show pr_1698 = rdI (en_1697 0) 25 from by rw [es1698]; rfl).trans (hCH_1697.2.1)
              rw [hfx_1699] at es1698
              have hq2_1700 : wd_1698 = wd := n_eq ((show nI wd_1698 = rdI (en_1697 0) 2 from by rw [es1698]; rfl).trans (i1_1697.2.1.trans (show rdI (en 0) 2 = nI wd from by rw [es1688]; rfl))) (by omega) (by omega)
              have hq3_1700 : mo_1698 = mo := n_eq ((show nI mo_1698 = rdI (en_1697 0) 3 from by rw [es1698]; rfl).trans (i1_1697.2.2.1.trans (show rdI (en 0) 3 = nI mo from by rw [es1688]; rfl))) (by omega) (by omega)
              have hq4_1700 : tb_1698 = tb := n_eq ((show nI tb_1698 = rdI (en_1697 0) 4 from by rw [es1698]; rfl).trans (i1_1697.2.2.2.1.trans (show rdI (en 0) 4 = nI tb from by rw [es1688]; rfl))) (by omega) (by omega)
              have hq30_1700 : wo_1698 = wo := n_eq ((show nI wo_1698 = rdI (en_1697 0) 30 from by rw [es1698]; rfl).trans (i1_1697.2.2.2.2.trans (show rdI (en 0) 30 = nI wo from by rw [es1688]; rfl))) (by omega) (by omega)
              rw [hq2_1700, hq3_1700, hq4_1700, hq30_1700] at es1698
              refine hp_get hx hb hts ix12 hown hK hh (q := 0) rfl (hI.1 _ (by decide)) es1698 rfl 4 (by decide) (hts _ tw_883) (fun _ h9 => h9) rfl dX12_close_48 ?_
              refine lv_icmp_ge (tgt := 77) hx hb dX12_close_51 (by decide) (fun c_1701 => ?_) (fun c_1701 => ?_)
              · have n_1701 : tb ≤ j1697 := n_le (a := tb) (b := j1697) c_1701 (by omega) (by omega)
                refine lv_iconst (v := 0) hx hb dX12_close_77 (by decide) ?_
                refine lv_istore_n (lv' := [(2, .int 0), (1, .int my1697), (0, .ref (ad 0))]) hx hb dX12_close_78 rfl hl (by decide) rfl (fun ls hl => ?_)
                have loop_1702 : ∀ (fu j1702 : Nat) (my1702 : Int32) (en_1702 : Nat → va_E) (ls : Array Slot) (H : Heap) (locs : List Loc), 0 ≤ j1702 → j1702 ≤ 2000 → 2000 < j1702 + fu → RX cy cs ad en_1702 → (∀ c, (c ≠ 0 ∧ c ≠ 6 ∧ c ≠ 14 ∧ c ≠ 15 ∧ c ≠ 16 ∧ c ≠ 17) → en_1702 c = en c) → (∃ P, CH en_1702 P ∧ (my1702 = 0 ∨ 1 ≤ P)) → (KPp en en_1702) → lv_has ls 4 [(2, .int (nI j1702)), (1, .int my1702), (0, .ref (ad 0))] → Hp D (Af cs ad sz) (Af cs ad sz) s.heap H locs cs ad en_1702 → W p l e (headSpec (Cond.code yX12_close cX12_close 4 (some .int) :: TB) (rmN 3)).room s m ([.ref (ad 0)] : List Value).toArray below meth c H locs 0 0 (MQ below (va_Qi (S := Nat → va_E) (fun r en1 => RX cy cs ad en1 ∧ (∀ c, (c ≠ 0 ∧ c ≠ 6 ∧ c ≠ 14 ∧ c ≠ 15 ∧ c ≠ 16 ∧ c ≠ 17) → en1 c = en c) ∧ CHX en1 ∧ KPp en en1) (PostM D cs ad) (Af cs ad sz)) ([.ref (ad 0)] : List Value).toArray s 0 0 (Af cs ad sz)) (F0 m 79 ls []) := by
                  intro fu
                  induction fu with
                  | zero => intro j1702 my1702 en_1702 ls H locs h0 h1 h2; exact absurd h2 (by omega)
                  | succ fu ih_1702 =>
                    intro j1702 my1702 en_1702 ls H locs hj0_1702 hj_1702 hfu_1702 hI_1702 hf_1702 i0_1702 i1_1702 hl hh
                    obtain ⟨P_1702, hCH_1702, hPx_1702⟩ := i0_1702
                    have hPb_1702 := hCH_1702.1
                    refine lv_iload_n hx hb dX12_close_79 rfl (lv_at hl 0 rfl) ?_
                    refine lv_aload_n hx hb dX12_close_80 rfl (lv_at hl 2 rfl) ?_
                    obtain ⟨fa_1703, hi_1703, wd_1703, mo_1703, tb_1703, dp_1703, many_1703, grt_1703, lst_1703, nou_1703, rm_1703, rb_1703, pr_1703, wo_1703, es1703, p0_1703, p1_1703, p2_1703, p3_1703, p4_1703⟩ := getr_M hI_1702
                    have hfx_1704 : pr_1703 = nI P_1702 := (show pr_1703 = rdI (en_1702 0) 25 from by rw [es1703]; rfl).trans (hCH_1702.2.1)
                    rw [hfx_1704] at es1703
                    have hq2_1705 : wd_1703 = wd := n_eq ((show nI wd_1703 = rdI (en_1702 0) 2 from by rw [es1703]; rfl).trans (i1_1702.2.1.trans (show rdI (en 0) 2 = nI wd from by rw [es1688]; rfl))) (by omega) (by omega)
                    have hq3_1705 : mo_1703 = mo := n_eq ((show nI mo_1703 = rdI (en_1702 0) 3 from by rw [es1703]; rfl).trans (i1_1702.2.2.1.trans (show rdI (en 0) 3 = nI mo from by rw [es1688]; rfl))) (by omega) (by omega)
                    have hq4_1705 : tb_1703 = tb := n_eq ((show nI tb_1703 = rdI (en_1702 0) 4 from by rw [es1703]; rfl).trans (i1_1702.2.2.2.1.trans (show rdI (en 0) 4 = nI tb from by rw [es1688]; rfl))) (by omega) (by omega)
                    have hq30_1705 : wo_1703 = wo := n_eq ((show nI wo_1703 = rdI (en_1702 0) 30 from by rw [es1703]; rfl).trans (i1_1702.2.2.2.2.trans (show rdI (en 0) 30 = nI wo from by rw [es1688]; rfl))) (by omega) (by omega)
                    rw [hq2_1705, hq3_1705, hq4_1705, hq30_1705] at es1703
                    refine hp_get hx hb hts ix12 hown hK hh (q := 0) rfl (hI.1 _ (by decide)) es1703 rfl 25 (by decide) (hts _ tw_904) (fun _ h9 => h9) rfl dX12_close_81 ?_
                    refine lv_icmp_ge (tgt := 143) hx hb dX12_close_84 (by decide) (fun c_1706 => ?_) (fun c_1706 => ?_)
                    · have n_1706 : P_1702 ≤ j1702 := n_le (a := P_1702) (b := j1702) c_1706 (by omega) (by omega)
                      refine lv_iload_n hx hb dX12_close_143 rfl (lv_at hl 1 rfl) ?_
                      refine lv_if_ne (tgt := 156) hx hb dX12_close_144 (by decide) (fun c_1707 => ?_) (fun c_1707 => ?_)
                      · refine lv_aload_n hx hb dX12_close_156 rfl (lv_at hl 2 rfl) ?_
                        refine hp_get hx hb hts ix12 hown hK hh (q := 0) rfl (hI.1 _ (by decide)) es1703 rfl 25 (by decide) (hts _ tw_904) (fun _ h9 => h9) rfl dX12_close_157 ?_
                        exact hp_iretM hx hb hr rfl hlocks hh (⟨hI_1702, hf_1702, Or.inr ⟨P_1702, (hPx_1702).resolve_left c_1707, hCH_1702⟩, i1_1702⟩) dX12_close_160
                      · refine lv_aload_n hx hb dX12_close_147 rfl (lv_at hl 2 rfl) ?_
                        refine lv_bipush (v := (-9)) hx hb dX12_close_148 (by decide) ?_
                        refine hp_put hx hb hts ix12 tyX12 tyX12_ok nmX12 hown hK hh (q := 0) rfl (hI.1 _ (by decide)) es1703 rfl 25 (by decide) (hts _ tw_904) (fun _ h9 => h9) rfl (ty := .int) (by decide +kernel) rfl rfl (Nat.le_of_ble_eq_true rfl) dX12_close_150 (fun H locs en_1708 hen_1708 hh => ?_)
                        have es1703_1708 : en_1708 0 = .inr (11, [.int fa_1703, .int hi_1703, .int (nI wd), .int (nI mo), .int (nI tb), .ref (ad 1), .ref (ad 2), .ref (ad 3), .ref (ad 4), .ref (ad 5), .ref (ad 6), .ref (ad 7), .ref (ad 8), .ref (ad 9), .int dp_1703, .long many_1703, .long grt_1703, .long lst_1703, .long nou_1703, .ref (ad 10), .ref (ad 11), .ref (ad 12), .int rm_1703, .long rb_1703, .ref (ad 13), .int (-9), .ref (ad 14), .ref (ad 15), .ref (ad 16), .ref (ad 17), .int (nI wo), .ref (ad 18), .ref (ad 19)]) := by rw [hen_1708]; exact va_up_self _ _ _
                        have hI_1708 : RX cy cs ad en_1708 := by rw [hen_1708]; exact upr_M hI_1702 ⟨fa_1703, hi_1703, wd, mo, tb, dp_1703, many_1703, grt_1703, lst_1703, nou_1703, rm_1703, rb_1703, (-9), wo, rfl, hwd2, hwd3, hmo, htb, hwo⟩
                        have hf_1708 : ∀ c, (c ≠ 0 ∧ c ≠ 6 ∧ c ≠ 14 ∧ c ≠ 15 ∧ c ≠ 16 ∧ c ≠ 17) → en_1708 c = en c := fun c hc => Eq.trans (show en_1708 c = en_1702 c from by rw [hen_1708, va_up_ne _ _ (by omega)]) (hf_1702 c hc)
                        have hkp_1708 : KPp en en_1708 := KPp_fv i1_1702 es1703 es1703_1708 hi_1703 (nI wd) (nI mo) (nI tb) (nI wo) rfl rfl rfl rfl rfl rfl rfl rfl rfl rfl
                        refine lv_bipush (v := (-6)) hx hb dX12_close_153 (by decide) ?_
                        exact hp_iretM hx hb hr rfl hlocks hh (⟨hI_1708, hf_1708, Or.inl (by rw [es1703_1708]; rfl), hkp_1708⟩) dX12_close_155
                    · have n_1706 : j1702 < P_1702 := n_nle (a := P_1702) (b := j1702) c_1706 (by omega) (by omega)
                      refine lv_iload_n hx hb dX12_close_87 rfl (lv_at hl 1 rfl) ?_
                      refine lv_if_eq (tgt := 143) hx hb dX12_close_88 (by decide) (fun c_1709 => ?_) (fun c_1709 => ?_)
                      · refine lv_iload_n hx hb dX12_close_143 rfl (lv_at hl 1 rfl) ?_
                        refine lv_if_ne (tgt := 156) hx hb dX12_close_144 (by decide) (fun c_1710 => ?_) (fun c_1710 => ?_)
                        · refine lv_aload_n hx hb dX12_close_156 rfl (lv_at hl 2 rfl) ?_
                          refine hp_get hx hb hts ix12 hown hK hh (q := 0) rfl (hI.1 _ (by decide)) es1703 rfl 25 (by decide) (hts _ tw_904) (fun _ h9 => h9) rfl dX12_close_157 ?_
                          exact hp_iretM hx hb hr rfl hlocks hh (⟨hI_1702, hf_1702, Or.inr ⟨P_1702, (hPx_1702).resolve_left c_1710, hCH_1702⟩, i1_1702⟩) dX12_close_160
                        · refine lv_aload_n hx hb dX12_close_147 rfl (lv_at hl 2 rfl) ?_
                          refine lv_bipush (v := (-9)) hx hb dX12_close_148 (by decide) ?_
                          refine hp_put hx hb hts ix12 tyX12 tyX12_ok nmX12 hown hK hh (q := 0) rfl (hI.1 _ (by decide)) es1703 rfl 25 (by decide) (hts _ tw_904) (fun _ h9 => h9) rfl (ty := .int) (by decide +kernel) rfl rfl (Nat.le_of_ble_eq_true rfl) dX12_close_150 (fun H locs en_1711 hen_1711 hh => ?_)
                          have es1703_1711 : en_1711 0 = .inr (11, [.int fa_1703, .int hi_1703, .int (nI wd), .int (nI mo), .int (nI tb), .ref (ad 1), .ref (ad 2), .ref (ad 3), .ref (ad 4), .ref (ad 5), .ref (ad 6), .ref (ad 7), .ref (ad 8), .ref (ad 9), .int dp_1703, .long many_1703, .long grt_1703, .long lst_1703, .long nou_1703, .ref (ad 10), .ref (ad 11), .ref (ad 12), .int rm_1703, .long rb_1703, .ref (ad 13), .int (-9), .ref (ad 14), .ref (ad 15), .ref (ad 16), .ref (ad 17), .int (nI wo), .ref (ad 18), .ref (ad 19)]) := by rw [hen_1711]; exact va_up_self _ _ _
                          have hI_1711 : RX cy cs ad en_1711 := by rw [hen_1711]; exact upr_M hI_1702 ⟨fa_1703, hi_1703, wd, mo, tb, dp_1703, many_1703, grt_1703, lst_1703, nou_1703, rm_1703, rb_1703, (-9), wo, rfl, hwd2, hwd3, hmo, htb, hwo⟩
                          have hf_1711 : ∀ c, (c ≠ 0 ∧ c ≠ 6 ∧ c ≠ 14 ∧ c ≠ 15 ∧ c ≠ 16 ∧ c ≠ 17) → en_1711 c = en c := fun c hc => Eq.trans (show en_1711 c = en_1702 c from by rw [hen_1711, va_up_ne _ _ (by omega)]) (hf_1702 c hc)
                          have hkp_1711 : KPp en en_1711 := KPp_fv i1_1702 es1703 es1703_1711 hi_1703 (nI wd) (nI mo) (nI tb) (nI wo) rfl rfl rfl rfl rfl rfl rfl rfl rfl rfl
                          refine lv_bipush (v := (-6)) hx hb dX12_close_153 (by decide) ?_
                          exact hp_iretM hx hb hr rfl hlocks hh (⟨hI_1711, hf_1711, Or.inl (by rw [es1703_1711]; rfl), hkp_1711⟩) dX12_close_155
                      · refine lv_iconst (v := 0) hx hb dX12_close_91 (by decide) ?_
                        refine lv_istore_n (lv' := [(3, .int 0), (2, .int (nI j1702)), (1, .int my1702), (0, .ref (ad 0))]) hx hb dX12_close_92 rfl hl (by decide) rfl (fun ls hl => ?_)
                        have loop_1712 : ∀ (fu j1712 : Nat) (my1712 : Int32) (en_1712 : Nat → va_E) (ls : Array Slot) (H : Heap) (locs : List Loc), 0 ≤ j1712 → j1712 ≤ 6 → 6 < j1712 + fu → RX cy cs ad en_1712 → (∀ c, (c ≠ 0 ∧ c ≠ 6 ∧ c ≠ 14 ∧ c ≠ 15 ∧ c ≠ 16 ∧ c ≠ 17) → en_1712 c = en c) → (∃ P, CH en_1712 P ∧ (my1712 = 0 ∨ 1 ≤ P)) → (KPp en en_1712) → lv_has ls 4 [(3, .int (nI j1712)), (2, .int (nI j1702)), (1, .int my1712), (0, .ref (ad 0))] → Hp D (Af cs ad sz) (Af cs ad sz) s.heap H locs cs ad en_1712 → W p l e (headSpec (Cond.code yX12_close cX12_close 4 (some .int) :: TB) (rmN 3)).room s m ([.ref (ad 0)] : List Value).toArray below meth c H locs 0 0 (MQ below (va_Qi (S := Nat → va_E) (fun r en1 => RX cy cs ad en1 ∧ (∀ c, (c ≠ 0 ∧ c ≠ 6 ∧ c ≠ 14 ∧ c ≠ 15 ∧ c ≠ 16 ∧ c ≠ 17) → en1 c = en c) ∧ CHX en1 ∧ KPp en en1) (PostM D cs ad) (Af cs ad sz)) ([.ref (ad 0)] : List Value).toArray s 0 0 (Af cs ad sz)) (F0 m 93 ls []) := by
                          intro fu
                          induction fu with
                          | zero => intro j1712 my1712 en_1712 ls H locs h0 h1 h2; exact absurd h2 (by omega)
                          | succ fu ih_1712 =>
                            intro j1712 my1712 en_1712 ls H locs hj0_1712 hj_1712 hfu_1712 hI_1712 hf_1712 i0_1712 i1_1712 hl hh
                            obtain ⟨P_1712, hCH_1712, hPx_1712⟩ := i0_1712
                            have hPb_1712 := hCH_1712.1
                            refine lv_iload_n hx hb dX12_close_93 rfl (lv_at hl 0 rfl) ?_
                            refine lv_aload_n hx hb dX12_close_94 rfl (lv_at hl 3 rfl) ?_
                            obtain ⟨fa_1713, hi_1713, wd_1713, mo_1713, tb_1713, dp_1713, many_1713, grt_1713, lst_1713, nou_1713, rm_1713, rb_1713, pr_1713, wo_1713, es1713, p0_1713, p1_1713, p2_1713, p3_1713, p4_1713⟩ := getr_M hI_1712
                            have hfx_1714 : pr_1713 = nI P_1712 := (show pr_1713 = rdI (en_1712 0) 25 from by rw [es1713]; rfl).trans (hCH_1712.2.1)
                            rw [hfx_1714] at es1713
                            have hq2_1715 : wd_1713 = wd := n_eq ((show nI wd_1713 = rdI (en_1712 0) 2 from by rw [es1713]; rfl).trans (i1_1712.2.1.trans (show rdI (en 0) 2 = nI wd from by rw [es1688]; rfl))) (by omega) (by omega)
                            have hq3_1715 : mo_1713 = mo := n_eq ((show nI mo_1713 = rdI (en_1712 0) 3 from by rw [es1713]; rfl).trans (i1_1712.2.2.1.trans (show rdI (en 0) 3 = nI mo from by rw [es1688]; rfl))) (by omega) (by omega)
                            have hq4_1715 : tb_1713 = tb := n_eq ((show nI tb_1713 = rdI (en_1712 0) 4 from by rw [es1713]; rfl).trans (i1_1712.2.2.2.1.trans (show rdI (en 0) 4 = nI tb from by rw [es1688]; rfl))) (by omega) (by omega)
                            have hq30_1715 : wo_1713 = wo := n_eq ((show nI wo_1713 = rdI (en_1712 0) 30 from by rw [es1713]; rfl).trans (i1_1712.2.2.2.2.trans (show rdI (en 0) 30 = nI wo from by rw [es1688]; rfl))) (by omega) (by omega)
                            rw [hq2_1715, hq3_1715, hq4_1715, hq30_1715] at es1713
                            refine hp_get hx hb hts ix12 hown hK hh (q := 0) rfl (hI.1 _ (by decide)) es1713 rfl 4 (by decide) (hts _ tw_883) (fun _ h9 => h9) rfl dX12_close_95 ?_
                            refine lv_icmp_ge (tgt := 137) hx hb dX12_close_98 (by decide) (fun c_1716 => ?_) (fun c_1716 => ?_)
                            · have n_1716 : tb ≤ j1712 := n_le (a := tb) (b := j1712) c_1716 (by omega) (by omega)
                              refine lv_iinc (v := (nI (j1702 + 1))) (lv' := [(2, .int (nI (j1702 + 1))), (3, .int (nI j1712)), (1, .int my1712), (0, .ref (ad 0))]) hx hb dX12_close_137 hl (k := 1) rfl (nI_1 _) (by decide) rfl (fun ls hl => ?_)
                              refine lv_goto (tgt := 79) hx hb dX12_close_140 (by decide) ?_
                              exact ih_1702 ((j1702 + 1)) my1712 en_1712 ls H locs (by omega) (by omega) (by omega) hI_1712 hf_1712 (⟨P_1712, hCH_1712, hPx_1712⟩) (i1_1712) (lv_sub hl [0, 2, 3] rfl) hh
                            · have n_1716 : j1712 < tb := n_nle (a := tb) (b := j1712) c_1716 (by omega) (by omega)
                              refine lv_iload_n hx hb dX12_close_101 rfl (lv_at hl 2 rfl) ?_
                              refine lv_if_eq (tgt := 137) hx hb dX12_close_102 (by decide) (fun c_1717 => ?_) (fun c_1717 => ?_)
                              · refine lv_iinc (v := (nI (j1702 + 1))) (lv' := [(2, .int (nI (j1702 + 1))), (3, .int (nI j1712)), (1, .int my1712), (0, .ref (ad 0))]) hx hb dX12_close_137 hl (k := 1) rfl (nI_1 _) (by decide) rfl (fun ls hl => ?_)
                                refine lv_goto (tgt := 79) hx hb dX12_close_140 (by decide) ?_
                                exact ih_1702 ((j1702 + 1)) my1712 en_1712 ls H locs (by omega) (by omega) (by omega) hI_1712 hf_1712 (⟨P_1712, hCH_1712, hPx_1712⟩) (i1_1712) (lv_sub hl [0, 2, 3] rfl) hh
                              · refine lv_aload_n hx hb dX12_close_105 rfl (lv_at hl 3 rfl) ?_
                                refine lv_iload_n hx hb dX12_close_106 rfl (lv_at hl 1 rfl) ?_
                                refine lv_iconst (v := 0) hx hb dX12_close_107 (by decide) ?_
                                refine hp_callMv (va_runV (As := [.int (nI j1702), .int 0]) (rest := []) ⟨hx, hb, hml, hown, hts⟩ (c_X12_layProduct l D cy _ cs ad en_1712 hI_1712 j1702 0 (by omega) (by omega)) (kw_X12_layProduct hts tw_1133 ⟨by decide, by decide⟩) (preV_of hh hK (hI.1 _ (by decide)) es1713 rfl) rfl rfl hl.1 rfl (lv_room (Nat.le_of_ble_eq_true rfl)) dX12_close_108 ⟨Nat.le_of_ble_eq_true rfl, Nat.le_of_ble_eq_true rfl⟩) hh hA (fun H locs en_1718 hw_1718 hh => ?_)
                                obtain ⟨hI_1718, hu_1718⟩ := hw_1718
                                have es1713_1718 : en_1718 0 = .inr (11, [.int fa_1713, .int hi_1713, .int (nI wd), .int (nI mo), .int (nI tb), .ref (ad 1), .ref (ad 2), .ref (ad 3), .ref (ad 4), .ref (ad 5), .ref (ad 6), .ref (ad 7), .ref (ad 8), .ref (ad 9), .int dp_1713, .long many_1713, .long grt_1713, .long lst_1713, .long nou_1713, .ref (ad 10), .ref (ad 11), .ref (ad 12), .int rm_1713, .long rb_1713, .ref (ad 13), .int (nI P_1712), .ref (ad 14), .ref (ad 15), .ref (ad 16), .ref (ad 17), .int (nI wo), .ref (ad 18), .ref (ad 19)]) := (hu_1718 0 (by omega)).trans es1713
                                have hf_1718 : ∀ c, (c ≠ 0 ∧ c ≠ 6 ∧ c ≠ 14 ∧ c ≠ 15 ∧ c ≠ 16 ∧ c ≠ 17) → en_1718 c = en c := fun c hc => (hu_1718 c (by omega)).trans (hf_1712 c hc)
                                have hkp_1718 : KPp en en_1718 := KPp_same i1_1712 (hu_1718 0 (by omega))
                                have hcq_1718 := CH_keep (e1 := en_1718) hCH_1712 (by rw [hu_1718 0 (by omega)]) (hu_1718 16 (by omega)) (hu_1718 17 (by omega))
                                refine lv_aload_n hx hb dX12_close_111 rfl (lv_at hl 3 rfl) ?_
                                refine lv_iconst (v := 0) hx hb dX12_close_112 (by decide) ?_
                                refine lv_iload_n hx hb dX12_close_113 rfl (lv_at hl 0 rfl) ?_
                                refine hp_callMv (va_runV (As := [.int 0, .int (nI j1712)]) (rest := []) ⟨hx, hb, hml, hown, hts⟩ (c_X12_goOn l D cy _ cs ad en_1718 hI_1718 0 j1712 (by omega) (by omega)) (kw_X12_goOn hts tw_1050 ⟨by decide, by decide⟩) (preV_of hh hK (hI.1 _ (by decide)) es1713_1718 rfl) rfl rfl hl.1 rfl (lv_room (Nat.le_of_ble_eq_true rfl)) dX12_close_114 ⟨Nat.le_of_ble_eq_true rfl, Nat.le_of_ble_eq_true rfl⟩) hh hA (fun H locs en_1719 hw_1719 hh => ?_)
                                obtain ⟨hI_1719, hu_1719⟩ := hw_1719
                                have es1713_1719 : en_1719 0 = .inr (11, [.int fa_1713, .int hi_1713, .int (nI wd), .int (nI mo), .int (nI tb), .ref (ad 1), .ref (ad 2), .ref (ad 3), .ref (ad 4), .ref (ad 5), .ref (ad 6), .ref (ad 7), .ref (ad 8), .ref (ad 9), .int dp_1713, .long many_1713, .long grt_1713, .long lst_1713, .long nou_1713, .ref (ad 10), .ref (ad 11), .ref (ad 12), .int rm_1713, .long rb_1713, .ref (ad 13), .int (nI P_1712), .ref (ad 14), .ref (ad 15), .ref (ad 16), .ref (ad 17), .int (nI wo), .ref (ad 18), .ref (ad 19)]) := (hu_1719 0 (by omega)).trans es1713_1718
                                have hf_1719 : ∀ c, (c ≠ 0 ∧ c ≠ 6 ∧ c ≠ 14 ∧ c ≠ 15 ∧ c ≠ 16 ∧ c ≠ 17) → en_1719 c = en c := fun c hc => (hu_1719 c (by omega)).trans (hf_1718 c hc)
                                have hkp_1719 : KPp en en_1719 := KPp_same hkp_1718 (hu_1719 0 (by omega))
                                have hcq_1719 := CH_keep (e1 := en_1719) hcq_1718 (by rw [hu_1719 0 (by omega)]) (hu_1719 16 (by omega)) (hu_1719 17 (by omega))
                                refine lv_aload_n hx hb dX12_close_117 rfl (lv_at hl 3 rfl) ?_
                                refine lv_iconst (v := 1) hx hb dX12_close_118 (by decide) ?_
                                refine lv_aload_n hx hb dX12_close_119 rfl (lv_at hl 3 rfl) ?_
                                refine hp_get hx hb hts ix12 hown hK hh (q := 0) rfl (hI.1 _ (by decide)) es1713_1719 rfl 27 (by decide) (hts _ tw_906) (fun _ h9 => h9) rfl dX12_close_120 ?_
                                refine lv_iload_n hx hb dX12_close_123 rfl (lv_at hl 1 rfl) ?_
                                obtain ⟨f_1720, es1720⟩ := getr_ln hI_1719
                                refine hp_iald hx hb hK hh (q := 15) rfl (hI.1 _ (by decide)) es1720 (vp_in_nI (n := j1702) (by omega) (by decide)) dX12_close_124 ?_
                                rw [nI_clamp (n := j1702) (by omega)]
                                refine lv_iconst (v := 1) hx hb dX12_close_125 (by decide) ?_
                                refine lv_iadd hx hb dX12_close_126 ?_
                                refine hp_callMi (va_runV (As := [.int 1, .int ((f_1720 j1702) + 1)]) (rest := []) ⟨hx, hb, hml, hown, hts⟩ (c_X12_comes l D cy _ cs ad en_1719 hI_1719 1 ((f_1720 j1702) + 1) (by omega) P_1712 hcq_1719) (kw_X12_comes hts tw_1117 ⟨by decide, by decide⟩) (preV_of hh hK (hI.1 _ (by decide)) es1713_1719 rfl) rfl rfl hl.1 rfl (lv_room (Nat.le_of_ble_eq_true rfl)) dX12_close_127 ⟨Nat.le_of_ble_eq_true rfl, Nat.le_of_ble_eq_true rfl⟩) hh hA (fun r_1721 H locs en_1721 hw_1721 hh => ?_)
                                obtain ⟨hI_1721, hu_1721, hy_1721, hx_1721⟩ := hw_1721
                                have hw_1721 := (⟨hI_1721, hu_1721, hx_1721⟩ : _ ∧ _ ∧ _)
                                obtain ⟨hI_1721, hu_1721, hx_1721⟩ := hw_1721
                                have hf_1721 : ∀ c, (c ≠ 0 ∧ c ≠ 6 ∧ c ≠ 14 ∧ c ≠ 15 ∧ c ≠ 16 ∧ c ≠ 17) → en_1721 c = en c := fun c hc => (hu_1721 c (by omega)).trans (hf_1719 c hc)
                                have hkp_1721 : KPp en en_1721 := KPp_tr hkp_1719 hx_1721
                                rcases hy_1721 with ⟨hr_1721, hch_1721⟩ | ⟨hr_1721, P1_1721, hch_1721, hle_1721, hp1_1721⟩
                                · rw [hr_1721]
                                  refine lv_istore_n (lv' := [(1, .int 0), (3, .int (nI j1712)), (2, .int (nI j1702)), (0, .ref (ad 0))]) hx hb dX12_close_130 rfl hl (by decide) rfl (fun ls hl => ?_)
                                  refine lv_iinc (v := (nI (j1712 + 1))) (lv' := [(3, .int (nI (j1712 + 1))), (1, .int 0), (2, .int (nI j1702)), (0, .ref (ad 0))]) hx hb dX12_close_131 hl (k := 1) rfl (nI_1 _) (by decide) rfl (fun ls hl => ?_)
                                  refine lv_goto (tgt := 93) hx hb dX12_close_134 (by decide) ?_
                                  exact ih_1712 ((j1712 + 1)) 0 en_1721 ls H locs (by omega) (by omega) (by omega) hI_1721 hf_1721 (⟨P_1712, hch_1721, Or.inl rfl⟩) (hkp_1721) (lv_sub hl [0, 2, 1, 3] rfl) hh
                                · rw [hr_1721]
                                  refine lv_istore_n (lv' := [(1, .int 1), (3, .int (nI j1712)), (2, .int (nI j1702)), (0, .ref (ad 0))]) hx hb dX12_close_130 rfl hl (by decide) rfl (fun ls hl => ?_)
                                  refine lv_iinc (v := (nI (j1712 + 1))) (lv' := [(3, .int (nI (j1712 + 1))), (1, .int 1), (2, .int (nI j1702)), (0, .ref (ad 0))]) hx hb dX12_close_131 hl (k := 1) rfl (nI_1 _) (by decide) rfl (fun ls hl => ?_)
                                  refine lv_goto (tgt := 93) hx hb dX12_close_134 (by decide) ?_
                                  exact ih_1712 ((j1712 + 1)) 1 en_1721 ls H locs (by omega) (by omega) (by omega) hI_1721 hf_1721 (⟨P1_1721, hch_1721, Or.inr hp1_1721⟩) (hkp_1721) (lv_sub hl [0, 2, 1, 3] rfl) hh
                        exact loop_1712 (6 + 1) 0 my1702 en_1702 ls _ _ (Nat.le_refl _) (by omega) (by omega) hI_1702 hf_1702 (⟨P_1702, hCH_1702, hPx_1702⟩) (i1_1702) (lv_sub hl [0, 1, 2, 3] rfl) hh
                exact loop_1702 (2000 + 1) 0 my1697 en_1697 ls _ _ (Nat.le_refl _) (by omega) (by omega) hI_1697 hf_1697 (⟨P_1697, hCH_1697, by rcases hPx_1697 with h9 | h9 | h9; exact absurd h9 (by omega); exact Or.inl h9; exact Or.inr h9⟩) (i1_1697) (lv_sub hl [0, 1, 2] rfl) hh
              · have n_1701 : j1697 < tb := n_nle (a := tb) (b := j1697) c_1701 (by omega) (by omega)
                refine lv_iload_n hx hb dX12_close_54 rfl (lv_at hl 1 rfl) ?_
                refine lv_if_eq (tgt := 77) hx hb dX12_close_55 (by decide) (fun c_1722 => ?_) (fun c_1722 => ?_)
                · refine lv_iconst (v := 0) hx hb dX12_close_77 (by decide) ?_
                  refine lv_istore_n (lv' := [(2, .int 0), (1, .int my1697), (0, .ref (ad 0))]) hx hb dX12_close_78 rfl hl (by decide) rfl (fun ls hl => ?_)
                  have loop_1723 : ∀ (fu j1723 : Nat) (my1723 : Int32) (en_1723 : Nat → va_E) (ls : Array Slot) (H : Heap) (locs : List Loc), 0 ≤ j1723 → j1723 ≤ 2000 → 2000 < j1723 + fu → RX cy cs ad en_1723 → (∀ c, (c ≠ 0 ∧ c ≠ 6 ∧ c ≠ 14 ∧ c ≠ 15 ∧ c ≠ 16 ∧ c ≠ 17) → en_1723 c = en c) → (∃ P, CH en_1723 P ∧ (my1723 = 0 ∨ 1 ≤ P)) → (KPp en en_1723) → lv_has ls 4 [(2, .int (nI j1723)), (1, .int my1723), (0, .ref (ad 0))] → Hp D (Af cs ad sz) (Af cs ad sz) s.heap H locs cs ad en_1723 → W p l e (headSpec (Cond.code yX12_close cX12_close 4 (some .int) :: TB) (rmN 3)).room s m ([.ref (ad 0)] : List Value).toArray below meth c H locs 0 0 (MQ below (va_Qi (S := Nat → va_E) (fun r en1 => RX cy cs ad en1 ∧ (∀ c, (c ≠ 0 ∧ c ≠ 6 ∧ c ≠ 14 ∧ c ≠ 15 ∧ c ≠ 16 ∧ c ≠ 17) → en1 c = en c) ∧ CHX en1 ∧ KPp en en1) (PostM D cs ad) (Af cs ad sz)) ([.ref (ad 0)] : List Value).toArray s 0 0 (Af cs ad sz)) (F0 m 79 ls []) := by
                    intro fu
                    induction fu with
                    | zero => intro j1723 my1723 en_1723 ls H locs h0 h1 h2; exact absurd h2 (by omega)
                    | succ fu ih_1723 =>
                      intro j1723 my1723 en_1723 ls H locs hj0_1723 hj_1723 hfu_1723 hI_1723 hf_1723 i0_1723 i1_1723 hl hh
                      obtain ⟨P_1723, hCH_1723, hPx_1723⟩ := i0_1723
                      have hPb_1723 := hCH_1723.1
                      refine lv_iload_n hx hb dX12_close_79 rfl (lv_at hl 0 rfl) ?_
                      refine lv_aload_n hx hb dX12_close_80 rfl (lv_at hl 2 rfl) ?_
                      obtain ⟨fa_1724, hi_1724, wd_1724, mo_1724, tb_1724, dp_1724, many_1724, grt_1724, lst_1724, nou_1724, rm_1724, rb_1724, pr_1724, wo_1724, es1724, p0_1724, p1_1724, p2_1724, p3_1724, p4_1724⟩ := getr_M hI_1723
                      have hfx_1725 : pr_1724 = nI P_1723 := (show pr_1724 = rdI (en_1723 0) 25 from by rw [es1724]; rfl).trans (hCH_1723.2.1)
                      rw [hfx_1725] at es1724
                      have hq2_1726 : wd_1724 = wd := n_eq ((show nI wd_1724 = rdI (en_1723 0) 2 from by rw [es1724]; rfl).trans (i1_1723.2.1.trans (show rdI (en 0) 2 = nI wd from by rw [es1688]; rfl))) (by omega) (by omega)
                      have hq3_1726 : mo_1724 = mo := n_eq ((show nI mo_1724 = rdI (en_1723 0) 3 from by rw [es1724]; rfl).trans (i1_1723.2.2.1.trans (show rdI (en 0) 3 = nI mo from by rw [es1688]; rfl))) (by omega) (by omega)
                      have hq4_1726 : tb_1724 = tb := n_eq ((show nI tb_1724 = rdI (en_1723 0) 4 from by rw [es1724]; rfl).trans (i1_1723.2.2.2.1.trans (show rdI (en 0) 4 = nI tb from by rw [es1688]; rfl))) (by omega) (by omega)
                      have hq30_1726 : wo_1724 = wo := n_eq ((show nI wo_1724 = rdI (en_1723 0) 30 from by rw [es1724]; rfl).trans (i1_1723.2.2.2.2.trans (show rdI (en 0) 30 = nI wo from by rw [es1688]; rfl))) (by omega) (by omega)
                      rw [hq2_1726, hq3_1726, hq4_1726, hq30_1726] at es1724
                      refine hp_get hx hb hts ix12 hown hK hh (q := 0) rfl (hI.1 _ (by decide)) es1724 rfl 25 (by decide) (hts _ tw_904) (fun _ h9 => h9) rfl dX12_close_81 ?_
                      refine lv_icmp_ge (tgt := 143) hx hb dX12_close_84 (by decide) (fun c_1727 => ?_) (fun c_1727 => ?_)
                      · have n_1727 : P_1723 ≤ j1723 := n_le (a := P_1723) (b := j1723) c_1727 (by omega) (by omega)
                        refine lv_iload_n hx hb dX12_close_143 rfl (lv_at hl 1 rfl) ?_
                        refine lv_if_ne (tgt := 156) hx hb dX12_close_144 (by decide) (fun c_1728 => ?_) (fun c_1728 => ?_)
                        · refine lv_aload_n hx hb dX12_close_156 rfl (lv_at hl 2 rfl) ?_
                          refine hp_get hx hb hts ix12 hown hK hh (q := 0) rfl (hI.1 _ (by decide)) es1724 rfl 25 (by decide) (hts _ tw_904) (fun _ h9 => h9) rfl dX12_close_157 ?_
                          exact hp_iretM hx hb hr rfl hlocks hh (⟨hI_1723, hf_1723, Or.inr ⟨P_1723, (hPx_1723).resolve_left c_1728, hCH_1723⟩, i1_1723⟩) dX12_close_160
                        · refine lv_aload_n hx hb dX12_close_147 rfl (lv_at hl 2 rfl) ?_
                          refine lv_bipush (v := (-9)) hx hb dX12_close_148 (by decide) ?_
                          refine hp_put hx hb hts ix12 tyX12 tyX12_ok nmX12 hown hK hh (q := 0) rfl (hI.1 _ (by decide)) es1724 rfl 25 (by decide) (hts _ tw_904) (fun _ h9 => h9) rfl (ty := .int) (by decide +kernel) rfl rfl (Nat.le_of_ble_eq_true rfl) dX12_close_150 (fun H locs en_1729 hen_1729 hh => ?_)
                          have es1724_1729 : en_1729 0 = .inr (11, [.int fa_1724, .int hi_1724, .int (nI wd), .int (nI mo), .int (nI tb), .ref (ad 1), .ref (ad 2), .ref (ad 3), .ref (ad 4), .ref (ad 5), .ref (ad 6), .ref (ad 7), .ref (ad 8), .ref (ad 9), .int dp_1724, .long many_1724, .long grt_1724, .long lst_1724, .long nou_1724, .ref (ad 10), .ref (ad 11), .ref (ad 12), .int rm_1724, .long rb_1724, .ref (ad 13), .int (-9), .ref (ad 14), .ref (ad 15), .ref (ad 16), .ref (ad 17), .int (nI wo), .ref (ad 18), .ref (ad 19)]) := by rw [hen_1729]; exact va_up_self _ _ _
                          have hI_1729 : RX cy cs ad en_1729 := by rw [hen_1729]; exact upr_M hI_1723 ⟨fa_1724, hi_1724, wd, mo, tb, dp_1724, many_1724, grt_1724, lst_1724, nou_1724, rm_1724, rb_1724, (-9), wo, rfl, hwd2, hwd3, hmo, htb, hwo⟩
                          have hf_1729 : ∀ c, (c ≠ 0 ∧ c ≠ 6 ∧ c ≠ 14 ∧ c ≠ 15 ∧ c ≠ 16 ∧ c ≠ 17) → en_1729 c = en c := fun c hc => Eq.trans (show en_1729 c = en_1723 c from by rw [hen_1729, va_up_ne _ _ (by omega)]) (hf_1723 c hc)
                          have hkp_1729 : KPp en en_1729 := KPp_fv i1_1723 es1724 es1724_1729 hi_1724 (nI wd) (nI mo) (nI tb) (nI wo) rfl rfl rfl rfl rfl rfl rfl rfl rfl rfl
                          refine lv_bipush (v := (-6)) hx hb dX12_close_153 (by decide) ?_
                          exact hp_iretM hx hb hr rfl hlocks hh (⟨hI_1729, hf_1729, Or.inl (by rw [es1724_1729]; rfl), hkp_1729⟩) dX12_close_155
                      · have n_1727 : j1723 < P_1723 := n_nle (a := P_1723) (b := j1723) c_1727 (by omega) (by omega)
                        refine lv_iload_n hx hb dX12_close_87 rfl (lv_at hl 1 rfl) ?_
                        refine lv_if_eq (tgt := 143) hx hb dX12_close_88 (by decide) (fun c_1730 => ?_) (fun c_1730 => ?_)
                        · refine lv_iload_n hx hb dX12_close_143 rfl (lv_at hl 1 rfl) ?_
                          refine lv_if_ne (tgt := 156) hx hb dX12_close_144 (by decide) (fun c_1731 => ?_) (fun c_1731 => ?_)
                          · refine lv_aload_n hx hb dX12_close_156 rfl (lv_at hl 2 rfl) ?_
                            refine hp_get hx hb hts ix12 hown hK hh (q := 0) rfl (hI.1 _ (by decide)) es1724 rfl 25 (by decide) (hts _ tw_904) (fun _ h9 => h9) rfl dX12_close_157 ?_
                            exact hp_iretM hx hb hr rfl hlocks hh (⟨hI_1723, hf_1723, Or.inr ⟨P_1723, (hPx_1723).resolve_left c_1731, hCH_1723⟩, i1_1723⟩) dX12_close_160
                          · refine lv_aload_n hx hb dX12_close_147 rfl (lv_at hl 2 rfl) ?_
                            refine lv_bipush (v := (-9)) hx hb dX12_close_148 (by decide) ?_
                            refine hp_put hx hb hts ix12 tyX12 tyX12_ok nmX12 hown hK hh (q := 0) rfl (hI.1 _ (by decide)) es1724 rfl 25 (by decide) (hts _ tw_904) (fun _ h9 => h9) rfl (ty := .int) (by decide +kernel) rfl rfl (Nat.le_of_ble_eq_true rfl) dX12_close_150 (fun H locs en_1732 hen_1732 hh => ?_)
                            have es1724_1732 : en_1732 0 = .inr (11, [.int fa_1724, .int hi_1724, .int (nI wd), .int (nI mo), .int (nI tb), .ref (ad 1), .ref (ad 2), .ref (ad 3), .ref (ad 4), .ref (ad 5), .ref (ad 6), .ref (ad 7), .ref (ad 8), .ref (ad 9), .int dp_1724, .long many_1724, .long grt_1724, .long lst_1724, .long nou_1724, .ref (ad 10), .ref (ad 11), .ref (ad 12), .int rm_1724, .long rb_1724, .ref (ad 13), .int (-9), .ref (ad 14), .ref (ad 15), .ref (ad 16), .ref (ad 17), .int (nI wo), .ref (ad 18), .ref (ad 19)]) := by rw [hen_1732]; exact va_up_self _ _ _
                            have hI_1732 : RX cy cs ad en_1732 := by rw [hen_1732]; exact upr_M hI_1723 ⟨fa_1724, hi_1724, wd, mo, tb, dp_1724, many_1724, grt_1724, lst_1724, nou_1724, rm_1724, rb_1724, (-9), wo, rfl, hwd2, hwd3, hmo, htb, hwo⟩
                            have hf_1732 : ∀ c, (c ≠ 0 ∧ c ≠ 6 ∧ c ≠ 14 ∧ c ≠ 15 ∧ c ≠ 16 ∧ c ≠ 17) → en_1732 c = en c := fun c hc => Eq.trans (show en_1732 c = en_1723 c from by rw [hen_1732, va_up_ne _ _ (by omega)]) (hf_1723 c hc)
                            have hkp_1732 : KPp en en_1732 := KPp_fv i1_1723 es1724 es1724_1732 hi_1724 (nI wd) (nI mo) (nI tb) (nI wo) rfl rfl rfl rfl rfl rfl rfl rfl rfl rfl
                            refine lv_bipush (v := (-6)) hx hb dX12_close_153 (by decide) ?_
                            exact hp_iretM hx hb hr rfl hlocks hh (⟨hI_1732, hf_1732, Or.inl (by rw [es1724_1732]; rfl), hkp_1732⟩) dX12_close_155
                        · refine lv_iconst (v := 0) hx hb dX12_close_91 (by decide) ?_
                          refine lv_istore_n (lv' := [(3, .int 0), (2, .int (nI j1723)), (1, .int my1723), (0, .ref (ad 0))]) hx hb dX12_close_92 rfl hl (by decide) rfl (fun ls hl => ?_)
                          have loop_1733 : ∀ (fu j1733 : Nat) (my1733 : Int32) (en_1733 : Nat → va_E) (ls : Array Slot) (H : Heap) (locs : List Loc), 0 ≤ j1733 → j1733 ≤ 6 → 6 < j1733 + fu → RX cy cs ad en_1733 → (∀ c, (c ≠ 0 ∧ c ≠ 6 ∧ c ≠ 14 ∧ c ≠ 15 ∧ c ≠ 16 ∧ c ≠ 17) → en_1733 c = en c) → (∃ P, CH en_1733 P ∧ (my1733 = 0 ∨ 1 ≤ P)) → (KPp en en_1733) → lv_has ls 4 [(3, .int (nI j1733)), (2, .int (nI j1723)), (1, .int my1733), (0, .ref (ad 0))] → Hp D (Af cs ad sz) (Af cs ad sz) s.heap H locs cs ad en_1733 → W p l e (headSpec (Cond.code yX12_close cX12_close 4 (some .int) :: TB) (rmN 3)).room s m ([.ref (ad 0)] : List Value).toArray below meth c H locs 0 0 (MQ below (va_Qi (S := Nat → va_E) (fun r en1 => RX cy cs ad en1 ∧ (∀ c, (c ≠ 0 ∧ c ≠ 6 ∧ c ≠ 14 ∧ c ≠ 15 ∧ c ≠ 16 ∧ c ≠ 17) → en1 c = en c) ∧ CHX en1 ∧ KPp en en1) (PostM D cs ad) (Af cs ad sz)) ([.ref (ad 0)] : List Value).toArray s 0 0 (Af cs ad sz)) (F0 m 93 ls []) := by
                            intro fu
                            induction fu with
                            | zero => intro j1733 my1733 en_1733 ls H locs h0 h1 h2; exact absurd h2 (by omega)
                            | succ fu ih_1733 =>
                              intro j1733 my1733 en_1733 ls H locs hj0_1733 hj_1733 hfu_1733 hI_1733 hf_1733 i0_1733 i1_1733 hl hh
                              obtain ⟨P_1733, hCH_1733, hPx_1733⟩ := i0_1733
                              have hPb_1733 := hCH_1733.1
                              refine lv_iload_n hx hb dX12_close_93 rfl (lv_at hl 0 rfl) ?_
                              refine lv_aload_n hx hb dX12_close_94 rfl (lv_at hl 3 rfl) ?_
                              obtain ⟨fa_1734, hi_1734, wd_1734, mo_1734, tb_1734, dp_1734, many_1734, grt_1734, lst_1734, nou_1734, rm_1734, rb_1734, pr_1734, wo_1734, es1734, p0_1734, p1_1734, p2_1734, p3_1734, p4_1734⟩ := getr_M hI_1733
                              have hfx_1735 : pr_1734 = nI P_1733 := (show pr_1734 = rdI (en_1733 0) 25 from by rw [es1734]; rfl).trans (hCH_1733.2.1)
                              rw [hfx_1735] at es1734
                              have hq2_1736 : wd_1734 = wd := n_eq ((show nI wd_1734 = rdI (en_1733 0) 2 from by rw [es1734]; rfl).trans (i1_1733.2.1.trans (show rdI (en 0) 2 = nI wd from by rw [es1688]; rfl))) (by omega) (by omega)
                              have hq3_1736 : mo_1734 = mo := n_eq ((show nI mo_1734 = rdI (en_1733 0) 3 from by rw [es1734]; rfl).trans (i1_1733.2.2.1.trans (show rdI (en 0) 3 = nI mo from by rw [es1688]; rfl))) (by omega) (by omega)
                              have hq4_1736 : tb_1734 = tb := n_eq ((show nI tb_1734 = rdI (en_1733 0) 4 from by rw [es1734]; rfl).trans (i1_1733.2.2.2.1.trans (show rdI (en 0) 4 = nI tb from by rw [es1688]; rfl))) (by omega) (by omega)
                              have hq30_1736 : wo_1734 = wo := n_eq ((show nI wo_1734 = rdI (en_1733 0) 30 from by rw [es1734]; rfl).trans (i1_1733.2.2.2.2.trans (show rdI (en 0) 30 = nI wo from by rw [es1688]; rfl))) (by omega) (by omega)
                              rw [hq2_1736, hq3_1736, hq4_1736, hq30_1736] at es1734
                              refine hp_get hx hb hts ix12 hown hK hh (q := 0) rfl (hI.1 _ (by decide)) es1734 rfl 4 (by decide) (hts _ tw_883) (fun _ h9 => h9) rfl dX12_close_95 ?_
                              refine lv_icmp_ge (tgt := 137) hx hb dX12_close_98 (by decide) (fun c_1737 => ?_) (fun c_1737 => ?_)
                              · have n_1737 : tb ≤ j1733 := n_le (a := tb) (b := j1733) c_1737 (by omega) (by omega)
                                refine lv_iinc (v := (nI (j1723 + 1))) (lv' := [(2, .int (nI (j1723 + 1))), (3, .int (nI j1733)), (1, .int my1733), (0, .ref (ad 0))]) hx hb dX12_close_137 hl (k := 1) rfl (nI_1 _) (by decide) rfl (fun ls hl => ?_)
                                refine lv_goto (tgt := 79) hx hb dX12_close_140 (by decide) ?_
                                exact ih_1723 ((j1723 + 1)) my1733 en_1733 ls H locs (by omega) (by omega) (by omega) hI_1733 hf_1733 (⟨P_1733, hCH_1733, hPx_1733⟩) (i1_1733) (lv_sub hl [0, 2, 3] rfl) hh
                              · have n_1737 : j1733 < tb := n_nle (a := tb) (b := j1733) c_1737 (by omega) (by omega)
                                refine lv_iload_n hx hb dX12_close_101 rfl (lv_at hl 2 rfl) ?_
                                refine lv_if_eq (tgt := 137) hx hb dX12_close_102 (by decide) (fun c_1738 => ?_) (fun c_1738 => ?_)
                                · refine lv_iinc (v := (nI (j1723 + 1))) (lv' := [(2, .int (nI (j1723 + 1))), (3, .int (nI j1733)), (1, .int my1733), (0, .ref (ad 0))]) hx hb dX12_close_137 hl (k := 1) rfl (nI_1 _) (by decide) rfl (fun ls hl => ?_)
                                  refine lv_goto (tgt := 79) hx hb dX12_close_140 (by decide) ?_
                                  exact ih_1723 ((j1723 + 1)) my1733 en_1733 ls H locs (by omega) (by omega) (by omega) hI_1733 hf_1733 (⟨P_1733, hCH_1733, hPx_1733⟩) (i1_1733) (lv_sub hl [0, 2, 3] rfl) hh
                                · refine lv_aload_n hx hb dX12_close_105 rfl (lv_at hl 3 rfl) ?_
                                  refine lv_iload_n hx hb dX12_close_106 rfl (lv_at hl 1 rfl) ?_
                                  refine lv_iconst (v := 0) hx hb dX12_close_107 (by decide) ?_
                                  refine hp_callMv (va_runV (As := [.int (nI j1723), .int 0]) (rest := []) ⟨hx, hb, hml, hown, hts⟩ (c_X12_layProduct l D cy _ cs ad en_1733 hI_1733 j1723 0 (by omega) (by omega)) (kw_X12_layProduct hts tw_1133 ⟨by decide, by decide⟩) (preV_of hh hK (hI.1 _ (by decide)) es1734 rfl) rfl rfl hl.1 rfl (lv_room (Nat.le_of_ble_eq_true rfl)) dX12_close_108 ⟨Nat.le_of_ble_eq_true rfl, Nat.le_of_ble_eq_true rfl⟩) hh hA (fun H locs en_1739 hw_1739 hh => ?_)
                                  obtain ⟨hI_1739, hu_1739⟩ := hw_1739
                                  have es1734_1739 : en_1739 0 = .inr (11, [.int fa_1734, .int hi_1734, .int (nI wd), .int (nI mo), .int (nI tb), .ref (ad 1), .ref (ad 2), .ref (ad 3), .ref (ad 4), .ref (ad 5), .ref (ad 6), .ref (ad 7), .ref (ad 8), .ref (ad 9), .int dp_1734, .long many_1734, .long grt_1734, .long lst_1734, .long nou_1734, .ref (ad 10), .ref (ad 11), .ref (ad 12), .int rm_1734, .long rb_1734, .ref (ad 13), .int (nI P_1733), .ref (ad 14), .ref (ad 15), .ref (ad 16), .ref (ad 17), .int (nI wo), .ref (ad 18), .ref (ad 19)]) := (hu_1739 0 (by omega)).trans es1734
                                  have hf_1739 : ∀ c, (c ≠ 0 ∧ c ≠ 6 ∧ c ≠ 14 ∧ c ≠ 15 ∧ c ≠ 16 ∧ c ≠ 17) → en_1739 c = en c := fun c hc => (hu_1739 c (by omega)).trans (hf_1733 c hc)
                                  have hkp_1739 : KPp en en_1739 := KPp_same i1_1733 (hu_1739 0 (by omega))
                                  have hcq_1739 := CH_keep (e1 := en_1739) hCH_1733 (by rw [hu_1739 0 (by omega)]) (hu_1739 16 (by omega)) (hu_1739 17 (by omega))
                                  refine lv_aload_n hx hb dX12_close_111 rfl (lv_at hl 3 rfl) ?_
                                  refine lv_iconst (v := 0) hx hb dX12_close_112 (by decide) ?_
                                  refine lv_iload_n hx hb dX12_close_113 rfl (lv_at hl 0 rfl) ?_
                                  refine hp_callMv (va_runV (As := [.int 0, .int (nI j1733)]) (rest := []) ⟨hx, hb, hml, hown, hts⟩ (c_X12_goOn l D cy _ cs ad en_1739 hI_1739 0 j1733 (by omega) (by omega)) (kw_X12_goOn hts tw_1050 ⟨by decide, by decide⟩) (preV_of hh hK (hI.1 _ (by decide)) es1734_1739 rfl) rfl rfl hl.1 rfl (lv_room (Nat.le_of_ble_eq_true rfl)) dX12_close_114 ⟨Nat.le_of_ble_eq_true rfl, Nat.le_of_ble_eq_true rfl⟩) hh hA (fun H locs en_1740 hw_1740 hh => ?_)
                                  obtain ⟨hI_1740, hu_1740⟩ := hw_1740
                                  have es1734_1740 : en_1740 0 = .inr (11, [.int fa_1734, .int hi_1734, .int (nI wd), .int (nI mo), .int (nI tb), .ref (ad 1), .ref (ad 2), .ref (ad 3), .ref (ad 4), .ref (ad 5), .ref (ad 6), .ref (ad 7), .ref (ad 8), .ref (ad 9), .int dp_1734, .long many_1734, .long grt_1734, .long lst_1734, .long nou_1734, .ref (ad 10), .ref (ad 11), .ref (ad 12), .int rm_1734, .long rb_1734, .ref (ad 13), .int (nI P_1733), .ref (ad 14), .ref (ad 15), .ref (ad 16), .ref (ad 17), .int (nI wo), .ref (ad 18), .ref (ad 19)]) := (hu_1740 0 (by omega)).trans es1734_1739
                                  have hf_1740 : ∀ c, (c ≠ 0 ∧ c ≠ 6 ∧ c ≠ 14 ∧ c ≠ 15 ∧ c ≠ 16 ∧ c ≠ 17) → en_1740 c = en c := fun c hc => (hu_1740 c (by omega)).trans (hf_1739 c hc)
                                  have hkp_1740 : KPp en en_1740 := KPp_same hkp_1739 (hu_1740 0 (by omega))
                                  have hcq_1740 := CH_keep (e1 := en_1740) hcq_1739 (by rw [hu_1740 0 (by omega)]) (hu_1740 16 (by omega)) (hu_1740 17 (by omega))
                                  refine lv_aload_n hx hb dX12_close_117 rfl (lv_at hl 3 rfl) ?_
                                  refine lv_iconst (v := 1) hx hb dX12_close_118 (by decide) ?_
                                  refine lv_aload_n hx hb dX12_close_119 rfl (lv_at hl 3 rfl) ?_
                                  refine hp_get hx hb hts ix12 hown hK hh (q := 0) rfl (hI.1 _ (by decide)) es1734_1740 rfl 27 (by decide) (hts _ tw_906) (fun _ h9 => h9) rfl dX12_close_120 ?_
                                  refine lv_iload_n hx hb dX12_close_123 rfl (lv_at hl 1 rfl) ?_
                                  obtain ⟨f_1741, es1741⟩ := getr_ln hI_1740
                                  refine hp_iald hx hb hK hh (q := 15) rfl (hI.1 _ (by decide)) es1741 (vp_in_nI (n := j1723) (by omega) (by decide)) dX12_close_124 ?_
                                  rw [nI_clamp (n := j1723) (by omega)]
                                  refine lv_iconst (v := 1) hx hb dX12_close_125 (by decide) ?_
                                  refine lv_iadd hx hb dX12_close_126 ?_
                                  refine hp_callMi (va_runV (As := [.int 1, .int ((f_1741 j1723) + 1)]) (rest := []) ⟨hx, hb, hml, hown, hts⟩ (c_X12_comes l D cy _ cs ad en_1740 hI_1740 1 ((f_1741 j1723) + 1) (by omega) P_1733 hcq_1740) (kw_X12_comes hts tw_1117 ⟨by decide, by decide⟩) (preV_of hh hK (hI.1 _ (by decide)) es1734_1740 rfl) rfl rfl hl.1 rfl (lv_room (Nat.le_of_ble_eq_true rfl)) dX12_close_127 ⟨Nat.le_of_ble_eq_true rfl, Nat.le_of_ble_eq_true rfl⟩) hh hA (fun r_1742 H locs en_1742 hw_1742 hh => ?_)
                                  obtain ⟨hI_1742, hu_1742, hy_1742, hx_1742⟩ := hw_1742
                                  have hw_1742 := (⟨hI_1742, hu_1742, hx_1742⟩ : _ ∧ _ ∧ _)
                                  obtain ⟨hI_1742, hu_1742, hx_1742⟩ := hw_1742
                                  have hf_1742 : ∀ c, (c ≠ 0 ∧ c ≠ 6 ∧ c ≠ 14 ∧ c ≠ 15 ∧ c ≠ 16 ∧ c ≠ 17) → en_1742 c = en c := fun c hc => (hu_1742 c (by omega)).trans (hf_1740 c hc)
                                  have hkp_1742 : KPp en en_1742 := KPp_tr hkp_1740 hx_1742
                                  rcases hy_1742 with ⟨hr_1742, hch_1742⟩ | ⟨hr_1742, P1_1742, hch_1742, hle_1742, hp1_1742⟩
                                  · rw [hr_1742]
                                    refine lv_istore_n (lv' := [(1, .int 0), (3, .int (nI j1733)), (2, .int (nI j1723)), (0, .ref (ad 0))]) hx hb dX12_close_130 rfl hl (by decide) rfl (fun ls hl => ?_)
                                    refine lv_iinc (v := (nI (j1733 + 1))) (lv' := [(3, .int (nI (j1733 + 1))), (1, .int 0), (2, .int (nI j1723)), (0, .ref (ad 0))]) hx hb dX12_close_131 hl (k := 1) rfl (nI_1 _) (by decide) rfl (fun ls hl => ?_)
                                    refine lv_goto (tgt := 93) hx hb dX12_close_134 (by decide) ?_
                                    exact ih_1733 ((j1733 + 1)) 0 en_1742 ls H locs (by omega) (by omega) (by omega) hI_1742 hf_1742 (⟨P_1733, hch_1742, Or.inl rfl⟩) (hkp_1742) (lv_sub hl [0, 2, 1, 3] rfl) hh
                                  · rw [hr_1742]
                                    refine lv_istore_n (lv' := [(1, .int 1), (3, .int (nI j1733)), (2, .int (nI j1723)), (0, .ref (ad 0))]) hx hb dX12_close_130 rfl hl (by decide) rfl (fun ls hl => ?_)
                                    refine lv_iinc (v := (nI (j1733 + 1))) (lv' := [(3, .int (nI (j1733 + 1))), (1, .int 1), (2, .int (nI j1723)), (0, .ref (ad 0))]) hx hb dX12_close_131 hl (k := 1) rfl (nI_1 _) (by decide) rfl (fun ls hl => ?_)
                                    refine lv_goto (tgt := 93) hx hb dX12_close_134 (by decide) ?_
                                    exact ih_1733 ((j1733 + 1)) 1 en_1742 ls H locs (by omega) (by omega) (by omega) hI_1742 hf_1742 (⟨P1_1742, hch_1742, Or.inr hp1_1742⟩) (hkp_1742) (lv_sub hl [0, 2, 1, 3] rfl) hh
                          exact loop_1733 (6 + 1) 0 my1723 en_1723 ls _ _ (Nat.le_refl _) (by omega) (by omega) hI_1723 hf_1723 (⟨P_1723, hCH_1723, hPx_1723⟩) (i1_1723) (lv_sub hl [0, 1, 2, 3] rfl) hh
                  exact loop_1723 (2000 + 1) 0 my1697 en_1697 ls _ _ (Nat.le_refl _) (by omega) (by omega) hI_1697 hf_1697 (⟨P_1697, hCH_1697, Or.inl c_1722⟩) (i1_1697) (lv_sub hl [0, 1, 2] rfl) hh
                · refine lv_aload_n hx hb dX12_close_58 rfl (lv_at hl 2 rfl) ?_
                  refine lv_iconst (v := 0) hx hb dX12_close_59 (by decide) ?_
                  refine lv_iload_n hx hb dX12_close_60 rfl (lv_at hl 0 rfl) ?_
                  refine hp_callMv (va_runV (As := [.int 0, .int (nI j1697)]) (rest := []) ⟨hx, hb, hml, hown, hts⟩ (c_X12_goOn l D cy _ cs ad en_1697 hI_1697 0 j1697 (by omega) (by omega)) (kw_X12_goOn hts tw_1050 ⟨by decide, by decide⟩) (preV_of hh hK (hI.1 _ (by decide)) es1698 rfl) rfl rfl hl.1 rfl (lv_room (Nat.le_of_ble_eq_true rfl)) dX12_close_61 ⟨Nat.le_of_ble_eq_true rfl, Nat.le_of_ble_eq_true rfl⟩) hh hA (fun H locs en_1743 hw_1743 hh => ?_)
                  obtain ⟨hI_1743, hu_1743⟩ := hw_1743
                  have es1698_1743 : en_1743 0 = .inr (11, [.int fa_1698, .int hi_1698, .int (nI wd), .int (nI mo), .int (nI tb), .ref (ad 1), .ref (ad 2), .ref (ad 3), .ref (ad 4), .ref (ad 5), .ref (ad 6), .ref (ad 7), .ref (ad 8), .ref (ad 9), .int dp_1698, .long many_1698, .long grt_1698, .long lst_1698, .long nou_1698, .ref (ad 10), .ref (ad 11), .ref (ad 12), .int rm_1698, .long rb_1698, .ref (ad 13), .int (nI P_1697), .ref (ad 14), .ref (ad 15), .ref (ad 16), .ref (ad 17), .int (nI wo), .ref (ad 18), .ref (ad 19)]) := (hu_1743 0 (by omega)).trans es1698
                  have hf_1743 : ∀ c, (c ≠ 0 ∧ c ≠ 6 ∧ c ≠ 14 ∧ c ≠ 15 ∧ c ≠ 16 ∧ c ≠ 17) → en_1743 c = en c := fun c hc => (hu_1743 c (by omega)).trans (hf_1697 c hc)
                  have hkp_1743 : KPp en en_1743 := KPp_same i1_1697 (hu_1743 0 (by omega))
                  have hcq_1743 := CH_keep (e1 := en_1743) hCH_1697 (by rw [hu_1743 0 (by omega)]) (hu_1743 16 (by omega)) (hu_1743 17 (by omega))
                  refine lv_aload_n hx hb dX12_close_64 rfl (lv_at hl 2 rfl) ?_
                  refine lv_iconst (v := 1) hx hb dX12_close_65 (by decide) ?_
                  refine lv_iconst (v := 1) hx hb dX12_close_66 (by decide) ?_
                  refine hp_callMi (va_runV (As := [.int 1, .int 1]) (rest := []) ⟨hx, hb, hml, hown, hts⟩ (c_X12_comes l D cy _ cs ad en_1743 hI_1743 1 1 (by omega) P_1697 hcq_1743) (kw_X12_comes hts tw_1117 ⟨by decide, by decide⟩) (preV_of hh hK (hI.1 _ (by decide)) es1698_1743 rfl) rfl rfl hl.1 rfl (lv_room (Nat.le_of_ble_eq_true rfl)) dX12_close_67 ⟨Nat.le_of_ble_eq_true rfl, Nat.le_of_ble_eq_true rfl⟩) hh hA (fun r_1744 H locs en_1744 hw_1744 hh => ?_)
                  obtain ⟨hI_1744, hu_1744, hy_1744, hx_1744⟩ := hw_1744
                  have hw_1744 := (⟨hI_1744, hu_1744, hx_1744⟩ : _ ∧ _ ∧ _)
                  obtain ⟨hI_1744, hu_1744, hx_1744⟩ := hw_1744
                  have hf_1744 : ∀ c, (c ≠ 0 ∧ c ≠ 6 ∧ c ≠ 14 ∧ c ≠ 15 ∧ c ≠ 16 ∧ c ≠ 17) → en_1744 c = en c := fun c hc => (hu_1744 c (by omega)).trans (hf_1743 c hc)
                  have hkp_1744 : KPp en en_1744 := KPp_tr hkp_1743 hx_1744
                  rcases hy_1744 with ⟨hr_1744, hch_1744⟩ | ⟨hr_1744, P1_1744, hch_1744, hle_1744, hp1_1744⟩
                  · rw [hr_1744]
                    refine lv_istore_n (lv' := [(1, .int 0), (2, .int (nI j1697)), (0, .ref (ad 0))]) hx hb dX12_close_70 rfl hl (by decide) rfl (fun ls hl => ?_)
                    refine lv_iinc (v := (nI (j1697 + 1))) (lv' := [(2, .int (nI (j1697 + 1))), (1, .int 0), (0, .ref (ad 0))]) hx hb dX12_close_71 hl (k := 1) rfl (nI_1 _) (by decide) rfl (fun ls hl => ?_)
                    refine lv_goto (tgt := 46) hx hb dX12_close_74 (by decide) ?_
                    exact ih_1697 ((j1697 + 1)) 0 en_1744 ls H locs (by omega) (by omega) (by omega) hI_1744 hf_1744 (⟨P_1697, hch_1744, Or.inr (Or.inl rfl)⟩) (hkp_1744) (lv_sub hl [0, 1, 2] rfl) hh
                  · rw [hr_1744]
                    refine lv_istore_n (lv' := [(1, .int 1), (2, .int (nI j1697)), (0, .ref (ad 0))]) hx hb dX12_close_70 rfl hl (by decide) rfl (fun ls hl => ?_)
                    refine lv_iinc (v := (nI (j1697 + 1))) (lv' := [(2, .int (nI (j1697 + 1))), (1, .int 1), (0, .ref (ad 0))]) hx hb dX12_close_71 hl (k := 1) rfl (nI_1 _) (by decide) rfl (fun ls hl => ?_)
                    refine lv_goto (tgt := 46) hx hb dX12_close_74 (by decide) ?_
                    exact ih_1697 ((j1697 + 1)) 1 en_1744 ls H locs (by omega) (by omega) (by omega) hI_1744 hf_1744 (⟨P1_1744, hch_1744, Or.inr (Or.inr hp1_1744)⟩) (hkp_1744) (lv_sub hl [0, 1, 2] rfl) hh
          exact loop_1697 (6 + 1) 0 1 en_1696 ls _ _ (Nat.le_refl _) (by omega) (by omega) hI_1696 hf_1696 (⟨0, hcq_1696, Or.inl rfl⟩) (hkp_1696) (lv_sub hl [0, 1, 2] rfl) hh
        · have n_1692 : j1691 < 4096 := n_nle (a := 4096) (b := j1691) c_1692 (by decide) (by omega)
          refine lv_aload_n hx hb dX12_close_24 rfl (lv_at hl 1 rfl) ?_
          obtain ⟨fa_1745, hi_1745, wd_1745, mo_1745, tb_1745, dp_1745, many_1745, grt_1745, lst_1745, nou_1745, rm_1745, rb_1745, pr_1745, wo_1745, es1745, p0_1745, p1_1745, p2_1745, p3_1745, p4_1745⟩ := getr_M hI_1691
          have hfx_1746 : pr_1745 = nI 0 := (show pr_1745 = rdI (en_1691 0) 25 from by rw [es1745]; rfl).trans (i1_1691)
          rw [hfx_1746] at es1745
          have hq2_1747 : wd_1745 = wd := n_eq ((show nI wd_1745 = rdI (en_1691 0) 2 from by rw [es1745]; rfl).trans (i2_1691.2.1.trans (show rdI (en 0) 2 = nI wd from by rw [es1688]; rfl))) (by omega) (by omega)
          have hq3_1747 : mo_1745 = mo := n_eq ((show nI mo_1745 = rdI (en_1691 0) 3 from by rw [es1745]; rfl).trans (i2_1691.2.2.1.trans (show rdI (en 0) 3 = nI mo from by rw [es1688]; rfl))) (by omega) (by omega)
          have hq4_1747 : tb_1745 = tb := n_eq ((show nI tb_1745 = rdI (en_1691 0) 4 from by rw [es1745]; rfl).trans (i2_1691.2.2.2.1.trans (show rdI (en 0) 4 = nI tb from by rw [es1688]; rfl))) (by omega) (by omega)
          have hq30_1747 : wo_1745 = wo := n_eq ((show nI wo_1745 = rdI (en_1691 0) 30 from by rw [es1745]; rfl).trans (i2_1691.2.2.2.2.trans (show rdI (en 0) 30 = nI wo from by rw [es1688]; rfl))) (by omega) (by omega)
          rw [hq2_1747, hq3_1747, hq4_1747, hq30_1747] at es1745
          refine hp_get hx hb hts ix12 hown hK hh (q := 0) rfl (hI.1 _ (by decide)) es1745 rfl 28 (by decide) (hts _ tw_907) (fun _ h9 => h9) rfl dX12_close_25 ?_
          refine lv_iload_n hx hb dX12_close_28 rfl (lv_at hl 0 rfl) ?_
          refine lv_bipush (v := (-9)) hx hb dX12_close_29 (by decide) ?_
          obtain ⟨f_1748, es1748⟩ := getr_hd hI_1691
          refine hp_iast hx hb hK hh (q := 16) rfl (hI.1 _ (by decide)) es1748 (vp_in_nI (n := j1691) (by omega) (by decide)) dX12_close_31 (fun H locs en_1749 hen_1749 hh => ?_)
          rw [nI_clamp (n := j1691) (by omega)] at hen_1749
          have es1745_1749 : en_1749 0 = .inr (11, [.int fa_1745, .int hi_1745, .int (nI wd), .int (nI mo), .int (nI tb), .ref (ad 1), .ref (ad 2), .ref (ad 3), .ref (ad 4), .ref (ad 5), .ref (ad 6), .ref (ad 7), .ref (ad 8), .ref (ad 9), .int dp_1745, .long many_1745, .long grt_1745, .long lst_1745, .long nou_1745, .ref (ad 10), .ref (ad 11), .ref (ad 12), .int rm_1745, .long rb_1745, .ref (ad 13), .int (nI 0), .ref (ad 14), .ref (ad 15), .ref (ad 16), .ref (ad 17), .int (nI wo), .ref (ad 18), .ref (ad 19)]) := by rw [hen_1749, va_up_ne _ _ (by decide)]; exact es1745
          have es1748_1749 : en_1749 16 = .inl (cy 0, 4096, .inl (upd f_1748 j1691 (-9))) := by rw [hen_1749]; exact va_up_self _ _ _
          have hI_1749 : RX cy cs ad en_1749 := by rw [hen_1749]; exact upr_hd hI_1691 ⟨(upd f_1748 j1691 (-9)), rfl⟩
          have hf_1749 : ∀ c, (c ≠ 0 ∧ c ≠ 6 ∧ c ≠ 14 ∧ c ≠ 15 ∧ c ≠ 16 ∧ c ≠ 17) → en_1749 c = en c := fun c hc => Eq.trans (show en_1749 c = en_1691 c from by rw [hen_1749, va_up_ne _ _ (by omega)]) (hf_1691 c hc)
          have hkp_1749 : KPp en en_1749 := KPp_same i2_1691 (show en_1749 0 = en_1691 0 from by rw [hen_1749, va_up_ne _ _ (by decide)])
          refine lv_iinc (v := (nI (j1691 + 1))) (lv' := [(1, .int (nI (j1691 + 1))), (0, .ref (ad 0))]) hx hb dX12_close_32 hl (k := 0) rfl (nI_1 _) (by decide) rfl (fun ls hl => ?_)
          refine lv_goto (tgt := 17) hx hb dX12_close_35 (by decide) ?_
          exact ih_1691 ((j1691 + 1))  en_1749 ls H locs (by omega) (by omega) (by omega) hI_1749 hf_1749 (fun i hi => by rw [es1748_1749]; exact z_upd hi rfl (fun h9 => (show f_1748 i = rdF (en_1691 16) i from by rw [es1748]; rfl).trans (i0_1691 i h9))) (by rw [es1745_1749]; rfl) (hkp_1749) (lv_sub hl [0, 1] rfl) hh
    exact loop_1691 (4096 + 1) 0  en_1690 ls _ _ (Nat.le_refl _) (by omega) (by omega) hI_1690 hf_1690 (fun i h => absurd h (Nat.not_lt_zero i)) (by rw [es1688_1690]; rfl) (hkp_1690) (lv_sub hl [0, 1] rfl) hh
  · have n_1689 : tb = 0 := n_eq (a := tb) (b := 0) c_1689 (by omega) (by decide)
    refine lv_bipush (v := (-3)) hx hb dX12_close_7 (by decide) ?_
    exact hp_iretM hx hb hr rfl hlocks hh (⟨hI, hf0, hCX, (KPp_rf en)⟩) dX12_close_9
theorem kw_X12_close {R : Room} {s : State} {args : Array Value} {own : String} {idx : Nat} (hts : ∀ w ∈ TB, w.before args s = true) (hl : Cond.methodLink own idx yX12_close ∈ TB) (hR : 3 + 1 ≤ R.frames ∧ 8 + (4 + 11) + 40 * 3 ≤ R.locals) : CallW R s args own RX12 idx yX12_close cX12_close 4 (some .int) (Cond.code yX12_close cX12_close 4 (some .int) :: TB) (rmN 3) 0 0 0 := cwV 0 hts (TB_V hl tw_1114 tw_1115 tw_9 tw_1116) rfl rfl rfl (by decide +kernel) hR
