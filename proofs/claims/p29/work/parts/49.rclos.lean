set_option maxHeartbeats 4000000 in
set_option maxRecDepth 100000 in
/-- chainOf -/
theorem c_X12_chainOf (l : Launch) (D : va_G) (cy : Nat → ClassId) (sz : Nat) (cs : List Nat) (ad : Nat → Nat) (en : Nat → va_E) (hI : RX cy cs ad en) (n : Nat) (hn : n ≤ 12)   : Met l yX12_chainOf (Cond.code yX12_chainOf cX12_chainOf 5 (some .int) :: TB) (rmN 0) (va_Pc [.ref (ad 0), .int (nI n)] (Pre D cy cs ad en sz)) (va_Qi (S := Unit) (fun r _ => ∃ S, S < 4096 ∧ r = nI S) (fun _ _ => True) (Nf sz)) 0 0 (Nf sz) := by
  refine Met.ofW (cc := cX12_chainOf) (maxL := 5) (ret := (some .int)) (by decide) rfl ?_
  intro p e s m args below meth c s₁ B hml hv
  obtain ⟨rfl, hsz, hP, hK, hD0⟩ := hv
  have hx := B.exec
  have hb := B.bytes
  have hr := B.returns
  have hts : ∀ w ∈ TB, w.before _ s = true := fun w h => atoms_spec (ws := _ :: TB) B.pre w (List.mem_cons_of_mem _ h)
  have hown : s.vm.findClass RX12 = some m.cls := findClass_of_methodNamed B.named
  have hlocks := B.notSynchronized
  have hh : Hp D (Nf sz) (fun _ => True) s.heap s.heap [] cs ad en := ⟨hP, hD0, va_S.rf⟩
  have hA : ∀ q : Nat, s.heap.size ≤ q → Nf sz q := fun q h => by rw [hsz] at h; exact h
  have hl := lv_entry ([.ref (ad 0), .int (nI n)]) (n := 5) (Nat.le_of_ble_eq_true rfl)
  rw [lg_entry_eq]
  generalize (lg_sl ([.ref (ad 0), .int (nI n)]) ++ List.replicate (5 - (lg_sl ([.ref (ad 0), .int (nI n)])).length) Slot.unset).toArray = ls at hl ⊢
  have hl : lv_has ls 5 [(0, .ref (ad 0)), (1, .int (nI n))] := hl
  obtain ⟨fa, hi, wd, mo, tb, dp, many, grt, lst, nou, rm, rb, pr, wo, es1596, hwd2, hwd3, hmo, htb, hwo⟩ := getr_M hI
  have hww : wd * wd ≤ 9 := mww (by omega)
  refine lv_lconst (v := 0) hx hb dX12_chainOf_0 (by decide) ?_
  refine lv_lstore_n (lv' := [(2, .long 0), (0, .ref (ad 0)), (1, .int (nI n))]) hx hb dX12_chainOf_1 rfl hl (by decide) rfl (fun ls hl => ?_)
  refine lv_iconst (v := 0) hx hb dX12_chainOf_2 (by decide) ?_
  refine lv_istore (lv' := [(4, .int 0), (2, .long 0), (0, .ref (ad 0)), (1, .int (nI n))]) hx hb dX12_chainOf_3 hl (by decide) rfl (fun ls hl => ?_)
  have loop_1597 : ∀ (fu j1597 : Nat) (v1597 : Int64)  (ls : Array Slot) (H : Heap) (locs : List Loc), 0 ≤ j1597 → j1597 ≤ (wd * wd) → (wd * wd) < j1597 + fu →   lv_has ls 5 [(4, .int (nI j1597)), (2, .long v1597), (0, .ref (ad 0)), (1, .int (nI n))] → Hp D (Nf sz) (fun _ => True) s.heap H locs cs ad en → W p l e (headSpec (Cond.code yX12_chainOf cX12_chainOf 5 (some .int) :: TB) (rmN 0)).room s m ([.ref (ad 0), .int (nI n)] : List Value).toArray below meth c H locs 0 0 (MQ below (va_Qi (S := Unit) (fun r _ => ∃ S, S < 4096 ∧ r = nI S) (fun _ _ => True) (Nf sz)) ([.ref (ad 0), .int (nI n)] : List Value).toArray s 0 0 (Nf sz)) (F0 m 5 ls []) := by
    intro fu
    induction fu with
    | zero => intro j1597 v1597 ls H locs h0 h1 h2; exact absurd h2 (by omega)
    | succ fu ih_1597 =>
      intro j1597 v1597 ls H locs hj0_1597 hj_1597 hfu_1597  hl hh
      refine lv_iload hx hb dX12_chainOf_5 (lv_at hl 0 rfl) ?_
      refine lv_aload_n hx hb dX12_chainOf_7 rfl (lv_at hl 2 rfl) ?_
      refine hp_get hx hb hts ix12 hown hK hh (q := 0) rfl (hI.1 _ (by decide)) es1596 rfl 2 (by decide) (hts _ tw_881) (fun _ h9 => h9) rfl dX12_chainOf_8 ?_
      refine lv_aload_n hx hb dX12_chainOf_11 rfl (lv_at hl 2 rfl) ?_
      refine hp_get hx hb hts ix12 hown hK hh (q := 0) rfl (hI.1 _ (by decide)) es1596 rfl 2 (by decide) (hts _ tw_881) (fun _ h9 => h9) rfl dX12_chainOf_12 ?_
      refine lv_imul hx hb dX12_chainOf_15 ?_
      rw [pk_mul wd wd]
      have hw2_1598 : wd * wd ≤ 9 := mww (by omega)
      refine lv_icmp_ge (tgt := 44) hx hb dX12_chainOf_16 (by decide) (fun c_1599 => ?_) (fun c_1599 => ?_)
      · have n_1599 : (wd * wd) ≤ j1597 := n_le (a := (wd * wd)) (b := j1597) c_1599 (by omega) (by omega)
        refine lv_lload_n hx hb dX12_chainOf_44 rfl (lv_at hl 1 rfl) ?_
        refine lv_lload_n hx hb dX12_chainOf_45 rfl (lv_at hl 1 rfl) ?_
        refine lv_bipush (v := 21) hx hb dX12_chainOf_46 (by decide) ?_
        refine lv_lshr hx hb dX12_chainOf_48 rfl ?_
        refine lv_lxor hx hb dX12_chainOf_49 ?_
        refine lv_ldc2 hx hb hown (hts _ tw_1132) dX12_chainOf_50 ?_
        refine lv_land hx hb dX12_chainOf_53 ?_
        refine lv_l2i hx hb dX12_chainOf_54 rfl ?_
        obtain ⟨S_1600, hS_1600, hSe_1600⟩ := l4095 (v1597 ^^^ (v1597 >>> ((21 : Int32).toInt64 &&& 63)))
        rw [hSe_1600]
        exact hp_iretR hx hb hr rfl hlocks hsz hh (⟨_, hS_1600, rfl⟩) dX12_chainOf_55
      · have n_1599 : j1597 < (wd * wd) := n_nle (a := (wd * wd)) (b := j1597) c_1599 (by omega) (by omega)
        refine lv_lload_n hx hb dX12_chainOf_19 rfl (lv_at hl 1 rfl) ?_
        refine lv_ldc2 hx hb hown (hts _ tw_1131) dX12_chainOf_20 ?_
        refine lv_lmul hx hb dX12_chainOf_23 ?_
        refine lv_aload_n hx hb dX12_chainOf_24 rfl (lv_at hl 2 rfl) ?_
        refine hp_get hx hb hts ix12 hown hK hh (q := 0) rfl (hI.1 _ (by decide)) es1596 rfl 10 (by decide) (hts _ tw_889) (fun _ h9 => h9) rfl dX12_chainOf_25 ?_
        refine lv_bipush (v := 9) hx hb dX12_chainOf_28 (by decide) ?_
        refine lv_iload_n hx hb dX12_chainOf_30 rfl (lv_at hl 3 rfl) ?_
        refine lv_imul hx hb dX12_chainOf_31 ?_
        rw [show (9 : Int32) = nI 9 from rfl, pk_mul 9 n]
        refine lv_iload hx hb dX12_chainOf_32 (lv_at hl 0 rfl) ?_
        refine lv_iadd hx hb dX12_chainOf_34 ?_
        rw [nI_add (9 * n) j1597]
        obtain ⟨f_1601, es1601⟩ := getr_lv hI
        refine hp_lald hx hb hK hh (q := 6) rfl (hI.1 _ (by decide)) es1601 (vp_in_nI (n := ((9 * n) + j1597)) (by omega) (by decide)) dX12_chainOf_35 ?_
        rw [nI_clamp (n := ((9 * n) + j1597)) (by omega)]
        refine lv_ladd hx hb dX12_chainOf_36 ?_
        refine lv_lstore_n (lv' := [(2, .long ((v1597 * 1000003) + (f_1601 ((9 * n) + j1597)))), (4, .int (nI j1597)), (0, .ref (ad 0)), (1, .int (nI n))]) hx hb dX12_chainOf_37 rfl hl (by decide) rfl (fun ls hl => ?_)
        refine lv_iinc (v := (nI (j1597 + 1))) (lv' := [(4, .int (nI (j1597 + 1))), (2, .long ((v1597 * 1000003) + (f_1601 ((9 * n) + j1597)))), (0, .ref (ad 0)), (1, .int (nI n))]) hx hb dX12_chainOf_38 hl (k := 1) rfl (nI_1 _) (by decide) rfl (fun ls hl => ?_)
        refine lv_goto (tgt := 5) hx hb dX12_chainOf_41 (by decide) ?_
        exact ih_1597 ((j1597 + 1)) ((v1597 * 1000003) + (f_1601 ((9 * n) + j1597))) ls H locs (by omega) (by omega) (by omega)  (lv_sub hl [0, 1, 2, 3] rfl) hh
  exact loop_1597 ((wd * wd) + 1) 0 0 ls _ _ (Nat.le_refl _) (by omega) (by omega)  (lv_sub hl [0, 1, 2, 3] rfl) hh
theorem kw_X12_chainOf {R : Room} {s : State} {args : Array Value} {own : String} {idx : Nat} (hts : ∀ w ∈ TB, w.before args s = true) (hl : Cond.methodLink own idx yX12_chainOf ∈ TB) (hR : 0 + 1 ≤ R.frames ∧ 8 + (5 + 11) + 40 * 0 ≤ R.locals) : CallW R s args own RX12 idx yX12_chainOf cX12_chainOf 5 (some .int) (Cond.code yX12_chainOf cX12_chainOf 5 (some .int) :: TB) (rmN 0) 0 0 1 := cwV 1 hts (TB_V hl tw_1129 ts_52 tw_9 tw_1130) rfl rfl rfl (by decide +kernel) hR
set_option maxHeartbeats 4000000 in
set_option maxRecDepth 100000 in
/-- findAt -/
theorem c_X12_findAt (l : Launch) (D : va_G) (cy : Nat → ClassId) (sz : Nat) (cs : List Nat) (ad : Nat → Nat) (en : Nat → va_E) (hI : RX cy cs ad en) (n : Nat) (hn : n ≤ 12) (P : Nat) (hCH : CH en P)   : Met l yX12_findAt (Cond.code yX12_findAt cX12_findAt 4 (some .int) :: TB) (rmN 1) (va_Pc [.ref (ad 0), .int (nI n)] (Pre D cy cs ad en sz)) (va_Qi (S := Unit) (fun r _ => (r = -9 ∨ ∃ v, v < P ∧ r = nI v)) (fun _ _ => True) (Nf sz)) 0 0 (Nf sz) := by
  refine Met.ofW (cc := cX12_findAt) (maxL := 4) (ret := (some .int)) (by decide) rfl ?_
  intro p e s m args below meth c s₁ B hml hv
  obtain ⟨rfl, hsz, hP, hK, hD0⟩ := hv
  have hx := B.exec
  have hb := B.bytes
  have hr := B.returns
  have hts : ∀ w ∈ TB, w.before _ s = true := fun w h => atoms_spec (ws := _ :: TB) B.pre w (List.mem_cons_of_mem _ h)
  have hown : s.vm.findClass RX12 = some m.cls := findClass_of_methodNamed B.named
  have hlocks := B.notSynchronized
  have hh : Hp D (Nf sz) (fun _ => True) s.heap s.heap [] cs ad en := ⟨hP, hD0, va_S.rf⟩
  have hA : ∀ q : Nat, s.heap.size ≤ q → Nf sz q := fun q h => by rw [hsz] at h; exact h
  have hl := lv_entry ([.ref (ad 0), .int (nI n)]) (n := 4) (Nat.le_of_ble_eq_true rfl)
  rw [lg_entry_eq]
  generalize (lg_sl ([.ref (ad 0), .int (nI n)]) ++ List.replicate (4 - (lg_sl ([.ref (ad 0), .int (nI n)])).length) Slot.unset).toArray = ls at hl ⊢
  have hl : lv_has ls 4 [(0, .ref (ad 0)), (1, .int (nI n))] := hl
  obtain ⟨fa, hi, wd, mo, tb, dp, many, grt, lst, nou, rm, rb, pr, wo, es1602, hwd2, hwd3, hmo, htb, hwo⟩ := getr_M hI
  obtain ⟨f_1603, es1603⟩ := getr_hd hI
  obtain ⟨f_1604, es1604⟩ := getr_ch hI
  obtain ⟨f_1605, es1605⟩ := getr_pd hI
  obtain ⟨f_1606, es1606⟩ := getr_lv hI
  have hww : wd * wd ≤ 9 := mww (by omega)
  have hP9 := hCH.1
  refine lv_aload_n hx hb dX12_findAt_0 rfl (lv_at hl 0 rfl) ?_
  refine hp_get hx hb hts ix12 hown hK hh (q := 0) rfl (hI.1 _ (by decide)) es1602 rfl 28 (by decide) (hts _ tw_907) (fun _ h9 => h9) rfl dX12_findAt_1 ?_
  refine lv_aload_n hx hb dX12_findAt_4 rfl (lv_at hl 0 rfl) ?_
  refine lv_iload_n hx hb dX12_findAt_5 rfl (lv_at hl 1 rfl) ?_
  refine hp_callRi (va_runV (As := [.int (nI n)]) (rest := [.ref (ad 16)]) ⟨hx, hb, hml, hown, hts⟩ (c_X12_chainOf l D cy _ cs ad en hI n (by omega)) (kw_X12_chainOf hts tw_1127 ⟨by decide, by decide⟩) (preV_of hh hK (hI.1 _ (by decide)) es1602 rfl) rfl rfl hl.1 rfl (lv_room (Nat.le_of_ble_eq_true rfl)) dX12_findAt_6 ⟨Nat.le_of_ble_eq_true rfl, Nat.le_of_ble_eq_true rfl⟩) hh hA (fun r_1607 H locs hw_1607 hh => ?_)
  obtain ⟨S_1607, hS_1607, rfl⟩ := hw_1607
  refine hp_iald hx hb hK hh (q := 16) rfl (hI.1 _ (by decide)) es1603 (vp_in_nI (n := S_1607) (by omega) (by decide)) dX12_findAt_9 ?_
  rw [nI_clamp (n := S_1607) (by omega)]
  refine lv_istore_n (lv' := [(2, .int (f_1603 S_1607)), (0, .ref (ad 0)), (1, .int (nI n))]) hx hb dX12_findAt_10 rfl hl (by decide) rfl (fun ls hl => ?_)
  have loop_1608 : ∀ (fu mm1608 : Nat) (pp1608 : Int32)   (ls : Array Slot) (H : Heap) (locs : List Loc), mm1608 < fu →  (pp1608 = -9 ∨ ∃ v, v < mm1608 ∧ v < P ∧ pp1608 = nI v) → lv_has ls 4 [(2, .int pp1608), (0, .ref (ad 0)), (1, .int (nI n))] → Hp D (Nf sz) (fun _ => True) s.heap H locs cs ad en → W p l e (headSpec (Cond.code yX12_findAt cX12_findAt 4 (some .int) :: TB) (rmN 1)).room s m ([.ref (ad 0), .int (nI n)] : List Value).toArray below meth c H locs 0 0 (MQ below (va_Qi (S := Unit) (fun r _ => (r = -9 ∨ ∃ v, v < P ∧ r = nI v)) (fun _ _ => True) (Nf sz)) ([.ref (ad 0), .int (nI n)] : List Value).toArray s 0 0 (Nf sz)) (F0 m 11 ls []) := by
    intro fu
    induction fu with
    | zero => intro mm1608 pp1608 ls H locs h2; exact absurd h2 (by omega)
    | succ fu ih_1608 =>
      intro mm1608 pp1608 ls H locs hmm_1608 i0_1608 hl hh
      refine lv_iload_n hx hb dX12_findAt_11 rfl (lv_at hl 0 rfl) ?_
      refine lv_bipush (v := (-9)) hx hb dX12_findAt_12 (by decide) ?_
      refine lv_icmp_eq (tgt := 89) hx hb dX12_findAt_14 (by decide) (fun c_1609 => ?_) (fun c_1609 => ?_)
      · refine lv_bipush (v := (-9)) hx hb dX12_findAt_89 (by decide) ?_
        exact hp_iretR hx hb hr rfl hlocks hsz hh (Or.inl rfl) dX12_findAt_91
      · rcases i0_1608 with hq9_1608 | ⟨v9_1608, hv9a_1608, hv9b_1608, hv9e_1608⟩
        · exact absurd hq9_1608 c_1609
        subst hv9e_1608
        refine lv_iconst (v := 0) hx hb dX12_findAt_17 (by decide) ?_
        refine lv_istore_n (lv' := [(3, .int 0), (2, .int (nI v9_1608)), (0, .ref (ad 0)), (1, .int (nI n))]) hx hb dX12_findAt_18 rfl hl (by decide) rfl (fun ls hl => ?_)
        have loop_1610 : ∀ (fu j1610 : Nat)   (ls : Array Slot) (H : Heap) (locs : List Loc), 0 ≤ j1610 → j1610 ≤ (wd * wd) → (wd * wd) < j1610 + fu →   lv_has ls 4 [(3, .int (nI j1610)), (2, .int (nI v9_1608)), (0, .ref (ad 0)), (1, .int (nI n))] → Hp D (Nf sz) (fun _ => True) s.heap H locs cs ad en → W p l e (headSpec (Cond.code yX12_findAt cX12_findAt 4 (some .int) :: TB) (rmN 1)).room s m ([.ref (ad 0), .int (nI n)] : List Value).toArray below meth c H locs 0 0 (MQ below (va_Qi (S := Unit) (fun r _ => (r = -9 ∨ ∃ v, v < P ∧ r = nI v)) (fun _ _ => True) (Nf sz)) ([.ref (ad 0), .int (nI n)] : List Value).toArray s 0 0 (Nf sz)) (F0 m 19 ls []) := by
          intro fu
          induction fu with
          | zero => intro j1610  ls H locs h0 h1 h2; exact absurd h2 (by omega)
          | succ fu ih_1610 =>
            intro j1610  ls H locs hj0_1610 hj_1610 hfu_1610  hl hh
            refine lv_iload_n hx hb dX12_findAt_19 rfl (lv_at hl 0 rfl) ?_
            refine lv_aload_n hx hb dX12_findAt_20 rfl (lv_at hl 2 rfl) ?_
            refine hp_get hx hb hts ix12 hown hK hh (q := 0) rfl (hI.1 _ (by decide)) es1602 rfl 2 (by decide) (hts _ tw_881) (fun _ h9 => h9) rfl dX12_findAt_21 ?_
            refine lv_aload_n hx hb dX12_findAt_24 rfl (lv_at hl 2 rfl) ?_
            refine hp_get hx hb hts ix12 hown hK hh (q := 0) rfl (hI.1 _ (by decide)) es1602 rfl 2 (by decide) (hts _ tw_881) (fun _ h9 => h9) rfl dX12_findAt_25 ?_
            refine lv_imul hx hb dX12_findAt_28 ?_
            rw [pk_mul wd wd]
            have hw2_1611 : wd * wd ≤ 9 := mww (by omega)
            refine lv_icmp_ge (tgt := 64) hx hb dX12_findAt_29 (by decide) (fun c_1612 => ?_) (fun c_1612 => ?_)
            · have n_1612 : (wd * wd) ≤ j1610 := n_le (a := (wd * wd)) (b := j1610) c_1612 (by omega) (by omega)
              refine lv_iload_n hx hb dX12_findAt_64 rfl (lv_at hl 0 rfl) ?_
              refine lv_aload_n hx hb dX12_findAt_65 rfl (lv_at hl 2 rfl) ?_
              refine hp_get hx hb hts ix12 hown hK hh (q := 0) rfl (hI.1 _ (by decide)) es1602 rfl 2 (by decide) (hts _ tw_881) (fun _ h9 => h9) rfl dX12_findAt_66 ?_
              refine lv_aload_n hx hb dX12_findAt_69 rfl (lv_at hl 2 rfl) ?_
              refine hp_get hx hb hts ix12 hown hK hh (q := 0) rfl (hI.1 _ (by decide)) es1602 rfl 2 (by decide) (hts _ tw_881) (fun _ h9 => h9) rfl dX12_findAt_70 ?_
              refine lv_imul hx hb dX12_findAt_73 ?_
              rw [pk_mul wd wd]
              have hw2_1613 : wd * wd ≤ 9 := mww (by omega)
              refine lv_icmp_ne (tgt := 79) hx hb dX12_findAt_74 (by decide) (fun c_1614 => ?_) (fun c_1614 => ?_)
              · have n_1614 : j1610 ≠ (wd * wd) := n_neq (a := j1610) (b := (wd * wd)) c_1614 (by omega) (by omega)
                refine lv_aload_n hx hb dX12_findAt_79 rfl (lv_at hl 2 rfl) ?_
                refine hp_get hx hb hts ix12 hown hK hh (q := 0) rfl (hI.1 _ (by decide)) es1602 rfl 29 (by decide) (hts _ tw_908) (fun _ h9 => h9) rfl dX12_findAt_80 ?_
                refine lv_iload_n hx hb dX12_findAt_83 rfl (lv_at hl 1 rfl) ?_
                refine hp_iald hx hb hK hh (q := 17) rfl (hI.1 _ (by decide)) es1604 (vp_in_nI (n := v9_1608) (by omega) (by decide)) dX12_findAt_84 ?_
                rw [nI_clamp (n := v9_1608) (by omega)]
                refine lv_istore_n (lv' := [(2, .int (f_1604 v9_1608)), (3, .int (nI j1610)), (0, .ref (ad 0)), (1, .int (nI n))]) hx hb dX12_findAt_85 rfl hl (by decide) rfl (fun ls hl => ?_)
                refine lv_goto (tgt := 11) hx hb dX12_findAt_86 (by decide) ?_
                exact ih_1608 (v9_1608) (f_1604 v9_1608) ls H locs (by omega) (by have h9 := hCH.2.2.2 v9_1608 hv9b_1608; rw [show rdF (en 17) = f_1604 from by rw [es1604]; rfl] at h9; rcases h9 with h9 | ⟨v, h1, h2⟩; exact Or.inl h9; exact Or.inr ⟨v, h1, by omega, h2⟩) (lv_sub hl [0, 2, 3] rfl) hh
              · have n_1614 : j1610 = (wd * wd) := n_eq (a := j1610) (b := (wd * wd)) c_1614 (by omega) (by omega)
                refine lv_iload_n hx hb dX12_findAt_77 rfl (lv_at hl 1 rfl) ?_
                exact hp_iretR hx hb hr rfl hlocks hsz hh (Or.inr ⟨_, hv9b_1608, rfl⟩) dX12_findAt_78
            · have n_1612 : j1610 < (wd * wd) := n_nle (a := (wd * wd)) (b := j1610) c_1612 (by omega) (by omega)
              refine lv_aload_n hx hb dX12_findAt_32 rfl (lv_at hl 2 rfl) ?_
              refine hp_get hx hb hts ix12 hown hK hh (q := 0) rfl (hI.1 _ (by decide)) es1602 rfl 26 (by decide) (hts _ tw_905) (fun _ h9 => h9) rfl dX12_findAt_33 ?_
              refine lv_bipush (v := 9) hx hb dX12_findAt_36 (by decide) ?_
              refine lv_iload_n hx hb dX12_findAt_38 rfl (lv_at hl 1 rfl) ?_
              refine lv_imul hx hb dX12_findAt_39 ?_
              rw [show (9 : Int32) = nI 9 from rfl, pk_mul 9 v9_1608]
              refine lv_iload_n hx hb dX12_findAt_40 rfl (lv_at hl 0 rfl) ?_
              refine lv_iadd hx hb dX12_findAt_41 ?_
              rw [nI_add (9 * v9_1608) j1610]
              refine hp_lald hx hb hK hh (q := 14) rfl (hI.1 _ (by decide)) es1605 (vp_in_nI (n := ((9 * v9_1608) + j1610)) (by omega) (by decide)) dX12_findAt_42 ?_
              rw [nI_clamp (n := ((9 * v9_1608) + j1610)) (by omega)]
              refine lv_aload_n hx hb dX12_findAt_43 rfl (lv_at hl 2 rfl) ?_
              refine hp_get hx hb hts ix12 hown hK hh (q := 0) rfl (hI.1 _ (by decide)) es1602 rfl 10 (by decide) (hts _ tw_889) (fun _ h9 => h9) rfl dX12_findAt_44 ?_
              refine lv_bipush (v := 9) hx hb dX12_findAt_47 (by decide) ?_
              refine lv_iload_n hx hb dX12_findAt_49 rfl (lv_at hl 3 rfl) ?_
              refine lv_imul hx hb dX12_findAt_50 ?_
              rw [show (9 : Int32) = nI 9 from rfl, pk_mul 9 n]
              refine lv_iload_n hx hb dX12_findAt_51 rfl (lv_at hl 0 rfl) ?_
              refine lv_iadd hx hb dX12_findAt_52 ?_
              rw [nI_add (9 * n) j1610]
              refine hp_lald hx hb hK hh (q := 6) rfl (hI.1 _ (by decide)) es1606 (vp_in_nI (n := ((9 * n) + j1610)) (by omega) (by decide)) dX12_findAt_53 ?_
              rw [nI_clamp (n := ((9 * n) + j1610)) (by omega)]
              refine W.lcmp hx hb dX12_findAt_54 ?_
              refine lv_if_ne (tgt := 64) hx hb dX12_findAt_55 (by decide) (fun c_1615 => ?_) (fun c_1615 => ?_)
              · refine lv_iload_n hx hb dX12_findAt_64 rfl (lv_at hl 0 rfl) ?_
                refine lv_aload_n hx hb dX12_findAt_65 rfl (lv_at hl 2 rfl) ?_
                refine hp_get hx hb hts ix12 hown hK hh (q := 0) rfl (hI.1 _ (by decide)) es1602 rfl 2 (by decide) (hts _ tw_881) (fun _ h9 => h9) rfl dX12_findAt_66 ?_
                refine lv_aload_n hx hb dX12_findAt_69 rfl (lv_at hl 2 rfl) ?_
                refine hp_get hx hb hts ix12 hown hK hh (q := 0) rfl (hI.1 _ (by decide)) es1602 rfl 2 (by decide) (hts _ tw_881) (fun _ h9 => h9) rfl dX12_findAt_70 ?_
                refine lv_imul hx hb dX12_findAt_73 ?_
                rw [pk_mul wd wd]
                have hw2_1616 : wd * wd ≤ 9 := mww (by omega)
                refine lv_icmp_ne (tgt := 79) hx hb dX12_findAt_74 (by decide) (fun c_1617 => ?_) (fun c_1617 => ?_)
                · have n_1617 : j1610 ≠ (wd * wd) := n_neq (a := j1610) (b := (wd * wd)) c_1617 (by omega) (by omega)
                  refine lv_aload_n hx hb dX12_findAt_79 rfl (lv_at hl 2 rfl) ?_
                  refine hp_get hx hb hts ix12 hown hK hh (q := 0) rfl (hI.1 _ (by decide)) es1602 rfl 29 (by decide) (hts _ tw_908) (fun _ h9 => h9) rfl dX12_findAt_80 ?_
                  refine lv_iload_n hx hb dX12_findAt_83 rfl (lv_at hl 1 rfl) ?_
                  refine hp_iald hx hb hK hh (q := 17) rfl (hI.1 _ (by decide)) es1604 (vp_in_nI (n := v9_1608) (by omega) (by decide)) dX12_findAt_84 ?_
                  rw [nI_clamp (n := v9_1608) (by omega)]
                  refine lv_istore_n (lv' := [(2, .int (f_1604 v9_1608)), (3, .int (nI j1610)), (0, .ref (ad 0)), (1, .int (nI n))]) hx hb dX12_findAt_85 rfl hl (by decide) rfl (fun ls hl => ?_)
                  refine lv_goto (tgt := 11) hx hb dX12_findAt_86 (by decide) ?_
                  exact ih_1608 (v9_1608) (f_1604 v9_1608) ls H locs (by omega) (by have h9 := hCH.2.2.2 v9_1608 hv9b_1608; rw [show rdF (en 17) = f_1604 from by rw [es1604]; rfl] at h9; rcases h9 with h9 | ⟨v, h1, h2⟩; exact Or.inl h9; exact Or.inr ⟨v, h1, by omega, h2⟩) (lv_sub hl [0, 2, 3] rfl) hh
                · have n_1617 : j1610 = (wd * wd) := n_eq (a := j1610) (b := (wd * wd)) c_1617 (by omega) (by omega)
                  refine lv_iload_n hx hb dX12_findAt_77 rfl (lv_at hl 1 rfl) ?_
                  exact hp_iretR hx hb hr rfl hlocks hsz hh (Or.inr ⟨_, hv9b_1608, rfl⟩) dX12_findAt_78
              · refine lv_iinc (v := (nI (j1610 + 1))) (lv' := [(3, .int (nI (j1610 + 1))), (2, .int (nI v9_1608)), (0, .ref (ad 0)), (1, .int (nI n))]) hx hb dX12_findAt_58 hl (k := 0) rfl (nI_1 _) (by decide) rfl (fun ls hl => ?_)
                refine lv_goto (tgt := 19) hx hb dX12_findAt_61 (by decide) ?_
                exact ih_1610 ((j1610 + 1))  ls H locs (by omega) (by omega) (by omega)  (lv_sub hl [0, 1, 2, 3] rfl) hh
        exact loop_1610 ((wd * wd) + 1) 0  ls _ _ (Nat.le_refl _) (by omega) (by omega)  (lv_sub hl [0, 1, 2, 3] rfl) hh
  exact loop_1608 (P + 1) P (f_1603 S_1607) ls _ _ (by omega) (by have h9 := hCH.2.2.1 S_1607 (by omega); rw [show rdF (en 16) = f_1603 from by rw [es1603]; rfl] at h9; rcases h9 with h9 | ⟨v, h1, h2⟩; exact Or.inl h9; exact Or.inr ⟨v, h1, h1, h2⟩) (lv_sub hl [0, 1, 2] rfl) hh
theorem kw_X12_findAt {R : Room} {s : State} {args : Array Value} {own : String} {idx : Nat} (hts : ∀ w ∈ TB, w.before args s = true) (hl : Cond.methodLink own idx yX12_findAt ∈ TB) (hR : 1 + 1 ≤ R.frames ∧ 8 + (4 + 11) + 40 * 1 ≤ R.locals) : CallW R s args own RX12 idx yX12_findAt cX12_findAt 4 (some .int) (Cond.code yX12_findAt cX12_findAt 4 (some .int) :: TB) (rmN 1) 0 0 1 := cwV 1 hts (TB_V hl tw_1125 ts_51 tw_9 tw_1126) rfl rfl rfl (by decide +kernel) hR
set_option maxHeartbeats 4000000 in
set_option maxRecDepth 100000 in
/-- comes -/
theorem c_X12_comes (l : Launch) (D : va_G) (cy : Nat → ClassId) (sz : Nat) (cs : List Nat) (ad : Nat → Nat) (en : Nat → va_E) (hI : RX cy cs ad en) (n : Nat) (le9 : Int32) (hn : n ≤ 12) (P : Nat) (hCH : CH en P)   : Met l yX12_comes (Cond.code yX12_comes cX12_comes 5 (some .boolean) :: TB) (rmN 2) (va_Pc [.ref (ad 0), .int (nI n), .int le9] (Pre D cy cs ad en sz)) (va_Qi (S := Nat → va_E) (fun r en1 => RX cy cs ad en1 ∧ (∀ c, (c ≠ 0 ∧ c ≠ 14 ∧ c ≠ 15 ∧ c ≠ 16 ∧ c ≠ 17) → en1 c = en c) ∧ ((r = 0 ∧ CH en1 P) ∨ (r = 1 ∧ ∃ P1, CH en1 P1 ∧ P ≤ P1 ∧ 1 ≤ P1)) ∧ KPp en en1) (PostM D cs ad) (Af cs ad sz)) 0 0 (Af cs ad sz) := by
  refine Met.ofW (cc := cX12_comes) (maxL := 5) (ret := (some .boolean)) (by decide) rfl ?_
  intro p e s m args below meth c s₁ B hml hv
  obtain ⟨rfl, hsz, hP, hK, hD0⟩ := hv
  have hx := B.exec
  have hb := B.bytes
  have hr := B.returns
  have hts : ∀ w ∈ TB, w.before _ s = true := fun w h => atoms_spec (ws := _ :: TB) B.pre w (List.mem_cons_of_mem _ h)
  have hown : s.vm.findClass RX12 = some m.cls := findClass_of_methodNamed B.named
  have hlocks := B.notSynchronized
  have hh : Hp D (Af cs ad sz) (Af cs ad sz) s.heap s.heap [] cs ad en := ⟨hP, Af_self hD0, va_S.rf⟩
  have hA : ∀ q : Nat, s.heap.size ≤ q → Af cs ad sz q := fun q h => Or.inr (by rw [hsz] at h; exact h)
  have hl := lv_entry ([.ref (ad 0), .int (nI n), .int le9]) (n := 5) (Nat.le_of_ble_eq_true rfl)
  rw [lg_entry_eq]
  generalize (lg_sl ([.ref (ad 0), .int (nI n), .int le9]) ++ List.replicate (5 - (lg_sl ([.ref (ad 0), .int (nI n), .int le9])).length) Slot.unset).toArray = ls at hl ⊢
  have hl : lv_has ls 5 [(0, .ref (ad 0)), (1, .int (nI n)), (2, .int le9)] := hl
  have hf0 : ∀ c, (c ≠ 0 ∧ c ≠ 14 ∧ c ≠ 15 ∧ c ≠ 16 ∧ c ≠ 17) → en c = en c := fun _ _ => rfl
  obtain ⟨fa, hi, wd, mo, tb, dp, many, grt, lst, nou, rm, rb, pr, wo, es1618, hwd2, hwd3, hmo, htb, hwo⟩ := getr_M hI
  obtain ⟨f_1619, es1619⟩ := getr_hd hI
  obtain ⟨f_1620, es1620⟩ := getr_ch hI
  have hP9 := hCH.1
  have hww : wd * wd ≤ 9 := mww (by omega)
  have hfx_1621 : pr = nI P := (show pr = rdI (en 0) 25 from by rw [es1618]; rfl).trans (hCH.2.1)
  rw [hfx_1621] at es1618
  refine lv_iconst (v := 0) hx hb dX12_comes_0 (by decide) ?_
  refine lv_istore_n (lv' := [(3, .int 0), (0, .ref (ad 0)), (1, .int (nI n)), (2, .int le9)]) hx hb dX12_comes_1 rfl hl (by decide) rfl (fun ls hl => ?_)
  have loop_1622 : ∀ (fu j1622 : Nat)   (ls : Array Slot) (H : Heap) (locs : List Loc), 0 ≤ j1622 → j1622 ≤ (wd * wd) → (wd * wd) < j1622 + fu →   lv_has ls 5 [(3, .int (nI j1622)), (0, .ref (ad 0)), (1, .int (nI n)), (2, .int le9)] → Hp D (Af cs ad sz) (Af cs ad sz) s.heap H locs cs ad en → W p l e (headSpec (Cond.code yX12_comes cX12_comes 5 (some .boolean) :: TB) (rmN 2)).room s m ([.ref (ad 0), .int (nI n), .int le9] : List Value).toArray below meth c H locs 0 0 (MQ below (va_Qi (S := Nat → va_E) (fun r en1 => RX cy cs ad en1 ∧ (∀ c, (c ≠ 0 ∧ c ≠ 14 ∧ c ≠ 15 ∧ c ≠ 16 ∧ c ≠ 17) → en1 c = en c) ∧ ((r = 0 ∧ CH en1 P) ∨ (r = 1 ∧ ∃ P1, CH en1 P1 ∧ P ≤ P1 ∧ 1 ≤ P1)) ∧ KPp en en1) (PostM D cs ad) (Af cs ad sz)) ([.ref (ad 0), .int (nI n), .int le9] : List Value).toArray s 0 0 (Af cs ad sz)) (F0 m 2 ls []) := by
    intro fu
    induction fu with
    | zero => intro j1622  ls H locs h0 h1 h2; exact absurd h2 (by omega)
    | succ fu ih_1622 =>
      intro j1622  ls H locs hj0_1622 hj_1622 hfu_1622  hl hh
      refine lv_iload_n hx hb dX12_comes_2 rfl (lv_at hl 0 rfl) ?_
      refine lv_aload_n hx hb dX12_comes_3 rfl (lv_at hl 1 rfl) ?_
      refine hp_get hx hb hts ix12 hown hK hh (q := 0) rfl (hI.1 _ (by decide)) es1618 rfl 2 (by decide) (hts _ tw_881) (fun _ h9 => h9) rfl dX12_comes_4 ?_
      refine lv_aload_n hx hb dX12_comes_7 rfl (lv_at hl 1 rfl) ?_
      refine hp_get hx hb hts ix12 hown hK hh (q := 0) rfl (hI.1 _ (by decide)) es1618 rfl 2 (by decide) (hts _ tw_881) (fun _ h9 => h9) rfl dX12_comes_8 ?_
      refine lv_imul hx hb dX12_comes_11 ?_
      rw [pk_mul wd wd]
      have hw2_1623 : wd * wd ≤ 9 := mww (by omega)
      refine lv_icmp_ge (tgt := 46) hx hb dX12_comes_12 (by decide) (fun c_1624 => ?_) (fun c_1624 => ?_)
      · have n_1624 : (wd * wd) ≤ j1622 := n_le (a := (wd * wd)) (b := j1622) c_1624 (by omega) (by omega)
        refine lv_aload_n hx hb dX12_comes_46 rfl (lv_at hl 1 rfl) ?_
        refine lv_iload_n hx hb dX12_comes_47 rfl (lv_at hl 2 rfl) ?_
        refine hp_callRi (va_runV (As := [.int (nI n)]) (rest := []) ⟨hx, hb, hml, hown, hts⟩ (c_X12_findAt l D cy _ cs ad en hI n (by omega) P hCH) (kw_X12_findAt hts tw_1123 ⟨by decide, by decide⟩) (preV_of hh hK (hI.1 _ (by decide)) es1618 rfl) rfl rfl hl.1 rfl (lv_room (Nat.le_of_ble_eq_true rfl)) dX12_comes_48 ⟨Nat.le_of_ble_eq_true rfl, Nat.le_of_ble_eq_true rfl⟩) hh hA (fun r_1625 H locs hw_1625 hh => ?_)
        rcases hw_1625 with hb_1625 | ⟨F_1625, hF_1625, hb_1625⟩
        · obtain rfl : r_1625 = (-9) := hb_1625
          refine lv_bipush (v := (-9)) hx hb dX12_comes_51 (by decide) ?_
          refine lv_icmp_eq (tgt := 58) hx hb dX12_comes_53 (by decide) (fun _ => ?_) (fun c_0 => absurd c_0 (by decide))
          refine lv_aload_n hx hb dX12_comes_58 rfl (lv_at hl 1 rfl) ?_
          refine hp_get hx hb hts ix12 hown hK hh (q := 0) rfl (hI.1 _ (by decide)) es1618 rfl 25 (by decide) (hts _ tw_904) (fun _ h9 => h9) rfl dX12_comes_59 ?_
          refine lv_sipush (v := 2000) hx hb dX12_comes_62 (by decide) ?_
          refine lv_icmp_ne (tgt := 70) hx hb dX12_comes_65 (by decide) (fun c_1626 => ?_) (fun c_1626 => ?_)
          · have n_1626 : P ≠ 2000 := n_neq (a := P) (b := 2000) c_1626 (by omega) (by decide)
            refine lv_aload_n hx hb dX12_comes_70 rfl (lv_at hl 1 rfl) ?_
            refine lv_iload_n hx hb dX12_comes_71 rfl (lv_at hl 2 rfl) ?_
            refine hp_callRi (va_runV (As := [.int (nI n)]) (rest := []) ⟨hx, hb, hml, hown, hts⟩ (c_X12_chainOf l D cy _ cs ad en hI n (by omega)) (kw_X12_chainOf hts tw_1127 ⟨by decide, by decide⟩) (preV_of hh hK (hI.1 _ (by decide)) es1618 rfl) rfl rfl hl.1 rfl (lv_room (Nat.le_of_ble_eq_true rfl)) dX12_comes_72 ⟨Nat.le_of_ble_eq_true rfl, Nat.le_of_ble_eq_true rfl⟩) hh hA (fun r_1627 H locs hw_1627 hh => ?_)
            obtain ⟨S_1627, hS_1627, rfl⟩ := hw_1627
            refine lv_istore_n (lv' := [(3, .int (nI S_1627)), (0, .ref (ad 0)), (1, .int (nI n)), (2, .int le9)]) hx hb dX12_comes_75 rfl hl (by decide) rfl (fun ls hl => ?_)
            refine lv_iconst (v := 0) hx hb dX12_comes_76 (by decide) ?_
            refine lv_istore (lv' := [(4, .int 0), (3, .int (nI S_1627)), (0, .ref (ad 0)), (1, .int (nI n)), (2, .int le9)]) hx hb dX12_comes_77 hl (by decide) rfl (fun ls hl => ?_)
            have loop_1628 : ∀ (fu j1628 : Nat)  (en_1628 : Nat → va_E) (ls : Array Slot) (H : Heap) (locs : List Loc), 0 ≤ j1628 → j1628 ≤ (wd * wd) → (wd * wd) < j1628 + fu → RX cy cs ad en_1628 → (∀ c, (c ≠ 0 ∧ c ≠ 14 ∧ c ≠ 15 ∧ c ≠ 16 ∧ c ≠ 17) → en_1628 c = en c) → (rdI (en_1628 0) 25 = nI P) → (KPp en en_1628) → (en_1628 16 = en 16) → (en_1628 17 = en 17) → lv_has ls 5 [(4, .int (nI j1628)), (3, .int (nI S_1627)), (0, .ref (ad 0)), (1, .int (nI n)), (2, .int le9)] → Hp D (Af cs ad sz) (Af cs ad sz) s.heap H locs cs ad en_1628 → W p l e (headSpec (Cond.code yX12_comes cX12_comes 5 (some .boolean) :: TB) (rmN 2)).room s m ([.ref (ad 0), .int (nI n), .int le9] : List Value).toArray below meth c H locs 0 0 (MQ below (va_Qi (S := Nat → va_E) (fun r en1 => RX cy cs ad en1 ∧ (∀ c, (c ≠ 0 ∧ c ≠ 14 ∧ c ≠ 15 ∧ c ≠ 16 ∧ c ≠ 17) → en1 c = en c) ∧ ((r = 0 ∧ CH en1 P) ∨ (r = 1 ∧ ∃ P1, CH en1 P1 ∧ P ≤ P1 ∧ 1 ≤ P1)) ∧ KPp en en1) (PostM D cs ad) (Af cs ad sz)) ([.ref (ad 0), .int (nI n), .int le9] : List Value).toArray s 0 0 (Af cs ad sz)) (F0 m 79 ls []) := by
              intro fu
              induction fu with
              | zero => intro j1628  en_1628 ls H locs h0 h1 h2; exact absurd h2 (by omega)
              | succ fu ih_1628 =>
                intro j1628  en_1628 ls H locs hj0_1628 hj_1628 hfu_1628 hI_1628 hf_1628 i0_1628 i1_1628 i2_1628 i3_1628 hl hh
                refine lv_iload hx hb dX12_comes_79 (lv_at hl 0 rfl) ?_
                refine lv_aload_n hx hb dX12_comes_81 rfl (lv_at hl 2 rfl) ?_
                obtain ⟨fa_1629, hi_1629, wd_1629, mo_1629, tb_1629, dp_1629, many_1629, grt_1629, lst_1629, nou_1629, rm_1629, rb_1629, pr_1629, wo_1629, es1629, p0_1629, p1_1629, p2_1629, p3_1629, p4_1629⟩ := getr_M hI_1628
                have hfx_1630 : pr_1629 = nI P := (show pr_1629 = rdI (en_1628 0) 25 from by rw [es1629]; rfl).trans (i0_1628)
                rw [hfx_1630] at es1629
                have hq2_1631 : wd_1629 = wd := n_eq ((show nI wd_1629 = rdI (en_1628 0) 2 from by rw [es1629]; rfl).trans (i1_1628.2.1.trans (show rdI (en 0) 2 = nI wd from by rw [es1618]; rfl))) (by omega) (by omega)
                have hq3_1631 : mo_1629 = mo := n_eq ((show nI mo_1629 = rdI (en_1628 0) 3 from by rw [es1629]; rfl).trans (i1_1628.2.2.1.trans (show rdI (en 0) 3 = nI mo from by rw [es1618]; rfl))) (by omega) (by omega)
                have hq4_1631 : tb_1629 = tb := n_eq ((show nI tb_1629 = rdI (en_1628 0) 4 from by rw [es1629]; rfl).trans (i1_1628.2.2.2.1.trans (show rdI (en 0) 4 = nI tb from by rw [es1618]; rfl))) (by omega) (by omega)
                have hq30_1631 : wo_1629 = wo := n_eq ((show nI wo_1629 = rdI (en_1628 0) 30 from by rw [es1629]; rfl).trans (i1_1628.2.2.2.2.trans (show rdI (en 0) 30 = nI wo from by rw [es1618]; rfl))) (by omega) (by omega)
                rw [hq2_1631, hq3_1631, hq4_1631, hq30_1631] at es1629
                refine hp_get hx hb hts ix12 hown hK hh (q := 0) rfl (hI.1 _ (by decide)) es1629 rfl 2 (by decide) (hts _ tw_881) (fun _ h9 => h9) rfl dX12_comes_82 ?_
                refine lv_aload_n hx hb dX12_comes_85 rfl (lv_at hl 2 rfl) ?_
                refine hp_get hx hb hts ix12 hown hK hh (q := 0) rfl (hI.1 _ (by decide)) es1629 rfl 2 (by decide) (hts _ tw_881) (fun _ h9 => h9) rfl dX12_comes_86 ?_
                refine lv_imul hx hb dX12_comes_89 ?_
                rw [pk_mul wd wd]
                have hw2_1632 : wd * wd ≤ 9 := mww (by omega)
                refine lv_icmp_ge (tgt := 126) hx hb dX12_comes_90 (by decide) (fun c_1633 => ?_) (fun c_1633 => ?_)
                · have n_1633 : (wd * wd) ≤ j1628 := n_le (a := (wd * wd)) (b := j1628) c_1633 (by omega) (by omega)
                  refine lv_aload_n hx hb dX12_comes_126 rfl (lv_at hl 2 rfl) ?_
                  refine hp_get hx hb hts ix12 hown hK hh (q := 0) rfl (hI.1 _ (by decide)) es1629 rfl 27 (by decide) (hts _ tw_906) (fun _ h9 => h9) rfl dX12_comes_127 ?_
                  refine lv_aload_n hx hb dX12_comes_130 rfl (lv_at hl 2 rfl) ?_
                  refine hp_get hx hb hts ix12 hown hK hh (q := 0) rfl (hI.1 _ (by decide)) es1629 rfl 25 (by decide) (hts _ tw_904) (fun _ h9 => h9) rfl dX12_comes_131 ?_
                  refine lv_iload_n hx hb dX12_comes_134 rfl (lv_at hl 4 rfl) ?_
                  obtain ⟨f_1634, es1634⟩ := getr_ln hI_1628
                  refine hp_iast hx hb hK hh (q := 15) rfl (hI.1 _ (by decide)) es1634 (vp_in_nI (n := P) (by omega) (by decide)) dX12_comes_135 (fun H locs en_1635 hen_1635 hh => ?_)
                  rw [nI_clamp (n := P) (by omega)] at hen_1635
                  have es1629_1635 : en_1635 0 = .inr (11, [.int fa_1629, .int hi_1629, .int (nI wd), .int (nI mo), .int (nI tb), .ref (ad 1), .ref (ad 2), .ref (ad 3), .ref (ad 4), .ref (ad 5), .ref (ad 6), .ref (ad 7), .ref (ad 8), .ref (ad 9), .int dp_1629, .long many_1629, .long grt_1629, .long lst_1629, .long nou_1629, .ref (ad 10), .ref (ad 11), .ref (ad 12), .int rm_1629, .long rb_1629, .ref (ad 13), .int (nI P), .ref (ad 14), .ref (ad 15), .ref (ad 16), .ref (ad 17), .int (nI wo), .ref (ad 18), .ref (ad 19)]) := by rw [hen_1635, va_up_ne _ _ (by decide)]; exact es1629
                  have es1634_1635 : en_1635 15 = .inl (cy 0, 2001, .inl (upd f_1634 P le9)) := by rw [hen_1635]; exact va_up_self _ _ _
                  have hI_1635 : RX cy cs ad en_1635 := by rw [hen_1635]; exact upr_ln hI_1628 ⟨(upd f_1634 P le9), rfl⟩
                  have hf_1635 : ∀ c, (c ≠ 0 ∧ c ≠ 14 ∧ c ≠ 15 ∧ c ≠ 16 ∧ c ≠ 17) → en_1635 c = en c := fun c hc => Eq.trans (show en_1635 c = en_1628 c from by rw [hen_1635, va_up_ne _ _ (by omega)]) (hf_1628 c hc)
                  have hkc16_1635 : en_1635 16 = en 16 := (show en_1635 16 = en_1628 16 from by rw [hen_1635, va_up_ne _ _ (by decide)]).trans i2_1628
                  have hkc17_1635 : en_1635 17 = en 17 := (show en_1635 17 = en_1628 17 from by rw [hen_1635, va_up_ne _ _ (by decide)]).trans i3_1628
                  have hkp_1635 : KPp en en_1635 := KPp_same i1_1628 (show en_1635 0 = en_1628 0 from by rw [hen_1635, va_up_ne _ _ (by decide)])
                  refine lv_aload_n hx hb dX12_comes_136 rfl (lv_at hl 2 rfl) ?_
                  refine hp_get hx hb hts ix12 hown hK hh (q := 0) rfl (hI.1 _ (by decide)) es1629_1635 rfl 29 (by decide) (hts _ tw_908) (fun _ h9 => h9) rfl dX12_comes_137 ?_
                  refine lv_aload_n hx hb dX12_comes_140 rfl (lv_at hl 2 rfl) ?_
                  refine hp_get hx hb hts ix12 hown hK hh (q := 0) rfl (hI.1 _ (by decide)) es1629_1635 rfl 25 (by decide) (hts _ tw_904) (fun _ h9 => h9) rfl dX12_comes_141 ?_
                  refine lv_aload_n hx hb dX12_comes_144 rfl (lv_at hl 2 rfl) ?_
                  refine hp_get hx hb hts ix12 hown hK hh (q := 0) rfl (hI.1 _ (by decide)) es1629_1635 rfl 28 (by decide) (hts _ tw_907) (fun _ h9 => h9) rfl dX12_comes_145 ?_
                  refine lv_iload_n hx hb dX12_comes_148 rfl (lv_at hl 1 rfl) ?_
                  have es1619_1636 : en_1635 16 = .inl (cy 0, 4096, .inl f_1619) := hkc16_1635.trans es1619
                  refine hp_iald hx hb hK hh (q := 16) rfl (hI.1 _ (by decide)) es1619_1636 (vp_in_nI (n := S_1627) (by omega) (by decide)) dX12_comes_149 ?_
                  rw [nI_clamp (n := S_1627) (by omega)]
                  have es1620_1637 : en_1635 17 = .inl (cy 0, 2001, .inl f_1620) := hkc17_1635.trans es1620
                  refine hp_iast hx hb hK hh (q := 17) rfl (hI.1 _ (by decide)) es1620_1637 (vp_in_nI (n := P) (by omega) (by decide)) dX12_comes_150 (fun H locs en_1638 hen_1638 hh => ?_)
                  rw [nI_clamp (n := P) (by omega)] at hen_1638
                  have es1629_1638 : en_1638 0 = .inr (11, [.int fa_1629, .int hi_1629, .int (nI wd), .int (nI mo), .int (nI tb), .ref (ad 1), .ref (ad 2), .ref (ad 3), .ref (ad 4), .ref (ad 5), .ref (ad 6), .ref (ad 7), .ref (ad 8), .ref (ad 9), .int dp_1629, .long many_1629, .long grt_1629, .long lst_1629, .long nou_1629, .ref (ad 10), .ref (ad 11), .ref (ad 12), .int rm_1629, .long rb_1629, .ref (ad 13), .int (nI P), .ref (ad 14), .ref (ad 15), .ref (ad 16), .ref (ad 17), .int (nI wo), .ref (ad 18), .ref (ad 19)]) := by rw [hen_1638, va_up_ne _ _ (by decide)]; exact es1629_1635
                  have es1634_1638 : en_1638 15 = .inl (cy 0, 2001, .inl (upd f_1634 P le9)) := by rw [hen_1638, va_up_ne _ _ (by decide)]; exact es1634_1635
                  have es1619_1638 : en_1638 16 = .inl (cy 0, 4096, .inl f_1619) := by rw [hen_1638, va_up_ne _ _ (by decide)]; exact es1619_1636
                  have es1620_1638 : en_1638 17 = .inl (cy 0, 2001, .inl (upd f_1620 P (f_1619 S_1627))) := by rw [hen_1638]; exact va_up_self _ _ _
                  have hI_1638 : RX cy cs ad en_1638 := by rw [hen_1638]; exact upr_ch hI_1635 ⟨(upd f_1620 P (f_1619 S_1627)), rfl⟩
                  have hf_1638 : ∀ c, (c ≠ 0 ∧ c ≠ 14 ∧ c ≠ 15 ∧ c ≠ 16 ∧ c ≠ 17) → en_1638 c = en c := fun c hc => Eq.trans (show en_1638 c = en_1635 c from by rw [hen_1638, va_up_ne _ _ (by omega)]) (hf_1635 c hc)
                  have hkc16_1638 : en_1638 16 = en 16 := (show en_1638 16 = en_1635 16 from by rw [hen_1638, va_up_ne _ _ (by decide)]).trans hkc16_1635
                  have hkp_1638 : KPp en en_1638 := KPp_same hkp_1635 (show en_1638 0 = en_1635 0 from by rw [hen_1638, va_up_ne _ _ (by decide)])
                  refine lv_aload_n hx hb dX12_comes_151 rfl (lv_at hl 2 rfl) ?_
                  refine hp_get hx hb hts ix12 hown hK hh (q := 0) rfl (hI.1 _ (by decide)) es1629_1638 rfl 28 (by decide) (hts _ tw_907) (fun _ h9 => h9) rfl dX12_comes_152 ?_
                  refine lv_iload_n hx hb dX12_comes_155 rfl (lv_at hl 1 rfl) ?_
                  refine lv_aload_n hx hb dX12_comes_156 rfl (lv_at hl 2 rfl) ?_
                  refine hp_get hx hb hts ix12 hown hK hh (q := 0) rfl (hI.1 _ (by decide)) es1629_1638 rfl 25 (by decide) (hts _ tw_904) (fun _ h9 => h9) rfl dX12_comes_157 ?_
                  refine hp_iast hx hb hK hh (q := 16) rfl (hI.1 _ (by decide)) es1619_1638 (vp_in_nI (n := S_1627) (by omega) (by decide)) dX12_comes_160 (fun H locs en_1639 hen_1639 hh => ?_)
                  rw [nI_clamp (n := S_1627) (by omega)] at hen_1639
                  have es1629_1639 : en_1639 0 = .inr (11, [.int fa_1629, .int hi_1629, .int (nI wd), .int (nI mo), .int (nI tb), .ref (ad 1), .ref (ad 2), .ref (ad 3), .ref (ad 4), .ref (ad 5), .ref (ad 6), .ref (ad 7), .ref (ad 8), .ref (ad 9), .int dp_1629, .long many_1629, .long grt_1629, .long lst_1629, .long nou_1629, .ref (ad 10), .ref (ad 11), .ref (ad 12), .int rm_1629, .long rb_1629, .ref (ad 13), .int (nI P), .ref (ad 14), .ref (ad 15), .ref (ad 16), .ref (ad 17), .int (nI wo), .ref (ad 18), .ref (ad 19)]) := by rw [hen_1639, va_up_ne _ _ (by decide)]; exact es1629_1638
                  have es1634_1639 : en_1639 15 = .inl (cy 0, 2001, .inl (upd f_1634 P le9)) := by rw [hen_1639, va_up_ne _ _ (by decide)]; exact es1634_1638
                  have es1620_1639 : en_1639 17 = .inl (cy 0, 2001, .inl (upd f_1620 P (f_1619 S_1627))) := by rw [hen_1639, va_up_ne _ _ (by decide)]; exact es1620_1638
                  have es1619_1639 : en_1639 16 = .inl (cy 0, 4096, .inl (upd f_1619 S_1627 (nI P))) := by rw [hen_1639]; exact va_up_self _ _ _
                  have hI_1639 : RX cy cs ad en_1639 := by rw [hen_1639]; exact upr_hd hI_1638 ⟨(upd f_1619 S_1627 (nI P)), rfl⟩
                  have hf_1639 : ∀ c, (c ≠ 0 ∧ c ≠ 14 ∧ c ≠ 15 ∧ c ≠ 16 ∧ c ≠ 17) → en_1639 c = en c := fun c hc => Eq.trans (show en_1639 c = en_1638 c from by rw [hen_1639, va_up_ne _ _ (by omega)]) (hf_1638 c hc)
                  have hkp_1639 : KPp en en_1639 := KPp_same hkp_1638 (show en_1639 0 = en_1638 0 from by rw [hen_1639, va_up_ne _ _ (by decide)])
                  refine lv_aload_n hx hb dX12_comes_161 rfl (lv_at hl 2 rfl) ?_
                  refine lv_dup hx hb dX12_comes_162 rfl ?_
                  refine hp_get hx hb hts ix12 hown hK hh (q := 0) rfl (hI.1 _ (by decide)) es1629_1639 rfl 25 (by decide) (hts _ tw_904) (fun _ h9 => h9) rfl dX12_comes_163 ?_
                  refine lv_iconst (v := 1) hx hb dX12_comes_166 (by decide) ?_
                  refine lv_iadd hx hb dX12_comes_167 ?_
                  rw [show (1 : Int32) = nI 1 from rfl, nI_add P 1]
                  refine hp_put hx hb hts ix12 tyX12 tyX12_ok nmX12 hown hK hh (q := 0) rfl (hI.1 _ (by decide)) es1629_1639 rfl 25 (by decide) (hts _ tw_904) (fun _ h9 => h9) rfl (ty := .int) (by decide +kernel) rfl rfl (Nat.le_of_ble_eq_true rfl) dX12_comes_168 (fun H locs en_1640 hen_1640 hh => ?_)
                  have es1634_1640 : en_1640 15 = .inl (cy 0, 2001, .inl (upd f_1634 P le9)) := by rw [hen_1640, va_up_ne _ _ (by decide)]; exact es1634_1639
                  have es1620_1640 : en_1640 17 = .inl (cy 0, 2001, .inl (upd f_1620 P (f_1619 S_1627))) := by rw [hen_1640, va_up_ne _ _ (by decide)]; exact es1620_1639
                  have es1619_1640 : en_1640 16 = .inl (cy 0, 4096, .inl (upd f_1619 S_1627 (nI P))) := by rw [hen_1640, va_up_ne _ _ (by decide)]; exact es1619_1639
                  have es1629_1640 : en_1640 0 = .inr (11, [.int fa_1629, .int hi_1629, .int (nI wd), .int (nI mo), .int (nI tb), .ref (ad 1), .ref (ad 2), .ref (ad 3), .ref (ad 4), .ref (ad 5), .ref (ad 6), .ref (ad 7), .ref (ad 8), .ref (ad 9), .int dp_1629, .long many_1629, .long grt_1629, .long lst_1629, .long nou_1629, .ref (ad 10), .ref (ad 11), .ref (ad 12), .int rm_1629, .long rb_1629, .ref (ad 13), .int (nI (P + 1)), .ref (ad 14), .ref (ad 15), .ref (ad 16), .ref (ad 17), .int (nI wo), .ref (ad 18), .ref (ad 19)]) := by rw [hen_1640]; exact va_up_self _ _ _
                  have hI_1640 : RX cy cs ad en_1640 := by rw [hen_1640]; exact upr_M hI_1639 ⟨fa_1629, hi_1629, wd, mo, tb, dp_1629, many_1629, grt_1629, lst_1629, nou_1629, rm_1629, rb_1629, (nI (P + 1)), wo, rfl, hwd2, hwd3, hmo, htb, hwo⟩
                  have hf_1640 : ∀ c, (c ≠ 0 ∧ c ≠ 14 ∧ c ≠ 15 ∧ c ≠ 16 ∧ c ≠ 17) → en_1640 c = en c := fun c hc => Eq.trans (show en_1640 c = en_1639 c from by rw [hen_1640, va_up_ne _ _ (by omega)]) (hf_1639 c hc)
                  have hkp_1640 : KPp en en_1640 := KPp_fv hkp_1639 es1629_1639 es1629_1640 hi_1629 (nI wd) (nI mo) (nI tb) (nI wo) rfl rfl rfl rfl rfl rfl rfl rfl rfl rfl
                  refine lv_iconst (v := 1) hx hb dX12_comes_171 (by decide) ?_
                  exact hp_iretM hx hb hr rfl hlocks hh (⟨hI_1640, hf_1640, Or.inr ⟨rfl, P + 1, CH_add hCH (by omega) hS_1627 (h := f_1619) (c := f_1620) (by rw [es1619]; rfl) (by rw [es1620]; rfl) (by rw [es1629_1640]; rfl) (by rw [es1619_1640]; rfl) (by rw [es1620_1640]; rfl), by omega, by omega⟩, hkp_1640⟩) dX12_comes_172
                · have n_1633 : j1628 < (wd * wd) := n_nle (a := (wd * wd)) (b := j1628) c_1633 (by omega) (by omega)
                  refine lv_aload_n hx hb dX12_comes_93 rfl (lv_at hl 2 rfl) ?_
                  refine hp_get hx hb hts ix12 hown hK hh (q := 0) rfl (hI.1 _ (by decide)) es1629 rfl 26 (by decide) (hts _ tw_905) (fun _ h9 => h9) rfl dX12_comes_94 ?_
                  refine lv_bipush (v := 9) hx hb dX12_comes_97 (by decide) ?_
                  refine lv_aload_n hx hb dX12_comes_99 rfl (lv_at hl 2 rfl) ?_
                  refine hp_get hx hb hts ix12 hown hK hh (q := 0) rfl (hI.1 _ (by decide)) es1629 rfl 25 (by decide) (hts _ tw_904) (fun _ h9 => h9) rfl dX12_comes_100 ?_
                  refine lv_imul hx hb dX12_comes_103 ?_
                  rw [show (9 : Int32) = nI 9 from rfl, pk_mul 9 P]
                  refine lv_iload hx hb dX12_comes_104 (lv_at hl 0 rfl) ?_
                  refine lv_iadd hx hb dX12_comes_106 ?_
                  rw [nI_add (9 * P) j1628]
                  refine lv_aload_n hx hb dX12_comes_107 rfl (lv_at hl 2 rfl) ?_
                  refine hp_get hx hb hts ix12 hown hK hh (q := 0) rfl (hI.1 _ (by decide)) es1629 rfl 10 (by decide) (hts _ tw_889) (fun _ h9 => h9) rfl dX12_comes_108 ?_
                  refine lv_bipush (v := 9) hx hb dX12_comes_111 (by decide) ?_
                  refine lv_iload_n hx hb dX12_comes_113 rfl (lv_at hl 3 rfl) ?_
                  refine lv_imul hx hb dX12_comes_114 ?_
                  rw [show (9 : Int32) = nI 9 from rfl, pk_mul 9 n]
                  refine lv_iload hx hb dX12_comes_115 (lv_at hl 0 rfl) ?_
                  refine lv_iadd hx hb dX12_comes_117 ?_
                  rw [nI_add (9 * n) j1628]
                  obtain ⟨f_1641, es1641⟩ := getr_lv hI_1628
                  refine hp_lald hx hb hK hh (q := 6) rfl (hI.1 _ (by decide)) es1641 (vp_in_nI (n := ((9 * n) + j1628)) (by omega) (by decide)) dX12_comes_118 ?_
                  rw [nI_clamp (n := ((9 * n) + j1628)) (by omega)]
                  obtain ⟨f_1642, es1642⟩ := getr_pd hI_1628
                  refine hp_last hx hb hK hh (q := 14) rfl (hI.1 _ (by decide)) es1642 (vp_in_nI (n := ((9 * P) + j1628)) (by omega) (by decide)) dX12_comes_119 (fun H locs en_1643 hen_1643 hh => ?_)
                  rw [nI_clamp (n := ((9 * P) + j1628)) (by omega)] at hen_1643
                  have es1629_1643 : en_1643 0 = .inr (11, [.int fa_1629, .int hi_1629, .int (nI wd), .int (nI mo), .int (nI tb), .ref (ad 1), .ref (ad 2), .ref (ad 3), .ref (ad 4), .ref (ad 5), .ref (ad 6), .ref (ad 7), .ref (ad 8), .ref (ad 9), .int dp_1629, .long many_1629, .long grt_1629, .long lst_1629, .long nou_1629, .ref (ad 10), .ref (ad 11), .ref (ad 12), .int rm_1629, .long rb_1629, .ref (ad 13), .int (nI P), .ref (ad 14), .ref (ad 15), .ref (ad 16), .ref (ad 17), .int (nI wo), .ref (ad 18), .ref (ad 19)]) := by rw [hen_1643, va_up_ne _ _ (by decide)]; exact es1629
                  have es1641_1643 : en_1643 6 = .inl (cy 1, 117, .inr (.inl f_1641)) := by rw [hen_1643, va_up_ne _ _ (by decide)]; exact es1641
                  have es1642_1643 : en_1643 14 = .inl (cy 1, 18009, .inr (.inl (vp_updL f_1642 ((9 * P) + j1628) (f_1641 ((9 * n) + j1628))))) := by rw [hen_1643]; exact va_up_self _ _ _
                  have hI_1643 : RX cy cs ad en_1643 := by rw [hen_1643]; exact upr_pd hI_1628 ⟨(vp_updL f_1642 ((9 * P) + j1628) (f_1641 ((9 * n) + j1628))), rfl⟩
                  have hf_1643 : ∀ c, (c ≠ 0 ∧ c ≠ 14 ∧ c ≠ 15 ∧ c ≠ 16 ∧ c ≠ 17) → en_1643 c = en c := fun c hc => Eq.trans (show en_1643 c = en_1628 c from by rw [hen_1643, va_up_ne _ _ (by omega)]) (hf_1628 c hc)
                  have hkc16_1643 : en_1643 16 = en 16 := (show en_1643 16 = en_1628 16 from by rw [hen_1643, va_up_ne _ _ (by decide)]).trans i2_1628
                  have hkc17_1643 : en_1643 17 = en 17 := (show en_1643 17 = en_1628 17 from by rw [hen_1643, va_up_ne _ _ (by decide)]).trans i3_1628
                  have hkp_1643 : KPp en en_1643 := KPp_same i1_1628 (show en_1643 0 = en_1628 0 from by rw [hen_1643, va_up_ne _ _ (by decide)])
                  refine lv_iinc (v := (nI (j1628 + 1))) (lv' := [(4, .int (nI (j1628 + 1))), (3, .int (nI S_1627)), (0, .ref (ad 0)), (1, .int (nI n)), (2, .int le9)]) hx hb dX12_comes_120 hl (k := 0) rfl (nI_1 _) (by decide) rfl (fun ls hl => ?_)
                  refine lv_goto (tgt := 79) hx hb dX12_comes_123 (by decide) ?_
                  exact ih_1628 ((j1628 + 1))  en_1643 ls H locs (by omega) (by omega) (by omega) hI_1643 hf_1643 (by rw [es1629_1643]; rfl) (hkp_1643) (hkc16_1643) (hkc17_1643) (lv_sub hl [0, 1, 2, 3, 4] rfl) hh
            exact loop_1628 ((wd * wd) + 1) 0  en ls _ _ (Nat.le_refl _) (by omega) (by omega) hI hf0 (by rw [es1618]; rfl) ((KPp_rf en)) (rfl) (rfl) (lv_sub hl [0, 1, 2, 3, 4] rfl) hh
          · have n_1626 : P = 2000 := n_eq (a := P) (b := 2000) c_1626 (by omega) (by decide)
            refine lv_iconst (v := 0) hx hb dX12_comes_68 (by decide) ?_
            exact hp_iretM hx hb hr rfl hlocks hh (⟨hI, hf0, Or.inl ⟨rfl, hCH⟩, (KPp_rf en)⟩) dX12_comes_69
        · obtain rfl : r_1625 = nI F_1625 := hb_1625
          have hn9_1625 : ¬ nI F_1625 = (-9 : Int32) := nI_n9 (by have h9 := hCH.1; omega)
          refine lv_bipush (v := (-9)) hx hb dX12_comes_51 (by decide) ?_
          refine lv_icmp_eq (tgt := 58) hx hb dX12_comes_53 (by decide) (fun c_0 => absurd c_0 (hn9_1625)) (fun _ => ?_)
          refine lv_iconst (v := 1) hx hb dX12_comes_56 (by decide) ?_
          exact hp_iretM hx hb hr rfl hlocks hh (⟨hI, hf0, Or.inr ⟨rfl, P, hCH, Nat.le_refl _, by have h9 := hF_1625; omega⟩, (KPp_rf en)⟩) dX12_comes_57
      · have n_1624 : j1622 < (wd * wd) := n_nle (a := (wd * wd)) (b := j1622) c_1624 (by omega) (by omega)
        refine lv_aload_n hx hb dX12_comes_15 rfl (lv_at hl 1 rfl) ?_
        refine hp_get hx hb hts ix12 hown hK hh (q := 0) rfl (hI.1 _ (by decide)) es1618 rfl 10 (by decide) (hts _ tw_889) (fun _ h9 => h9) rfl dX12_comes_16 ?_
        refine lv_bipush (v := 9) hx hb dX12_comes_19 (by decide) ?_
        refine lv_iload_n hx hb dX12_comes_21 rfl (lv_at hl 2 rfl) ?_
        refine lv_imul hx hb dX12_comes_22 ?_
        rw [show (9 : Int32) = nI 9 from rfl, pk_mul 9 n]
        refine lv_iload_n hx hb dX12_comes_23 rfl (lv_at hl 0 rfl) ?_
        refine lv_iadd hx hb dX12_comes_24 ?_
        rw [nI_add (9 * n) j1622]
        obtain ⟨f_1644, es1644⟩ := getr_lv hI
        refine hp_lald hx hb hK hh (q := 6) rfl (hI.1 _ (by decide)) es1644 (vp_in_nI (n := ((9 * n) + j1622)) (by omega) (by decide)) dX12_comes_25 ?_
        rw [nI_clamp (n := ((9 * n) + j1622)) (by omega)]
        refine lv_ldc2 hx hb hown (hts _ tw_1121) dX12_comes_26 ?_
        refine lv_ldc2 hx hb hown (hts _ tw_1122) dX12_comes_29 ?_
        refine hp_callRi (va_runS (As := [.long (f_1644 ((9 * n) + j1622)), .long (-1000000), .long 1000000]) (rest := []) ⟨hx, hb, hml, hown, hts⟩ (c_X12_within l D cy _ cs ad en (f_1644 ((9 * n) + j1622)) (-1000000) 1000000) (kw_X12_within hts tw_985 ⟨by decide, by decide⟩) (preS_of hh hK) rfl rfl hl.1 rfl (lv_room (Nat.le_of_ble_eq_true rfl)) dX12_comes_32 ⟨Nat.le_of_ble_eq_true rfl, Nat.le_of_ble_eq_true rfl⟩) hh hA (fun r_1645 H locs hw_1645 hh => ?_)
        rcases Decidable.em (wj (f_1644 ((9 * n) + j1622)) (-1000000) 1000000) with hp_1645 | hp_1645
        · obtain rfl : r_1645 = 1 := Eq.trans hw_1645 (if_pos hp_1645)
          refine lv_if_ne (tgt := 40) hx hb dX12_comes_35 (by decide) (fun _ => ?_) (fun c_0 => absurd c_0 (by decide))
          refine lv_iinc (v := (nI (j1622 + 1))) (lv' := [(3, .int (nI (j1622 + 1))), (0, .ref (ad 0)), (1, .int (nI n)), (2, .int le9)]) hx hb dX12_comes_40 hl (k := 0) rfl (nI_1 _) (by decide) rfl (fun ls hl => ?_)
          refine lv_goto (tgt := 2) hx hb dX12_comes_43 (by decide) ?_
          exact ih_1622 ((j1622 + 1))  ls H locs (by omega) (by omega) (by omega)  (lv_sub hl [0, 1, 2, 3] rfl) hh
        · obtain rfl : r_1645 = 0 := Eq.trans hw_1645 (if_neg hp_1645)
          refine lv_if_ne (tgt := 40) hx hb dX12_comes_35 (by decide) (fun c_0 => absurd c_0 (by decide)) (fun _ => ?_)
          refine lv_iconst (v := 0) hx hb dX12_comes_38 (by decide) ?_
          exact hp_iretM hx hb hr rfl hlocks hh (⟨hI, hf0, Or.inl ⟨rfl, hCH⟩, (KPp_rf en)⟩) dX12_comes_39
  exact loop_1622 ((wd * wd) + 1) 0  ls _ _ (Nat.le_refl _) (by omega) (by omega)  (lv_sub hl [0, 1, 2, 3] rfl) hh
theorem kw_X12_comes {R : Room} {s : State} {args : Array Value} {own : String} {idx : Nat} (hts : ∀ w ∈ TB, w.before args s = true) (hl : Cond.methodLink own idx yX12_comes ∈ TB) (hR : 2 + 1 ≤ R.frames ∧ 8 + (5 + 11) + 40 * 2 ≤ R.locals) : CallW R s args own RX12 idx yX12_comes cX12_comes 5 (some .boolean) (Cond.code yX12_comes cX12_comes 5 (some .boolean) :: TB) (rmN 2) 0 0 2 := cwV 2 hts (TB_V hl tw_1119 ts_50 tw_9 tw_1120) rfl rfl rfl (by decide +kernel) hR
set_option maxHeartbeats 4000000 in
set_option maxRecDepth 100000 in
/-- layProduct -/
theorem c_X12_layProduct (l : Launch) (D : va_G) (cy : Nat → ClassId) (sz : Nat) (cs : List Nat) (ad : Nat → Nat) (en : Nat → va_E) (hI : RX cy cs ad en) (p9 n : Nat) (hp : p9 < 2001) (hn : n ≤ 12)   : Met l yX12_layProduct (Cond.code yX12_layProduct cX12_layProduct 4 none :: TB) (rmN 0) (va_Pc [.ref (ad 0), .int (nI p9), .int (nI n)] (Pre D cy cs ad en sz)) (va_Qv (S := Nat → va_E) (fun en1 => RX cy cs ad en1 ∧ (∀ c, (c ≠ 6) → en1 c = en c)) (PostM D cs ad) (Af cs ad sz)) 0 0 (Af cs ad sz) := by
  refine Met.ofW (cc := cX12_layProduct) (maxL := 4) (ret := none) (by decide) rfl ?_
  intro p e s m args below meth c s₁ B hml hv
  obtain ⟨rfl, hsz, hP, hK, hD0⟩ := hv
  have hx := B.exec
  have hb := B.bytes
  have hr := B.returns
  have hts : ∀ w ∈ TB, w.before _ s = true := fun w h => atoms_spec (ws := _ :: TB) B.pre w (List.mem_cons_of_mem _ h)
  have hown : s.vm.findClass RX12 = some m.cls := findClass_of_methodNamed B.named
  have hlocks := B.notSynchronized
  have hh : Hp D (Af cs ad sz) (Af cs ad sz) s.heap s.heap [] cs ad en := ⟨hP, Af_self hD0, va_S.rf⟩
  have hA : ∀ q : Nat, s.heap.size ≤ q → Af cs ad sz q := fun q h => Or.inr (by rw [hsz] at h; exact h)
  have hl := lv_entry ([.ref (ad 0), .int (nI p9), .int (nI n)]) (n := 4) (Nat.le_of_ble_eq_true rfl)
  rw [lg_entry_eq]
  generalize (lg_sl ([.ref (ad 0), .int (nI p9), .int (nI n)]) ++ List.replicate (4 - (lg_sl ([.ref (ad 0), .int (nI p9), .int (nI n)])).length) Slot.unset).toArray = ls at hl ⊢
  have hl : lv_has ls 4 [(0, .ref (ad 0)), (1, .int (nI p9)), (2, .int (nI n))] := hl
  have hf0 : ∀ c, (c ≠ 6) → en c = en c := fun _ _ => rfl
  obtain ⟨fa, hi, wd, mo, tb, dp, many, grt, lst, nou, rm, rb, pr, wo, es1646, hwd2, hwd3, hmo, htb, hwo⟩ := getr_M hI
  have hww : wd * wd ≤ 9 := mww (by omega)
  refine lv_iconst (v := 0) hx hb dX12_layProduct_0 (by decide) ?_
  refine lv_istore_n (lv' := [(3, .int 0), (0, .ref (ad 0)), (1, .int (nI p9)), (2, .int (nI n))]) hx hb dX12_layProduct_1 rfl hl (by decide) rfl (fun ls hl => ?_)
  have loop_1647 : ∀ (fu j1647 : Nat)  (en_1647 : Nat → va_E) (ls : Array Slot) (H : Heap) (locs : List Loc), 0 ≤ j1647 → j1647 ≤ (wd * wd) → (wd * wd) < j1647 + fu → RX cy cs ad en_1647 → (∀ c, (c ≠ 6) → en_1647 c = en c) →  lv_has ls 4 [(3, .int (nI j1647)), (0, .ref (ad 0)), (1, .int (nI p9)), (2, .int (nI n))] → Hp D (Af cs ad sz) (Af cs ad sz) s.heap H locs cs ad en_1647 → W p l e (headSpec (Cond.code yX12_layProduct cX12_layProduct 4 none :: TB) (rmN 0)).room s m ([.ref (ad 0), .int (nI p9), .int (nI n)] : List Value).toArray below meth c H locs 0 0 (MQ below (va_Qv (S := Nat → va_E) (fun en1 => RX cy cs ad en1 ∧ (∀ c, (c ≠ 6) → en1 c = en c)) (PostM D cs ad) (Af cs ad sz)) ([.ref (ad 0), .int (nI p9), .int (nI n)] : List Value).toArray s 0 0 (Af cs ad sz)) (F0 m 2 ls []) := by
    intro fu
    induction fu with
    | zero => intro j1647  en_1647 ls H locs h0 h1 h2; exact absurd h2 (by omega)
    | succ fu ih_1647 =>
      intro j1647  en_1647 ls H locs hj0_1647 hj_1647 hfu_1647 hI_1647 hf_1647  hl hh
      refine lv_iload_n hx hb dX12_layProduct_2 rfl (lv_at hl 0 rfl) ?_
      refine lv_aload_n hx hb dX12_layProduct_3 rfl (lv_at hl 1 rfl) ?_
      have es1646_1648 : en_1647 0 = .inr (11, [.int fa, .int hi, .int (nI wd), .int (nI mo), .int (nI tb), .ref (ad 1), .ref (ad 2), .ref (ad 3), .ref (ad 4), .ref (ad 5), .ref (ad 6), .ref (ad 7), .ref (ad 8), .ref (ad 9), .int dp, .long many, .long grt, .long lst, .long nou, .ref (ad 10), .ref (ad 11), .ref (ad 12), .int rm, .long rb, .ref (ad 13), .int pr, .ref (ad 14), .ref (ad 15), .ref (ad 16), .ref (ad 17), .int (nI wo), .ref (ad 18), .ref (ad 19)]) := (hf_1647 0 (by omega)).trans es1646
      refine hp_get hx hb hts ix12 hown hK hh (q := 0) rfl (hI.1 _ (by decide)) es1646_1648 rfl 2 (by decide) (hts _ tw_881) (fun _ h9 => h9) rfl dX12_layProduct_4 ?_
      refine lv_aload_n hx hb dX12_layProduct_7 rfl (lv_at hl 1 rfl) ?_
      refine hp_get hx hb hts ix12 hown hK hh (q := 0) rfl (hI.1 _ (by decide)) es1646_1648 rfl 2 (by decide) (hts _ tw_881) (fun _ h9 => h9) rfl dX12_layProduct_8 ?_
      refine lv_imul hx hb dX12_layProduct_11 ?_
      rw [pk_mul wd wd]
      have hw2_1649 : wd * wd ≤ 9 := mww (by omega)
      refine lv_icmp_ge (tgt := 43) hx hb dX12_layProduct_12 (by decide) (fun c_1650 => ?_) (fun c_1650 => ?_)
      · have n_1650 : (wd * wd) ≤ j1647 := n_le (a := (wd * wd)) (b := j1647) c_1650 (by omega) (by omega)
        exact hp_vretM hx hb hr hlocks hh (⟨hI_1647, hf_1647⟩) dX12_layProduct_43
      · have n_1650 : j1647 < (wd * wd) := n_nle (a := (wd * wd)) (b := j1647) c_1650 (by omega) (by omega)
        refine lv_aload_n hx hb dX12_layProduct_15 rfl (lv_at hl 1 rfl) ?_
        refine hp_get hx hb hts ix12 hown hK hh (q := 0) rfl (hI.1 _ (by decide)) es1646_1648 rfl 10 (by decide) (hts _ tw_889) (fun _ h9 => h9) rfl dX12_layProduct_16 ?_
        refine lv_bipush (v := 9) hx hb dX12_layProduct_19 (by decide) ?_
        refine lv_iload_n hx hb dX12_layProduct_21 rfl (lv_at hl 3 rfl) ?_
        refine lv_imul hx hb dX12_layProduct_22 ?_
        rw [show (9 : Int32) = nI 9 from rfl, pk_mul 9 n]
        refine lv_iload_n hx hb dX12_layProduct_23 rfl (lv_at hl 0 rfl) ?_
        refine lv_iadd hx hb dX12_layProduct_24 ?_
        rw [nI_add (9 * n) j1647]
        refine lv_aload_n hx hb dX12_layProduct_25 rfl (lv_at hl 1 rfl) ?_
        refine hp_get hx hb hts ix12 hown hK hh (q := 0) rfl (hI.1 _ (by decide)) es1646_1648 rfl 26 (by decide) (hts _ tw_905) (fun _ h9 => h9) rfl dX12_layProduct_26 ?_
        refine lv_bipush (v := 9) hx hb dX12_layProduct_29 (by decide) ?_
        refine lv_iload_n hx hb dX12_layProduct_31 rfl (lv_at hl 2 rfl) ?_
        refine lv_imul hx hb dX12_layProduct_32 ?_
        rw [show (9 : Int32) = nI 9 from rfl, pk_mul 9 p9]
        refine lv_iload_n hx hb dX12_layProduct_33 rfl (lv_at hl 0 rfl) ?_
        refine lv_iadd hx hb dX12_layProduct_34 ?_
        rw [nI_add (9 * p9) j1647]
        obtain ⟨f_1651, es1651⟩ := getr_pd hI_1647
        refine hp_lald hx hb hK hh (q := 14) rfl (hI.1 _ (by decide)) es1651 (vp_in_nI (n := ((9 * p9) + j1647)) (by omega) (by decide)) dX12_layProduct_35 ?_
        rw [nI_clamp (n := ((9 * p9) + j1647)) (by omega)]
        obtain ⟨f_1652, es1652⟩ := getr_lv hI_1647
        refine hp_last hx hb hK hh (q := 6) rfl (hI.1 _ (by decide)) es1652 (vp_in_nI (n := ((9 * n) + j1647)) (by omega) (by decide)) dX12_layProduct_36 (fun H locs en_1653 hen_1653 hh => ?_)
        rw [nI_clamp (n := ((9 * n) + j1647)) (by omega)] at hen_1653
        have es1646_1653 : en_1653 0 = .inr (11, [.int fa, .int hi, .int (nI wd), .int (nI mo), .int (nI tb), .ref (ad 1), .ref (ad 2), .ref (ad 3), .ref (ad 4), .ref (ad 5), .ref (ad 6), .ref (ad 7), .ref (ad 8), .ref (ad 9), .int dp, .long many, .long grt, .long lst, .long nou, .ref (ad 10), .ref (ad 11), .ref (ad 12), .int rm, .long rb, .ref (ad 13), .int pr, .ref (ad 14), .ref (ad 15), .ref (ad 16), .ref (ad 17), .int (nI wo), .ref (ad 18), .ref (ad 19)]) := by rw [hen_1653, va_up_ne _ _ (by decide)]; exact es1646_1648
        have es1651_1653 : en_1653 14 = .inl (cy 1, 18009, .inr (.inl f_1651)) := by rw [hen_1653, va_up_ne _ _ (by decide)]; exact es1651
        have es1652_1653 : en_1653 6 = .inl (cy 1, 117, .inr (.inl (vp_updL f_1652 ((9 * n) + j1647) (f_1651 ((9 * p9) + j1647))))) := by rw [hen_1653]; exact va_up_self _ _ _
        have hI_1653 : RX cy cs ad en_1653 := by rw [hen_1653]; exact upr_lv hI_1647 ⟨(vp_updL f_1652 ((9 * n) + j1647) (f_1651 ((9 * p9) + j1647))), rfl⟩
        have hf_1653 : ∀ c, (c ≠ 6) → en_1653 c = en c := fun c hc => Eq.trans (show en_1653 c = en_1647 c from by rw [hen_1653, va_up_ne _ _ (by omega)]) (hf_1647 c hc)
        refine lv_iinc (v := (nI (j1647 + 1))) (lv' := [(3, .int (nI (j1647 + 1))), (0, .ref (ad 0)), (1, .int (nI p9)), (2, .int (nI n))]) hx hb dX12_layProduct_37 hl (k := 0) rfl (nI_1 _) (by decide) rfl (fun ls hl => ?_)
        refine lv_goto (tgt := 2) hx hb dX12_layProduct_40 (by decide) ?_
        exact ih_1647 ((j1647 + 1))  en_1653 ls H locs (by omega) (by omega) (by omega) hI_1653 hf_1653  (lv_sub hl [0, 1, 2, 3] rfl) hh
  exact loop_1647 ((wd * wd) + 1) 0  en ls _ _ (Nat.le_refl _) (by omega) (by omega) hI hf0  (lv_sub hl [0, 1, 2, 3] rfl) hh
theorem kw_X12_layProduct {R : Room} {s : State} {args : Array Value} {own : String} {idx : Nat} (hts : ∀ w ∈ TB, w.before args s = true) (hl : Cond.methodLink own idx yX12_layProduct ∈ TB) (hR : 0 + 1 ≤ R.frames ∧ 8 + (4 + 11) + 40 * 0 ≤ R.locals) : CallW R s args own RX12 idx yX12_layProduct cX12_layProduct 4 none (Cond.code yX12_layProduct cX12_layProduct 4 none :: TB) (rmN 0) 0 0 2 := cwV 2 hts (TB_V hl tw_1135 ts_53 tw_9 tw_1136) rfl rfl rfl (by decide +kernel) hR
set_option maxHeartbeats 4000000 in
set_option maxRecDepth 100000 in
/-- multiply -/
theorem c_X12_multiply (l : Launch) (D : va_G) (cy : Nat → ClassId) (sz : Nat) (cs : List Nat) (ad : Nat → Nat) (en : Nat → va_E) (hI : RX cy cs ad en) (p9 q9 : Nat) (hp : p9 < 2001) (hq9 : q9 < 2001)   : Met l yX12_multiply (Cond.code yX12_multiply cX12_multiply 8 none :: TB) (rmN 1) (va_Pc [.ref (ad 0), .int (nI p9), .int (nI q9)] (Pre D cy cs ad en sz)) (va_Qv (S := Nat → va_E) (fun en1 => RX cy cs ad en1 ∧ (∀ c, (c ≠ 6) → en1 c = en c)) (PostM D cs ad) (Af cs ad sz)) 0 0 (Af cs ad sz) := by
  refine Met.ofW (cc := cX12_multiply) (maxL := 8) (ret := none) (by decide) rfl ?_
  intro p e s m args below meth c s₁ B hml hv
  obtain ⟨rfl, hsz, hP, hK, hD0⟩ := hv
  have hx := B.exec
  have hb := B.bytes
  have hr := B.returns
  have hts : ∀ w ∈ TB, w.before _ s = true := fun w h => atoms_spec (ws := _ :: TB) B.pre w (List.mem_cons_of_mem _ h)
  have hown : s.vm.findClass RX12 = some m.cls := findClass_of_methodNamed B.named
  have hlocks := B.notSynchronized
  have hh : Hp D (Af cs ad sz) (Af cs ad sz) s.heap s.heap [] cs ad en := ⟨hP, Af_self hD0, va_S.rf⟩
  have hA : ∀ q : Nat, s.heap.size ≤ q → Af cs ad sz q := fun q h => Or.inr (by rw [hsz] at h; exact h)
  have hl := lv_entry ([.ref (ad 0), .int (nI p9), .int (nI q9)]) (n := 8) (Nat.le_of_ble_eq_true rfl)
  rw [lg_entry_eq]
  generalize (lg_sl ([.ref (ad 0), .int (nI p9), .int (nI q9)]) ++ List.replicate (8 - (lg_sl ([.ref (ad 0), .int (nI p9), .int (nI q9)])).length) Slot.unset).toArray = ls at hl ⊢
  have hl : lv_has ls 8 [(0, .ref (ad 0)), (1, .int (nI p9)), (2, .int (nI q9))] := hl
  have hf0 : ∀ c, (c ≠ 6) → en c = en c := fun _ _ => rfl
  obtain ⟨fa, hi, wd, mo, tb, dp, many, grt, lst, nou, rm, rb, pr, wo, es1654, hwd2, hwd3, hmo, htb, hwo⟩ := getr_M hI
  refine lv_iconst (v := 0) hx hb dX12_multiply_0 (by decide) ?_
  refine lv_istore_n (lv' := [(3, .int 0), (0, .ref (ad 0)), (1, .int (nI p9)), (2, .int (nI q9))]) hx hb dX12_multiply_1 rfl hl (by decide) rfl (fun ls hl => ?_)
  have loop_1655 : ∀ (fu j1655 : Nat)  (en_1655 : Nat → va_E) (ls : Array Slot) (H : Heap) (locs : List Loc), 0 ≤ j1655 → j1655 ≤ wd → wd < j1655 + fu → RX cy cs ad en_1655 → (∀ c, (c ≠ 6) → en_1655 c = en c) →  lv_has ls 8 [(3, .int (nI j1655)), (0, .ref (ad 0)), (1, .int (nI p9)), (2, .int (nI q9))] → Hp D (Af cs ad sz) (Af cs ad sz) s.heap H locs cs ad en_1655 → W p l e (headSpec (Cond.code yX12_multiply cX12_multiply 8 none :: TB) (rmN 1)).room s m ([.ref (ad 0), .int (nI p9), .int (nI q9)] : List Value).toArray below meth c H locs 0 0 (MQ below (va_Qv (S := Nat → va_E) (fun en1 => RX cy cs ad en1 ∧ (∀ c, (c ≠ 6) → en1 c = en c)) (PostM D cs ad) (Af cs ad sz)) ([.ref (ad 0), .int (nI p9), .int (nI q9)] : List Value).toArray s 0 0 (Af cs ad sz)) (F0 m 2 ls []) := by
    intro fu
    induction fu with
    | zero => intro j1655  en_1655 ls H locs h0 h1 h2; exact absurd h2 (by omega)
    | succ fu ih_1655 =>
      intro j1655  en_1655 ls H locs hj0_1655 hj_1655 hfu_1655 hI_1655 hf_1655  hl hh
      refine lv_iload_n hx hb dX12_multiply_2 rfl (lv_at hl 0 rfl) ?_
      refine lv_aload_n hx hb dX12_multiply_3 rfl (lv_at hl 1 rfl) ?_
      have es1654_1656 : en_1655 0 = .inr (11, [.int fa, .int hi, .int (nI wd), .int (nI mo), .int (nI tb), .ref (ad 1), .ref (ad 2), .ref (ad 3), .ref (ad 4), .ref (ad 5), .ref (ad 6), .ref (ad 7), .ref (ad 8), .ref (ad 9), .int dp, .long many, .long grt, .long lst, .long nou, .ref (ad 10), .ref (ad 11), .ref (ad 12), .int rm, .long rb, .ref (ad 13), .int pr, .ref (ad 14), .ref (ad 15), .ref (ad 16), .ref (ad 17), .int (nI wo), .ref (ad 18), .ref (ad 19)]) := (hf_1655 0 (by omega)).trans es1654
      refine hp_get hx hb hts ix12 hown hK hh (q := 0) rfl (hI.1 _ (by decide)) es1654_1656 rfl 2 (by decide) (hts _ tw_881) (fun _ h9 => h9) rfl dX12_multiply_4 ?_
      refine lv_icmp_ge (tgt := 123) hx hb dX12_multiply_7 (by decide) (fun c_1657 => ?_) (fun c_1657 => ?_)
      · have n_1657 : wd ≤ j1655 := n_le (a := wd) (b := j1655) c_1657 (by omega) (by omega)
        exact hp_vretM hx hb hr hlocks hh (⟨hI_1655, hf_1655⟩) dX12_multiply_123
      · have n_1657 : j1655 < wd := n_nle (a := wd) (b := j1655) c_1657 (by omega) (by omega)
        refine lv_iconst (v := 0) hx hb dX12_multiply_10 (by decide) ?_
        refine lv_istore (lv' := [(4, .int 0), (3, .int (nI j1655)), (0, .ref (ad 0)), (1, .int (nI p9)), (2, .int (nI q9))]) hx hb dX12_multiply_11 hl (by decide) rfl (fun ls hl => ?_)
        have loop_1658 : ∀ (fu j1658 : Nat)  (en_1658 : Nat → va_E) (ls : Array Slot) (H : Heap) (locs : List Loc), 0 ≤ j1658 → j1658 ≤ wd → wd < j1658 + fu → RX cy cs ad en_1658 → (∀ c, (c ≠ 6) → en_1658 c = en c) →  lv_has ls 8 [(4, .int (nI j1658)), (3, .int (nI j1655)), (0, .ref (ad 0)), (1, .int (nI p9)), (2, .int (nI q9))] → Hp D (Af cs ad sz) (Af cs ad sz) s.heap H locs cs ad en_1658 → W p l e (headSpec (Cond.code yX12_multiply cX12_multiply 8 none :: TB) (rmN 1)).room s m ([.ref (ad 0), .int (nI p9), .int (nI q9)] : List Value).toArray below meth c H locs 0 0 (MQ below (va_Qv (S := Nat → va_E) (fun en1 => RX cy cs ad en1 ∧ (∀ c, (c ≠ 6) → en1 c = en c)) (PostM D cs ad) (Af cs ad sz)) ([.ref (ad 0), .int (nI p9), .int (nI q9)] : List Value).toArray s 0 0 (Af cs ad sz)) (F0 m 13 ls []) := by
          intro fu
          induction fu with
          | zero => intro j1658  en_1658 ls H locs h0 h1 h2; exact absurd h2 (by omega)
          | succ fu ih_1658 =>
            intro j1658  en_1658 ls H locs hj0_1658 hj_1658 hfu_1658 hI_1658 hf_1658  hl hh
            refine lv_iload hx hb dX12_multiply_13 (lv_at hl 0 rfl) ?_
            refine lv_aload_n hx hb dX12_multiply_15 rfl (lv_at hl 2 rfl) ?_
            have es1654_1659 : en_1658 0 = .inr (11, [.int fa, .int hi, .int (nI wd), .int (nI mo), .int (nI tb), .ref (ad 1), .ref (ad 2), .ref (ad 3), .ref (ad 4), .ref (ad 5), .ref (ad 6), .ref (ad 7), .ref (ad 8), .ref (ad 9), .int dp, .long many, .long grt, .long lst, .long nou, .ref (ad 10), .ref (ad 11), .ref (ad 12), .int rm, .long rb, .ref (ad 13), .int pr, .ref (ad 14), .ref (ad 15), .ref (ad 16), .ref (ad 17), .int (nI wo), .ref (ad 18), .ref (ad 19)]) := (hf_1658 0 (by omega)).trans es1654
            refine hp_get hx hb hts ix12 hown hK hh (q := 0) rfl (hI.1 _ (by decide)) es1654_1659 rfl 2 (by decide) (hts _ tw_881) (fun _ h9 => h9) rfl dX12_multiply_16 ?_
            refine lv_icmp_ge (tgt := 117) hx hb dX12_multiply_19 (by decide) (fun c_1660 => ?_) (fun c_1660 => ?_)
            · have n_1660 : wd ≤ j1658 := n_le (a := wd) (b := j1658) c_1660 (by omega) (by omega)
              refine lv_iinc (v := (nI (j1655 + 1))) (lv' := [(3, .int (nI (j1655 + 1))), (4, .int (nI j1658)), (0, .ref (ad 0)), (1, .int (nI p9)), (2, .int (nI q9))]) hx hb dX12_multiply_117 hl (k := 1) rfl (nI_1 _) (by decide) rfl (fun ls hl => ?_)
              refine lv_goto (tgt := 2) hx hb dX12_multiply_120 (by decide) ?_
              exact ih_1655 ((j1655 + 1))  en_1658 ls H locs (by omega) (by omega) (by omega) hI_1658 hf_1658  (lv_sub hl [0, 2, 3, 4] rfl) hh
            · have n_1660 : j1658 < wd := n_nle (a := wd) (b := j1658) c_1660 (by omega) (by omega)
              refine lv_lconst (v := 0) hx hb dX12_multiply_22 (by decide) ?_
              refine lv_lstore (lv' := [(5, .long 0), (4, .int (nI j1658)), (3, .int (nI j1655)), (0, .ref (ad 0)), (1, .int (nI p9)), (2, .int (nI q9))]) hx hb dX12_multiply_23 hl (by decide) rfl (fun ls hl => ?_)
              refine lv_iconst (v := 0) hx hb dX12_multiply_25 (by decide) ?_
              refine lv_istore (lv' := [(7, .int 0), (5, .long 0), (4, .int (nI j1658)), (3, .int (nI j1655)), (0, .ref (ad 0)), (1, .int (nI p9)), (2, .int (nI q9))]) hx hb dX12_multiply_26 hl (by decide) rfl (fun ls hl => ?_)
              have loop_1661 : ∀ (fu j1661 : Nat) (ac1661 : Int64)  (ls : Array Slot) (H : Heap) (locs : List Loc), 0 ≤ j1661 → j1661 ≤ wd → wd < j1661 + fu →   lv_has ls 8 [(7, .int (nI j1661)), (5, .long ac1661), (4, .int (nI j1658)), (3, .int (nI j1655)), (0, .ref (ad 0)), (1, .int (nI p9)), (2, .int (nI q9))] → Hp D (Af cs ad sz) (Af cs ad sz) s.heap H locs cs ad en_1658 → W p l e (headSpec (Cond.code yX12_multiply cX12_multiply 8 none :: TB) (rmN 1)).room s m ([.ref (ad 0), .int (nI p9), .int (nI q9)] : List Value).toArray below meth c H locs 0 0 (MQ below (va_Qv (S := Nat → va_E) (fun en1 => RX cy cs ad en1 ∧ (∀ c, (c ≠ 6) → en1 c = en c)) (PostM D cs ad) (Af cs ad sz)) ([.ref (ad 0), .int (nI p9), .int (nI q9)] : List Value).toArray s 0 0 (Af cs ad sz)) (F0 m 28 ls []) := by
                intro fu
                induction fu with
                | zero => intro j1661 ac1661 ls H locs h0 h1 h2; exact absurd h2 (by omega)
                | succ fu ih_1661 =>
                  intro j1661 ac1661 ls H locs hj0_1661 hj_1661 hfu_1661  hl hh
                  refine lv_iload hx hb dX12_multiply_28 (lv_at hl 0 rfl) ?_
                  refine lv_aload_n hx hb dX12_multiply_30 rfl (lv_at hl 4 rfl) ?_
                  refine hp_get hx hb hts ix12 hown hK hh (q := 0) rfl (hI.1 _ (by decide)) es1654_1659 rfl 2 (by decide) (hts _ tw_881) (fun _ h9 => h9) rfl dX12_multiply_31 ?_
                  refine lv_icmp_ge (tgt := 88) hx hb dX12_multiply_34 (by decide) (fun c_1662 => ?_) (fun c_1662 => ?_)
                  · have n_1662 : wd ≤ j1661 := n_le (a := wd) (b := j1661) c_1662 (by omega) (by omega)
                    refine lv_aload_n hx hb dX12_multiply_88 rfl (lv_at hl 4 rfl) ?_
                    refine hp_get hx hb hts ix12 hown hK hh (q := 0) rfl (hI.1 _ (by decide)) es1654_1659 rfl 10 (by decide) (hts _ tw_889) (fun _ h9 => h9) rfl dX12_multiply_89 ?_
                    refine lv_bipush (v := 9) hx hb dX12_multiply_92 (by decide) ?_
                    refine lv_aload_n hx hb dX12_multiply_94 rfl (lv_at hl 4 rfl) ?_
                    refine hp_get hx hb hts ix12 hown hK hh (q := 0) rfl (hI.1 _ (by decide)) es1654_1659 rfl 2 (by decide) (hts _ tw_881) (fun _ h9 => h9) rfl dX12_multiply_95 ?_
                    refine lv_iload_n hx hb dX12_multiply_98 rfl (lv_at hl 3 rfl) ?_
                    refine lv_imul hx hb dX12_multiply_99 ?_
                    rw [pk_mul wd j1655]
                    refine lv_iadd hx hb dX12_multiply_100 ?_
                    rw [show (9 : Int32) = nI 9 from rfl, nI_add 9 (wd * j1655)]
                    refine lv_iload hx hb dX12_multiply_101 (lv_at hl 2 rfl) ?_
                    refine lv_iadd hx hb dX12_multiply_103 ?_
                    rw [nI_add (9 + (wd * j1655)) j1658]
                    refine lv_aload_n hx hb dX12_multiply_104 rfl (lv_at hl 4 rfl) ?_
                    refine lv_lload hx hb dX12_multiply_105 (lv_at hl 1 rfl) ?_
                    refine hp_callRl (va_runV (As := [.long ac1661]) (rest := [.int (nI ((9 + (wd * j1655)) + j1658)), .ref (ad 6)]) ⟨hx, hb, hml, hown, hts⟩ (c_X12_rest l D cy _ cs ad en_1658 hI_1658 ac1661 ) (kw_X12_rest hts tw_1054 ⟨by decide, by decide⟩) (preV_of hh hK (hI.1 _ (by decide)) es1654_1659 rfl) rfl rfl hl.1 rfl (lv_room (Nat.le_of_ble_eq_true rfl)) dX12_multiply_107 ⟨Nat.le_of_ble_eq_true rfl, Nat.le_of_ble_eq_true rfl⟩) hh hA (fun r_1663 H locs hw_1663 hh => ?_)
                    have hi_1664 : wd * j1655 + j1658 < 9 := mdr (by omega) (by omega) (by omega)
                    obtain ⟨f_1665, es1665⟩ := getr_lv hI_1658
                    refine hp_last hx hb hK hh (q := 6) rfl (hI.1 _ (by decide)) es1665 (vp_in_nI (n := ((9 + (wd * j1655)) + j1658)) (by omega) (by decide)) dX12_multiply_110 (fun H locs en_1666 hen_1666 hh => ?_)
                    rw [nI_clamp (n := ((9 + (wd * j1655)) + j1658)) (by omega)] at hen_1666
                    have es1654_1666 : en_1666 0 = .inr (11, [.int fa, .int hi, .int (nI wd), .int (nI mo), .int (nI tb), .ref (ad 1), .ref (ad 2), .ref (ad 3), .ref (ad 4), .ref (ad 5), .ref (ad 6), .ref (ad 7), .ref (ad 8), .ref (ad 9), .int dp, .long many, .long grt, .long lst, .long nou, .ref (ad 10), .ref (ad 11), .ref (ad 12), .int rm, .long rb, .ref (ad 13), .int pr, .ref (ad 14), .ref (ad 15), .ref (ad 16), .ref (ad 17), .int (nI wo), .ref (ad 18), .ref (ad 19)]) := by rw [hen_1666, va_up_ne _ _ (by decide)]; exact es1654_1659
                    have es1665_1666 : en_1666 6 = .inl (cy 1, 117, .inr (.inl (vp_updL f_1665 ((9 + (wd * j1655)) + j1658) r_1663))) := by rw [hen_1666]; exact va_up_self _ _ _
                    have hI_1666 : RX cy cs ad en_1666 := by rw [hen_1666]; exact upr_lv hI_1658 ⟨(vp_updL f_1665 ((9 + (wd * j1655)) + j1658) r_1663), rfl⟩
                    have hf_1666 : ∀ c, (c ≠ 6) → en_1666 c = en c := fun c hc => Eq.trans (show en_1666 c = en_1658 c from by rw [hen_1666, va_up_ne _ _ (by omega)]) (hf_1658 c hc)
                    refine lv_iinc (v := (nI (j1658 + 1))) (lv' := [(4, .int (nI (j1658 + 1))), (7, .int (nI j1661)), (5, .long ac1661), (3, .int (nI j1655)), (0, .ref (ad 0)), (1, .int (nI p9)), (2, .int (nI q9))]) hx hb dX12_multiply_111 hl (k := 2) rfl (nI_1 _) (by decide) rfl (fun ls hl => ?_)
                    refine lv_goto (tgt := 13) hx hb dX12_multiply_114 (by decide) ?_
                    exact ih_1658 ((j1658 + 1))  en_1666 ls H locs (by omega) (by omega) (by omega) hI_1666 hf_1666  (lv_sub hl [0, 3, 4, 5, 6] rfl) hh
                  · have n_1662 : j1661 < wd := n_nle (a := wd) (b := j1661) c_1662 (by omega) (by omega)
                    refine lv_lload hx hb dX12_multiply_37 (lv_at hl 1 rfl) ?_
                    refine lv_aload_n hx hb dX12_multiply_39 rfl (lv_at hl 4 rfl) ?_
                    refine hp_get hx hb hts ix12 hown hK hh (q := 0) rfl (hI.1 _ (by decide)) es1654_1659 rfl 26 (by decide) (hts _ tw_905) (fun _ h9 => h9) rfl dX12_multiply_40 ?_
                    refine lv_bipush (v := 9) hx hb dX12_multiply_43 (by decide) ?_
                    refine lv_iload_n hx hb dX12_multiply_45 rfl (lv_at hl 5 rfl) ?_
                    refine lv_imul hx hb dX12_multiply_46 ?_
                    rw [show (9 : Int32) = nI 9 from rfl, pk_mul 9 p9]
                    refine lv_aload_n hx hb dX12_multiply_47 rfl (lv_at hl 4 rfl) ?_
                    refine hp_get hx hb hts ix12 hown hK hh (q := 0) rfl (hI.1 _ (by decide)) es1654_1659 rfl 2 (by decide) (hts _ tw_881) (fun _ h9 => h9) rfl dX12_multiply_48 ?_
                    refine lv_iload_n hx hb dX12_multiply_51 rfl (lv_at hl 3 rfl) ?_
                    refine lv_imul hx hb dX12_multiply_52 ?_
                    rw [pk_mul wd j1655]
                    refine lv_iadd hx hb dX12_multiply_53 ?_
                    rw [nI_add (9 * p9) (wd * j1655)]
                    refine lv_iload hx hb dX12_multiply_54 (lv_at hl 0 rfl) ?_
                    refine lv_iadd hx hb dX12_multiply_56 ?_
                    rw [nI_add ((9 * p9) + (wd * j1655)) j1661]
                    have hi_1667 : wd * j1655 + j1661 < 9 := mdr (by omega) (by omega) (by omega)
                    obtain ⟨f_1668, es1668⟩ := getr_pd hI_1658
                    refine hp_lald hx hb hK hh (q := 14) rfl (hI.1 _ (by decide)) es1668 (vp_in_nI (n := (((9 * p9) + (wd * j1655)) + j1661)) (by omega) (by decide)) dX12_multiply_57 ?_
                    rw [nI_clamp (n := (((9 * p9) + (wd * j1655)) + j1661)) (by omega)]
                    refine lv_aload_n hx hb dX12_multiply_58 rfl (lv_at hl 4 rfl) ?_
                    refine hp_get hx hb hts ix12 hown hK hh (q := 0) rfl (hI.1 _ (by decide)) es1654_1659 rfl 26 (by decide) (hts _ tw_905) (fun _ h9 => h9) rfl dX12_multiply_59 ?_
                    refine lv_bipush (v := 9) hx hb dX12_multiply_62 (by decide) ?_
                    refine lv_iload_n hx hb dX12_multiply_64 rfl (lv_at hl 6 rfl) ?_
                    refine lv_imul hx hb dX12_multiply_65 ?_
                    rw [show (9 : Int32) = nI 9 from rfl, pk_mul 9 q9]
                    refine lv_aload_n hx hb dX12_multiply_66 rfl (lv_at hl 4 rfl) ?_
                    refine hp_get hx hb hts ix12 hown hK hh (q := 0) rfl (hI.1 _ (by decide)) es1654_1659 rfl 2 (by decide) (hts _ tw_881) (fun _ h9 => h9) rfl dX12_multiply_67 ?_
                    refine lv_iload hx hb dX12_multiply_70 (lv_at hl 0 rfl) ?_
                    refine lv_imul hx hb dX12_multiply_72 ?_
                    rw [pk_mul wd j1661]
                    refine lv_iadd hx hb dX12_multiply_73 ?_
                    rw [nI_add (9 * q9) (wd * j1661)]
                    refine lv_iload hx hb dX12_multiply_74 (lv_at hl 2 rfl) ?_
                    refine lv_iadd hx hb dX12_multiply_76 ?_
                    rw [nI_add ((9 * q9) + (wd * j1661)) j1658]
                    have hi_1669 : wd * j1661 + j1658 < 9 := mdr (by omega) (by omega) (by omega)
                    refine hp_lald hx hb hK hh (q := 14) rfl (hI.1 _ (by decide)) es1668 (vp_in_nI (n := (((9 * q9) + (wd * j1661)) + j1658)) (by omega) (by decide)) dX12_multiply_77 ?_
                    rw [nI_clamp (n := (((9 * q9) + (wd * j1661)) + j1658)) (by omega)]
                    refine lv_lmul hx hb dX12_multiply_78 ?_
                    refine lv_ladd hx hb dX12_multiply_79 ?_
                    refine lv_lstore (lv' := [(5, .long (ac1661 + ((f_1668 (((9 * p9) + (wd * j1655)) + j1661)) * (f_1668 (((9 * q9) + (wd * j1661)) + j1658))))), (7, .int (nI j1661)), (4, .int (nI j1658)), (3, .int (nI j1655)), (0, .ref (ad 0)), (1, .int (nI p9)), (2, .int (nI q9))]) hx hb dX12_multiply_80 hl (by decide) rfl (fun ls hl => ?_)
                    refine lv_iinc (v := (nI (j1661 + 1))) (lv' := [(7, .int (nI (j1661 + 1))), (5, .long (ac1661 + ((f_1668 (((9 * p9) + (wd * j1655)) + j1661)) * (f_1668 (((9 * q9) + (wd * j1661)) + j1658))))), (4, .int (nI j1658)), (3, .int (nI j1655)), (0, .ref (ad 0)), (1, .int (nI p9)), (2, .int (nI q9))]) hx hb dX12_multiply_82 hl (k := 1) rfl (nI_1 _) (by decide) rfl (fun ls hl => ?_)
                    refine lv_goto (tgt := 28) hx hb dX12_multiply_85 (by decide) ?_
                    exact ih_1661 ((j1661 + 1)) (ac1661 + ((f_1668 (((9 * p9) + (wd * j1655)) + j1661)) * (f_1668 (((9 * q9) + (wd * j1661)) + j1658)))) ls H locs (by omega) (by omega) (by omega)  (lv_sub hl [0, 1, 2, 3, 4, 5, 6] rfl) hh
              exact loop_1661 (wd + 1) 0 0 ls _ _ (Nat.le_refl _) (by omega) (by omega)  (lv_sub hl [0, 1, 2, 3, 4, 5, 6] rfl) hh
        exact loop_1658 (wd + 1) 0  en_1655 ls _ _ (Nat.le_refl _) (by omega) (by omega) hI_1655 hf_1655  (lv_sub hl [0, 1, 2, 3, 4] rfl) hh
  exact loop_1655 (wd + 1) 0  en ls _ _ (Nat.le_refl _) (by omega) (by omega) hI hf0  (lv_sub hl [0, 1, 2, 3] rfl) hh
theorem kw_X12_multiply {R : Room} {s : State} {args : Array Value} {own : String} {idx : Nat} (hts : ∀ w ∈ TB, w.before args s = true) (hl : Cond.methodLink own idx yX12_multiply ∈ TB) (hR : 1 + 1 ≤ R.frames ∧ 8 + (8 + 11) + 40 * 1 ≤ R.locals) : CallW R s args own RX12 idx yX12_multiply cX12_multiply 8 none (Cond.code yX12_multiply cX12_multiply 8 none :: TB) (rmN 1) 0 0 2 := cwV 2 hts (TB_V hl tw_1152 ts_56 tw_9 tw_1153) rfl rfl rfl (by decide +kernel) hR
set_option maxHeartbeats 4000000 in
set_option maxRecDepth 100000 in
/-- isNought -/
theorem c_X12_isNought (l : Launch) (D : va_G) (cy : Nat → ClassId) (sz : Nat) (cs : List Nat) (ad : Nat → Nat) (en : Nat → va_E) (hI : RX cy cs ad en) (p9 : Nat) (hp : p9 < 2001)   : Met l yX12_isNought (Cond.code yX12_isNought cX12_isNought 4 (some .boolean) :: TB) (rmN 0) (va_Pc [.ref (ad 0), .int (nI p9)] (Pre D cy cs ad en sz)) (va_Qi (S := Unit) (fun r _ => r = 0 ∨ r = 1) (fun _ _ => True) (Nf sz)) 0 0 (Nf sz) := by
  refine Met.ofW (cc := cX12_isNought) (maxL := 4) (ret := (some .boolean)) (by decide) rfl ?_
  intro p e s m args below meth c s₁ B hml hv
  obtain ⟨rfl, hsz, hP, hK, hD0⟩ := hv
  have hx := B.exec
  have hb := B.bytes
  have hr := B.returns
  have hts : ∀ w ∈ TB, w.before _ s = true := fun w h => atoms_spec (ws := _ :: TB) B.pre w (List.mem_cons_of_mem _ h)
  have hown : s.vm.findClass RX12 = some m.cls := findClass_of_methodNamed B.named
  have hlocks := B.notSynchronized
  have hh : Hp D (Nf sz) (fun _ => True) s.heap s.heap [] cs ad en := ⟨hP, hD0, va_S.rf⟩
  have hA : ∀ q : Nat, s.heap.size ≤ q → Nf sz q := fun q h => by rw [hsz] at h; exact h
  have hl := lv_entry ([.ref (ad 0), .int (nI p9)]) (n := 4) (Nat.le_of_ble_eq_true rfl)
  rw [lg_entry_eq]
  generalize (lg_sl ([.ref (ad 0), .int (nI p9)]) ++ List.replicate (4 - (lg_sl ([.ref (ad 0), .int (nI p9)])).length) Slot.unset).toArray = ls at hl ⊢
  have hl : lv_has ls 4 [(0, .ref (ad 0)), (1, .int (nI p9))] := hl
  obtain ⟨fa, hi, wd, mo, tb, dp, many, grt, lst, nou, rm, rb, pr, wo, es1670, hwd2, hwd3, hmo, htb, hwo⟩ := getr_M hI
  have hww : wd * wd ≤ 9 := mww (by omega)
  refine lv_iconst (v := 1) hx hb dX12_isNought_0 (by decide) ?_
  refine lv_istore_n (lv' := [(2, .int 1), (0, .ref (ad 0)), (1, .int (nI p9))]) hx hb dX12_isNought_1 rfl hl (by decide) rfl (fun ls hl => ?_)
  refine lv_iconst (v := 0) hx hb dX12_isNought_2 (by decide) ?_
  refine lv_istore_n (lv' := [(3, .int 0), (2, .int 1), (0, .ref (ad 0)), (1, .int (nI p9))]) hx hb dX12_isNought_3 rfl hl (by decide) rfl (fun ls hl => ?_)
  have loop_1671 : ∀ (fu j1671 : Nat) (no1671 : Int32)  (ls : Array Slot) (H : Heap) (locs : List Loc), 0 ≤ j1671 → j1671 ≤ (wd * wd) → (wd * wd) < j1671 + fu →  (no1671 = 0 ∨ no1671 = 1) → lv_has ls 4 [(3, .int (nI j1671)), (2, .int no1671), (0, .ref (ad 0)), (1, .int (nI p9))] → Hp D (Nf sz) (fun _ => True) s.heap H locs cs ad en → W p l e (headSpec (Cond.code yX12_isNought cX12_isNought 4 (some .boolean) :: TB) (rmN 0)).room s m ([.ref (ad 0), .int (nI p9)] : List Value).toArray below meth c H locs 0 0 (MQ below (va_Qi (S := Unit) (fun r _ => r = 0 ∨ r = 1) (fun _ _ => True) (Nf sz)) ([.ref (ad 0), .int (nI p9)] : List Value).toArray s 0 0 (Nf sz)) (F0 m 4 ls []) := by
    intro fu
    induction fu with
    | zero => intro j1671 no1671 ls H locs h0 h1 h2; exact absurd h2 (by omega)
    | succ fu ih_1671 =>
      intro j1671 no1671 ls H locs hj0_1671 hj_1671 hfu_1671 i0_1671 hl hh
      refine lv_iload_n hx hb dX12_isNought_4 rfl (lv_at hl 0 rfl) ?_
      refine lv_aload_n hx hb dX12_isNought_5 rfl (lv_at hl 2 rfl) ?_
      refine hp_get hx hb hts ix12 hown hK hh (q := 0) rfl (hI.1 _ (by decide)) es1670 rfl 2 (by decide) (hts _ tw_881) (fun _ h9 => h9) rfl dX12_isNought_6 ?_
      refine lv_aload_n hx hb dX12_isNought_9 rfl (lv_at hl 2 rfl) ?_
      refine hp_get hx hb hts ix12 hown hK hh (q := 0) rfl (hI.1 _ (by decide)) es1670 rfl 2 (by decide) (hts _ tw_881) (fun _ h9 => h9) rfl dX12_isNought_10 ?_
      refine lv_imul hx hb dX12_isNought_13 ?_
      rw [pk_mul wd wd]
      have hw2_1672 : wd * wd ≤ 9 := mww (by omega)
      refine lv_icmp_ge (tgt := 47) hx hb dX12_isNought_14 (by decide) (fun c_1673 => ?_) (fun c_1673 => ?_)
      · have n_1673 : (wd * wd) ≤ j1671 := n_le (a := (wd * wd)) (b := j1671) c_1673 (by omega) (by omega)
        refine lv_iload_n hx hb dX12_isNought_47 rfl (lv_at hl 1 rfl) ?_
        exact hp_iretR hx hb hr (nar_bit i0_1671) hlocks hsz hh (i0_1671) dX12_isNought_48
      · have n_1673 : j1671 < (wd * wd) := n_nle (a := (wd * wd)) (b := j1671) c_1673 (by omega) (by omega)
        refine lv_iload_n hx hb dX12_isNought_17 rfl (lv_at hl 1 rfl) ?_
        refine lv_aload_n hx hb dX12_isNought_18 rfl (lv_at hl 2 rfl) ?_
        refine hp_get hx hb hts ix12 hown hK hh (q := 0) rfl (hI.1 _ (by decide)) es1670 rfl 26 (by decide) (hts _ tw_905) (fun _ h9 => h9) rfl dX12_isNought_19 ?_
        refine lv_bipush (v := 9) hx hb dX12_isNought_22 (by decide) ?_
        refine lv_iload_n hx hb dX12_isNought_24 rfl (lv_at hl 3 rfl) ?_
        refine lv_imul hx hb dX12_isNought_25 ?_
        rw [show (9 : Int32) = nI 9 from rfl, pk_mul 9 p9]
        refine lv_iload_n hx hb dX12_isNought_26 rfl (lv_at hl 0 rfl) ?_
        refine lv_iadd hx hb dX12_isNought_27 ?_
        rw [nI_add (9 * p9) j1671]
        obtain ⟨f_1674, es1674⟩ := getr_pd hI
        refine hp_lald hx hb hK hh (q := 14) rfl (hI.1 _ (by decide)) es1674 (vp_in_nI (n := ((9 * p9) + j1671)) (by omega) (by decide)) dX12_isNought_28 ?_
        rw [nI_clamp (n := ((9 * p9) + j1671)) (by omega)]
        refine lv_lconst (v := 0) hx hb dX12_isNought_29 (by decide) ?_
        refine W.lcmp hx hb dX12_isNought_30 ?_
        refine lv_if_ne (tgt := 38) hx hb dX12_isNought_31 (by decide) (fun c_1675 => ?_) (fun c_1675 => ?_)
        · refine lv_iconst (v := 0) hx hb dX12_isNought_38 (by decide) ?_
          refine lv_iand hx hb dX12_isNought_39 ?_
          refine lv_istore_n (lv' := [(2, .int (no1671 &&& 0)), (3, .int (nI j1671)), (0, .ref (ad 0)), (1, .int (nI p9))]) hx hb dX12_isNought_40 rfl hl (by decide) rfl (fun ls hl => ?_)
          refine lv_iinc (v := (nI (j1671 + 1))) (lv' := [(3, .int (nI (j1671 + 1))), (2, .int (no1671 &&& 0)), (0, .ref (ad 0)), (1, .int (nI p9))]) hx hb dX12_isNought_41 hl (k := 1) rfl (nI_1 _) (by decide) rfl (fun ls hl => ?_)
          refine lv_goto (tgt := 4) hx hb dX12_isNought_44 (by decide) ?_
          exact ih_1671 ((j1671 + 1)) (no1671 &&& 0) ls H locs (by omega) (by omega) (by omega) (bit_and i0_1671 (by decide)) (lv_sub hl [0, 1, 2, 3] rfl) hh
        · refine lv_iconst (v := 1) hx hb dX12_isNought_34 (by decide) ?_
          refine lv_goto (tgt := 39) hx hb dX12_isNought_35 (by decide) ?_
          refine lv_iand hx hb dX12_isNought_39 ?_
          refine lv_istore_n (lv' := [(2, .int (no1671 &&& 1)), (3, .int (nI j1671)), (0, .ref (ad 0)), (1, .int (nI p9))]) hx hb dX12_isNought_40 rfl hl (by decide) rfl (fun ls hl => ?_)
          refine lv_iinc (v := (nI (j1671 + 1))) (lv' := [(3, .int (nI (j1671 + 1))), (2, .int (no1671 &&& 1)), (0, .ref (ad 0)), (1, .int (nI p9))]) hx hb dX12_isNought_41 hl (k := 1) rfl (nI_1 _) (by decide) rfl (fun ls hl => ?_)
          refine lv_goto (tgt := 4) hx hb dX12_isNought_44 (by decide) ?_
          exact ih_1671 ((j1671 + 1)) (no1671 &&& 1) ls H locs (by omega) (by omega) (by omega) (bit_and i0_1671 (by decide)) (lv_sub hl [0, 1, 2, 3] rfl) hh
  exact loop_1671 ((wd * wd) + 1) 0 1 ls _ _ (Nat.le_refl _) (by omega) (by omega) (by decide) (lv_sub hl [0, 1, 2, 3] rfl) hh
theorem kw_X12_isNought {R : Room} {s : State} {args : Array Value} {own : String} {idx : Nat} (hts : ∀ w ∈ TB, w.before args s = true) (hl : Cond.methodLink own idx yX12_isNought ∈ TB) (hR : 0 + 1 ≤ R.frames ∧ 8 + (4 + 11) + 40 * 0 ≤ R.locals) : CallW R s args own RX12 idx yX12_isNought cX12_isNought 4 (some .boolean) (Cond.code yX12_isNought cX12_isNought 4 (some .boolean) :: TB) (rmN 0) 0 0 1 := cwV 1 hts (TB_V hl tw_1144 ts_54 tw_9 tw_1145) rfl rfl rfl (by decide +kernel) hR
set_option maxHeartbeats 4000000 in
set_option maxRecDepth 100000 in
/-- isOne -/
theorem c_X12_isOne (l : Launch) (D : va_G) (cy : Nat → ClassId) (sz : Nat) (cs : List Nat) (ad : Nat → Nat) (en : Nat → va_E) (hI : RX cy cs ad en) (p9 : Nat) (hp : p9 < 2001)   : Met l yX12_isOne (Cond.code yX12_isOne cX12_isOne 5 (some .boolean) :: TB) (rmN 0) (va_Pc [.ref (ad 0), .int (nI p9)] (Pre D cy cs ad en sz)) (va_Qi (S := Unit) (fun r _ => r = 0 ∨ r = 1) (fun _ _ => True) (Nf sz)) 0 0 (Nf sz) := by
  refine Met.ofW (cc := cX12_isOne) (maxL := 5) (ret := (some .boolean)) (by decide) rfl ?_
  intro p e s m args below meth c s₁ B hml hv
  obtain ⟨rfl, hsz, hP, hK, hD0⟩ := hv
  have hx := B.exec
  have hb := B.bytes
  have hr := B.returns
  have hts : ∀ w ∈ TB, w.before _ s = true := fun w h => atoms_spec (ws := _ :: TB) B.pre w (List.mem_cons_of_mem _ h)
  have hown : s.vm.findClass RX12 = some m.cls := findClass_of_methodNamed B.named
  have hlocks := B.notSynchronized
  have hh : Hp D (Nf sz) (fun _ => True) s.heap s.heap [] cs ad en := ⟨hP, hD0, va_S.rf⟩
  have hA : ∀ q : Nat, s.heap.size ≤ q → Nf sz q := fun q h => by rw [hsz] at h; exact h
  have hl := lv_entry ([.ref (ad 0), .int (nI p9)]) (n := 5) (Nat.le_of_ble_eq_true rfl)
  rw [lg_entry_eq]
  generalize (lg_sl ([.ref (ad 0), .int (nI p9)]) ++ List.replicate (5 - (lg_sl ([.ref (ad 0), .int (nI p9)])).length) Slot.unset).toArray = ls at hl ⊢
  have hl : lv_has ls 5 [(0, .ref (ad 0)), (1, .int (nI p9))] := hl
  obtain ⟨fa, hi, wd, mo, tb, dp, many, grt, lst, nou, rm, rb, pr, wo, es1676, hwd2, hwd3, hmo, htb, hwo⟩ := getr_M hI
  refine lv_iconst (v := 1) hx hb dX12_isOne_0 (by decide) ?_
  refine lv_istore_n (lv' := [(2, .int 1), (0, .ref (ad 0)), (1, .int (nI p9))]) hx hb dX12_isOne_1 rfl hl (by decide) rfl (fun ls hl => ?_)
  refine lv_iconst (v := 0) hx hb dX12_isOne_2 (by decide) ?_
  refine lv_istore_n (lv' := [(3, .int 0), (2, .int 1), (0, .ref (ad 0)), (1, .int (nI p9))]) hx hb dX12_isOne_3 rfl hl (by decide) rfl (fun ls hl => ?_)
  have loop_1677 : ∀ (fu j1677 : Nat) (no1677 : Int32)  (ls : Array Slot) (H : Heap) (locs : List Loc), 0 ≤ j1677 → j1677 ≤ wd → wd < j1677 + fu →  (no1677 = 0 ∨ no1677 = 1) → lv_has ls 5 [(3, .int (nI j1677)), (2, .int no1677), (0, .ref (ad 0)), (1, .int (nI p9))] → Hp D (Nf sz) (fun _ => True) s.heap H locs cs ad en → W p l e (headSpec (Cond.code yX12_isOne cX12_isOne 5 (some .boolean) :: TB) (rmN 0)).room s m ([.ref (ad 0), .int (nI p9)] : List Value).toArray below meth c H locs 0 0 (MQ below (va_Qi (S := Unit) (fun r _ => r = 0 ∨ r = 1) (fun _ _ => True) (Nf sz)) ([.ref (ad 0), .int (nI p9)] : List Value).toArray s 0 0 (Nf sz)) (F0 m 4 ls []) := by
    intro fu
    induction fu with
    | zero => intro j1677 no1677 ls H locs h0 h1 h2; exact absurd h2 (by omega)
    | succ fu ih_1677 =>
      intro j1677 no1677 ls H locs hj0_1677 hj_1677 hfu_1677 i0_1677 hl hh
      refine lv_iload_n hx hb dX12_isOne_4 rfl (lv_at hl 0 rfl) ?_
      refine lv_aload_n hx hb dX12_isOne_5 rfl (lv_at hl 2 rfl) ?_
      refine hp_get hx hb hts ix12 hown hK hh (q := 0) rfl (hI.1 _ (by decide)) es1676 rfl 2 (by decide) (hts _ tw_881) (fun _ h9 => h9) rfl dX12_isOne_6 ?_
      refine lv_icmp_ge (tgt := 78) hx hb dX12_isOne_9 (by decide) (fun c_1678 => ?_) (fun c_1678 => ?_)
      · have n_1678 : wd ≤ j1677 := n_le (a := wd) (b := j1677) c_1678 (by omega) (by omega)
        refine lv_iload_n hx hb dX12_isOne_78 rfl (lv_at hl 1 rfl) ?_
        exact hp_iretR hx hb hr (nar_bit i0_1677) hlocks hsz hh (i0_1677) dX12_isOne_79
      · have n_1678 : j1677 < wd := n_nle (a := wd) (b := j1677) c_1678 (by omega) (by omega)
        refine lv_iconst (v := 0) hx hb dX12_isOne_12 (by decide) ?_
        refine lv_istore (lv' := [(4, .int 0), (3, .int (nI j1677)), (2, .int no1677), (0, .ref (ad 0)), (1, .int (nI p9))]) hx hb dX12_isOne_13 hl (by decide) rfl (fun ls hl => ?_)
        have loop_1679 : ∀ (fu j1679 : Nat) (no1679 : Int32)  (ls : Array Slot) (H : Heap) (locs : List Loc), 0 ≤ j1679 → j1679 ≤ wd → wd < j1679 + fu →  (no1679 = 0 ∨ no1679 = 1) → lv_has ls 5 [(4, .int (nI j1679)), (3, .int (nI j1677)), (2, .int no1679), (0, .ref (ad 0)), (1, .int (nI p9))] → Hp D (Nf sz) (fun _ => True) s.heap H locs cs ad en → W p l e (headSpec (Cond.code yX12_isOne cX12_isOne 5 (some .boolean) :: TB) (rmN 0)).room s m ([.ref (ad 0), .int (nI p9)] : List Value).toArray below meth c H locs 0 0 (MQ below (va_Qi (S := Unit) (fun r _ => r = 0 ∨ r = 1) (fun _ _ => True) (Nf sz)) ([.ref (ad 0), .int (nI p9)] : List Value).toArray s 0 0 (Nf sz)) (F0 m 15 ls []) := by
          intro fu
          induction fu with
          | zero => intro j1679 no1679 ls H locs h0 h1 h2; exact absurd h2 (by omega)
          | succ fu ih_1679 =>
            intro j1679 no1679 ls H locs hj0_1679 hj_1679 hfu_1679 i0_1679 hl hh
            refine lv_iload hx hb dX12_isOne_15 (lv_at hl 0 rfl) ?_
            refine lv_aload_n hx hb dX12_isOne_17 rfl (lv_at hl 3 rfl) ?_
            refine hp_get hx hb hts ix12 hown hK hh (q := 0) rfl (hI.1 _ (by decide)) es1676 rfl 2 (by decide) (hts _ tw_881) (fun _ h9 => h9) rfl dX12_isOne_18 ?_
            refine lv_icmp_ge (tgt := 72) hx hb dX12_isOne_21 (by decide) (fun c_1680 => ?_) (fun c_1680 => ?_)
            · have n_1680 : wd ≤ j1679 := n_le (a := wd) (b := j1679) c_1680 (by omega) (by omega)
              refine lv_iinc (v := (nI (j1677 + 1))) (lv' := [(3, .int (nI (j1677 + 1))), (4, .int (nI j1679)), (2, .int no1679), (0, .ref (ad 0)), (1, .int (nI p9))]) hx hb dX12_isOne_72 hl (k := 1) rfl (nI_1 _) (by decide) rfl (fun ls hl => ?_)
              refine lv_goto (tgt := 4) hx hb dX12_isOne_75 (by decide) ?_
              exact ih_1677 ((j1677 + 1)) no1679 ls H locs (by omega) (by omega) (by omega) (i0_1679) (lv_sub hl [0, 2, 3, 4] rfl) hh
            · have n_1680 : j1679 < wd := n_nle (a := wd) (b := j1679) c_1680 (by omega) (by omega)
              refine lv_iload_n hx hb dX12_isOne_24 rfl (lv_at hl 2 rfl) ?_
              refine lv_aload_n hx hb dX12_isOne_25 rfl (lv_at hl 3 rfl) ?_
              refine hp_get hx hb hts ix12 hown hK hh (q := 0) rfl (hI.1 _ (by decide)) es1676 rfl 26 (by decide) (hts _ tw_905) (fun _ h9 => h9) rfl dX12_isOne_26 ?_
              refine lv_bipush (v := 9) hx hb dX12_isOne_29 (by decide) ?_
              refine lv_iload_n hx hb dX12_isOne_31 rfl (lv_at hl 4 rfl) ?_
              refine lv_imul hx hb dX12_isOne_32 ?_
              rw [show (9 : Int32) = nI 9 from rfl, pk_mul 9 p9]
              refine lv_aload_n hx hb dX12_isOne_33 rfl (lv_at hl 3 rfl) ?_
              refine hp_get hx hb hts ix12 hown hK hh (q := 0) rfl (hI.1 _ (by decide)) es1676 rfl 2 (by decide) (hts _ tw_881) (fun _ h9 => h9) rfl dX12_isOne_34 ?_
              refine lv_iload_n hx hb dX12_isOne_37 rfl (lv_at hl 1 rfl) ?_
              refine lv_imul hx hb dX12_isOne_38 ?_
              rw [pk_mul wd j1677]
              refine lv_iadd hx hb dX12_isOne_39 ?_
              rw [nI_add (9 * p9) (wd * j1677)]
              refine lv_iload hx hb dX12_isOne_40 (lv_at hl 0 rfl) ?_
              refine lv_iadd hx hb dX12_isOne_42 ?_
              rw [nI_add ((9 * p9) + (wd * j1677)) j1679]
              have hi_1681 : wd * j1677 + j1679 < 9 := mdr (by omega) (by omega) (by omega)
              obtain ⟨f_1682, es1682⟩ := getr_pd hI
              refine hp_lald hx hb hK hh (q := 14) rfl (hI.1 _ (by decide)) es1682 (vp_in_nI (n := (((9 * p9) + (wd * j1677)) + j1679)) (by omega) (by decide)) dX12_isOne_43 ?_
              rw [nI_clamp (n := (((9 * p9) + (wd * j1677)) + j1679)) (by omega)]
              refine lv_iload_n hx hb dX12_isOne_44 rfl (lv_at hl 1 rfl) ?_
              refine lv_iload hx hb dX12_isOne_45 (lv_at hl 0 rfl) ?_
              refine lv_icmp_ne (tgt := 54) hx hb dX12_isOne_47 (by decide) (fun c_1683 => ?_) (fun c_1683 => ?_)
              · have n_1683 : j1677 ≠ j1679 := n_neq (a := j1677) (b := j1679) c_1683 (by omega) (by omega)
                refine lv_lconst (v := 0) hx hb dX12_isOne_54 (by decide) ?_
                refine W.lcmp hx hb dX12_isOne_55 ?_
                refine lv_if_ne (tgt := 63) hx hb dX12_isOne_56 (by decide) (fun c_1684 => ?_) (fun c_1684 => ?_)
                · refine lv_iconst (v := 0) hx hb dX12_isOne_63 (by decide) ?_
                  refine lv_iand hx hb dX12_isOne_64 ?_
                  refine lv_istore_n (lv' := [(2, .int (no1679 &&& 0)), (4, .int (nI j1679)), (3, .int (nI j1677)), (0, .ref (ad 0)), (1, .int (nI p9))]) hx hb dX12_isOne_65 rfl hl (by decide) rfl (fun ls hl => ?_)
                  refine lv_iinc (v := (nI (j1679 + 1))) (lv' := [(4, .int (nI (j1679 + 1))), (2, .int (no1679 &&& 0)), (3, .int (nI j1677)), (0, .ref (ad 0)), (1, .int (nI p9))]) hx hb dX12_isOne_66 hl (k := 1) rfl (nI_1 _) (by decide) rfl (fun ls hl => ?_)
                  refine lv_goto (tgt := 15) hx hb dX12_isOne_69 (by decide) ?_
                  exact ih_1679 ((j1679 + 1)) (no1679 &&& 0) ls H locs (by omega) (by omega) (by omega) (bit_and i0_1679 (by decide)) (lv_sub hl [0, 2, 1, 3, 4] rfl) hh
                · refine lv_iconst (v := 1) hx hb dX12_isOne_59 (by decide) ?_
                  refine lv_goto (tgt := 64) hx hb dX12_isOne_60 (by decide) ?_
                  refine lv_iand hx hb dX12_isOne_64 ?_
                  refine lv_istore_n (lv' := [(2, .int (no1679 &&& 1)), (4, .int (nI j1679)), (3, .int (nI j1677)), (0, .ref (ad 0)), (1, .int (nI p9))]) hx hb dX12_isOne_65 rfl hl (by decide) rfl (fun ls hl => ?_)
                  refine lv_iinc (v := (nI (j1679 + 1))) (lv' := [(4, .int (nI (j1679 + 1))), (2, .int (no1679 &&& 1)), (3, .int (nI j1677)), (0, .ref (ad 0)), (1, .int (nI p9))]) hx hb dX12_isOne_66 hl (k := 1) rfl (nI_1 _) (by decide) rfl (fun ls hl => ?_)
                  refine lv_goto (tgt := 15) hx hb dX12_isOne_69 (by decide) ?_
                  exact ih_1679 ((j1679 + 1)) (no1679 &&& 1) ls H locs (by omega) (by omega) (by omega) (bit_and i0_1679 (by decide)) (lv_sub hl [0, 2, 1, 3, 4] rfl) hh
              · have n_1683 : j1677 = j1679 := n_eq (a := j1677) (b := j1679) c_1683 (by omega) (by omega)
                refine lv_lconst (v := 1) hx hb dX12_isOne_50 (by decide) ?_
                refine lv_goto (tgt := 55) hx hb dX12_isOne_51 (by decide) ?_
                refine W.lcmp hx hb dX12_isOne_55 ?_
                refine lv_if_ne (tgt := 63) hx hb dX12_isOne_56 (by decide) (fun c_1685 => ?_) (fun c_1685 => ?_)
                · refine lv_iconst (v := 0) hx hb dX12_isOne_63 (by decide) ?_
                  refine lv_iand hx hb dX12_isOne_64 ?_
                  refine lv_istore_n (lv' := [(2, .int (no1679 &&& 0)), (4, .int (nI j1679)), (3, .int (nI j1677)), (0, .ref (ad 0)), (1, .int (nI p9))]) hx hb dX12_isOne_65 rfl hl (by decide) rfl (fun ls hl => ?_)
                  refine lv_iinc (v := (nI (j1679 + 1))) (lv' := [(4, .int (nI (j1679 + 1))), (2, .int (no1679 &&& 0)), (3, .int (nI j1677)), (0, .ref (ad 0)), (1, .int (nI p9))]) hx hb dX12_isOne_66 hl (k := 1) rfl (nI_1 _) (by decide) rfl (fun ls hl => ?_)
                  refine lv_goto (tgt := 15) hx hb dX12_isOne_69 (by decide) ?_
                  exact ih_1679 ((j1679 + 1)) (no1679 &&& 0) ls H locs (by omega) (by omega) (by omega) (bit_and i0_1679 (by decide)) (lv_sub hl [0, 2, 1, 3, 4] rfl) hh
                · refine lv_iconst (v := 1) hx hb dX12_isOne_59 (by decide) ?_
                  refine lv_goto (tgt := 64) hx hb dX12_isOne_60 (by decide) ?_
                  refine lv_iand hx hb dX12_isOne_64 ?_
                  refine lv_istore_n (lv' := [(2, .int (no1679 &&& 1)), (4, .int (nI j1679)), (3, .int (nI j1677)), (0, .ref (ad 0)), (1, .int (nI p9))]) hx hb dX12_isOne_65 rfl hl (by decide) rfl (fun ls hl => ?_)
                  refine lv_iinc (v := (nI (j1679 + 1))) (lv' := [(4, .int (nI (j1679 + 1))), (2, .int (no1679 &&& 1)), (3, .int (nI j1677)), (0, .ref (ad 0)), (1, .int (nI p9))]) hx hb dX12_isOne_66 hl (k := 1) rfl (nI_1 _) (by decide) rfl (fun ls hl => ?_)
                  refine lv_goto (tgt := 15) hx hb dX12_isOne_69 (by decide) ?_
                  exact ih_1679 ((j1679 + 1)) (no1679 &&& 1) ls H locs (by omega) (by omega) (by omega) (bit_and i0_1679 (by decide)) (lv_sub hl [0, 2, 1, 3, 4] rfl) hh
        exact loop_1679 (wd + 1) 0 no1677 ls _ _ (Nat.le_refl _) (by omega) (by omega) (i0_1677) (lv_sub hl [0, 1, 2, 3, 4] rfl) hh
  exact loop_1677 (wd + 1) 0 1 ls _ _ (Nat.le_refl _) (by omega) (by omega) (by decide) (lv_sub hl [0, 1, 2, 3] rfl) hh
theorem kw_X12_isOne {R : Room} {s : State} {args : Array Value} {own : String} {idx : Nat} (hts : ∀ w ∈ TB, w.before args s = true) (hl : Cond.methodLink own idx yX12_isOne ∈ TB) (hR : 0 + 1 ≤ R.frames ∧ 8 + (5 + 11) + 40 * 0 ≤ R.locals) : CallW R s args own RX12 idx yX12_isOne cX12_isOne 5 (some .boolean) (Cond.code yX12_isOne cX12_isOne 5 (some .boolean) :: TB) (rmN 0) 0 0 1 := cwV 1 hts (TB_V hl tw_1148 ts_55 tw_9 tw_1149) rfl rfl rfl (by decide +kernel) hR
set_option maxHeartbeats 4000000 in
set_option maxRecDepth 100000 in
/-- close -/
theorem c_X12_close (l : Launch) (D : va_G) (cy : Nat → ClassId) (sz : Nat) (cs : List Nat) (ad : Nat → Nat) (en : Nat → va_E) (hI : RX cy cs ad en) (hCX : CHX en)   : Met l yX12_close (Cond.code yX12_close cX12_close 4 (some .int) :: TB) (rmN 3) (va_Pc [.ref (ad 0)] (Pre D cy cs ad en sz)) (va_Qi (S := Nat → va_E) (fun r en1 => RX cy cs ad en1 ∧ (∀ c, (c ≠ 0 ∧ c ≠ 6 ∧ c ≠ 14 ∧ c ≠ 15 ∧ c ≠ 16 ∧ c ≠ 17) → en1 c = en c) ∧ CHX en1 ∧ KPp en en1) (PostM D cs ad) (Af cs ad sz)) 0 0 (Af cs ad sz) := by
  refine Met.ofW (cc := cX12_close) (maxL := 4) (ret := (some .int)) (by decide) rfl ?_
  intro p e s m args below meth c s₁ B hml hv
  obtain ⟨rfl, hsz, hP, hK, hD0⟩ := hv
  have hx := B.exec
  have hb := B.bytes
  have hr := B.returns
  have hts : ∀ w ∈ TB, w.before _ s = true := fun w h => atoms_spec (ws := _ :: TB) B.pre w (List.mem_cons_of_mem _ h)
  have hown : s.vm.findClass RX12 = some m.cls := findClass_of_methodNamed B.named
  have hlocks := B.notSynchronized
  have hh : Hp D (Af cs ad sz) (Af cs ad sz) s.heap s.heap [] cs ad en := ⟨hP, Af_self hD0, va_S.rf⟩
  have hA : ∀ q : Nat, s.heap.size ≤ q → Af cs ad sz q := fun q h => Or.inr (by rw [hsz] at h; exact h)
  have hl := lv_entry ([.ref (ad 0)]) (n := 4) (Nat.le_of_ble_eq_true rfl)
  rw [lg_entry_eq]
  generalize (lg_sl ([.ref (ad 0)]) ++ List.replicate (4 - (lg_sl ([.ref (ad 0)])).length) Slot.unset).toArray = ls at hl ⊢
  have hl : lv_has ls 4 [(0, .ref (ad 0))] := hl
  have hf0 : ∀ c, (c ≠ 0 ∧ c ≠ 6 ∧ c ≠ 14 ∧ c ≠ 15 ∧ c ≠ 16 ∧ c ≠ 17) → en c = en c := fun _ _ => rfl
  obtain ⟨fa, hi, wd, mo, tb, dp, many, grt, lst, nou, rm, rb, pr, wo, es1686, hwd2, hwd3, hmo, htb, hwo⟩ := getr_M hI
  refine lv_aload_n hx hb dX12_close_0 rfl (lv_at hl 0 rfl) ?_
  refine hp_get hx hb hts ix12 hown hK hh (q := 0) rfl (hI.1 _ (by decide)) es1686 rfl 4 (by decide) (hts _ tw_883) (fun _ h9 => h9) rfl dX12_close_1 ?_
  refine lv_if_ne (tgt := 10) hx hb dX12_close_4 (by decide) (fun c_1687 => ?_) (fun c_1687 => ?_)
  · have n_1687 : tb ≠ 0 := n_neq (a := tb) (b := 0) c_1687 (by omega) (by decide)
    refine lv_aload_n hx hb dX12_close_10 rfl (lv_at hl 0 rfl) ?_
    refine lv_iconst (v := 0) hx hb dX12_close_11 (by decide) ?_
    refine hp_put hx hb hts ix12 tyX12 tyX12_ok nmX12 hown hK hh (q := 0) rfl (hI.1 _ (by decide)) es1686 rfl 25 (by decide) (hts _ tw_904) (fun _ h9 => h9) rfl (ty := .int) (by decide +kernel) rfl rfl (Nat.le_of_ble_eq_true rfl) dX12_close_12 (fun H locs en_1688 hen_1688 hh => ?_)
    have es1686_1688 : en_1688 0 = .inr (11, [.int fa, .int hi, .int (nI wd), .int (nI mo), .int (nI tb), .ref (ad 1), .ref (ad 2), .ref (ad 3), .ref (ad 4), .ref (ad 5), .ref (ad 6), .ref (ad 7), .ref (ad 8), .ref (ad 9), .int dp, .long many, .long grt, .long lst, .long nou, .ref (ad 10), .ref (ad 11), .ref (ad 12), .int rm, .long rb, .ref (ad 13), .int 0, .ref (ad 14), .ref (ad 15), .ref (ad 16), .ref (ad 17), .int (nI wo), .ref (ad 18), .ref (ad 19)]) := by rw [hen_1688]; exact va_up_self _ _ _
    have hI_1688 : RX cy cs ad en_1688 := by rw [hen_1688]; exact upr_M hI ⟨fa, hi, wd, mo, tb, dp, many, grt, lst, nou, rm, rb, 0, wo, rfl, hwd2, hwd3, hmo, htb, hwo⟩
    have hf_1688 : ∀ c, (c ≠ 0 ∧ c ≠ 6 ∧ c ≠ 14 ∧ c ≠ 15 ∧ c ≠ 16 ∧ c ≠ 17) → en_1688 c = en c := fun c hc => Eq.trans (show en_1688 c = en c from by rw [hen_1688, va_up_ne _ _ (by omega)]) (hf0 c hc)
    have hkp_1688 : KPp en en_1688 := KPp_fv (KPp_rf en) es1686 es1686_1688 hi (nI wd) (nI mo) (nI tb) (nI wo) rfl rfl rfl rfl rfl rfl rfl rfl rfl rfl
    refine lv_iconst (v := 0) hx hb dX12_close_15 (by decide) ?_
    refine lv_istore_n (lv' := [(1, .int 0), (0, .ref (ad 0))]) hx hb dX12_close_16 rfl hl (by decide) rfl (fun ls hl => ?_)
    have loop_1689 : ∀ (fu j1689 : Nat)  (en_1689 : Nat → va_E) (ls : Array Slot) (H : Heap) (locs : List Loc), 0 ≤ j1689 → j1689 ≤ 4096 → 4096 < j1689 + fu → RX cy cs ad en_1689 → (∀ c, (c ≠ 0 ∧ c ≠ 6 ∧ c ≠ 14 ∧ c ≠ 15 ∧ c ≠ 16 ∧ c ≠ 17) → en_1689 c = en c) → (∀ i, i < j1689 → rdF (en_1689 16) i = -9) → (rdI (en_1689 0) 25 = nI 0) → (KPp en en_1689) → lv_has ls 4 [(1, .int (nI j1689)), (0, .ref (ad 0))] → Hp D (Af cs ad sz) (Af cs ad sz) s.heap H locs cs ad en_1689 → W p l e (headSpec (Cond.code yX12_close cX12_close 4 (some .int) :: TB) (rmN 3)).room s m ([.ref (ad 0)] : List Value).toArray below meth c H locs 0 0 (MQ below (va_Qi (S := Nat → va_E) (fun r en1 => RX cy cs ad en1 ∧ (∀ c, (c ≠ 0 ∧ c ≠ 6 ∧ c ≠ 14 ∧ c ≠ 15 ∧ c ≠ 16 ∧ c ≠ 17) → en1 c = en c) ∧ CHX en1 ∧ KPp en en1) (PostM D cs ad) (Af cs ad sz)) ([.ref (ad 0)] : List Value).toArray s 0 0 (Af cs ad sz)) (F0 m 17 ls []) := by
      intro fu
      induction fu with
      | zero => intro j1689  en_1689 ls H locs h0 h1 h2; exact absurd h2 (by omega)
      | succ fu ih_1689 =>
        intro j1689  en_1689 ls H locs hj0_1689 hj_1689 hfu_1689 hI_1689 hf_1689 i0_1689 i1_1689 i2_1689 hl hh
        refine lv_iload_n hx hb dX12_close_17 rfl (lv_at hl 0 rfl) ?_
        refine lv_sipush (v := 4096) hx hb dX12_close_18 (by decide) ?_
        refine lv_icmp_ge (tgt := 38) hx hb dX12_close_21 (by decide) (fun c_1690 => ?_) (fun c_1690 => ?_)
        · have n_1690 : 4096 ≤ j1689 := n_le (a := 4096) (b := j1689) c_1690 (by decide) (by omega)
          have hCH0 : CH en_1689 0 := CH_0 i1_1689 (fun i hi => i0_1689 i (by omega))
          refine lv_iconst (v := 1) hx hb dX12_close_38 (by decide) ?_
          refine lv_istore_n (lv' := [(1, .int 1), (0, .ref (ad 0))]) hx hb dX12_close_39 rfl hl (by decide) rfl (fun ls hl => ?_)
          refine lv_aload_n hx hb dX12_close_40 rfl (lv_at hl 1 rfl) ?_
          obtain ⟨fa_1691, hi_1691, wd_1691, mo_1691, tb_1691, dp_1691, many_1691, grt_1691, lst_1691, nou_1691, rm_1691, rb_1691, pr_1691, wo_1691, es1691, p0_1691, p1_1691, p2_1691, p3_1691, p4_1691⟩ := getr_M hI_1689
          have hfx_1692 : pr_1691 = nI 0 := (show pr_1691 = rdI (en_1689 0) 25 from by rw [es1691]; rfl).trans (i1_1689)
          rw [hfx_1692] at es1691
          have hq2_1693 : wd_1691 = wd := n_eq ((show nI wd_1691 = rdI (en_1689 0) 2 from by rw [es1691]; rfl).trans (i2_1689.2.1.trans (show rdI (en 0) 2 = nI wd from by rw [es1686]; rfl))) (by omega) (by omega)
          have hq3_1693 : mo_1691 = mo := n_eq ((show nI mo_1691 = rdI (en_1689 0) 3 from by rw [es1691]; rfl).trans (i2_1689.2.2.1.trans (show rdI (en 0) 3 = nI mo from by rw [es1686]; rfl))) (by omega) (by omega)
          have hq4_1693 : tb_1691 = tb := n_eq ((show nI tb_1691 = rdI (en_1689 0) 4 from by rw [es1691]; rfl).trans (i2_1689.2.2.2.1.trans (show rdI (en 0) 4 = nI tb from by rw [es1686]; rfl))) (by omega) (by omega)
          have hq30_1693 : wo_1691 = wo := n_eq ((show nI wo_1691 = rdI (en_1689 0) 30 from by rw [es1691]; rfl).trans (i2_1689.2.2.2.2.trans (show rdI (en 0) 30 = nI wo from by rw [es1686]; rfl))) (by omega) (by omega)
          rw [hq2_1693, hq3_1693, hq4_1693, hq30_1693] at es1691
          refine hp_callMv (va_runV (As := []) (rest := []) ⟨hx, hb, hml, hown, hts⟩ (c_X12_beginLevels l D cy _ cs ad en_1689 hI_1689  ) (kw_X12_beginLevels hts tw_1042 ⟨by decide, by decide⟩) (preV_of hh hK (hI.1 _ (by decide)) es1691 rfl) rfl rfl hl.1 rfl (lv_room (Nat.le_of_ble_eq_true rfl)) dX12_close_41 ⟨Nat.le_of_ble_eq_true rfl, Nat.le_of_ble_eq_true rfl⟩) hh hA (fun H locs en_1694 hw_1694 hh => ?_)
          obtain ⟨hI_1694, hu_1694, hx_1694⟩ := hw_1694
          have es1691_1694 : en_1694 0 = .inr (11, [.int fa_1691, .int hi_1691, .int (nI wd), .int (nI mo), .int (nI tb), .ref (ad 1), .ref (ad 2), .ref (ad 3), .ref (ad 4), .ref (ad 5), .ref (ad 6), .ref (ad 7), .ref (ad 8), .ref (ad 9), .int dp_1691, .long many_1691, .long grt_1691, .long lst_1691, .long nou_1691, .ref (ad 10), .ref (ad 11), .ref (ad 12), .int rm_1691, .long rb_1691, .ref (ad 13), .int (nI 0), .ref (ad 14), .ref (ad 15), .ref (ad 16), .ref (ad 17), .int (nI wo), .ref (ad 18), .ref (ad 19)]) := (hu_1694 0 (by omega)).trans es1691
          have hf_1694 : ∀ c, (c ≠ 0 ∧ c ≠ 6 ∧ c ≠ 14 ∧ c ≠ 15 ∧ c ≠ 16 ∧ c ≠ 17) → en_1694 c = en c := fun c hc => (hu_1694 c (by omega)).trans (hf_1689 c hc)
          have hkp_1694 : KPp en en_1694 := KPp_same i2_1689 (hu_1694 0 (by omega))
          have hcq_1694 := CH_keep (e1 := en_1694) hCH0 (by rw [hu_1694 0 (by omega)]) (hu_1694 16 (by omega)) (hu_1694 17 (by omega))
          refine lv_iconst (v := 0) hx hb dX12_close_44 (by decide) ?_
          refine lv_istore_n (lv' := [(2, .int 0), (1, .int 1), (0, .ref (ad 0))]) hx hb dX12_close_45 rfl hl (by decide) rfl (fun ls hl => ?_)
          have loop_1695 : ∀ (fu j1695 : Nat) (my1695 : Int32) (en_1695 : Nat → va_E) (ls : Array Slot) (H : Heap) (locs : List Loc), 0 ≤ j1695 → j1695 ≤ 6 → 6 < j1695 + fu → RX cy cs ad en_1695 → (∀ c, (c ≠ 0 ∧ c ≠ 6 ∧ c ≠ 14 ∧ c ≠ 15 ∧ c ≠ 16 ∧ c ≠ 17) → en_1695 c = en c) → (∃ P, CH en_1695 P ∧ (j1695 = 0 ∨ my1695 = 0 ∨ 1 ≤ P)) → (KPp en en_1695) → lv_has ls 4 [(2, .int (nI j1695)), (1, .int my1695), (0, .ref (ad 0))] → Hp D (Af cs ad sz) (Af cs ad sz) s.heap H locs cs ad en_1695 → W p l e (headSpec (Cond.code yX12_close cX12_close 4 (some .int) :: TB) (rmN 3)).room s m ([.ref (ad 0)] : List Value).toArray below meth c H locs 0 0 (MQ below (va_Qi (S := Nat → va_E) (fun r en1 => RX cy cs ad en1 ∧ (∀ c, (c ≠ 0 ∧ c ≠ 6 ∧ c ≠ 14 ∧ c ≠ 15 ∧ c ≠ 16 ∧ c ≠ 17) → en1 c = en c) ∧ CHX en1 ∧ KPp en en1) (PostM D cs ad) (Af cs ad sz)) ([.ref (ad 0)] : List Value).toArray s 0 0 (Af cs ad sz)) (F0 m 46 ls []) := by
            intro fu
            induction fu with
            | zero => intro j1695 my1695 en_1695 ls H locs h0 h1 h2; exact absurd h2 (by omega)
            | succ fu ih_1695 =>
              intro j1695 my1695 en_1695 ls H locs hj0_1695 hj_1695 hfu_1695 hI_1695 hf_1695 i0_1695 i1_1695 hl hh
              obtain ⟨P_1695, hCH_1695, hPx_1695⟩ := i0_1695
              have hPb_1695 := hCH_1695.1
              refine lv_iload_n hx hb dX12_close_46 rfl (lv_at hl 0 rfl) ?_
              refine lv_aload_n hx hb dX12_close_47 rfl (lv_at hl 2 rfl) ?_
              obtain ⟨fa_1696, hi_1696, wd_1696, mo_1696, tb_1696, dp_1696, many_1696, grt_1696, lst_1696, nou_1696, rm_1696, rb_1696, pr_1696, wo_1696, es1696, p0_1696, p1_1696, p2_1696, p3_1696, p4_1696⟩ := getr_M hI_1695
              have hfx_1697 : pr_1696 = nI P_1695 := (show pr_1696 = rdI (en_1695 0) 25 from by rw [es1696]; rfl).trans (hCH_1695.2.1)
              rw [hfx_1697] at es1696
              have hq2_1698 : wd_1696 = wd := n_eq ((show nI wd_1696 = rdI (en_1695 0) 2 from by rw [es1696]; rfl).trans (i1_1695.2.1.trans (show rdI (en 0) 2 = nI wd from by rw [es1686]; rfl))) (by omega) (by omega)
              have hq3_1698 : mo_1696 = mo := n_eq ((show nI mo_1696 = rdI (en_1695 0) 3 from by rw [es1696]; rfl).trans (i1_1695.2.2.1.trans (show rdI (en 0) 3 = nI mo from by rw [es1686]; rfl))) (by omega) (by omega)
              have hq4_1698 : tb_1696 = tb := n_eq ((show nI tb_1696 = rdI (en_1695 0) 4 from by rw [es1696]; rfl).trans (i1_1695.2.2.2.1.trans (show rdI (en 0) 4 = nI tb from by rw [es1686]; rfl))) (by omega) (by omega)
              have hq30_1698 : wo_1696 = wo := n_eq ((show nI wo_1696 = rdI (en_1695 0) 30 from by rw [es1696]; rfl).trans (i1_1695.2.2.2.2.trans (show rdI (en 0) 30 = nI wo from by rw [es1686]; rfl))) (by omega) (by omega)
              rw [hq2_1698, hq3_1698, hq4_1698, hq30_1698] at es1696
              refine hp_get hx hb hts ix12 hown hK hh (q := 0) rfl (hI.1 _ (by decide)) es1696 rfl 4 (by decide) (hts _ tw_883) (fun _ h9 => h9) rfl dX12_close_48 ?_
              refine lv_icmp_ge (tgt := 77) hx hb dX12_close_51 (by decide) (fun c_1699 => ?_) (fun c_1699 => ?_)
              · have n_1699 : tb ≤ j1695 := n_le (a := tb) (b := j1695) c_1699 (by omega) (by omega)
                refine lv_iconst (v := 0) hx hb dX12_close_77 (by decide) ?_
                refine lv_istore_n (lv' := [(2, .int 0), (1, .int my1695), (0, .ref (ad 0))]) hx hb dX12_close_78 rfl hl (by decide) rfl (fun ls hl => ?_)
                have loop_1700 : ∀ (fu j1700 : Nat) (my1700 : Int32) (en_1700 : Nat → va_E) (ls : Array Slot) (H : Heap) (locs : List Loc), 0 ≤ j1700 → j1700 ≤ 2000 → 2000 < j1700 + fu → RX cy cs ad en_1700 → (∀ c, (c ≠ 0 ∧ c ≠ 6 ∧ c ≠ 14 ∧ c ≠ 15 ∧ c ≠ 16 ∧ c ≠ 17) → en_1700 c = en c) → (∃ P, CH en_1700 P ∧ (my1700 = 0 ∨ 1 ≤ P)) → (KPp en en_1700) → lv_has ls 4 [(2, .int (nI j1700)), (1, .int my1700), (0, .ref (ad 0))] → Hp D (Af cs ad sz) (Af cs ad sz) s.heap H locs cs ad en_1700 → W p l e (headSpec (Cond.code yX12_close cX12_close 4 (some .int) :: TB) (rmN 3)).room s m ([.ref (ad 0)] : List Value).toArray below meth c H locs 0 0 (MQ below (va_Qi (S := Nat → va_E) (fun r en1 => RX cy cs ad en1 ∧ (∀ c, (c ≠ 0 ∧ c ≠ 6 ∧ c ≠ 14 ∧ c ≠ 15 ∧ c ≠ 16 ∧ c ≠ 17) → en1 c = en c) ∧ CHX en1 ∧ KPp en en1) (PostM D cs ad) (Af cs ad sz)) ([.ref (ad 0)] : List Value).toArray s 0 0 (Af cs ad sz)) (F0 m 79 ls []) := by
                  intro fu
                  induction fu with
                  | zero => intro j1700 my1700 en_1700 ls H locs h0 h1 h2; exact absurd h2 (by omega)
                  | succ fu ih_1700 =>
                    intro j1700 my1700 en_1700 ls H locs hj0_1700 hj_1700 hfu_1700 hI_1700 hf_1700 i0_1700 i1_1700 hl hh
                    obtain ⟨P_1700, hCH_1700, hPx_1700⟩ := i0_1700
                    have hPb_1700 := hCH_1700.1
                    refine lv_iload_n hx hb dX12_close_79 rfl (lv_at hl 0 rfl) ?_
                    refine lv_aload_n hx hb dX12_close_80 rfl (lv_at hl 2 rfl) ?_
                    obtain ⟨fa_1701, hi_1701, wd_1701, mo_1701, tb_1701, dp_1701, many_1701, grt_1701, lst_1701, nou_1701, rm_1701, rb_1701, pr_1701, wo_1701, es1701, p0_1701, p1_1701, p2_1701, p3_1701, p4_1701⟩ := getr_M hI_1700
                    have hfx_1702 : pr_1701 = nI P_1700 := (show pr_1701 = rdI (en_1700 0) 25 from by rw [es1701]; rfl).trans (hCH_1700.2.1)
                    rw [hfx_1702] at es1701
                    have hq2_1703 : wd_1701 = wd := n_eq ((show nI wd_1701 = rdI (en_1700 0) 2 from by rw [es1701]; rfl).trans (i1_1700.2.1.trans (show rdI (en 0) 2 = nI wd from by rw [es1686]; rfl))) (by omega) (by omega)
                    have hq3_1703 : mo_1701 = mo := n_eq ((show nI mo_1701 = rdI (en_1700 0) 3 from by rw [es1701]; rfl).trans (i1_1700.2.2.1.trans (show rdI (en 0) 3 = nI mo from by rw [es1686]; rfl))) (by omega) (by omega)
                    have hq4_1703 : tb_1701 = tb := n_eq ((show nI tb_1701 = rdI (en_1700 0) 4 from by rw [es1701]; rfl).trans (i1_1700.2.2.2.1.trans (show rdI (en 0) 4 = nI tb from by rw [es1686]; rfl))) (by omega) (by omega)
                    have hq30_1703 : wo_1701 = wo := n_eq ((show nI wo_1701 = rdI (en_1700 0) 30 from by rw [es1701]; rfl).trans (i1_1700.2.2.2.2.trans (show rdI (en 0) 30 = nI wo from by rw [es1686]; rfl))) (by omega) (by omega)
                    rw [hq2_1703, hq3_1703, hq4_1703, hq30_1703] at es1701
                    refine hp_get hx hb hts ix12 hown hK hh (q := 0) rfl (hI.1 _ (by decide)) es1701 rfl 25 (by decide) (hts _ tw_904) (fun _ h9 => h9) rfl dX12_close_81 ?_
                    refine lv_icmp_ge (tgt := 143) hx hb dX12_close_84 (by decide) (fun c_1704 => ?_) (fun c_1704 => ?_)
                    · have n_1704 : P_1700 ≤ j1700 := n_le (a := P_1700) (b := j1700) c_1704 (by omega) (by omega)
                      refine lv_iload_n hx hb dX12_close_143 rfl (lv_at hl 1 rfl) ?_
                      refine lv_if_ne (tgt := 156) hx hb dX12_close_144 (by decide) (fun c_1705 => ?_) (fun c_1705 => ?_)
                      · refine lv_aload_n hx hb dX12_close_156 rfl (lv_at hl 2 rfl) ?_
                        refine hp_get hx hb hts ix12 hown hK hh (q := 0) rfl (hI.1 _ (by decide)) es1701 rfl 25 (by decide) (hts _ tw_904) (fun _ h9 => h9) rfl dX12_close_157 ?_
                        exact hp_iretM hx hb hr rfl hlocks hh (⟨hI_1700, hf_1700, Or.inr ⟨P_1700, (hPx_1700).resolve_left c_1705, hCH_1700⟩, i1_1700⟩) dX12_close_160
                      · refine lv_aload_n hx hb dX12_close_147 rfl (lv_at hl 2 rfl) ?_
                        refine lv_bipush (v := (-9)) hx hb dX12_close_148 (by decide) ?_
                        refine hp_put hx hb hts ix12 tyX12 tyX12_ok nmX12 hown hK hh (q := 0) rfl (hI.1 _ (by decide)) es1701 rfl 25 (by decide) (hts _ tw_904) (fun _ h9 => h9) rfl (ty := .int) (by decide +kernel) rfl rfl (Nat.le_of_ble_eq_true rfl) dX12_close_150 (fun H locs en_1706 hen_1706 hh => ?_)
                        have es1701_1706 : en_1706 0 = .inr (11, [.int fa_1701, .int hi_1701, .int (nI wd), .int (nI mo), .int (nI tb), .ref (ad 1), .ref (ad 2), .ref (ad 3), .ref (ad 4), .ref (ad 5), .ref (ad 6), .ref (ad 7), .ref (ad 8), .ref (ad 9), .int dp_1701, .long many_1701, .long grt_1701, .long lst_1701, .long nou_1701, .ref (ad 10), .ref (ad 11), .ref (ad 12), .int rm_1701, .long rb_1701, .ref (ad 13), .int (-9), .ref (ad 14), .ref (ad 15), .ref (ad 16), .ref (ad 17), .int (nI wo), .ref (ad 18), .ref (ad 19)]) := by rw [hen_1706]; exact va_up_self _ _ _
                        have hI_1706 : RX cy cs ad en_1706 := by rw [hen_1706]; exact upr_M hI_1700 ⟨fa_1701, hi_1701, wd, mo, tb, dp_1701, many_1701, grt_1701, lst_1701, nou_1701, rm_1701, rb_1701, (-9), wo, rfl, hwd2, hwd3, hmo, htb, hwo⟩
                        have hf_1706 : ∀ c, (c ≠ 0 ∧ c ≠ 6 ∧ c ≠ 14 ∧ c ≠ 15 ∧ c ≠ 16 ∧ c ≠ 17) → en_1706 c = en c := fun c hc => Eq.trans (show en_1706 c = en_1700 c from by rw [hen_1706, va_up_ne _ _ (by omega)]) (hf_1700 c hc)
                        have hkp_1706 : KPp en en_1706 := KPp_fv i1_1700 es1701 es1701_1706 hi_1701 (nI wd) (nI mo) (nI tb) (nI wo) rfl rfl rfl rfl rfl rfl rfl rfl rfl rfl
                        refine lv_bipush (v := (-6)) hx hb dX12_close_153 (by decide) ?_
                        exact hp_iretM hx hb hr rfl hlocks hh (⟨hI_1706, hf_1706, Or.inl (by rw [es1701_1706]; rfl), hkp_1706⟩) dX12_close_155
                    · have n_1704 : j1700 < P_1700 := n_nle (a := P_1700) (b := j1700) c_1704 (by omega) (by omega)
                      refine lv_iload_n hx hb dX12_close_87 rfl (lv_at hl 1 rfl) ?_
                      refine lv_if_eq (tgt := 143) hx hb dX12_close_88 (by decide) (fun c_1707 => ?_) (fun c_1707 => ?_)
                      · refine lv_iload_n hx hb dX12_close_143 rfl (lv_at hl 1 rfl) ?_
                        refine lv_if_ne (tgt := 156) hx hb dX12_close_144 (by decide) (fun c_1708 => ?_) (fun c_1708 => ?_)
                        · refine lv_aload_n hx hb dX12_close_156 rfl (lv_at hl 2 rfl) ?_
                          refine hp_get hx hb hts ix12 hown hK hh (q := 0) rfl (hI.1 _ (by decide)) es1701 rfl 25 (by decide) (hts _ tw_904) (fun _ h9 => h9) rfl dX12_close_157 ?_
                          exact hp_iretM hx hb hr rfl hlocks hh (⟨hI_1700, hf_1700, Or.inr ⟨P_1700, (hPx_1700).resolve_left c_1708, hCH_1700⟩, i1_1700⟩) dX12_close_160
                        · refine lv_aload_n hx hb dX12_close_147 rfl (lv_at hl 2 rfl) ?_
                          refine lv_bipush (v := (-9)) hx hb dX12_close_148 (by decide) ?_
                          refine hp_put hx hb hts ix12 tyX12 tyX12_ok nmX12 hown hK hh (q := 0) rfl (hI.1 _ (by decide)) es1701 rfl 25 (by decide) (hts _ tw_904) (fun _ h9 => h9) rfl (ty := .int) (by decide +kernel) rfl rfl (Nat.le_of_ble_eq_true rfl) dX12_close_150 (fun H locs en_1709 hen_1709 hh => ?_)
                          have es1701_1709 : en_1709 0 = .inr (11, [.int fa_1701, .int hi_1701, .int (nI wd), .int (nI mo), .int (nI tb), .ref (ad 1), .ref (ad 2), .ref (ad 3), .ref (ad 4), .ref (ad 5), .ref (ad 6), .ref (ad 7), .ref (ad 8), .ref (ad 9), .int dp_1701, .long many_1701, .long grt_1701, .long lst_1701, .long nou_1701, .ref (ad 10), .ref (ad 11), .ref (ad 12), .int rm_1701, .long rb_1701, .ref (ad 13), .int (-9), .ref (ad 14), .ref (ad 15), .ref (ad 16), .ref (ad 17), .int (nI wo), .ref (ad 18), .ref (ad 19)]) := by rw [hen_1709]; exact va_up_self _ _ _
                          have hI_1709 : RX cy cs ad en_1709 := by rw [hen_1709]; exact upr_M hI_1700 ⟨fa_1701, hi_1701, wd, mo, tb, dp_1701, many_1701, grt_1701, lst_1701, nou_1701, rm_1701, rb_1701, (-9), wo, rfl, hwd2, hwd3, hmo, htb, hwo⟩
                          have hf_1709 : ∀ c, (c ≠ 0 ∧ c ≠ 6 ∧ c ≠ 14 ∧ c ≠ 15 ∧ c ≠ 16 ∧ c ≠ 17) → en_1709 c = en c := fun c hc => Eq.trans (show en_1709 c = en_1700 c from by rw [hen_1709, va_up_ne _ _ (by omega)]) (hf_1700 c hc)
                          have hkp_1709 : KPp en en_1709 := KPp_fv i1_1700 es1701 es1701_1709 hi_1701 (nI wd) (nI mo) (nI tb) (nI wo) rfl rfl rfl rfl rfl rfl rfl rfl rfl rfl
                          refine lv_bipush (v := (-6)) hx hb dX12_close_153 (by decide) ?_
                          exact hp_iretM hx hb hr rfl hlocks hh (⟨hI_1709, hf_1709, Or.inl (by rw [es1701_1709]; rfl), hkp_1709⟩) dX12_close_155
                      · refine lv_iconst (v := 0) hx hb dX12_close_91 (by decide) ?_
                        refine lv_istore_n (lv' := [(3, .int 0), (2, .int (nI j1700)), (1, .int my1700), (0, .ref (ad 0))]) hx hb dX12_close_92 rfl hl (by decide) rfl (fun ls hl => ?_)
                        have loop_1710 : ∀ (fu j1710 : Nat) (my1710 : Int32) (en_1710 : Nat → va_E) (ls : Array Slot) (H : Heap) (locs : List Loc), 0 ≤ j1710 → j1710 ≤ 6 → 6 < j1710 + fu → RX cy cs ad en_1710 → (∀ c, (c ≠ 0 ∧ c ≠ 6 ∧ c ≠ 14 ∧ c ≠ 15 ∧ c ≠ 16 ∧ c ≠ 17) → en_1710 c = en c) → (∃ P, CH en_1710 P ∧ (my1710 = 0 ∨ 1 ≤ P)) → (KPp en en_1710) → lv_has ls 4 [(3, .int (nI j1710)), (2, .int (nI j1700)), (1, .int my1710), (0, .ref (ad 0))] → Hp D (Af cs ad sz) (Af cs ad sz) s.heap H locs cs ad en_1710 → W p l e (headSpec (Cond.code yX12_close cX12_close 4 (some .int) :: TB) (rmN 3)).room s m ([.ref (ad 0)] : List Value).toArray below meth c H locs 0 0 (MQ below (va_Qi (S := Nat → va_E) (fun r en1 => RX cy cs ad en1 ∧ (∀ c, (c ≠ 0 ∧ c ≠ 6 ∧ c ≠ 14 ∧ c ≠ 15 ∧ c ≠ 16 ∧ c ≠ 17) → en1 c = en c) ∧ CHX en1 ∧ KPp en en1) (PostM D cs ad) (Af cs ad sz)) ([.ref (ad 0)] : List Value).toArray s 0 0 (Af cs ad sz)) (F0 m 93 ls []) := by
                          intro fu
                          induction fu with
                          | zero => intro j1710 my1710 en_1710 ls H locs h0 h1 h2; exact absurd h2 (by omega)
                          | succ fu ih_1710 =>
                            intro j1710 my1710 en_1710 ls H locs hj0_1710 hj_1710 hfu_1710 hI_1710 hf_1710 i0_1710 i1_1710 hl hh
                            obtain ⟨P_1710, hCH_1710, hPx_1710⟩ := i0_1710
                            have hPb_1710 := hCH_1710.1
                            refine lv_iload_n hx hb dX12_close_93 rfl (lv_at hl 0 rfl) ?_
                            refine lv_aload_n hx hb dX12_close_94 rfl (lv_at hl 3 rfl) ?_
                            obtain ⟨fa_1711, hi_1711, wd_1711, mo_1711, tb_1711, dp_1711, many_1711, grt_1711, lst_1711, nou_1711, rm_1711, rb_1711, pr_1711, wo_1711, es1711, p0_1711, p1_1711, p2_1711, p3_1711, p4_1711⟩ := getr_M hI_1710
                            have hfx_1712 : pr_1711 = nI P_1710 := (show pr_1711 = rdI (en_1710 0) 25 from by rw [es1711]; rfl).trans (hCH_1710.2.1)
                            rw [hfx_1712] at es1711
                            have hq2_1713 : wd_1711 = wd := n_eq ((show nI wd_1711 = rdI (en_1710 0) 2 from by rw [es1711]; rfl).trans (i1_1710.2.1.trans (show rdI (en 0) 2 = nI wd from by rw [es1686]; rfl))) (by omega) (by omega)
                            have hq3_1713 : mo_1711 = mo := n_eq ((show nI mo_1711 = rdI (en_1710 0) 3 from by rw [es1711]; rfl).trans (i1_1710.2.2.1.trans (show rdI (en 0) 3 = nI mo from by rw [es1686]; rfl))) (by omega) (by omega)
                            have hq4_1713 : tb_1711 = tb := n_eq ((show nI tb_1711 = rdI (en_1710 0) 4 from by rw [es1711]; rfl).trans (i1_1710.2.2.2.1.trans (show rdI (en 0) 4 = nI tb from by rw [es1686]; rfl))) (by omega) (by omega)
                            have hq30_1713 : wo_1711 = wo := n_eq ((show nI wo_1711 = rdI (en_1710 0) 30 from by rw [es1711]; rfl).trans (i1_1710.2.2.2.2.trans (show rdI (en 0) 30 = nI wo from by rw [es1686]; rfl))) (by omega) (by omega)
                            rw [hq2_1713, hq3_1713, hq4_1713, hq30_1713] at es1711
                            refine hp_get hx hb hts ix12 hown hK hh (q := 0) rfl (hI.1 _ (by decide)) es1711 rfl 4 (by decide) (hts _ tw_883) (fun _ h9 => h9) rfl dX12_close_95 ?_
                            refine lv_icmp_ge (tgt := 137) hx hb dX12_close_98 (by decide) (fun c_1714 => ?_) (fun c_1714 => ?_)
                            · have n_1714 : tb ≤ j1710 := n_le (a := tb) (b := j1710) c_1714 (by omega) (by omega)
                              refine lv_iinc (v := (nI (j1700 + 1))) (lv' := [(2, .int (nI (j1700 + 1))), (3, .int (nI j1710)), (1, .int my1710), (0, .ref (ad 0))]) hx hb dX12_close_137 hl (k := 1) rfl (nI_1 _) (by decide) rfl (fun ls hl => ?_)
                              refine lv_goto (tgt := 79) hx hb dX12_close_140 (by decide) ?_
                              exact ih_1700 ((j1700 + 1)) my1710 en_1710 ls H locs (by omega) (by omega) (by omega) hI_1710 hf_1710 (⟨P_1710, hCH_1710, hPx_1710⟩) (i1_1710) (lv_sub hl [0, 2, 3] rfl) hh
                            · have n_1714 : j1710 < tb := n_nle (a := tb) (b := j1710) c_1714 (by omega) (by omega)
                              refine lv_iload_n hx hb dX12_close_101 rfl (lv_at hl 2 rfl) ?_
                              refine lv_if_eq (tgt := 137) hx hb dX12_close_102 (by decide) (fun c_1715 => ?_) (fun c_1715 => ?_)
                              · refine lv_iinc (v := (nI (j1700 + 1))) (lv' := [(2, .int (nI (j1700 + 1))), (3, .int (nI j1710)), (1, .int my1710), (0, .ref (ad 0))]) hx hb dX12_close_137 hl (k := 1) rfl (nI_1 _) (by decide) rfl (fun ls hl => ?_)
                                refine lv_goto (tgt := 79) hx hb dX12_close_140 (by decide) ?_
                                exact ih_1700 ((j1700 + 1)) my1710 en_1710 ls H locs (by omega) (by omega) (by omega) hI_1710 hf_1710 (⟨P_1710, hCH_1710, hPx_1710⟩) (i1_1710) (lv_sub hl [0, 2, 3] rfl) hh
                              · refine lv_aload_n hx hb dX12_close_105 rfl (lv_at hl 3 rfl) ?_
                                refine lv_iload_n hx hb dX12_close_106 rfl (lv_at hl 1 rfl) ?_
                                refine lv_iconst (v := 0) hx hb dX12_close_107 (by decide) ?_
                                refine hp_callMv (va_runV (As := [.int (nI j1700), .int 0]) (rest := []) ⟨hx, hb, hml, hown, hts⟩ (c_X12_layProduct l D cy _ cs ad en_1710 hI_1710 j1700 0 (by omega) (by omega)) (kw_X12_layProduct hts tw_1133 ⟨by decide, by decide⟩) (preV_of hh hK (hI.1 _ (by decide)) es1711 rfl) rfl rfl hl.1 rfl (lv_room (Nat.le_of_ble_eq_true rfl)) dX12_close_108 ⟨Nat.le_of_ble_eq_true rfl, Nat.le_of_ble_eq_true rfl⟩) hh hA (fun H locs en_1716 hw_1716 hh => ?_)
                                obtain ⟨hI_1716, hu_1716⟩ := hw_1716
                                have es1711_1716 : en_1716 0 = .inr (11, [.int fa_1711, .int hi_1711, .int (nI wd), .int (nI mo), .int (nI tb), .ref (ad 1), .ref (ad 2), .ref (ad 3), .ref (ad 4), .ref (ad 5), .ref (ad 6), .ref (ad 7), .ref (ad 8), .ref (ad 9), .int dp_1711, .long many_1711, .long grt_1711, .long lst_1711, .long nou_1711, .ref (ad 10), .ref (ad 11), .ref (ad 12), .int rm_1711, .long rb_1711, .ref (ad 13), .int (nI P_1710), .ref (ad 14), .ref (ad 15), .ref (ad 16), .ref (ad 17), .int (nI wo), .ref (ad 18), .ref (ad 19)]) := (hu_1716 0 (by omega)).trans es1711
                                have hf_1716 : ∀ c, (c ≠ 0 ∧ c ≠ 6 ∧ c ≠ 14 ∧ c ≠ 15 ∧ c ≠ 16 ∧ c ≠ 17) → en_1716 c = en c := fun c hc => (hu_1716 c (by omega)).trans (hf_1710 c hc)
                                have hkp_1716 : KPp en en_1716 := KPp_same i1_1710 (hu_1716 0 (by omega))
                                have hcq_1716 := CH_keep (e1 := en_1716) hCH_1710 (by rw [hu_1716 0 (by omega)]) (hu_1716 16 (by omega)) (hu_1716 17 (by omega))
                                refine lv_aload_n hx hb dX12_close_111 rfl (lv_at hl 3 rfl) ?_
                                refine lv_iconst (v := 0) hx hb dX12_close_112 (by decide) ?_
                                refine lv_iload_n hx hb dX12_close_113 rfl (lv_at hl 0 rfl) ?_
                                refine hp_callMv (va_runV (As := [.int 0, .int (nI j1710)]) (rest := []) ⟨hx, hb, hml, hown, hts⟩ (c_X12_goOn l D cy _ cs ad en_1716 hI_1716 0 j1710 (by omega) (by omega)) (kw_X12_goOn hts tw_1050 ⟨by decide, by decide⟩) (preV_of hh hK (hI.1 _ (by decide)) es1711_1716 rfl) rfl rfl hl.1 rfl (lv_room (Nat.le_of_ble_eq_true rfl)) dX12_close_114 ⟨Nat.le_of_ble_eq_true rfl, Nat.le_of_ble_eq_true rfl⟩) hh hA (fun H locs en_1717 hw_1717 hh => ?_)
                                obtain ⟨hI_1717, hu_1717, hx_1717⟩ := hw_1717
                                have es1711_1717 : en_1717 0 = .inr (11, [.int fa_1711, .int hi_1711, .int (nI wd), .int (nI mo), .int (nI tb), .ref (ad 1), .ref (ad 2), .ref (ad 3), .ref (ad 4), .ref (ad 5), .ref (ad 6), .ref (ad 7), .ref (ad 8), .ref (ad 9), .int dp_1711, .long many_1711, .long grt_1711, .long lst_1711, .long nou_1711, .ref (ad 10), .ref (ad 11), .ref (ad 12), .int rm_1711, .long rb_1711, .ref (ad 13), .int (nI P_1710), .ref (ad 14), .ref (ad 15), .ref (ad 16), .ref (ad 17), .int (nI wo), .ref (ad 18), .ref (ad 19)]) := (hu_1717 0 (by omega)).trans es1711_1716
                                have hf_1717 : ∀ c, (c ≠ 0 ∧ c ≠ 6 ∧ c ≠ 14 ∧ c ≠ 15 ∧ c ≠ 16 ∧ c ≠ 17) → en_1717 c = en c := fun c hc => (hu_1717 c (by omega)).trans (hf_1716 c hc)
                                have hkp_1717 : KPp en en_1717 := KPp_same hkp_1716 (hu_1717 0 (by omega))
                                have hcq_1717 := CH_keep (e1 := en_1717) hcq_1716 (by rw [hu_1717 0 (by omega)]) (hu_1717 16 (by omega)) (hu_1717 17 (by omega))
                                refine lv_aload_n hx hb dX12_close_117 rfl (lv_at hl 3 rfl) ?_
                                refine lv_iconst (v := 1) hx hb dX12_close_118 (by decide) ?_
                                refine lv_aload_n hx hb dX12_close_119 rfl (lv_at hl 3 rfl) ?_
                                refine hp_get hx hb hts ix12 hown hK hh (q := 0) rfl (hI.1 _ (by decide)) es1711_1717 rfl 27 (by decide) (hts _ tw_906) (fun _ h9 => h9) rfl dX12_close_120 ?_
                                refine lv_iload_n hx hb dX12_close_123 rfl (lv_at hl 1 rfl) ?_
                                obtain ⟨f_1718, es1718⟩ := getr_ln hI_1717
                                refine hp_iald hx hb hK hh (q := 15) rfl (hI.1 _ (by decide)) es1718 (vp_in_nI (n := j1700) (by omega) (by decide)) dX12_close_124 ?_
                                rw [nI_clamp (n := j1700) (by omega)]
                                refine lv_iconst (v := 1) hx hb dX12_close_125 (by decide) ?_
                                refine lv_iadd hx hb dX12_close_126 ?_
                                refine hp_callMi (va_runV (As := [.int 1, .int ((f_1718 j1700) + 1)]) (rest := []) ⟨hx, hb, hml, hown, hts⟩ (c_X12_comes l D cy _ cs ad en_1717 hI_1717 1 ((f_1718 j1700) + 1) (by omega) P_1710 hcq_1717) (kw_X12_comes hts tw_1117 ⟨by decide, by decide⟩) (preV_of hh hK (hI.1 _ (by decide)) es1711_1717 rfl) rfl rfl hl.1 rfl (lv_room (Nat.le_of_ble_eq_true rfl)) dX12_close_127 ⟨Nat.le_of_ble_eq_true rfl, Nat.le_of_ble_eq_true rfl⟩) hh hA (fun r_1719 H locs en_1719 hw_1719 hh => ?_)
                                obtain ⟨hI_1719, hu_1719, hy_1719, hx_1719⟩ := hw_1719
                                have hw_1719 := (⟨hI_1719, hu_1719, hx_1719⟩ : _ ∧ _ ∧ _)
                                obtain ⟨hI_1719, hu_1719, hx_1719⟩ := hw_1719
                                have hf_1719 : ∀ c, (c ≠ 0 ∧ c ≠ 6 ∧ c ≠ 14 ∧ c ≠ 15 ∧ c ≠ 16 ∧ c ≠ 17) → en_1719 c = en c := fun c hc => (hu_1719 c (by omega)).trans (hf_1717 c hc)
                                have hkp_1719 : KPp en en_1719 := KPp_tr hkp_1717 hx_1719
                                rcases hy_1719 with ⟨hr_1719, hch_1719⟩ | ⟨hr_1719, P1_1719, hch_1719, hle_1719, hp1_1719⟩
                                · rw [hr_1719]
                                  refine lv_istore_n (lv' := [(1, .int 0), (3, .int (nI j1710)), (2, .int (nI j1700)), (0, .ref (ad 0))]) hx hb dX12_close_130 rfl hl (by decide) rfl (fun ls hl => ?_)
                                  refine lv_iinc (v := (nI (j1710 + 1))) (lv' := [(3, .int (nI (j1710 + 1))), (1, .int 0), (2, .int (nI j1700)), (0, .ref (ad 0))]) hx hb dX12_close_131 hl (k := 1) rfl (nI_1 _) (by decide) rfl (fun ls hl => ?_)
                                  refine lv_goto (tgt := 93) hx hb dX12_close_134 (by decide) ?_
                                  exact ih_1710 ((j1710 + 1)) 0 en_1719 ls H locs (by omega) (by omega) (by omega) hI_1719 hf_1719 (⟨P_1710, hch_1719, Or.inl rfl⟩) (hkp_1719) (lv_sub hl [0, 2, 1, 3] rfl) hh
                                · rw [hr_1719]
                                  refine lv_istore_n (lv' := [(1, .int 1), (3, .int (nI j1710)), (2, .int (nI j1700)), (0, .ref (ad 0))]) hx hb dX12_close_130 rfl hl (by decide) rfl (fun ls hl => ?_)
                                  refine lv_iinc (v := (nI (j1710 + 1))) (lv' := [(3, .int (nI (j1710 + 1))), (1, .int 1), (2, .int (nI j1700)), (0, .ref (ad 0))]) hx hb dX12_close_131 hl (k := 1) rfl (nI_1 _) (by decide) rfl (fun ls hl => ?_)
                                  refine lv_goto (tgt := 93) hx hb dX12_close_134 (by decide) ?_
                                  exact ih_1710 ((j1710 + 1)) 1 en_1719 ls H locs (by omega) (by omega) (by omega) hI_1719 hf_1719 (⟨P1_1719, hch_1719, Or.inr hp1_1719⟩) (hkp_1719) (lv_sub hl [0, 2, 1, 3] rfl) hh
                        exact loop_1710 (6 + 1) 0 my1700 en_1700 ls _ _ (Nat.le_refl _) (by omega) (by omega) hI_1700 hf_1700 (⟨P_1700, hCH_1700, hPx_1700⟩) (i1_1700) (lv_sub hl [0, 1, 2, 3] rfl) hh
                exact loop_1700 (2000 + 1) 0 my1695 en_1695 ls _ _ (Nat.le_refl _) (by omega) (by omega) hI_1695 hf_1695 (⟨P_1695, hCH_1695, by rcases hPx_1695 with h9 | h9 | h9; exact absurd h9 (by omega); exact Or.inl h9; exact Or.inr h9⟩) (i1_1695) (lv_sub hl [0, 1, 2] rfl) hh
              · have n_1699 : j1695 < tb := n_nle (a := tb) (b := j1695) c_1699 (by omega) (by omega)
                refine lv_iload_n hx hb dX12_close_54 rfl (lv_at hl 1 rfl) ?_
                refine lv_if_eq (tgt := 77) hx hb dX12_close_55 (by decide) (fun c_1720 => ?_) (fun c_1720 => ?_)
                · refine lv_iconst (v := 0) hx hb dX12_close_77 (by decide) ?_
                  refine lv_istore_n (lv' := [(2, .int 0), (1, .int my1695), (0, .ref (ad 0))]) hx hb dX12_close_78 rfl hl (by decide) rfl (fun ls hl => ?_)
                  have loop_1721 : ∀ (fu j1721 : Nat) (my1721 : Int32) (en_1721 : Nat → va_E) (ls : Array Slot) (H : Heap) (locs : List Loc), 0 ≤ j1721 → j1721 ≤ 2000 → 2000 < j1721 + fu → RX cy cs ad en_1721 → (∀ c, (c ≠ 0 ∧ c ≠ 6 ∧ c ≠ 14 ∧ c ≠ 15 ∧ c ≠ 16 ∧ c ≠ 17) → en_1721 c = en c) → (∃ P, CH en_1721 P ∧ (my1721 = 0 ∨ 1 ≤ P)) → (KPp en en_1721) → lv_has ls 4 [(2, .int (nI j1721)), (1, .int my1721), (0, .ref (ad 0))] → Hp D (Af cs ad sz) (Af cs ad sz) s.heap H locs cs ad en_1721 → W p l e (headSpec (Cond.code yX12_close cX12_close 4 (some .int) :: TB) (rmN 3)).room s m ([.ref (ad 0)] : List Value).toArray below meth c H locs 0 0 (MQ below (va_Qi (S := Nat → va_E) (fun r en1 => RX cy cs ad en1 ∧ (∀ c, (c ≠ 0 ∧ c ≠ 6 ∧ c ≠ 14 ∧ c ≠ 15 ∧ c ≠ 16 ∧ c ≠ 17) → en1 c = en c) ∧ CHX en1 ∧ KPp en en1) (PostM D cs ad) (Af cs ad sz)) ([.ref (ad 0)] : List Value).toArray s 0 0 (Af cs ad sz)) (F0 m 79 ls []) := by
                    intro fu
                    induction fu with
                    | zero => intro j1721 my1721 en_1721 ls H locs h0 h1 h2; exact absurd h2 (by omega)
                    | succ fu ih_1721 =>
                      intro j1721 my1721 en_1721 ls H locs hj0_1721 hj_1721 hfu_1721 hI_1721 hf_1721 i0_1721 i1_1721 hl hh
                      obtain ⟨P_1721, hCH_1721, hPx_1721⟩ := i0_1721
                      have hPb_1721 := hCH_1721.1
                      refine lv_iload_n hx hb dX12_close_79 rfl (lv_at hl 0 rfl) ?_
                      refine lv_aload_n hx hb dX12_close_80 rfl (lv_at hl 2 rfl) ?_
                      obtain ⟨fa_1722, hi_1722, wd_1722, mo_1722, tb_1722, dp_1722, many_1722, grt_1722, lst_1722, nou_1722, rm_1722, rb_1722, pr_1722, wo_1722, es1722, p0_1722, p1_1722, p2_1722, p3_1722, p4_1722⟩ := getr_M hI_1721
                      have hfx_1723 : pr_1722 = nI P_1721 := (show pr_1722 = rdI (en_1721 0) 25 from by rw [es1722]; rfl).trans (hCH_1721.2.1)
                      rw [hfx_1723] at es1722
                      have hq2_1724 : wd_1722 = wd := n_eq ((show nI wd_1722 = rdI (en_1721 0) 2 from by rw [es1722]; rfl).trans (i1_1721.2.1.trans (show rdI (en 0) 2 = nI wd from by rw [es1686]; rfl))) (by omega) (by omega)
                      have hq3_1724 : mo_1722 = mo := n_eq ((show nI mo_1722 = rdI (en_1721 0) 3 from by rw [es1722]; rfl).trans (i1_1721.2.2.1.trans (show rdI (en 0) 3 = nI mo from by rw [es1686]; rfl))) (by omega) (by omega)
                      have hq4_1724 : tb_1722 = tb := n_eq ((show nI tb_1722 = rdI (en_1721 0) 4 from by rw [es1722]; rfl).trans (i1_1721.2.2.2.1.trans (show rdI (en 0) 4 = nI tb from by rw [es1686]; rfl))) (by omega) (by omega)
                      have hq30_1724 : wo_1722 = wo := n_eq ((show nI wo_1722 = rdI (en_1721 0) 30 from by rw [es1722]; rfl).trans (i1_1721.2.2.2.2.trans (show rdI (en 0) 30 = nI wo from by rw [es1686]; rfl))) (by omega) (by omega)
                      rw [hq2_1724, hq3_1724, hq4_1724, hq30_1724] at es1722
                      refine hp_get hx hb hts ix12 hown hK hh (q := 0) rfl (hI.1 _ (by decide)) es1722 rfl 25 (by decide) (hts _ tw_904) (fun _ h9 => h9) rfl dX12_close_81 ?_
                      refine lv_icmp_ge (tgt := 143) hx hb dX12_close_84 (by decide) (fun c_1725 => ?_) (fun c_1725 => ?_)
                      · have n_1725 : P_1721 ≤ j1721 := n_le (a := P_1721) (b := j1721) c_1725 (by omega) (by omega)
                        refine lv_iload_n hx hb dX12_close_143 rfl (lv_at hl 1 rfl) ?_
                        refine lv_if_ne (tgt := 156) hx hb dX12_close_144 (by decide) (fun c_1726 => ?_) (fun c_1726 => ?_)
                        · refine lv_aload_n hx hb dX12_close_156 rfl (lv_at hl 2 rfl) ?_
                          refine hp_get hx hb hts ix12 hown hK hh (q := 0) rfl (hI.1 _ (by decide)) es1722 rfl 25 (by decide) (hts _ tw_904) (fun _ h9 => h9) rfl dX12_close_157 ?_
                          exact hp_iretM hx hb hr rfl hlocks hh (⟨hI_1721, hf_1721, Or.inr ⟨P_1721, (hPx_1721).resolve_left c_1726, hCH_1721⟩, i1_1721⟩) dX12_close_160
                        · refine lv_aload_n hx hb dX12_close_147 rfl (lv_at hl 2 rfl) ?_
                          refine lv_bipush (v := (-9)) hx hb dX12_close_148 (by decide) ?_
                          refine hp_put hx hb hts ix12 tyX12 tyX12_ok nmX12 hown hK hh (q := 0) rfl (hI.1 _ (by decide)) es1722 rfl 25 (by decide) (hts _ tw_904) (fun _ h9 => h9) rfl (ty := .int) (by decide +kernel) rfl rfl (Nat.le_of_ble_eq_true rfl) dX12_close_150 (fun H locs en_1727 hen_1727 hh => ?_)
                          have es1722_1727 : en_1727 0 = .inr (11, [.int fa_1722, .int hi_1722, .int (nI wd), .int (nI mo), .int (nI tb), .ref (ad 1), .ref (ad 2), .ref (ad 3), .ref (ad 4), .ref (ad 5), .ref (ad 6), .ref (ad 7), .ref (ad 8), .ref (ad 9), .int dp_1722, .long many_1722, .long grt_1722, .long lst_1722, .long nou_1722, .ref (ad 10), .ref (ad 11), .ref (ad 12), .int rm_1722, .long rb_1722, .ref (ad 13), .int (-9), .ref (ad 14), .ref (ad 15), .ref (ad 16), .ref (ad 17), .int (nI wo), .ref (ad 18), .ref (ad 19)]) := by rw [hen_1727]; exact va_up_self _ _ _
                          have hI_1727 : RX cy cs ad en_1727 := by rw [hen_1727]; exact upr_M hI_1721 ⟨fa_1722, hi_1722, wd, mo, tb, dp_1722, many_1722, grt_1722, lst_1722, nou_1722, rm_1722, rb_1722, (-9), wo, rfl, hwd2, hwd3, hmo, htb, hwo⟩
                          have hf_1727 : ∀ c, (c ≠ 0 ∧ c ≠ 6 ∧ c ≠ 14 ∧ c ≠ 15 ∧ c ≠ 16 ∧ c ≠ 17) → en_1727 c = en c := fun c hc => Eq.trans (show en_1727 c = en_1721 c from by rw [hen_1727, va_up_ne _ _ (by omega)]) (hf_1721 c hc)
                          have hkp_1727 : KPp en en_1727 := KPp_fv i1_1721 es1722 es1722_1727 hi_1722 (nI wd) (nI mo) (nI tb) (nI wo) rfl rfl rfl rfl rfl rfl rfl rfl rfl rfl
                          refine lv_bipush (v := (-6)) hx hb dX12_close_153 (by decide) ?_
                          exact hp_iretM hx hb hr rfl hlocks hh (⟨hI_1727, hf_1727, Or.inl (by rw [es1722_1727]; rfl), hkp_1727⟩) dX12_close_155
                      · have n_1725 : j1721 < P_1721 := n_nle (a := P_1721) (b := j1721) c_1725 (by omega) (by omega)
                        refine lv_iload_n hx hb dX12_close_87 rfl (lv_at hl 1 rfl) ?_
                        refine lv_if_eq (tgt := 143) hx hb dX12_close_88 (by decide) (fun c_1728 => ?_) (fun c_1728 => ?_)
                        · refine lv_iload_n hx hb dX12_close_143 rfl (lv_at hl 1 rfl) ?_
                          refine lv_if_ne (tgt := 156) hx hb dX12_close_144 (by decide) (fun c_1729 => ?_) (fun c_1729 => ?_)
                          · refine lv_aload_n hx hb dX12_close_156 rfl (lv_at hl 2 rfl) ?_
                            refine hp_get hx hb hts ix12 hown hK hh (q := 0) rfl (hI.1 _ (by decide)) es1722 rfl 25 (by decide) (hts _ tw_904) (fun _ h9 => h9) rfl dX12_close_157 ?_
                            exact hp_iretM hx hb hr rfl hlocks hh (⟨hI_1721, hf_1721, Or.inr ⟨P_1721, (hPx_1721).resolve_left c_1729, hCH_1721⟩, i1_1721⟩) dX12_close_160
                          · refine lv_aload_n hx hb dX12_close_147 rfl (lv_at hl 2 rfl) ?_
                            refine lv_bipush (v := (-9)) hx hb dX12_close_148 (by decide) ?_
                            refine hp_put hx hb hts ix12 tyX12 tyX12_ok nmX12 hown hK hh (q := 0) rfl (hI.1 _ (by decide)) es1722 rfl 25 (by decide) (hts _ tw_904) (fun _ h9 => h9) rfl (ty := .int) (by decide +kernel) rfl rfl (Nat.le_of_ble_eq_true rfl) dX12_close_150 (fun H locs en_1730 hen_1730 hh => ?_)
                            have es1722_1730 : en_1730 0 = .inr (11, [.int fa_1722, .int hi_1722, .int (nI wd), .int (nI mo), .int (nI tb), .ref (ad 1), .ref (ad 2), .ref (ad 3), .ref (ad 4), .ref (ad 5), .ref (ad 6), .ref (ad 7), .ref (ad 8), .ref (ad 9), .int dp_1722, .long many_1722, .long grt_1722, .long lst_1722, .long nou_1722, .ref (ad 10), .ref (ad 11), .ref (ad 12), .int rm_1722, .long rb_1722, .ref (ad 13), .int (-9), .ref (ad 14), .ref (ad 15), .ref (ad 16), .ref (ad 17), .int (nI wo), .ref (ad 18), .ref (ad 19)]) := by rw [hen_1730]; exact va_up_self _ _ _
                            have hI_1730 : RX cy cs ad en_1730 := by rw [hen_1730]; exact upr_M hI_1721 ⟨fa_1722, hi_1722, wd, mo, tb, dp_1722, many_1722, grt_1722, lst_1722, nou_1722, rm_1722, rb_1722, (-9), wo, rfl, hwd2, hwd3, hmo, htb, hwo⟩
                            have hf_1730 : ∀ c, (c ≠ 0 ∧ c ≠ 6 ∧ c ≠ 14 ∧ c ≠ 15 ∧ c ≠ 16 ∧ c ≠ 17) → en_1730 c = en c := fun c hc => Eq.trans (show en_1730 c = en_1721 c from by rw [hen_1730, va_up_ne _ _ (by omega)]) (hf_1721 c hc)
                            have hkp_1730 : KPp en en_1730 := KPp_fv i1_1721 es1722 es1722_1730 hi_1722 (nI wd) (nI mo) (nI tb) (nI wo) rfl rfl rfl rfl rfl rfl rfl rfl rfl rfl
                            refine lv_bipush (v := (-6)) hx hb dX12_close_153 (by decide) ?_
                            exact hp_iretM hx hb hr rfl hlocks hh (⟨hI_1730, hf_1730, Or.inl (by rw [es1722_1730]; rfl), hkp_1730⟩) dX12_close_155
                        · refine lv_iconst (v := 0) hx hb dX12_close_91 (by decide) ?_
                          refine lv_istore_n (lv' := [(3, .int 0), (2, .int (nI j1721)), (1, .int my1721), (0, .ref (ad 0))]) hx hb dX12_close_92 rfl hl (by decide) rfl (fun ls hl => ?_)
                          have loop_1731 : ∀ (fu j1731 : Nat) (my1731 : Int32) (en_1731 : Nat → va_E) (ls : Array Slot) (H : Heap) (locs : List Loc), 0 ≤ j1731 → j1731 ≤ 6 → 6 < j1731 + fu → RX cy cs ad en_1731 → (∀ c, (c ≠ 0 ∧ c ≠ 6 ∧ c ≠ 14 ∧ c ≠ 15 ∧ c ≠ 16 ∧ c ≠ 17) → en_1731 c = en c) → (∃ P, CH en_1731 P ∧ (my1731 = 0 ∨ 1 ≤ P)) → (KPp en en_1731) → lv_has ls 4 [(3, .int (nI j1731)), (2, .int (nI j1721)), (1, .int my1731), (0, .ref (ad 0))] → Hp D (Af cs ad sz) (Af cs ad sz) s.heap H locs cs ad en_1731 → W p l e (headSpec (Cond.code yX12_close cX12_close 4 (some .int) :: TB) (rmN 3)).room s m ([.ref (ad 0)] : List Value).toArray below meth c H locs 0 0 (MQ below (va_Qi (S := Nat → va_E) (fun r en1 => RX cy cs ad en1 ∧ (∀ c, (c ≠ 0 ∧ c ≠ 6 ∧ c ≠ 14 ∧ c ≠ 15 ∧ c ≠ 16 ∧ c ≠ 17) → en1 c = en c) ∧ CHX en1 ∧ KPp en en1) (PostM D cs ad) (Af cs ad sz)) ([.ref (ad 0)] : List Value).toArray s 0 0 (Af cs ad sz)) (F0 m 93 ls []) := by
                            intro fu
                            induction fu with
                            | zero => intro j1731 my1731 en_1731 ls H locs h0 h1 h2; exact absurd h2 (by omega)
                            | succ fu ih_1731 =>
                              intro j1731 my1731 en_1731 ls H locs hj0_1731 hj_1731 hfu_1731 hI_1731 hf_1731 i0_1731 i1_1731 hl hh
                              obtain ⟨P_1731, hCH_1731, hPx_1731⟩ := i0_1731
                              have hPb_1731 := hCH_1731.1
                              refine lv_iload_n hx hb dX12_close_93 rfl (lv_at hl 0 rfl) ?_
                              refine lv_aload_n hx hb dX12_close_94 rfl (lv_at hl 3 rfl) ?_
                              obtain ⟨fa_1732, hi_1732, wd_1732, mo_1732, tb_1732, dp_1732, many_1732, grt_1732, lst_1732, nou_1732, rm_1732, rb_1732, pr_1732, wo_1732, es1732, p0_1732, p1_1732, p2_1732, p3_1732, p4_1732⟩ := getr_M hI_1731
                              have hfx_1733 : pr_1732 = nI P_1731 := (show pr_1732 = rdI (en_1731 0) 25 from by rw [es1732]; rfl).trans (hCH_1731.2.1)
                              rw [hfx_1733] at es1732
                              have hq2_1734 : wd_1732 = wd := n_eq ((show nI wd_1732 = rdI (en_1731 0) 2 from by rw [es1732]; rfl).trans (i1_1731.2.1.trans (show rdI (en 0) 2 = nI wd from by rw [es1686]; rfl))) (by omega) (by omega)
                              have hq3_1734 : mo_1732 = mo := n_eq ((show nI mo_1732 = rdI (en_1731 0) 3 from by rw [es1732]; rfl).trans (i1_1731.2.2.1.trans (show rdI (en 0) 3 = nI mo from by rw [es1686]; rfl))) (by omega) (by omega)
                              have hq4_1734 : tb_1732 = tb := n_eq ((show nI tb_1732 = rdI (en_1731 0) 4 from by rw [es1732]; rfl).trans (i1_1731.2.2.2.1.trans (show rdI (en 0) 4 = nI tb from by rw [es1686]; rfl))) (by omega) (by omega)
                              have hq30_1734 : wo_1732 = wo := n_eq ((show nI wo_1732 = rdI (en_1731 0) 30 from by rw [es1732]; rfl).trans (i1_1731.2.2.2.2.trans (show rdI (en 0) 30 = nI wo from by rw [es1686]; rfl))) (by omega) (by omega)
                              rw [hq2_1734, hq3_1734, hq4_1734, hq30_1734] at es1732
                              refine hp_get hx hb hts ix12 hown hK hh (q := 0) rfl (hI.1 _ (by decide)) es1732 rfl 4 (by decide) (hts _ tw_883) (fun _ h9 => h9) rfl dX12_close_95 ?_
                              refine lv_icmp_ge (tgt := 137) hx hb dX12_close_98 (by decide) (fun c_1735 => ?_) (fun c_1735 => ?_)
                              · have n_1735 : tb ≤ j1731 := n_le (a := tb) (b := j1731) c_1735 (by omega) (by omega)
                                refine lv_iinc (v := (nI (j1721 + 1))) (lv' := [(2, .int (nI (j1721 + 1))), (3, .int (nI j1731)), (1, .int my1731), (0, .ref (ad 0))]) hx hb dX12_close_137 hl (k := 1) rfl (nI_1 _) (by decide) rfl (fun ls hl => ?_)
                                refine lv_goto (tgt := 79) hx hb dX12_close_140 (by decide) ?_
                                exact ih_1721 ((j1721 + 1)) my1731 en_1731 ls H locs (by omega) (by omega) (by omega) hI_1731 hf_1731 (⟨P_1731, hCH_1731, hPx_1731⟩) (i1_1731) (lv_sub hl [0, 2, 3] rfl) hh
                              · have n_1735 : j1731 < tb := n_nle (a := tb) (b := j1731) c_1735 (by omega) (by omega)
                                refine lv_iload_n hx hb dX12_close_101 rfl (lv_at hl 2 rfl) ?_
                                refine lv_if_eq (tgt := 137) hx hb dX12_close_102 (by decide) (fun c_1736 => ?_) (fun c_1736 => ?_)
                                · refine lv_iinc (v := (nI (j1721 + 1))) (lv' := [(2, .int (nI (j1721 + 1))), (3, .int (nI j1731)), (1, .int my1731), (0, .ref (ad 0))]) hx hb dX12_close_137 hl (k := 1) rfl (nI_1 _) (by decide) rfl (fun ls hl => ?_)
                                  refine lv_goto (tgt := 79) hx hb dX12_close_140 (by decide) ?_
                                  exact ih_1721 ((j1721 + 1)) my1731 en_1731 ls H locs (by omega) (by omega) (by omega) hI_1731 hf_1731 (⟨P_1731, hCH_1731, hPx_1731⟩) (i1_1731) (lv_sub hl [0, 2, 3] rfl) hh
                                · refine lv_aload_n hx hb dX12_close_105 rfl (lv_at hl 3 rfl) ?_
                                  refine lv_iload_n hx hb dX12_close_106 rfl (lv_at hl 1 rfl) ?_
                                  refine lv_iconst (v := 0) hx hb dX12_close_107 (by decide) ?_
                                  refine hp_callMv (va_runV (As := [.int (nI j1721), .int 0]) (rest := []) ⟨hx, hb, hml, hown, hts⟩ (c_X12_layProduct l D cy _ cs ad en_1731 hI_1731 j1721 0 (by omega) (by omega)) (kw_X12_layProduct hts tw_1133 ⟨by decide, by decide⟩) (preV_of hh hK (hI.1 _ (by decide)) es1732 rfl) rfl rfl hl.1 rfl (lv_room (Nat.le_of_ble_eq_true rfl)) dX12_close_108 ⟨Nat.le_of_ble_eq_true rfl, Nat.le_of_ble_eq_true rfl⟩) hh hA (fun H locs en_1737 hw_1737 hh => ?_)
                                  obtain ⟨hI_1737, hu_1737⟩ := hw_1737
                                  have es1732_1737 : en_1737 0 = .inr (11, [.int fa_1732, .int hi_1732, .int (nI wd), .int (nI mo), .int (nI tb), .ref (ad 1), .ref (ad 2), .ref (ad 3), .ref (ad 4), .ref (ad 5), .ref (ad 6), .ref (ad 7), .ref (ad 8), .ref (ad 9), .int dp_1732, .long many_1732, .long grt_1732, .long lst_1732, .long nou_1732, .ref (ad 10), .ref (ad 11), .ref (ad 12), .int rm_1732, .long rb_1732, .ref (ad 13), .int (nI P_1731), .ref (ad 14), .ref (ad 15), .ref (ad 16), .ref (ad 17), .int (nI wo), .ref (ad 18), .ref (ad 19)]) := (hu_1737 0 (by omega)).trans es1732
                                  have hf_1737 : ∀ c, (c ≠ 0 ∧ c ≠ 6 ∧ c ≠ 14 ∧ c ≠ 15 ∧ c ≠ 16 ∧ c ≠ 17) → en_1737 c = en c := fun c hc => (hu_1737 c (by omega)).trans (hf_1731 c hc)
                                  have hkp_1737 : KPp en en_1737 := KPp_same i1_1731 (hu_1737 0 (by omega))
                                  have hcq_1737 := CH_keep (e1 := en_1737) hCH_1731 (by rw [hu_1737 0 (by omega)]) (hu_1737 16 (by omega)) (hu_1737 17 (by omega))
                                  refine lv_aload_n hx hb dX12_close_111 rfl (lv_at hl 3 rfl) ?_
                                  refine lv_iconst (v := 0) hx hb dX12_close_112 (by decide) ?_
                                  refine lv_iload_n hx hb dX12_close_113 rfl (lv_at hl 0 rfl) ?_
                                  refine hp_callMv (va_runV (As := [.int 0, .int (nI j1731)]) (rest := []) ⟨hx, hb, hml, hown, hts⟩ (c_X12_goOn l D cy _ cs ad en_1737 hI_1737 0 j1731 (by omega) (by omega)) (kw_X12_goOn hts tw_1050 ⟨by decide, by decide⟩) (preV_of hh hK (hI.1 _ (by decide)) es1732_1737 rfl) rfl rfl hl.1 rfl (lv_room (Nat.le_of_ble_eq_true rfl)) dX12_close_114 ⟨Nat.le_of_ble_eq_true rfl, Nat.le_of_ble_eq_true rfl⟩) hh hA (fun H locs en_1738 hw_1738 hh => ?_)
                                  obtain ⟨hI_1738, hu_1738, hx_1738⟩ := hw_1738
                                  have es1732_1738 : en_1738 0 = .inr (11, [.int fa_1732, .int hi_1732, .int (nI wd), .int (nI mo), .int (nI tb), .ref (ad 1), .ref (ad 2), .ref (ad 3), .ref (ad 4), .ref (ad 5), .ref (ad 6), .ref (ad 7), .ref (ad 8), .ref (ad 9), .int dp_1732, .long many_1732, .long grt_1732, .long lst_1732, .long nou_1732, .ref (ad 10), .ref (ad 11), .ref (ad 12), .int rm_1732, .long rb_1732, .ref (ad 13), .int (nI P_1731), .ref (ad 14), .ref (ad 15), .ref (ad 16), .ref (ad 17), .int (nI wo), .ref (ad 18), .ref (ad 19)]) := (hu_1738 0 (by omega)).trans es1732_1737
                                  have hf_1738 : ∀ c, (c ≠ 0 ∧ c ≠ 6 ∧ c ≠ 14 ∧ c ≠ 15 ∧ c ≠ 16 ∧ c ≠ 17) → en_1738 c = en c := fun c hc => (hu_1738 c (by omega)).trans (hf_1737 c hc)
                                  have hkp_1738 : KPp en en_1738 := KPp_same hkp_1737 (hu_1738 0 (by omega))
                                  have hcq_1738 := CH_keep (e1 := en_1738) hcq_1737 (by rw [hu_1738 0 (by omega)]) (hu_1738 16 (by omega)) (hu_1738 17 (by omega))
                                  refine lv_aload_n hx hb dX12_close_117 rfl (lv_at hl 3 rfl) ?_
                                  refine lv_iconst (v := 1) hx hb dX12_close_118 (by decide) ?_
                                  refine lv_aload_n hx hb dX12_close_119 rfl (lv_at hl 3 rfl) ?_
                                  refine hp_get hx hb hts ix12 hown hK hh (q := 0) rfl (hI.1 _ (by decide)) es1732_1738 rfl 27 (by decide) (hts _ tw_906) (fun _ h9 => h9) rfl dX12_close_120 ?_
                                  refine lv_iload_n hx hb dX12_close_123 rfl (lv_at hl 1 rfl) ?_
                                  obtain ⟨f_1739, es1739⟩ := getr_ln hI_1738
                                  refine hp_iald hx hb hK hh (q := 15) rfl (hI.1 _ (by decide)) es1739 (vp_in_nI (n := j1721) (by omega) (by decide)) dX12_close_124 ?_
                                  rw [nI_clamp (n := j1721) (by omega)]
                                  refine lv_iconst (v := 1) hx hb dX12_close_125 (by decide) ?_
                                  refine lv_iadd hx hb dX12_close_126 ?_
                                  refine hp_callMi (va_runV (As := [.int 1, .int ((f_1739 j1721) + 1)]) (rest := []) ⟨hx, hb, hml, hown, hts⟩ (c_X12_comes l D cy _ cs ad en_1738 hI_1738 1 ((f_1739 j1721) + 1) (by omega) P_1731 hcq_1738) (kw_X12_comes hts tw_1117 ⟨by decide, by decide⟩) (preV_of hh hK (hI.1 _ (by decide)) es1732_1738 rfl) rfl rfl hl.1 rfl (lv_room (Nat.le_of_ble_eq_true rfl)) dX12_close_127 ⟨Nat.le_of_ble_eq_true rfl, Nat.le_of_ble_eq_true rfl⟩) hh hA (fun r_1740 H locs en_1740 hw_1740 hh => ?_)
                                  obtain ⟨hI_1740, hu_1740, hy_1740, hx_1740⟩ := hw_1740
                                  have hw_1740 := (⟨hI_1740, hu_1740, hx_1740⟩ : _ ∧ _ ∧ _)
                                  obtain ⟨hI_1740, hu_1740, hx_1740⟩ := hw_1740
                                  have hf_1740 : ∀ c, (c ≠ 0 ∧ c ≠ 6 ∧ c ≠ 14 ∧ c ≠ 15 ∧ c ≠ 16 ∧ c ≠ 17) → en_1740 c = en c := fun c hc => (hu_1740 c (by omega)).trans (hf_1738 c hc)
                                  have hkp_1740 : KPp en en_1740 := KPp_tr hkp_1738 hx_1740
                                  rcases hy_1740 with ⟨hr_1740, hch_1740⟩ | ⟨hr_1740, P1_1740, hch_1740, hle_1740, hp1_1740⟩
                                  · rw [hr_1740]
                                    refine lv_istore_n (lv' := [(1, .int 0), (3, .int (nI j1731)), (2, .int (nI j1721)), (0, .ref (ad 0))]) hx hb dX12_close_130 rfl hl (by decide) rfl (fun ls hl => ?_)
                                    refine lv_iinc (v := (nI (j1731 + 1))) (lv' := [(3, .int (nI (j1731 + 1))), (1, .int 0), (2, .int (nI j1721)), (0, .ref (ad 0))]) hx hb dX12_close_131 hl (k := 1) rfl (nI_1 _) (by decide) rfl (fun ls hl => ?_)
                                    refine lv_goto (tgt := 93) hx hb dX12_close_134 (by decide) ?_
                                    exact ih_1731 ((j1731 + 1)) 0 en_1740 ls H locs (by omega) (by omega) (by omega) hI_1740 hf_1740 (⟨P_1731, hch_1740, Or.inl rfl⟩) (hkp_1740) (lv_sub hl [0, 2, 1, 3] rfl) hh
                                  · rw [hr_1740]
                                    refine lv_istore_n (lv' := [(1, .int 1), (3, .int (nI j1731)), (2, .int (nI j1721)), (0, .ref (ad 0))]) hx hb dX12_close_130 rfl hl (by decide) rfl (fun ls hl => ?_)
                                    refine lv_iinc (v := (nI (j1731 + 1))) (lv' := [(3, .int (nI (j1731 + 1))), (1, .int 1), (2, .int (nI j1721)), (0, .ref (ad 0))]) hx hb dX12_close_131 hl (k := 1) rfl (nI_1 _) (by decide) rfl (fun ls hl => ?_)
                                    refine lv_goto (tgt := 93) hx hb dX12_close_134 (by decide) ?_
                                    exact ih_1731 ((j1731 + 1)) 1 en_1740 ls H locs (by omega) (by omega) (by omega) hI_1740 hf_1740 (⟨P1_1740, hch_1740, Or.inr hp1_1740⟩) (hkp_1740) (lv_sub hl [0, 2, 1, 3] rfl) hh
                          exact loop_1731 (6 + 1) 0 my1721 en_1721 ls _ _ (Nat.le_refl _) (by omega) (by omega) hI_1721 hf_1721 (⟨P_1721, hCH_1721, hPx_1721⟩) (i1_1721) (lv_sub hl [0, 1, 2, 3] rfl) hh
                  exact loop_1721 (2000 + 1) 0 my1695 en_1695 ls _ _ (Nat.le_refl _) (by omega) (by omega) hI_1695 hf_1695 (⟨P_1695, hCH_1695, Or.inl c_1720⟩) (i1_1695) (lv_sub hl [0, 1, 2] rfl) hh
                · refine lv_aload_n hx hb dX12_close_58 rfl (lv_at hl 2 rfl) ?_
                  refine lv_iconst (v := 0) hx hb dX12_close_59 (by decide) ?_
                  refine lv_iload_n hx hb dX12_close_60 rfl (lv_at hl 0 rfl) ?_
                  refine hp_callMv (va_runV (As := [.int 0, .int (nI j1695)]) (rest := []) ⟨hx, hb, hml, hown, hts⟩ (c_X12_goOn l D cy _ cs ad en_1695 hI_1695 0 j1695 (by omega) (by omega)) (kw_X12_goOn hts tw_1050 ⟨by decide, by decide⟩) (preV_of hh hK (hI.1 _ (by decide)) es1696 rfl) rfl rfl hl.1 rfl (lv_room (Nat.le_of_ble_eq_true rfl)) dX12_close_61 ⟨Nat.le_of_ble_eq_true rfl, Nat.le_of_ble_eq_true rfl⟩) hh hA (fun H locs en_1741 hw_1741 hh => ?_)
                  obtain ⟨hI_1741, hu_1741, hx_1741⟩ := hw_1741
                  have es1696_1741 : en_1741 0 = .inr (11, [.int fa_1696, .int hi_1696, .int (nI wd), .int (nI mo), .int (nI tb), .ref (ad 1), .ref (ad 2), .ref (ad 3), .ref (ad 4), .ref (ad 5), .ref (ad 6), .ref (ad 7), .ref (ad 8), .ref (ad 9), .int dp_1696, .long many_1696, .long grt_1696, .long lst_1696, .long nou_1696, .ref (ad 10), .ref (ad 11), .ref (ad 12), .int rm_1696, .long rb_1696, .ref (ad 13), .int (nI P_1695), .ref (ad 14), .ref (ad 15), .ref (ad 16), .ref (ad 17), .int (nI wo), .ref (ad 18), .ref (ad 19)]) := (hu_1741 0 (by omega)).trans es1696
                  have hf_1741 : ∀ c, (c ≠ 0 ∧ c ≠ 6 ∧ c ≠ 14 ∧ c ≠ 15 ∧ c ≠ 16 ∧ c ≠ 17) → en_1741 c = en c := fun c hc => (hu_1741 c (by omega)).trans (hf_1695 c hc)
                  have hkp_1741 : KPp en en_1741 := KPp_same i1_1695 (hu_1741 0 (by omega))
                  have hcq_1741 := CH_keep (e1 := en_1741) hCH_1695 (by rw [hu_1741 0 (by omega)]) (hu_1741 16 (by omega)) (hu_1741 17 (by omega))
                  refine lv_aload_n hx hb dX12_close_64 rfl (lv_at hl 2 rfl) ?_
                  refine lv_iconst (v := 1) hx hb dX12_close_65 (by decide) ?_
                  refine lv_iconst (v := 1) hx hb dX12_close_66 (by decide) ?_
                  refine hp_callMi (va_runV (As := [.int 1, .int 1]) (rest := []) ⟨hx, hb, hml, hown, hts⟩ (c_X12_comes l D cy _ cs ad en_1741 hI_1741 1 1 (by omega) P_1695 hcq_1741) (kw_X12_comes hts tw_1117 ⟨by decide, by decide⟩) (preV_of hh hK (hI.1 _ (by decide)) es1696_1741 rfl) rfl rfl hl.1 rfl (lv_room (Nat.le_of_ble_eq_true rfl)) dX12_close_67 ⟨Nat.le_of_ble_eq_true rfl, Nat.le_of_ble_eq_true rfl⟩) hh hA (fun r_1742 H locs en_1742 hw_1742 hh => ?_)
                  obtain ⟨hI_1742, hu_1742, hy_1742, hx_1742⟩ := hw_1742
                  have hw_1742 := (⟨hI_1742, hu_1742, hx_1742⟩ : _ ∧ _ ∧ _)
                  obtain ⟨hI_1742, hu_1742, hx_1742⟩ := hw_1742
                  have hf_1742 : ∀ c, (c ≠ 0 ∧ c ≠ 6 ∧ c ≠ 14 ∧ c ≠ 15 ∧ c ≠ 16 ∧ c ≠ 17) → en_1742 c = en c := fun c hc => (hu_1742 c (by omega)).trans (hf_1741 c hc)
                  have hkp_1742 : KPp en en_1742 := KPp_tr hkp_1741 hx_1742
                  rcases hy_1742 with ⟨hr_1742, hch_1742⟩ | ⟨hr_1742, P1_1742, hch_1742, hle_1742, hp1_1742⟩
                  · rw [hr_1742]
                    refine lv_istore_n (lv' := [(1, .int 0), (2, .int (nI j1695)), (0, .ref (ad 0))]) hx hb dX12_close_70 rfl hl (by decide) rfl (fun ls hl => ?_)
                    refine lv_iinc (v := (nI (j1695 + 1))) (lv' := [(2, .int (nI (j1695 + 1))), (1, .int 0), (0, .ref (ad 0))]) hx hb dX12_close_71 hl (k := 1) rfl (nI_1 _) (by decide) rfl (fun ls hl => ?_)
                    refine lv_goto (tgt := 46) hx hb dX12_close_74 (by decide) ?_
                    exact ih_1695 ((j1695 + 1)) 0 en_1742 ls H locs (by omega) (by omega) (by omega) hI_1742 hf_1742 (⟨P_1695, hch_1742, Or.inr (Or.inl rfl)⟩) (hkp_1742) (lv_sub hl [0, 1, 2] rfl) hh
                  · rw [hr_1742]
                    refine lv_istore_n (lv' := [(1, .int 1), (2, .int (nI j1695)), (0, .ref (ad 0))]) hx hb dX12_close_70 rfl hl (by decide) rfl (fun ls hl => ?_)
                    refine lv_iinc (v := (nI (j1695 + 1))) (lv' := [(2, .int (nI (j1695 + 1))), (1, .int 1), (0, .ref (ad 0))]) hx hb dX12_close_71 hl (k := 1) rfl (nI_1 _) (by decide) rfl (fun ls hl => ?_)
                    refine lv_goto (tgt := 46) hx hb dX12_close_74 (by decide) ?_
                    exact ih_1695 ((j1695 + 1)) 1 en_1742 ls H locs (by omega) (by omega) (by omega) hI_1742 hf_1742 (⟨P1_1742, hch_1742, Or.inr (Or.inr hp1_1742)⟩) (hkp_1742) (lv_sub hl [0, 1, 2] rfl) hh
          exact loop_1695 (6 + 1) 0 1 en_1694 ls _ _ (Nat.le_refl _) (by omega) (by omega) hI_1694 hf_1694 (⟨0, hcq_1694, Or.inl rfl⟩) (hkp_1694) (lv_sub hl [0, 1, 2] rfl) hh
        · have n_1690 : j1689 < 4096 := n_nle (a := 4096) (b := j1689) c_1690 (by decide) (by omega)
          refine lv_aload_n hx hb dX12_close_24 rfl (lv_at hl 1 rfl) ?_
          obtain ⟨fa_1743, hi_1743, wd_1743, mo_1743, tb_1743, dp_1743, many_1743, grt_1743, lst_1743, nou_1743, rm_1743, rb_1743, pr_1743, wo_1743, es1743, p0_1743, p1_1743, p2_1743, p3_1743, p4_1743⟩ := getr_M hI_1689
          have hfx_1744 : pr_1743 = nI 0 := (show pr_1743 = rdI (en_1689 0) 25 from by rw [es1743]; rfl).trans (i1_1689)
          rw [hfx_1744] at es1743
          have hq2_1745 : wd_1743 = wd := n_eq ((show nI wd_1743 = rdI (en_1689 0) 2 from by rw [es1743]; rfl).trans (i2_1689.2.1.trans (show rdI (en 0) 2 = nI wd from by rw [es1686]; rfl))) (by omega) (by omega)
          have hq3_1745 : mo_1743 = mo := n_eq ((show nI mo_1743 = rdI (en_1689 0) 3 from by rw [es1743]; rfl).trans (i2_1689.2.2.1.trans (show rdI (en 0) 3 = nI mo from by rw [es1686]; rfl))) (by omega) (by omega)
          have hq4_1745 : tb_1743 = tb := n_eq ((show nI tb_1743 = rdI (en_1689 0) 4 from by rw [es1743]; rfl).trans (i2_1689.2.2.2.1.trans (show rdI (en 0) 4 = nI tb from by rw [es1686]; rfl))) (by omega) (by omega)
          have hq30_1745 : wo_1743 = wo := n_eq ((show nI wo_1743 = rdI (en_1689 0) 30 from by rw [es1743]; rfl).trans (i2_1689.2.2.2.2.trans (show rdI (en 0) 30 = nI wo from by rw [es1686]; rfl))) (by omega) (by omega)
          rw [hq2_1745, hq3_1745, hq4_1745, hq30_1745] at es1743
          refine hp_get hx hb hts ix12 hown hK hh (q := 0) rfl (hI.1 _ (by decide)) es1743 rfl 28 (by decide) (hts _ tw_907) (fun _ h9 => h9) rfl dX12_close_25 ?_
          refine lv_iload_n hx hb dX12_close_28 rfl (lv_at hl 0 rfl) ?_
          refine lv_bipush (v := (-9)) hx hb dX12_close_29 (by decide) ?_
          obtain ⟨f_1746, es1746⟩ := getr_hd hI_1689
          refine hp_iast hx hb hK hh (q := 16) rfl (hI.1 _ (by decide)) es1746 (vp_in_nI (n := j1689) (by omega) (by decide)) dX12_close_31 (fun H locs en_1747 hen_1747 hh => ?_)
          rw [nI_clamp (n := j1689) (by omega)] at hen_1747
          have es1743_1747 : en_1747 0 = .inr (11, [.int fa_1743, .int hi_1743, .int (nI wd), .int (nI mo), .int (nI tb), .ref (ad 1), .ref (ad 2), .ref (ad 3), .ref (ad 4), .ref (ad 5), .ref (ad 6), .ref (ad 7), .ref (ad 8), .ref (ad 9), .int dp_1743, .long many_1743, .long grt_1743, .long lst_1743, .long nou_1743, .ref (ad 10), .ref (ad 11), .ref (ad 12), .int rm_1743, .long rb_1743, .ref (ad 13), .int (nI 0), .ref (ad 14), .ref (ad 15), .ref (ad 16), .ref (ad 17), .int (nI wo), .ref (ad 18), .ref (ad 19)]) := by rw [hen_1747, va_up_ne _ _ (by decide)]; exact es1743
          have es1746_1747 : en_1747 16 = .inl (cy 0, 4096, .inl (upd f_1746 j1689 (-9))) := by rw [hen_1747]; exact va_up_self _ _ _
          have hI_1747 : RX cy cs ad en_1747 := by rw [hen_1747]; exact upr_hd hI_1689 ⟨(upd f_1746 j1689 (-9)), rfl⟩
          have hf_1747 : ∀ c, (c ≠ 0 ∧ c ≠ 6 ∧ c ≠ 14 ∧ c ≠ 15 ∧ c ≠ 16 ∧ c ≠ 17) → en_1747 c = en c := fun c hc => Eq.trans (show en_1747 c = en_1689 c from by rw [hen_1747, va_up_ne _ _ (by omega)]) (hf_1689 c hc)
          have hkp_1747 : KPp en en_1747 := KPp_same i2_1689 (show en_1747 0 = en_1689 0 from by rw [hen_1747, va_up_ne _ _ (by decide)])
          refine lv_iinc (v := (nI (j1689 + 1))) (lv' := [(1, .int (nI (j1689 + 1))), (0, .ref (ad 0))]) hx hb dX12_close_32 hl (k := 0) rfl (nI_1 _) (by decide) rfl (fun ls hl => ?_)
          refine lv_goto (tgt := 17) hx hb dX12_close_35 (by decide) ?_
          exact ih_1689 ((j1689 + 1))  en_1747 ls H locs (by omega) (by omega) (by omega) hI_1747 hf_1747 (fun i hi => by rw [es1746_1747]; exact z_upd hi rfl (fun h9 => (show f_1746 i = rdF (en_1689 16) i from by rw [es1746]; rfl).trans (i0_1689 i h9))) (by rw [es1743_1747]; rfl) (hkp_1747) (lv_sub hl [0, 1] rfl) hh
    exact loop_1689 (4096 + 1) 0  en_1688 ls _ _ (Nat.le_refl _) (by omega) (by omega) hI_1688 hf_1688 (fun i h => absurd h (Nat.not_lt_zero i)) (by rw [es1686_1688]; rfl) (hkp_1688) (lv_sub hl [0, 1] rfl) hh
  · have n_1687 : tb = 0 := n_eq (a := tb) (b := 0) c_1687 (by omega) (by decide)
    refine lv_bipush (v := (-3)) hx hb dX12_close_7 (by decide) ?_
    exact hp_iretM hx hb hr rfl hlocks hh (⟨hI, hf0, hCX, (KPp_rf en)⟩) dX12_close_9
theorem kw_X12_close {R : Room} {s : State} {args : Array Value} {own : String} {idx : Nat} (hts : ∀ w ∈ TB, w.before args s = true) (hl : Cond.methodLink own idx yX12_close ∈ TB) (hR : 3 + 1 ≤ R.frames ∧ 8 + (4 + 11) + 40 * 3 ≤ R.locals) : CallW R s args own RX12 idx yX12_close cX12_close 4 (some .int) (Cond.code yX12_close cX12_close 4 (some .int) :: TB) (rmN 3) 0 0 0 := cwV 0 hts (TB_V hl tw_1114 tw_1115 tw_9 tw_1116) rfl rfl rfl (by decide +kernel) hR
