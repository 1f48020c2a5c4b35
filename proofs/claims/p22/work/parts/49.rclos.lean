set_option maxHeartbeats 4000000 in
set_option maxRecDepth 100000 in
/-- chainOf -/
theorem c_X12_chainOf (l : Launch) (D : va_G) (cy : Nat → ClassId) (sz : Nat) (cs : List Nat) (ad : Nat → Nat) (en : Nat → va_E) (hI : RX cy cs ad en) (n : Nat) (hn : n ≤ 12)   : Met l yX12_chainOf (Cond.code yX12_chainOf cX12_chainOf 5 (some .int) :: TB) (rmN 0) (va_Pc [.ref (ad 0), .int (nI n)] (Pre D cy cs ad en sz)) (va_Qi (S := Unit) (fun r _ => ∃ S, S < 4096 ∧ r = nI S) (fun _ _ => True) (Nf sz)) 0 0 (Nf sz) := by
  refine Met.ofW (cc := cX12_chainOf) (maxL := 5) (ret := (some .int)) (by decide) rfl ?_
  intro p e s m args below meth c s₁ B hml hv
  obtain ⟨rfl, hsz, hP, hK, hD0⟩ := hv
  have hx := B.exec
  have hb := B.bytes
  have hr := B.returns
  have hts : ∀ w ∈ TB, w.before _ s = true := fun w h => atoms_spec (ws := _ :: TB) B.pre w (List.mem_cons_of_mem _ h)
  have hown : s.vm.findClass RX12 = some m.cls := findClass_of_methodNamed B.named
  have hlocks := B.notSynchronized
  have hh : Hp D (Nf sz) (fun _ => True) s.heap s.heap [] cs ad en := ⟨hP, hD0, va_S.rf⟩
  have hA : ∀ q : Nat, s.heap.size ≤ q → Nf sz q := fun q h => by rw [hsz] at h; exact h
  have hl := lv_entry ([.ref (ad 0), .int (nI n)]) (n := 5) (Nat.le_of_ble_eq_true rfl)
  rw [lg_entry_eq]
  generalize (lg_sl ([.ref (ad 0), .int (nI n)]) ++ List.replicate (5 - (lg_sl ([.ref (ad 0), .int (nI n)])).length) Slot.unset).toArray = ls at hl ⊢
  have hl : lv_has ls 5 [(0, .ref (ad 0)), (1, .int (nI n))] := hl
  obtain ⟨fa, hi, wd, mo, tb, dp, many, grt, lst, nou, rm, rb, pr, wo, es1607, hwd2, hwd3, hmo, htb, hwo⟩ := getr_M hI
  have hww : wd * wd ≤ 9 := mww (by omega)
  refine lv_lconst (v := 0) hx hb dX12_chainOf_0 (by decide) ?_
  refine lv_lstore_n (lv' := [(2, .long 0), (0, .ref (ad 0)), (1, .int (nI n))]) hx hb dX12_chainOf_1 rfl hl (by decide) rfl (fun ls hl => ?_)
  refine lv_iconst (v := 0) hx hb dX12_chainOf_2 (by decide) ?_
  refine lv_istore (lv' := [(4, .int 0), (2, .long 0), (0, .ref (ad 0)), (1, .int (nI n))]) hx hb dX12_chainOf_3 hl (by decide) rfl (fun ls hl => ?_)
  have loop_1608 : ∀ (fu j1608 : Nat) (v1608 : Int64)  (ls : Array Slot) (H : Heap) (locs : List Loc), 0 ≤ j1608 → j1608 ≤ (wd * wd) → (wd * wd) < j1608 + fu →   lv_has ls 5 [(4, .int (nI j1608)), (2, .long v1608), (0, .ref (ad 0)), (1, .int (nI n))] → Hp D (Nf sz) (fun _ => True) s.heap H locs cs ad en → W p l e (headSpec (Cond.code yX12_chainOf cX12_chainOf 5 (some .int) :: TB) (rmN 0)).room s m ([.ref (ad 0), .int (nI n)] : List Value).toArray below meth c H locs 0 0 (MQ below (va_Qi (S := Unit) (fun r _ => ∃ S, S < 4096 ∧ r = nI S) (fun _ _ => True) (Nf sz)) ([.ref (ad 0), .int (nI n)] : List Value).toArray s 0 0 (Nf sz)) (F0 m 5 ls []) := by
    intro fu
    induction fu with
    | zero => intro j1608 v1608 ls H locs h0 h1 h2; exact absurd h2 (by omega)
    | succ fu ih_1608 =>
      intro j1608 v1608 ls H locs hj0_1608 hj_1608 hfu_1608  hl hh
      refine lv_iload hx hb dX12_chainOf_5 (lv_at hl 0 rfl) ?_
      refine lv_aload_n hx hb dX12_chainOf_7 rfl (lv_at hl 2 rfl) ?_
      refine hp_get hx hb hts ix12 hown hK hh (q := 0) rfl (hI.1 _ (by decide)) es1607 rfl 2 (by decide) (hts _ tw_881) (fun _ h9 => h9) rfl dX12_chainOf_8 ?_
      refine lv_aload_n hx hb dX12_chainOf_11 rfl (lv_at hl 2 rfl) ?_
      refine hp_get hx hb hts ix12 hown hK hh (q := 0) rfl (hI.1 _ (by decide)) es1607 rfl 2 (by decide) (hts _ tw_881) (fun _ h9 => h9) rfl dX12_chainOf_12 ?_
      refine lv_imul hx hb dX12_chainOf_15 ?_
      rw [pk_mul wd wd]
      have hw2_1609 : wd * wd ≤ 9 := mww (by omega)
      refine lv_icmp_ge (tgt := 44) hx hb dX12_chainOf_16 (by decide) (fun c_1610 => ?_) (fun c_1610 => ?_)
      · have n_1610 : (wd * wd) ≤ j1608 := n_le (a := (wd * wd)) (b := j1608) c_1610 (by omega) (by omega)
        refine lv_lload_n hx hb dX12_chainOf_44 rfl (lv_at hl 1 rfl) ?_
        refine lv_lload_n hx hb dX12_chainOf_45 rfl (lv_at hl 1 rfl) ?_
        refine lv_bipush (v := 21) hx hb dX12_chainOf_46 (by decide) ?_
        refine lv_lshr hx hb dX12_chainOf_48 rfl ?_
        refine lv_lxor hx hb dX12_chainOf_49 ?_
        refine lv_ldc2 hx hb hown (hts _ tw_1132) dX12_chainOf_50 ?_
        refine lv_land hx hb dX12_chainOf_53 ?_
        refine lv_l2i hx hb dX12_chainOf_54 rfl ?_
        obtain ⟨S_1611, hS_1611, hSe_1611⟩ := l4095 (v1608 ^^^ (v1608 >>> ((21 : Int32).toInt64 &&& 63)))
        rw [hSe_1611]
        exact hp_iretR hx hb hr rfl hlocks hsz hh (⟨_, hS_1611, rfl⟩) dX12_chainOf_55
      · have n_1610 : j1608 < (wd * wd) := n_nle (a := (wd * wd)) (b := j1608) c_1610 (by omega) (by omega)
        refine lv_lload_n hx hb dX12_chainOf_19 rfl (lv_at hl 1 rfl) ?_
        refine lv_ldc2 hx hb hown (hts _ tw_1131) dX12_chainOf_20 ?_
        refine lv_lmul hx hb dX12_chainOf_23 ?_
        refine lv_aload_n hx hb dX12_chainOf_24 rfl (lv_at hl 2 rfl) ?_
        refine hp_get hx hb hts ix12 hown hK hh (q := 0) rfl (hI.1 _ (by decide)) es1607 rfl 10 (by decide) (hts _ tw_889) (fun _ h9 => h9) rfl dX12_chainOf_25 ?_
        refine lv_bipush (v := 9) hx hb dX12_chainOf_28 (by decide) ?_
        refine lv_iload_n hx hb dX12_chainOf_30 rfl (lv_at hl 3 rfl) ?_
        refine lv_imul hx hb dX12_chainOf_31 ?_
        rw [show (9 : Int32) = nI 9 from rfl, pk_mul 9 n]
        refine lv_iload hx hb dX12_chainOf_32 (lv_at hl 0 rfl) ?_
        refine lv_iadd hx hb dX12_chainOf_34 ?_
        rw [nI_add (9 * n) j1608]
        obtain ⟨f_1612, es1612⟩ := getr_lv hI
        refine hp_lald hx hb hK hh (q := 6) rfl (hI.1 _ (by decide)) es1612 (vp_in_nI (n := ((9 * n) + j1608)) (by omega) (by decide)) dX12_chainOf_35 ?_
        rw [nI_clamp (n := ((9 * n) + j1608)) (by omega)]
        refine lv_ladd hx hb dX12_chainOf_36 ?_
        refine lv_lstore_n (lv' := [(2, .long ((v1608 * 1000003) + (f_1612 ((9 * n) + j1608)))), (4, .int (nI j1608)), (0, .ref (ad 0)), (1, .int (nI n))]) hx hb dX12_chainOf_37 rfl hl (by decide) rfl (fun ls hl => ?_)
        refine lv_iinc (v := (nI (j1608 + 1))) (lv' := [(4, .int (nI (j1608 + 1))), (2, .long ((v1608 * 1000003) + (f_1612 ((9 * n) + j1608)))), (0, .ref (ad 0)), (1, .int (nI n))]) hx hb dX12_chainOf_38 hl (k := 1) rfl (nI_1 _) (by decide) rfl (fun ls hl => ?_)
        refine lv_goto (tgt := 5) hx hb dX12_chainOf_41 (by decide) ?_
        exact ih_1608 ((j1608 + 1)) ((v1608 * 1000003) + (f_1612 ((9 * n) + j1608))) ls H locs (by omega) (by omega) (by omega)  (lv_sub hl [0, 1, 2, 3] rfl) hh
  exact loop_1608 ((wd * wd) + 1) 0 0 ls _ _ (Nat.le_refl _) (by omega) (by omega)  (lv_sub hl [0, 1, 2, 3] rfl) hh
theorem kw_X12_chainOf {R : Room} {s : State} {args : Array Value} {own : String} {idx : Nat} (hts : ∀ w ∈ TB, w.before args s = true) (hl : Cond.methodLink own idx yX12_chainOf ∈ TB) (hR : 0 + 1 ≤ R.frames ∧ 8 + (5 + 11) + 40 * 0 ≤ R.locals) : CallW R s args own RX12 idx yX12_chainOf cX12_chainOf 5 (some .int) (Cond.code yX12_chainOf cX12_chainOf 5 (some .int) :: TB) (rmN 0) 0 0 1 := cwV 1 hts (TB_V hl tw_1129 ts_52 tw_9 tw_1130) rfl rfl rfl (by decide +kernel) hR
set_option maxHeartbeats 4000000 in
set_option maxRecDepth 100000 in
/-- findAt -/
theorem c_X12_findAt (l : Launch) (D : va_G) (cy : Nat → ClassId) (sz : Nat) (cs : List Nat) (ad : Nat → Nat) (en : Nat → va_E) (hI : RX cy cs ad en) (n : Nat) (hn : n ≤ 12) (P : Nat) (hCH : CH en P)   : Met l yX12_findAt (Cond.code yX12_findAt cX12_findAt 4 (some .int) :: TB) (rmN 1) (va_Pc [.ref (ad 0), .int (nI n)] (Pre D cy cs ad en sz)) (va_Qi (S := Unit) (fun r _ => (r = -9 ∨ ∃ v, v < P ∧ r = nI v)) (fun _ _ => True) (Nf sz)) 0 0 (Nf sz) := by
  refine Met.ofW (cc := cX12_findAt) (maxL := 4) (ret := (some .int)) (by decide) rfl ?_
  intro p e s m args below meth c s₁ B hml hv
  obtain ⟨rfl, hsz, hP, hK, hD0⟩ := hv
  have hx := B.exec
  have hb := B.bytes
  have hr := B.returns
  have hts : ∀ w ∈ TB, w.before _ s = true := fun w h => atoms_spec (ws := _ :: TB) B.pre w (List.mem_cons_of_mem _ h)
  have hown : s.vm.findClass RX12 = some m.cls := findClass_of_methodNamed B.named
  have hlocks := B.notSynchronized
  have hh : Hp D (Nf sz) (fun _ => True) s.heap s.heap [] cs ad en := ⟨hP, hD0, va_S.rf⟩
  have hA : ∀ q : Nat, s.heap.size ≤ q → Nf sz q := fun q h => by rw [hsz] at h; exact h
  have hl := lv_entry ([.ref (ad 0), .int (nI n)]) (n := 4) (Nat.le_of_ble_eq_true rfl)
  rw [lg_entry_eq]
  generalize (lg_sl ([.ref (ad 0), .int (nI n)]) ++ List.replicate (4 - (lg_sl ([.ref (ad 0), .int (nI n)])).length) Slot.unset).toArray = ls at hl ⊢
  have hl : lv_has ls 4 [(0, .ref (ad 0)), (1, .int (nI n))] := hl
  obtain ⟨fa, hi, wd, mo, tb, dp, many, grt, lst, nou, rm, rb, pr, wo, es1613, hwd2, hwd3, hmo, htb, hwo⟩ := getr_M hI
  obtain ⟨f_1614, es1614⟩ := getr_hd hI
  obtain ⟨f_1615, es1615⟩ := getr_ch hI
  obtain ⟨f_1616, es1616⟩ := getr_pd hI
  obtain ⟨f_1617, es1617⟩ := getr_lv hI
  have hww : wd * wd ≤ 9 := mww (by omega)
  have hP9 := hCH.1
  refine lv_aload_n hx hb dX12_findAt_0 rfl (lv_at hl 0 rfl) ?_
  refine hp_get hx hb hts ix12 hown hK hh (q := 0) rfl (hI.1 _ (by decide)) es1613 rfl 28 (by decide) (hts _ tw_907) (fun _ h9 => h9) rfl dX12_findAt_1 ?_
  refine lv_aload_n hx hb dX12_findAt_4 rfl (lv_at hl 0 rfl) ?_
  refine lv_iload_n hx hb dX12_findAt_5 rfl (lv_at hl 1 rfl) ?_
  refine hp_callRi (va_runV (As := [.int (nI n)]) (rest := [.ref (ad 16)]) ⟨hx, hb, hml, hown, hts⟩ (c_X12_chainOf l D cy _ cs ad en hI n (by omega)) (kw_X12_chainOf hts tw_1127 ⟨by decide, by decide⟩) (preV_of hh hK (hI.1 _ (by decide)) es1613 rfl) rfl rfl hl.1 rfl (lv_room (Nat.le_of_ble_eq_true rfl)) dX12_findAt_6 ⟨Nat.le_of_ble_eq_true rfl, Nat.le_of_ble_eq_true rfl⟩) hh hA (fun r_1618 H locs hw_1618 hh => ?_)
  obtain ⟨S_1618, hS_1618, rfl⟩ := hw_1618
  refine hp_iald hx hb hK hh (q := 16) rfl (hI.1 _ (by decide)) es1614 (vp_in_nI (n := S_1618) (by omega) (by decide)) dX12_findAt_9 ?_
  rw [nI_clamp (n := S_1618) (by omega)]
  refine lv_istore_n (lv' := [(2, .int (f_1614 S_1618)), (0, .ref (ad 0)), (1, .int (nI n))]) hx hb dX12_findAt_10 rfl hl (by decide) rfl (fun ls hl => ?_)
  have loop_1619 : ∀ (fu mm1619 : Nat) (pp1619 : Int32)   (ls : Array Slot) (H : Heap) (locs : List Loc), mm1619 < fu →  (pp1619 = -9 ∨ ∃ v, v < mm1619 ∧ v < P ∧ pp1619 = nI v) → lv_has ls 4 [(2, .int pp1619), (0, .ref (ad 0)), (1, .int (nI n))] → Hp D (Nf sz) (fun _ => True) s.heap H locs cs ad en → W p l e (headSpec (Cond.code yX12_findAt cX12_findAt 4 (some .int) :: TB) (rmN 1)).room s m ([.ref (ad 0), .int (nI n)] : List Value).toArray below meth c H locs 0 0 (MQ below (va_Qi (S := Unit) (fun r _ => (r = -9 ∨ ∃ v, v < P ∧ r = nI v)) (fun _ _ => True) (Nf sz)) ([.ref (ad 0), .int (nI n)] : List Value).toArray s 0 0 (Nf sz)) (F0 m 11 ls []) := by
    intro fu
    induction fu with
    | zero => intro mm1619 pp1619 ls H locs h2; exact absurd h2 (by omega)
    | succ fu ih_1619 =>
      intro mm1619 pp1619 ls H locs hmm_1619 i0_1619 hl hh
      refine lv_iload_n hx hb dX12_findAt_11 rfl (lv_at hl 0 rfl) ?_
      refine lv_bipush (v := (-9)) hx hb dX12_findAt_12 (by decide) ?_
      refine lv_icmp_eq (tgt := 89) hx hb dX12_findAt_14 (by decide) (fun c_1620 => ?_) (fun c_1620 => ?_)
      · refine lv_bipush (v := (-9)) hx hb dX12_findAt_89 (by decide) ?_
        exact hp_iretR hx hb hr rfl hlocks hsz hh (Or.inl rfl) dX12_findAt_91
      · rcases i0_1619 with hq9_1619 | ⟨v9_1619, hv9a_1619, hv9b_1619, hv9e_1619⟩
        · exact absurd hq9_1619 c_1620
        subst hv9e_1619
        refine lv_iconst (v := 0) hx hb dX12_findAt_17 (by decide) ?_
        refine lv_istore_n (lv' := [(3, .int 0), (2, .int (nI v9_1619)), (0, .ref (ad 0)), (1, .int (nI n))]) hx hb dX12_findAt_18 rfl hl (by decide) rfl (fun ls hl => ?_)
        have loop_1621 : ∀ (fu j1621 : Nat)   (ls : Array Slot) (H : Heap) (locs : List Loc), 0 ≤ j1621 → j1621 ≤ (wd * wd) → (wd * wd) < j1621 + fu →   lv_has ls 4 [(3, .int (nI j1621)), (2, .int (nI v9_1619)), (0, .ref (ad 0)), (1, .int (nI n))] → Hp D (Nf sz) (fun _ => True) s.heap H locs cs ad en → W p l e (headSpec (Cond.code yX12_findAt cX12_findAt 4 (some .int) :: TB) (rmN 1)).room s m ([.ref (ad 0), .int (nI n)] : List Value).toArray below meth c H locs 0 0 (MQ below (va_Qi (S := Unit) (fun r _ => (r = -9 ∨ ∃ v, v < P ∧ r = nI v)) (fun _ _ => True) (Nf sz)) ([.ref (ad 0), .int (nI n)] : List Value).toArray s 0 0 (Nf sz)) (F0 m 19 ls []) := by
          intro fu
          induction fu with
          | zero => intro j1621  ls H locs h0 h1 h2; exact absurd h2 (by omega)
          | succ fu ih_1621 =>
            intro j1621  ls H locs hj0_1621 hj_1621 hfu_1621  hl hh
            refine lv_iload_n hx hb dX12_findAt_19 rfl (lv_at hl 0 rfl) ?_
            refine lv_aload_n hx hb dX12_findAt_20 rfl (lv_at hl 2 rfl) ?_
            refine hp_get hx hb hts ix12 hown hK hh (q := 0) rfl (hI.1 _ (by decide)) es1613 rfl 2 (by decide) (hts _ tw_881) (fun _ h9 => h9) rfl dX12_findAt_21 ?_
            refine lv_aload_n hx hb dX12_findAt_24 rfl (lv_at hl 2 rfl) ?_
            refine hp_get hx hb hts ix12 hown hK hh (q := 0) rfl (hI.1 _ (by decide)) es1613 rfl 2 (by decide) (hts _ tw_881) (fun _ h9 => h9) rfl dX12_findAt_25 ?_
            refine lv_imul hx hb dX12_findAt_28 ?_
            rw [pk_mul wd wd]
            have hw2_1622 : wd * wd ≤ 9 := mww (by omega)
            refine lv_icmp_ge (tgt := 64) hx hb dX12_findAt_29 (by decide) (fun c_1623 => ?_) (fun c_1623 => ?_)
            · have n_1623 : (wd * wd) ≤ j1621 := n_le (a := (wd * wd)) (b := j1621) c_1623 (by omega) (by omega)
              refine lv_iload_n hx hb dX12_findAt_64 rfl (lv_at hl 0 rfl) ?_
              refine lv_aload_n hx hb dX12_findAt_65 rfl (lv_at hl 2 rfl) ?_
              refine hp_get hx hb hts ix12 hown hK hh (q := 0) rfl (hI.1 _ (by decide)) es1613 rfl 2 (by decide) (hts _ tw_881) (fun _ h9 => h9) rfl dX12_findAt_66 ?_
              refine lv_aload_n hx hb dX12_findAt_69 rfl (lv_at hl 2 rfl) ?_
              refine hp_get hx hb hts ix12 hown hK hh (q := 0) rfl (hI.1 _ (by decide)) es1613 rfl 2 (by decide) (hts _ tw_881) (fun _ h9 => h9) rfl dX12_findAt_70 ?_
              refine lv_imul hx hb dX12_findAt_73 ?_
              rw [pk_mul wd wd]
              have hw2_1624 : wd * wd ≤ 9 := mww (by omega)
              refine lv_icmp_ne (tgt := 79) hx hb dX12_findAt_74 (by decide) (fun c_1625 => ?_) (fun c_1625 => ?_)
              · have n_1625 : j1621 ≠ (wd * wd) := n_neq (a := j1621) (b := (wd * wd)) c_1625 (by omega) (by omega)
                refine lv_aload_n hx hb dX12_findAt_79 rfl (lv_at hl 2 rfl) ?_
                refine hp_get hx hb hts ix12 hown hK hh (q := 0) rfl (hI.1 _ (by decide)) es1613 rfl 29 (by decide) (hts _ tw_908) (fun _ h9 => h9) rfl dX12_findAt_80 ?_
                refine lv_iload_n hx hb dX12_findAt_83 rfl (lv_at hl 1 rfl) ?_
                refine hp_iald hx hb hK hh (q := 17) rfl (hI.1 _ (by decide)) es1615 (vp_in_nI (n := v9_1619) (by omega) (by decide)) dX12_findAt_84 ?_
                rw [nI_clamp (n := v9_1619) (by omega)]
                refine lv_istore_n (lv' := [(2, .int (f_1615 v9_1619)), (3, .int (nI j1621)), (0, .ref (ad 0)), (1, .int (nI n))]) hx hb dX12_findAt_85 rfl hl (by decide) rfl (fun ls hl => ?_)
                refine lv_goto (tgt := 11) hx hb dX12_findAt_86 (by decide) ?_
                exact ih_1619 (v9_1619) (f_1615 v9_1619) ls H locs (by omega) (by have h9 := hCH.2.2.2 v9_1619 hv9b_1619; rw [show rdF (en 17) = f_1615 from by rw [es1615]; rfl] at h9; rcases h9 with h9 | ⟨v, h1, h2⟩; exact Or.inl h9; exact Or.inr ⟨v, h1, by omega, h2⟩) (lv_sub hl [0, 2, 3] rfl) hh
              · have n_1625 : j1621 = (wd * wd) := n_eq (a := j1621) (b := (wd * wd)) c_1625 (by omega) (by omega)
                refine lv_iload_n hx hb dX12_findAt_77 rfl (lv_at hl 1 rfl) ?_
                exact hp_iretR hx hb hr rfl hlocks hsz hh (Or.inr ⟨_, hv9b_1619, rfl⟩) dX12_findAt_78
            · have n_1623 : j1621 < (wd * wd) := n_nle (a := (wd * wd)) (b := j1621) c_1623 (by omega) (by omega)
              refine lv_aload_n hx hb dX12_findAt_32 rfl (lv_at hl 2 rfl) ?_
              refine hp_get hx hb hts ix12 hown hK hh (q := 0) rfl (hI.1 _ (by decide)) es1613 rfl 26 (by decide) (hts _ tw_905) (fun _ h9 => h9) rfl dX12_findAt_33 ?_
              refine lv_bipush (v := 9) hx hb dX12_findAt_36 (by decide) ?_
              refine lv_iload_n hx hb dX12_findAt_38 rfl (lv_at hl 1 rfl) ?_
              refine lv_imul hx hb dX12_findAt_39 ?_
              rw [show (9 : Int32) = nI 9 from rfl, pk_mul 9 v9_1619]
              refine lv_iload_n hx hb dX12_findAt_40 rfl (lv_at hl 0 rfl) ?_
              refine lv_iadd hx hb dX12_findAt_41 ?_
              rw [nI_add (9 * v9_1619) j1621]
              refine hp_lald hx hb hK hh (q := 14) rfl (hI.1 _ (by decide)) es1616 (vp_in_nI (n := ((9 * v9_1619) + j1621)) (by omega) (by decide)) dX12_findAt_42 ?_
              rw [nI_clamp (n := ((9 * v9_1619) + j1621)) (by omega)]
              refine lv_aload_n hx hb dX12_findAt_43 rfl (lv_at hl 2 rfl) ?_
              refine hp_get hx hb hts ix12 hown hK hh (q := 0) rfl (hI.1 _ (by decide)) es1613 rfl 10 (by decide) (hts _ tw_889) (fun _ h9 => h9) rfl dX12_findAt_44 ?_
              refine lv_bipush (v := 9) hx hb dX12_findAt_47 (by decide) ?_
              refine lv_iload_n hx hb dX12_findAt_49 rfl (lv_at hl 3 rfl) ?_
              refine lv_imul hx hb dX12_findAt_50 ?_
              rw [show (9 : Int32) = nI 9 from rfl, pk_mul 9 n]
              refine lv_iload_n hx hb dX12_findAt_51 rfl (lv_at hl 0 rfl) ?_
              refine lv_iadd hx hb dX12_findAt_52 ?_
              rw [nI_add (9 * n) j1621]
              refine hp_lald hx hb hK hh (q := 6) rfl (hI.1 _ (by decide)) es1617 (vp_in_nI (n := ((9 * n) + j1621)) (by omega) (by decide)) dX12_findAt_53 ?_
              rw [nI_clamp (n := ((9 * n) + j1621)) (by omega)]
              refine W.lcmp hx hb dX12_findAt_54 ?_
              refine lv_if_ne (tgt := 64) hx hb dX12_findAt_55 (by decide) (fun c_1626 => ?_) (fun c_1626 => ?_)
              · refine lv_iload_n hx hb dX12_findAt_64 rfl (lv_at hl 0 rfl) ?_
                refine lv_aload_n hx hb dX12_findAt_65 rfl (lv_at hl 2 rfl) ?_
                refine hp_get hx hb hts ix12 hown hK hh (q := 0) rfl (hI.1 _ (by decide)) es1613 rfl 2 (by decide) (hts _ tw_881) (fun _ h9 => h9) rfl dX12_findAt_66 ?_
                refine lv_aload_n hx hb dX12_findAt_69 rfl (lv_at hl 2 rfl) ?_
                refine hp_get hx hb hts ix12 hown hK hh (q := 0) rfl (hI.1 _ (by decide)) es1613 rfl 2 (by decide) (hts _ tw_881) (fun _ h9 => h9) rfl dX12_findAt_70 ?_
                refine lv_imul hx hb dX12_findAt_73 ?_
                rw [pk_mul wd wd]
                have hw2_1627 : wd * wd ≤ 9 := mww (by omega)
                refine lv_icmp_ne (tgt := 79) hx hb dX12_findAt_74 (by decide) (fun c_1628 => ?_) (fun c_1628 => ?_)
                · have n_1628 : j1621 ≠ (wd * wd) := n_neq (a := j1621) (b := (wd * wd)) c_1628 (by omega) (by omega)
                  refine lv_aload_n hx hb dX12_findAt_79 rfl (lv_at hl 2 rfl) ?_
                  refine hp_get hx hb hts ix12 hown hK hh (q := 0) rfl (hI.1 _ (by decide)) es1613 rfl 29 (by decide) (hts _ tw_908) (fun _ h9 => h9) rfl dX12_findAt_80 ?_
                  refine lv_iload_n hx hb dX12_findAt_83 rfl (lv_at hl 1 rfl) ?_
                  refine hp_iald hx hb hK hh (q := 17) rfl (hI.1 _ (by decide)) es1615 (vp_in_nI (n := v9_1619) (by omega) (by decide)) dX12_findAt_84 ?_
                  rw [nI_clamp (n := v9_1619) (by omega)]
                  refine lv_istore_n (lv' := [(2, .int (f_1615 v9_1619)), (3, .int (nI j1621)), (0, .ref (ad 0)), (1, .int (nI n))]) hx hb dX12_findAt_85 rfl hl (by decide) rfl (fun ls hl => ?_)
                  refine lv_goto (tgt := 11) hx hb dX12_findAt_86 (by decide) ?_
                  exact ih_1619 (v9_1619) (f_1615 v9_1619) ls H locs (by omega) (by have h9 := hCH.2.2.2 v9_1619 hv9b_1619; rw [show rdF (en 17) = f_1615 from by rw [es1615]; rfl] at h9; rcases h9 with h9 | ⟨v, h1, h2⟩; exact Or.inl h9; exact Or.inr ⟨v, h1, by omega, h2⟩) (lv_sub hl [0, 2, 3] rfl) hh
                · have n_1628 : j1621 = (wd * wd) := n_eq (a := j1621) (b := (wd * wd)) c_1628 (by omega) (by omega)
                  refine lv_iload_n hx hb dX12_findAt_77 rfl (lv_at hl 1 rfl) ?_
                  exact hp_iretR hx hb hr rfl hlocks hsz hh (Or.inr ⟨_, hv9b_1619, rfl⟩) dX12_findAt_78
              · refine lv_iinc (v := (nI (j1621 + 1))) (lv' := [(3, .int (nI (j1621 + 1))), (2, .int (nI v9_1619)), (0, .ref (ad 0)), (1, .int (nI n))]) hx hb dX12_findAt_58 hl (k := 0) rfl (nI_1 _) (by decide) rfl (fun ls hl => ?_)
                refine lv_goto (tgt := 19) hx hb dX12_findAt_61 (by decide) ?_
                exact ih_1621 ((j1621 + 1))  ls H locs (by omega) (by omega) (by omega)  (lv_sub hl [0, 1, 2, 3] rfl) hh
        exact loop_1621 ((wd * wd) + 1) 0  ls _ _ (Nat.le_refl _) (by omega) (by omega)  (lv_sub hl [0, 1, 2, 3] rfl) hh
  exact loop_1619 (P + 1) P (f_1614 S_1618) ls _ _ (by omega) (by have h9 := hCH.2.2.1 S_1618 (by omega); rw [show rdF (en 16) = f_1614 from by rw [es1614]; rfl] at h9; rcases h9 with h9 | ⟨v, h1, h2⟩; exact Or.inl h9; exact Or.inr ⟨v, h1, h1, h2⟩) (lv_sub hl [0, 1, 2] rfl) hh
theorem kw_X12_findAt {R : Room} {s : State} {args : Array Value} {own : String} {idx : Nat} (hts : ∀ w ∈ TB, w.before args s = true) (hl : Cond.methodLink own idx yX12_findAt ∈ TB) (hR : 1 + 1 ≤ R.frames ∧ 8 + (4 + 11) + 40 * 1 ≤ R.locals) : CallW R s args own RX12 idx yX12_findAt cX12_findAt 4 (some .int) (Cond.code yX12_findAt cX12_findAt 4 (some .int) :: TB) (rmN 1) 0 0 1 := cwV 1 hts (TB_V hl tw_1125 ts_51 tw_9 tw_1126) rfl rfl rfl (by decide +kernel) hR
set_option maxHeartbeats 4000000 in
set_option maxRecDepth 100000 in
/-- comes -/
theorem c_X12_comes (l : Launch) (D : va_G) (cy : Nat → ClassId) (sz : Nat) (cs : List Nat) (ad : Nat → Nat) (en : Nat → va_E) (hI : RX cy cs ad en) (n : Nat) (le9 : Int32) (hn : n ≤ 12) (P : Nat) (hCH : CH en P)   : Met l yX12_comes (Cond.code yX12_comes cX12_comes 5 (some .boolean) :: TB) (rmN 2) (va_Pc [.ref (ad 0), .int (nI n), .int le9] (Pre D cy cs ad en sz)) (va_Qi (S := Nat → va_E) (fun r en1 => RX cy cs ad en1 ∧ (∀ c, (c ≠ 0 ∧ c ≠ 14 ∧ c ≠ 15 ∧ c ≠ 16 ∧ c ≠ 17) → en1 c = en c) ∧ ((r = 0 ∧ CH en1 P) ∨ (r = 1 ∧ ∃ P1, CH en1 P1 ∧ P ≤ P1 ∧ 1 ≤ P1)) ∧ KPp en en1) (PostM D cs ad) (Af cs ad sz)) 0 0 (Af cs ad sz) := by
  refine Met.ofW (cc := cX12_comes) (maxL := 5) (ret := (some .boolean)) (by decide) rfl ?_
  intro p e s m args below meth c s₁ B hml hv
  obtain ⟨rfl, hsz, hP, hK, hD0⟩ := hv
  have hx := B.exec
  have hb := B.bytes
  have hr := B.returns
  have hts : ∀ w ∈ TB, w.before _ s = true := fun w h => atoms_spec (ws := _ :: TB) B.pre w (List.mem_cons_of_mem _ h)
  have hown : s.vm.findClass RX12 = some m.cls := findClass_of_methodNamed B.named
  have hlocks := B.notSynchronized
  have hh : Hp D (Af cs ad sz) (Af cs ad sz) s.heap s.heap [] cs ad en := ⟨hP, Af_self hD0, va_S.rf⟩
  have hA : ∀ q : Nat, s.heap.size ≤ q → Af cs ad sz q := fun q h => Or.inr (by rw [hsz] at h; exact h)
  have hl := lv_entry ([.ref (ad 0), .int (nI n), .int le9]) (n := 5) (Nat.le_of_ble_eq_true rfl)
  rw [lg_entry_eq]
  generalize (lg_sl ([.ref (ad 0), .int (nI n), .int le9]) ++ List.replicate (5 - (lg_sl ([.ref (ad 0), .int (nI n), .int le9])).length) Slot.unset).toArray = ls at hl ⊢
  have hl : lv_has ls 5 [(0, .ref (ad 0)), (1, .int (nI n)), (2, .int le9)] := hl
  have hf0 : ∀ c, (c ≠ 0 ∧ c ≠ 14 ∧ c ≠ 15 ∧ c ≠ 16 ∧ c ≠ 17) → en c = en c := fun _ _ => rfl
  obtain ⟨fa, hi, wd, mo, tb, dp, many, grt, lst, nou, rm, rb, pr, wo, es1629, hwd2, hwd3, hmo, htb, hwo⟩ := getr_M hI
  obtain ⟨f_1630, es1630⟩ := getr_hd hI
  obtain ⟨f_1631, es1631⟩ := getr_ch hI
  have hP9 := hCH.1
  have hww : wd * wd ≤ 9 := mww (by omega)
  have hfx_1632 : pr = nI P := (show pr = rdI (en 0) 25 from by rw [es1629]; rfl).trans (hCH.2.1)
  rw [hfx_1632] at es1629
  refine lv_iconst (v := 0) hx hb dX12_comes_0 (by decide) ?_
  refine lv_istore_n (lv' := [(3, .int 0), (0, .ref (ad 0)), (1, .int (nI n)), (2, .int le9)]) hx hb dX12_comes_1 rfl hl (by decide) rfl (fun ls hl => ?_)
  have loop_1633 : ∀ (fu j1633 : Nat)   (ls : Array Slot) (H : Heap) (locs : List Loc), 0 ≤ j1633 → j1633 ≤ (wd * wd) → (wd * wd) < j1633 + fu →   lv_has ls 5 [(3, .int (nI j1633)), (0, .ref (ad 0)), (1, .int (nI n)), (2, .int le9)] → Hp D (Af cs ad sz) (Af cs ad sz) s.heap H locs cs ad en → W p l e (headSpec (Cond.code yX12_comes cX12_comes 5 (some .boolean) :: TB) (rmN 2)).room s m ([.ref (ad 0), .int (nI n), .int le9] : List Value).toArray below meth c H locs 0 0 (MQ below (va_Qi (S := Nat → va_E) (fun r en1 => RX cy cs ad en1 ∧ (∀ c, (c ≠ 0 ∧ c ≠ 14 ∧ c ≠ 15 ∧ c ≠ 16 ∧ c ≠ 17) → en1 c = en c) ∧ ((r = 0 ∧ CH en1 P) ∨ (r = 1 ∧ ∃ P1, CH en1 P1 ∧ P ≤ P1 ∧ 1 ≤ P1)) ∧ KPp en en1) (PostM D cs ad) (Af cs ad sz)) ([.ref (ad 0), .int (nI n), .int le9] : List Value).toArray s 0 0 (Af cs ad sz)) (F0 m 2 ls []) := by
    intro fu
    induction fu with
    | zero => intro j1633  ls H locs h0 h1 h2; exact absurd h2 (by omega)
    | succ fu ih_1633 =>
      intro j1633  ls H locs hj0_1633 hj_1633 hfu_1633  hl hh
      refine lv_iload_n hx hb dX12_comes_2 rfl (lv_at hl 0 rfl) ?_
      refine lv_aload_n hx hb dX12_comes_3 rfl (lv_at hl 1 rfl) ?_
      refine hp_get hx hb hts ix12 hown hK hh (q := 0) rfl (hI.1 _ (by decide)) es1629 rfl 2 (by decide) (hts _ tw_881) (fun _ h9 => h9) rfl dX12_comes_4 ?_
      refine lv_aload_n hx hb dX12_comes_7 rfl (lv_at hl 1 rfl) ?_
      refine hp_get hx hb hts ix12 hown hK hh (q := 0) rfl (hI.1 _ (by decide)) es1629 rfl 2 (by decide) (hts _ tw_881) (fun _ h9 => h9) rfl dX12_comes_8 ?_
      refine lv_imul hx hb dX12_comes_11 ?_
      rw [pk_mul wd wd]
      have hw2_1634 : wd * wd ≤ 9 := mww (by omega)
      refine lv_icmp_ge (tgt := 46) hx hb dX12_comes_12 (by decide) (fun c_1635 => ?_) (fun c_1635 => ?_)
      · have n_1635 : (wd * wd) ≤ j1633 := n_le (a := (wd * wd)) (b := j1633) c_1635 (by omega) (by omega)
        refine lv_aload_n hx hb dX12_comes_46 rfl (lv_at hl 1 rfl) ?_
        refine lv_iload_n hx hb dX12_comes_47 rfl (lv_at hl 2 rfl) ?_
        refine hp_callRi (va_runV (As := [.int (nI n)]) (rest := []) ⟨hx, hb, hml, hown, hts⟩ (c_X12_findAt l D cy _ cs ad en hI n (by omega) P hCH) (kw_X12_findAt hts tw_1123 ⟨by decide, by decide⟩) (preV_of hh hK (hI.1 _ (by decide)) es1629 rfl) rfl rfl hl.1 rfl (lv_room (Nat.le_of_ble_eq_true rfl)) dX12_comes_48 ⟨Nat.le_of_ble_eq_true rfl, Nat.le_of_ble_eq_true rfl⟩) hh hA (fun r_1636 H locs hw_1636 hh => ?_)
        rcases hw_1636 with hb_1636 | ⟨F_1636, hF_1636, hb_1636⟩
        · obtain rfl : r_1636 = (-9) := hb_1636
          refine lv_bipush (v := (-9)) hx hb dX12_comes_51 (by decide) ?_
          refine lv_icmp_eq (tgt := 58) hx hb dX12_comes_53 (by decide) (fun _ => ?_) (fun c_0 => absurd c_0 (by decide))
          refine lv_aload_n hx hb dX12_comes_58 rfl (lv_at hl 1 rfl) ?_
          refine hp_get hx hb hts ix12 hown hK hh (q := 0) rfl (hI.1 _ (by decide)) es1629 rfl 25 (by decide) (hts _ tw_904) (fun _ h9 => h9) rfl dX12_comes_59 ?_
          refine lv_sipush (v := 2000) hx hb dX12_comes_62 (by decide) ?_
          refine lv_icmp_ne (tgt := 70) hx hb dX12_comes_65 (by decide) (fun c_1637 => ?_) (fun c_1637 => ?_)
          · have n_1637 : P ≠ 2000 := n_neq (a := P) (b := 2000) c_1637 (by omega) (by decide)
            refine lv_aload_n hx hb dX12_comes_70 rfl (lv_at hl 1 rfl) ?_
            refine lv_iload_n hx hb dX12_comes_71 rfl (lv_at hl 2 rfl) ?_
            refine hp_callRi (va_runV (As := [.int (nI n)]) (rest := []) ⟨hx, hb, hml, hown, hts⟩ (c_X12_chainOf l D cy _ cs ad en hI n (by omega)) (kw_X12_chainOf hts tw_1127 ⟨by decide, by decide⟩) (preV_of hh hK (hI.1 _ (by decide)) es1629 rfl) rfl rfl hl.1 rfl (lv_room (Nat.le_of_ble_eq_true rfl)) dX12_comes_72 ⟨Nat.le_of_ble_eq_true rfl, Nat.le_of_ble_eq_true rfl⟩) hh hA (fun r_1638 H locs hw_1638 hh => ?_)
            obtain ⟨S_1638, hS_1638, rfl⟩ := hw_1638
            refine lv_istore_n (lv' := [(3, .int (nI S_1638)), (0, .ref (ad 0)), (1, .int (nI n)), (2, .int le9)]) hx hb dX12_comes_75 rfl hl (by decide) rfl (fun ls hl => ?_)
            refine lv_iconst (v := 0) hx hb dX12_comes_76 (by decide) ?_
            refine lv_istore (lv' := [(4, .int 0), (3, .int (nI S_1638)), (0, .ref (ad 0)), (1, .int (nI n)), (2, .int le9)]) hx hb dX12_comes_77 hl (by decide) rfl (fun ls hl => ?_)
            have loop_1639 : ∀ (fu j1639 : Nat)  (en_1639 : Nat → va_E) (ls : Array Slot) (H : Heap) (locs : List Loc), 0 ≤ j1639 → j1639 ≤ (wd * wd) → (wd * wd) < j1639 + fu → RX cy cs ad en_1639 → (∀ c, (c ≠ 0 ∧ c ≠ 14 ∧ c ≠ 15 ∧ c ≠ 16 ∧ c ≠ 17) → en_1639 c = en c) → (rdI (en_1639 0) 25 = nI P) → (KPp en en_1639) → (en_1639 16 = en 16) → (en_1639 17 = en 17) → lv_has ls 5 [(4, .int (nI j1639)), (3, .int (nI S_1638)), (0, .ref (ad 0)), (1, .int (nI n)), (2, .int le9)] → Hp D (Af cs ad sz) (Af cs ad sz) s.heap H locs cs ad en_1639 → W p l e (headSpec (Cond.code yX12_comes cX12_comes 5 (some .boolean) :: TB) (rmN 2)).room s m ([.ref (ad 0), .int (nI n), .int le9] : List Value).toArray below meth c H locs 0 0 (MQ below (va_Qi (S := Nat → va_E) (fun r en1 => RX cy cs ad en1 ∧ (∀ c, (c ≠ 0 ∧ c ≠ 14 ∧ c ≠ 15 ∧ c ≠ 16 ∧ c ≠ 17) → en1 c = en c) ∧ ((r = 0 ∧ CH en1 P) ∨ (r = 1 ∧ ∃ P1, CH en1 P1 ∧ P ≤ P1 ∧ 1 ≤ P1)) ∧ KPp en en1) (PostM D cs ad) (Af cs ad sz)) ([.ref (ad 0), .int (nI n), .int le9] : List Value).toArray s 0 0 (Af cs ad sz)) (F0 m 79 ls []) := by
              intro fu
              induction fu with
              | zero => intro j1639  en_1639 ls H locs h0 h1 h2; exact absurd h2 (by omega)
              | succ fu ih_1639 =>
                intro j1639  en_1639 ls H locs hj0_1639 hj_1639 hfu_1639 hI_1639 hf_1639 i0_1639 i1_1639 i2_1639 i3_1639 hl hh
                refine lv_iload hx hb dX12_comes_79 (lv_at hl 0 rfl) ?_
                refine lv_aload_n hx hb dX12_comes_81 rfl (lv_at hl 2 rfl) ?_
                obtain ⟨fa_1640, hi_1640, wd_1640, mo_1640, tb_1640, dp_1640, many_1640, grt_1640, lst_1640, nou_1640, rm_1640, rb_1640, pr_1640, wo_1640, es1640, p0_1640, p1_1640, p2_1640, p3_1640, p4_1640⟩ := getr_M hI_1639
                have hfx_1641 : pr_1640 = nI P := (show pr_1640 = rdI (en_1639 0) 25 from by rw [es1640]; rfl).trans (i0_1639)
                rw [hfx_1641] at es1640
                have hq2_1642 : wd_1640 = wd := n_eq ((show nI wd_1640 = rdI (en_1639 0) 2 from by rw [es1640]; rfl).trans (i1_1639.2.1.trans (show rdI (en 0) 2 = nI wd from by rw [es1629]; rfl))) (by omega) (by omega)
                have hq3_1642 : mo_1640 = mo := n_eq ((show nI mo_1640 = rdI (en_1639 0) 3 from by rw [es1640]; rfl).trans (i1_1639.2.2.1.trans (show rdI (en 0) 3 = nI mo from by rw [es1629]; rfl))) (by omega) (by omega)
                have hq4_1642 : tb_1640 = tb := n_eq ((show nI tb_1640 = rdI (en_1639 0) 4 from by rw [es1640]; rfl).trans (i1_1639.2.2.2.1.trans (show rdI (en 0) 4 = nI tb from by rw [es1629]; rfl))) (by omega) (by omega)
                have hq30_1642 : wo_1640 = wo := n_eq ((show nI wo_1640 = rdI (en_1639 0) 30 from by rw [es1640]; rfl).trans (i1_1639.2.2.2.2.trans (show rdI (en 0) 30 = nI wo from by rw [es1629]; rfl))) (by omega) (by omega)
                rw [hq2_1642, hq3_1642, hq4_1642, hq30_1642] at es1640
                refine hp_get hx hb hts ix12 hown hK hh (q := 0) rfl (hI.1 _ (by decide)) es1640 rfl 2 (by decide) (hts _ tw_881) (fun _ h9 => h9) rfl dX12_comes_82 ?_
                refine lv_aload_n hx hb dX12_comes_85 rfl (lv_at hl 2 rfl) ?_
                refine hp_get hx hb hts ix12 hown hK hh (q := 0) rfl (hI.1 _ (by decide)) es1640 rfl 2 (by decide) (hts _ tw_881) (fun _ h9 => h9) rfl dX12_comes_86 ?_
                refine lv_imul hx hb dX12_comes_89 ?_
                rw [pk_mul wd wd]
                have hw2_1643 : wd * wd ≤ 9 := mww (by omega)
                refine lv_icmp_ge (tgt := 126) hx hb dX12_comes_90 (by decide) (fun c_1644 => ?_) (fun c_1644 => ?_)
                · have n_1644 : (wd * wd) ≤ j1639 := n_le (a := (wd * wd)) (b := j1639) c_1644 (by omega) (by omega)
                  refine lv_aload_n hx hb dX12_comes_126 rfl (lv_at hl 2 rfl) ?_
                  refine hp_get hx hb hts ix12 hown hK hh (q := 0) rfl (hI.1 _ (by decide)) es1640 rfl 27 (by decide) (hts _ tw_906) (fun _ h9 => h9) rfl dX12_comes_127 ?_
                  refine lv_aload_n hx hb dX12_comes_130 rfl (lv_at hl 2 rfl) ?_
                  refine hp_get hx hb hts ix12 hown hK hh (q := 0) rfl (hI.1 _ (by decide)) es1640 rfl 25 (by decide) (hts _ tw_904) (fun _ h9 => h9) rfl dX12_comes_131 ?_
                  refine lv_iload_n hx hb dX12_comes_134 rfl (lv_at hl 4 rfl) ?_
                  obtain ⟨f_1645, es1645⟩ := getr_ln hI_1639
                  refine hp_iast hx hb hK hh (q := 15) rfl (hI.1 _ (by decide)) es1645 (vp_in_nI (n := P) (by omega) (by decide)) dX12_comes_135 (fun H locs en_1646 hen_1646 hh => ?_)
                  rw [nI_clamp (n := P) (by omega)] at hen_1646
                  have es1640_1646 : en_1646 0 = .inr (11, [.int fa_1640, .int hi_1640, .int (nI wd), .int (nI mo), .int (nI tb), .ref (ad 1), .ref (ad 2), .ref (ad 3), .ref (ad 4), .ref (ad 5), .ref (ad 6), .ref (ad 7), .ref (ad 8), .ref (ad 9), .int dp_1640, .long many_1640, .long grt_1640, .long lst_1640, .long nou_1640, .ref (ad 10), .ref (ad 11), .ref (ad 12), .int rm_1640, .long rb_1640, .ref (ad 13), .int (nI P), .ref (ad 14), .ref (ad 15), .ref (ad 16), .ref (ad 17), .int (nI wo), .ref (ad 18), .ref (ad 19)]) := by rw [hen_1646, va_up_ne _ _ (by decide)]; exact es1640
                  have es1645_1646 : en_1646 15 = .inl (cy 0, 2001, .inl (upd f_1645 P le9)) := by rw [hen_1646]; exact va_up_self _ _ _
                  have hI_1646 : RX cy cs ad en_1646 := by rw [hen_1646]; exact upr_ln hI_1639 ⟨(upd f_1645 P le9), rfl⟩
                  have hf_1646 : ∀ c, (c ≠ 0 ∧ c ≠ 14 ∧ c ≠ 15 ∧ c ≠ 16 ∧ c ≠ 17) → en_1646 c = en c := fun c hc => Eq.trans (show en_1646 c = en_1639 c from by rw [hen_1646, va_up_ne _ _ (by omega)]) (hf_1639 c hc)
                  have hkc16_1646 : en_1646 16 = en 16 := (show en_1646 16 = en_1639 16 from by rw [hen_1646, va_up_ne _ _ (by decide)]).trans i2_1639
                  have hkc17_1646 : en_1646 17 = en 17 := (show en_1646 17 = en_1639 17 from by rw [hen_1646, va_up_ne _ _ (by decide)]).trans i3_1639
                  have hkp_1646 : KPp en en_1646 := KPp_same i1_1639 (show en_1646 0 = en_1639 0 from by rw [hen_1646, va_up_ne _ _ (by decide)])
                  refine lv_aload_n hx hb dX12_comes_136 rfl (lv_at hl 2 rfl) ?_
                  refine hp_get hx hb hts ix12 hown hK hh (q := 0) rfl (hI.1 _ (by decide)) es1640_1646 rfl 29 (by decide) (hts _ tw_908) (fun _ h9 => h9) rfl dX12_comes_137 ?_
                  refine lv_aload_n hx hb dX12_comes_140 rfl (lv_at hl 2 rfl) ?_
                  refine hp_get hx hb hts ix12 hown hK hh (q := 0) rfl (hI.1 _ (by decide)) es1640_1646 rfl 25 (by decide) (hts _ tw_904) (fun _ h9 => h9) rfl dX12_comes_141 ?_
                  refine lv_aload_n hx hb dX12_comes_144 rfl (lv_at hl 2 rfl) ?_
                  refine hp_get hx hb hts ix12 hown hK hh (q := 0) rfl (hI.1 _ (by decide)) es1640_1646 rfl 28 (by decide) (hts _ tw_907) (fun _ h9 => h9) rfl dX12_comes_145 ?_
                  refine lv_iload_n hx hb dX12_comes_148 rfl (lv_at hl 1 rfl) ?_
                  have es1630_1647 : en_1646 16 = .inl (cy 0, 4096, .inl f_1630) := hkc16_1646.trans es1630
                  refine hp_iald hx hb hK hh (q := 16) rfl (hI.1 _ (by decide)) es1630_1647 (vp_in_nI (n := S_1638) (by omega) (by decide)) dX12_comes_149 ?_
                  rw [nI_clamp (n := S_1638) (by omega)]
                  have es1631_1648 : en_1646 17 = .inl (cy 0, 2001, .inl f_1631) := hkc17_1646.trans es1631
                  refine hp_iast hx hb hK hh (q := 17) rfl (hI.1 _ (by decide)) es1631_1648 (vp_in_nI (n := P) (by omega) (by decide)) dX12_comes_150 (fun H locs en_1649 hen_1649 hh => ?_)
                  rw [nI_clamp (n := P) (by omega)] at hen_1649
                  have es1640_1649 : en_1649 0 = .inr (11, [.int fa_1640, .int hi_1640, .int (nI wd), .int (nI mo), .int (nI tb), .ref (ad 1), .ref (ad 2), .ref (ad 3), .ref (ad 4), .ref (ad 5), .ref (ad 6), .ref (ad 7), .ref (ad 8), .ref (ad 9), .int dp_1640, .long many_1640, .long grt_1640, .long lst_1640, .long nou_1640, .ref (ad 10), .ref (ad 11), .ref (ad 12), .int rm_1640, .long rb_1640, .ref (ad 13), .int (nI P), .ref (ad 14), .ref (ad 15), .ref (ad 16), .ref (ad 17), .int (nI wo), .ref (ad 18), .ref (ad 19)]) := by rw [hen_1649, va_up_ne _ _ (by decide)]; exact es1640_1646
                  have es1645_1649 : en_1649 15 = .inl (cy 0, 2001, .inl (upd f_1645 P le9)) := by rw [hen_1649, va_up_ne _ _ (by decide)]; exact es1645_1646
                  have es1630_1649 : en_1649 16 = .inl (cy 0, 4096, .inl f_1630) := by rw [hen_1649, va_up_ne _ _ (by decide)]; exact es1630_1647
                  have es1631_1649 : en_1649 17 = .inl (cy 0, 2001, .inl (upd f_1631 P (f_1630 S_1638))) := by rw [hen_1649]; exact va_up_self _ _ _
                  have hI_1649 : RX cy cs ad en_1649 := by rw [hen_1649]; exact upr_ch hI_1646 ⟨(upd f_1631 P (f_1630 S_1638)), rfl⟩
                  have hf_1649 : ∀ c, (c ≠ 0 ∧ c ≠ 14 ∧ c ≠ 15 ∧ c ≠ 16 ∧ c ≠ 17) → en_1649 c = en c := fun c hc => Eq.trans (show en_1649 c = en_1646 c from by rw [hen_1649, va_up_ne _ _ (by omega)]) (hf_1646 c hc)
                  have hkc16_1649 : en_1649 16 = en 16 := (show en_1649 16 = en_1646 16 from by rw [hen_1649, va_up_ne _ _ (by decide)]).trans hkc16_1646
                  have hkp_1649 : KPp en en_1649 := KPp_same hkp_1646 (show en_1649 0 = en_1646 0 from by rw [hen_1649, va_up_ne _ _ (by decide)])
                  refine lv_aload_n hx hb dX12_comes_151 rfl (lv_at hl 2 rfl) ?_
                  refine hp_get hx hb hts ix12 hown hK hh (q := 0) rfl (hI.1 _ (by decide)) es1640_1649 rfl 28 (by decide) (hts _ tw_907) (fun _ h9 => h9) rfl dX12_comes_152 ?_
                  refine lv_iload_n hx hb dX12_comes_155 rfl (lv_at hl 1 rfl) ?_
                  refine lv_aload_n hx hb dX12_comes_156 rfl (lv_at hl 2 rfl) ?_
                  refine hp_get hx hb hts ix12 hown hK hh (q := 0) rfl (hI.1 _ (by decide)) es1640_1649 rfl 25 (by decide) (hts _ tw_904) (fun _ h9 => h9) rfl dX12_comes_157 ?_
                  refine hp_iast hx hb hK hh (q := 16) rfl (hI.1 _ (by decide)) es1630_1649 (vp_in_nI (n := S_1638) (by omega) (by decide)) dX12_comes_160 (fun H locs en_1650 hen_1650 hh => ?_)
                  rw [nI_clamp (n := S_1638) (by omega)] at hen_1650
                  have es1640_1650 : en_1650 0 = .inr (11, [.int fa_1640, .int hi_1640, .int (nI wd), .int (nI mo), .int (nI tb), .ref (ad 1), .ref (ad 2), .ref (ad 3), .ref (ad 4), .ref (ad 5), .ref (ad 6), .ref (ad 7), .ref (ad 8), .ref (ad 9), .int dp_1640, .long many_1640, .long grt_1640, .long lst_1640, .long nou_1640, .ref (ad 10), .ref (ad 11), .ref (ad 12), .int rm_1640, .long rb_1640, .ref (ad 13), .int (nI P), .ref (ad 14), .ref (ad 15), .ref (ad 16), .ref (ad 17), .int (nI wo), .ref (ad 18), .ref (ad 19)]) := by rw [hen_1650, va_up_ne _ _ (by decide)]; exact es1640_1649
                  have es1645_1650 : en_1650 15 = .inl (cy 0, 2001, .inl (upd f_1645 P le9)) := by rw [hen_1650, va_up_ne _ _ (by decide)]; exact es1645_1649
                  have es1631_1650 : en_1650 17 = .inl (cy 0, 2001, .inl (upd f_1631 P (f_1630 S_1638))) := by rw [hen_1650, va_up_ne _ _ (by decide)]; exact es1631_1649
                  have es1630_1650 : en_1650 16 = .inl (cy 0, 4096, .inl (upd f_1630 S_1638 (nI P))) := by rw [hen_1650]; exact va_up_self _ _ _
                  have hI_1650 : RX cy cs ad en_1650 := by rw [hen_1650]; exact upr_hd hI_1649 ⟨(upd f_1630 S_1638 (nI P)), rfl⟩
                  have hf_1650 : ∀ c, (c ≠ 0 ∧ c ≠ 14 ∧ c ≠ 15 ∧ c ≠ 16 ∧ c ≠ 17) → en_1650 c = en c := fun c hc => Eq.trans (show en_1650 c = en_1649 c from by rw [hen_1650, va_up_ne _ _ (by omega)]) (hf_1649 c hc)
                  have hkp_1650 : KPp en en_1650 := KPp_same hkp_1649 (show en_1650 0 = en_1649 0 from by rw [hen_1650, va_up_ne _ _ (by decide)])
                  refine lv_aload_n hx hb dX12_comes_161 rfl (lv_at hl 2 rfl) ?_
                  refine lv_dup hx hb dX12_comes_162 rfl ?_
                  refine hp_get hx hb hts ix12 hown hK hh (q := 0) rfl (hI.1 _ (by decide)) es1640_1650 rfl 25 (by decide) (hts _ tw_904) (fun _ h9 => h9) rfl dX12_comes_163 ?_
                  refine lv_iconst (v := 1) hx hb dX12_comes_166 (by decide) ?_
                  refine lv_iadd hx hb dX12_comes_167 ?_
                  rw [show (1 : Int32) = nI 1 from rfl, nI_add P 1]
                  refine hp_put hx hb hts ix12 tyX12 tyX12_ok nmX12 hown hK hh (q := 0) rfl (hI.1 _ (by decide)) es1640_1650 rfl 25 (by decide) (hts _ tw_904) (fun _ h9 => h9) rfl (ty := .int) (by decide +kernel) rfl rfl (Nat.le_of_ble_eq_true rfl) dX12_comes_168 (fun H locs en_1651 hen_1651 hh => ?_)
                  have es1645_1651 : en_1651 15 = .inl (cy 0, 2001, .inl (upd f_1645 P le9)) := by rw [hen_1651, va_up_ne _ _ (by decide)]; exact es1645_1650
                  have es1631_1651 : en_1651 17 = .inl (cy 0, 2001, .inl (upd f_1631 P (f_1630 S_1638))) := by rw [hen_1651, va_up_ne _ _ (by decide)]; exact es1631_1650
                  have es1630_1651 : en_1651 16 = .inl (cy 0, 4096, .inl (upd f_1630 S_1638 (nI P))) := by rw [hen_1651, va_up_ne _ _ (by decide)]; exact es1630_1650
                  have es1640_1651 : en_1651 0 = .inr (11, [.int fa_1640, .int hi_1640, .int (nI wd), .int (nI mo), .int (nI tb), .ref (ad 1), .ref (ad 2), .ref (ad 3), .ref (ad 4), .ref (ad 5), .ref (ad 6), .ref (ad 7), .ref (ad 8), .ref (ad 9), .int dp_1640, .long many_1640, .long grt_1640, .long lst_1640, .long nou_1640, .ref (ad 10), .ref (ad 11), .ref (ad 12), .int rm_1640, .long rb_1640, .ref (ad 13), .int (nI (P + 1)), .ref (ad 14), .ref (ad 15), .ref (ad 16), .ref (ad 17), .int (nI wo), .ref (ad 18), .ref (ad 19)]) := by rw [hen_1651]; exact va_up_self _ _ _
                  have hI_1651 : RX cy cs ad en_1651 := by rw [hen_1651]; exact upr_M hI_1650 ⟨fa_1640, hi_1640, wd, mo, tb, dp_1640, many_1640, grt_1640, lst_1640, nou_1640, rm_1640, rb_1640, (nI (P + 1)), wo, rfl, hwd2, hwd3, hmo, htb, hwo⟩
                  have hf_1651 : ∀ c, (c ≠ 0 ∧ c ≠ 14 ∧ c ≠ 15 ∧ c ≠ 16 ∧ c ≠ 17) → en_1651 c = en c := fun c hc => Eq.trans (show en_1651 c = en_1650 c from by rw [hen_1651, va_up_ne _ _ (by omega)]) (hf_1650 c hc)
                  have hkp_1651 : KPp en en_1651 := KPp_fv hkp_1650 es1640_1650 es1640_1651 hi_1640 (nI wd) (nI mo) (nI tb) (nI wo) rfl rfl rfl rfl rfl rfl rfl rfl rfl rfl
                  refine lv_iconst (v := 1) hx hb dX12_comes_171 (by decide) ?_
                  exact hp_iretM hx hb hr rfl hlocks hh (⟨hI_1651, hf_1651, Or.inr ⟨rfl, P + 1, CH_add hCH (by omega) hS_1638 (h := f_1630) (c := f_1631) (by rw [es1630]; rfl) (by rw [es1631]; rfl) (by rw [es1640_1651]; rfl) (by rw [es1630_1651]; rfl) (by rw [es1631_1651]; rfl), by omega, by omega⟩, hkp_1651⟩) dX12_comes_172
                · have n_1644 : j1639 < (wd * wd) := n_nle (a := (wd * wd)) (b := j1639) c_1644 (by omega) (by omega)
                  refine lv_aload_n hx hb dX12_comes_93 rfl (lv_at hl 2 rfl) ?_
                  refine hp_get hx hb hts ix12 hown hK hh (q := 0) rfl (hI.1 _ (by decide)) es1640 rfl 26 (by decide) (hts _ tw_905) (fun _ h9 => h9) rfl dX12_comes_94 ?_
                  refine lv_bipush (v := 9) hx hb dX12_comes_97 (by decide) ?_
                  refine lv_aload_n hx hb dX12_comes_99 rfl (lv_at hl 2 rfl) ?_
                  refine hp_get hx hb hts ix12 hown hK hh (q := 0) rfl (hI.1 _ (by decide)) es1640 rfl 25 (by decide) (hts _ tw_904) (fun _ h9 => h9) rfl dX12_comes_100 ?_
                  refine lv_imul hx hb dX12_comes_103 ?_
                  rw [show (9 : Int32) = nI 9 from rfl, pk_mul 9 P]
                  refine lv_iload hx hb dX12_comes_104 (lv_at hl 0 rfl) ?_
                  refine lv_iadd hx hb dX12_comes_106 ?_
                  rw [nI_add (9 * P) j1639]
                  refine lv_aload_n hx hb dX12_comes_107 rfl (lv_at hl 2 rfl) ?_
                  refine hp_get hx hb hts ix12 hown hK hh (q := 0) rfl (hI.1 _ (by decide)) es1640 rfl 10 (by decide) (hts _ tw_889) (fun _ h9 => h9) rfl dX12_comes_108 ?_
                  refine lv_bipush (v := 9) hx hb dX12_comes_111 (by decide) ?_
                  refine lv_iload_n hx hb dX12_comes_113 rfl (lv_at hl 3 rfl) ?_
                  refine lv_imul hx hb dX12_comes_114 ?_
                  rw [show (9 : Int32) = nI 9 from rfl, pk_mul 9 n]
                  refine lv_iload hx hb dX12_comes_115 (lv_at hl 0 rfl) ?_
                  refine lv_iadd hx hb dX12_comes_117 ?_
                  rw [nI_add (9 * n) j1639]
                  obtain ⟨f_1652, es1652⟩ := getr_lv hI_1639
                  refine hp_lald hx hb hK hh (q := 6) rfl (hI.1 _ (by decide)) es1652 (vp_in_nI (n := ((9 * n) + j1639)) (by omega) (by decide)) dX12_comes_118 ?_
                  rw [nI_clamp (n := ((9 * n) + j1639)) (by omega)]
                  obtain ⟨f_1653, es1653⟩ := getr_pd hI_1639
                  refine hp_last hx hb hK hh (q := 14) rfl (hI.1 _ (by decide)) es1653 (vp_in_nI (n := ((9 * P) + j1639)) (by omega) (by decide)) dX12_comes_119 (fun H locs en_1654 hen_1654 hh => ?_)
                  rw [nI_clamp (n := ((9 * P) + j1639)) (by omega)] at hen_1654
                  have es1640_1654 : en_1654 0 = .inr (11, [.int fa_1640, .int hi_1640, .int (nI wd), .int (nI mo), .int (nI tb), .ref (ad 1), .ref (ad 2), .ref (ad 3), .ref (ad 4), .ref (ad 5), .ref (ad 6), .ref (ad 7), .ref (ad 8), .ref (ad 9), .int dp_1640, .long many_1640, .long grt_1640, .long lst_1640, .long nou_1640, .ref (ad 10), .ref (ad 11), .ref (ad 12), .int rm_1640, .long rb_1640, .ref (ad 13), .int (nI P), .ref (ad 14), .ref (ad 15), .ref (ad 16), .ref (ad 17), .int (nI wo), .ref (ad 18), .ref (ad 19)]) := by rw [hen_1654, va_up_ne _ _ (by decide)]; exact es1640
                  have es1652_1654 : en_1654 6 = .inl (cy 1, 117, .inr (.inl f_1652)) := by rw [hen_1654, va_up_ne _ _ (by decide)]; exact es1652
                  have es1653_1654 : en_1654 14 = .inl (cy 1, 18009, .inr (.inl (vp_updL f_1653 ((9 * P) + j1639) (f_1652 ((9 * n) + j1639))))) := by rw [hen_1654]; exact va_up_self _ _ _
                  have hI_1654 : RX cy cs ad en_1654 := by rw [hen_1654]; exact upr_pd hI_1639 ⟨(vp_updL f_1653 ((9 * P) + j1639) (f_1652 ((9 * n) + j1639))), rfl⟩
                  have hf_1654 : ∀ c, (c ≠ 0 ∧ c ≠ 14 ∧ c ≠ 15 ∧ c ≠ 16 ∧ c ≠ 17) → en_1654 c = en c := fun c hc => Eq.trans (show en_1654 c = en_1639 c from by rw [hen_1654, va_up_ne _ _ (by omega)]) (hf_1639 c hc)
                  have hkc16_1654 : en_1654 16 = en 16 := (show en_1654 16 = en_1639 16 from by rw [hen_1654, va_up_ne _ _ (by decide)]).trans i2_1639
                  have hkc17_1654 : en_1654 17 = en 17 := (show en_1654 17 = en_1639 17 from by rw [hen_1654, va_up_ne _ _ (by decide)]).trans i3_1639
                  have hkp_1654 : KPp en en_1654 := KPp_same i1_1639 (show en_1654 0 = en_1639 0 from by rw [hen_1654, va_up_ne _ _ (by decide)])
                  refine lv_iinc (v := (nI (j1639 + 1))) (lv' := [(4, .int (nI (j1639 + 1))), (3, .int (nI S_1638)), (0, .ref (ad 0)), (1, .int (nI n)), (2, .int le9)]) hx hb dX12_comes_120 hl (k := 0) rfl (nI_1 _) (by decide) rfl (fun ls hl => ?_)
                  refine lv_goto (tgt := 79) hx hb dX12_comes_123 (by decide) ?_
                  exact ih_1639 ((j1639 + 1))  en_1654 ls H locs (by omega) (by omega) (by omega) hI_1654 hf_1654 (by rw [es1640_1654]; rfl) (hkp_1654) (hkc16_1654) (hkc17_1654) (lv_sub hl [0, 1, 2, 3, 4] rfl) hh
            exact loop_1639 ((wd * wd) + 1) 0  en ls _ _ (Nat.le_refl _) (by omega) (by omega) hI hf0 (by rw [es1629]; rfl) ((KPp_rf en)) (rfl) (rfl) (lv_sub hl [0, 1, 2, 3, 4] rfl) hh
          · have n_1637 : P = 2000 := n_eq (a := P) (b := 2000) c_1637 (by omega) (by decide)
            refine lv_iconst (v := 0) hx hb dX12_comes_68 (by decide) ?_
            exact hp_iretM hx hb hr rfl hlocks hh (⟨hI, hf0, Or.inl ⟨rfl, hCH⟩, (KPp_rf en)⟩) dX12_comes_69
        · obtain rfl : r_1636 = nI F_1636 := hb_1636
          have hn9_1636 : ¬ nI F_1636 = (-9 : Int32) := nI_n9 (by have h9 := hCH.1; omega)
          refine lv_bipush (v := (-9)) hx hb dX12_comes_51 (by decide) ?_
          refine lv_icmp_eq (tgt := 58) hx hb dX12_comes_53 (by decide) (fun c_0 => absurd c_0 (hn9_1636)) (fun _ => ?_)
          refine lv_iconst (v := 1) hx hb dX12_comes_56 (by decide) ?_
          exact hp_iretM hx hb hr rfl hlocks hh (⟨hI, hf0, Or.inr ⟨rfl, P, hCH, Nat.le_refl _, by have h9 := hF_1636; omega⟩, (KPp_rf en)⟩) dX12_comes_57
      · have n_1635 : j1633 < (wd * wd) := n_nle (a := (wd * wd)) (b := j1633) c_1635 (by omega) (by omega)
        refine lv_aload_n hx hb dX12_comes_15 rfl (lv_at hl 1 rfl) ?_
        refine hp_get hx hb hts ix12 hown hK hh (q := 0) rfl (hI.1 _ (by decide)) es1629 rfl 10 (by decide) (hts _ tw_889) (fun _ h9 => h9) rfl dX12_comes_16 ?_
        refine lv_bipush (v := 9) hx hb dX12_comes_19 (by decide) ?_
        refine lv_iload_n hx hb dX12_comes_21 rfl (lv_at hl 2 rfl) ?_
        refine lv_imul hx hb dX12_comes_22 ?_
        rw [show (9 : Int32) = nI 9 from rfl, pk_mul 9 n]
        refine lv_iload_n hx hb dX12_comes_23 rfl (lv_at hl 0 rfl) ?_
        refine lv_iadd hx hb dX12_comes_24 ?_
        rw [nI_add (9 * n) j1633]
        obtain ⟨f_1655, es1655⟩ := getr_lv hI
        refine hp_lald hx hb hK hh (q := 6) rfl (hI.1 _ (by decide)) es1655 (vp_in_nI (n := ((9 * n) + j1633)) (by omega) (by decide)) dX12_comes_25 ?_
        rw [nI_clamp (n := ((9 * n) + j1633)) (by omega)]
        refine lv_ldc2 hx hb hown (hts _ tw_1121) dX12_comes_26 ?_
        refine lv_ldc2 hx hb hown (hts _ tw_1122) dX12_comes_29 ?_
        refine hp_callRi (va_runS (As := [.long (f_1655 ((9 * n) + j1633)), .long (-1000000), .long 1000000]) (rest := []) ⟨hx, hb, hml, hown, hts⟩ (c_X12_within l D cy _ cs ad en (f_1655 ((9 * n) + j1633)) (-1000000) 1000000) (kw_X12_within hts tw_985 ⟨by decide, by decide⟩) (preS_of hh hK) rfl rfl hl.1 rfl (lv_room (Nat.le_of_ble_eq_true rfl)) dX12_comes_32 ⟨Nat.le_of_ble_eq_true rfl, Nat.le_of_ble_eq_true rfl⟩) hh hA (fun r_1656 H locs hw_1656 hh => ?_)
        rcases Decidable.em (wj (f_1655 ((9 * n) + j1633)) (-1000000) 1000000) with hp_1656 | hp_1656
        · obtain rfl : r_1656 = 1 := Eq.trans hw_1656 (if_pos hp_1656)
          refine lv_if_ne (tgt := 40) hx hb dX12_comes_35 (by decide) (fun _ => ?_) (fun c_0 => absurd c_0 (by decide))
          refine lv_iinc (v := (nI (j1633 + 1))) (lv' := [(3, .int (nI (j1633 + 1))), (0, .ref (ad 0)), (1, .int (nI n)), (2, .int le9)]) hx hb dX12_comes_40 hl (k := 0) rfl (nI_1 _) (by decide) rfl (fun ls hl => ?_)
          refine lv_goto (tgt := 2) hx hb dX12_comes_43 (by decide) ?_
          exact ih_1633 ((j1633 + 1))  ls H locs (by omega) (by omega) (by omega)  (lv_sub hl [0, 1, 2, 3] rfl) hh
        · obtain rfl : r_1656 = 0 := Eq.trans hw_1656 (if_neg hp_1656)
          refine lv_if_ne (tgt := 40) hx hb dX12_comes_35 (by decide) (fun c_0 => absurd c_0 (by decide)) (fun _ => ?_)
          refine lv_iconst (v := 0) hx hb dX12_comes_38 (by decide) ?_
          exact hp_iretM hx hb hr rfl hlocks hh (⟨hI, hf0, Or.inl ⟨rfl, hCH⟩, (KPp_rf en)⟩) dX12_comes_39
  exact loop_1633 ((wd * wd) + 1) 0  ls _ _ (Nat.le_refl _) (by omega) (by omega)  (lv_sub hl [0, 1, 2, 3] rfl) hh
theorem kw_X12_comes {R : Room} {s : State} {args : Array Value} {own : String} {idx : Nat} (hts : ∀ w ∈ TB, w.before args s = true) (hl : Cond.methodLink own idx yX12_comes ∈ TB) (hR : 2 + 1 ≤ R.frames ∧ 8 + (5 + 11) + 40 * 2 ≤ R.locals) : CallW R s args own RX12 idx yX12_comes cX12_comes 5 (some .boolean) (Cond.code yX12_comes cX12_comes 5 (some .boolean) :: TB) (rmN 2) 0 0 2 := cwV 2 hts (TB_V hl tw_1119 ts_50 tw_9 tw_1120) rfl rfl rfl (by decide +kernel) hR
set_option maxHeartbeats 4000000 in
set_option maxRecDepth 100000 in
/-- layProduct -/
theorem c_X12_layProduct (l : Launch) (D : va_G) (cy : Nat → ClassId) (sz : Nat) (cs : List Nat) (ad : Nat → Nat) (en : Nat → va_E) (hI : RX cy cs ad en) (p9 n : Nat) (hp : p9 < 2001) (hn : n ≤ 12)   : Met l yX12_layProduct (Cond.code yX12_layProduct cX12_layProduct 4 none :: TB) (rmN 0) (va_Pc [.ref (ad 0), .int (nI p9), .int (nI n)] (Pre D cy cs ad en sz)) (va_Qv (S := Nat → va_E) (fun en1 => RX cy cs ad en1 ∧ (∀ c, (c ≠ 6) → en1 c = en c)) (PostM D cs ad) (Af cs ad sz)) 0 0 (Af cs ad sz) := by
  refine Met.ofW (cc := cX12_layProduct) (maxL := 4) (ret := none) (by decide) rfl ?_
  intro p e s m args below meth c s₁ B hml hv
  obtain ⟨rfl, hsz, hP, hK, hD0⟩ := hv
  have hx := B.exec
  have hb := B.bytes
  have hr := B.returns
  have hts : ∀ w ∈ TB, w.before _ s = true := fun w h => atoms_spec (ws := _ :: TB) B.pre w (List.mem_cons_of_mem _ h)
  have hown : s.vm.findClass RX12 = some m.cls := findClass_of_methodNamed B.named
  have hlocks := B.notSynchronized
  have hh : Hp D (Af cs ad sz) (Af cs ad sz) s.heap s.heap [] cs ad en := ⟨hP, Af_self hD0, va_S.rf⟩
  have hA : ∀ q : Nat, s.heap.size ≤ q → Af cs ad sz q := fun q h => Or.inr (by rw [hsz] at h; exact h)
  have hl := lv_entry ([.ref (ad 0), .int (nI p9), .int (nI n)]) (n := 4) (Nat.le_of_ble_eq_true rfl)
  rw [lg_entry_eq]
  generalize (lg_sl ([.ref (ad 0), .int (nI p9), .int (nI n)]) ++ List.replicate (4 - (lg_sl ([.ref (ad 0), .int (nI p9), .int (nI n)])).length) Slot.unset).toArray = ls at hl ⊢
  have hl : lv_has ls 4 [(0, .ref (ad 0)), (1, .int (nI p9)), (2, .int (nI n))] := hl
  have hf0 : ∀ c, (c ≠ 6) → en c = en c := fun _ _ => rfl
  obtain ⟨fa, hi, wd, mo, tb, dp, many, grt, lst, nou, rm, rb, pr, wo, es1657, hwd2, hwd3, hmo, htb, hwo⟩ := getr_M hI
  have hww : wd * wd ≤ 9 := mww (by omega)
  refine lv_iconst (v := 0) hx hb dX12_layProduct_0 (by decide) ?_
  refine lv_istore_n (lv' := [(3, .int 0), (0, .ref (ad 0)), (1, .int (nI p9)), (2, .int (nI n))]) hx hb dX12_layProduct_1 rfl hl (by decide) rfl (fun ls hl => ?_)
  have loop_1658 : ∀ (fu j1658 : Nat)  (en_1658 : Nat → va_E) (ls : Array Slot) (H : Heap) (locs : List Loc), 0 ≤ j1658 → j1658 ≤ (wd * wd) → (wd * wd) < j1658 + fu → RX cy cs ad en_1658 → (∀ c, (c ≠ 6) → en_1658 c = en c) →  lv_has ls 4 [(3, .int (nI j1658)), (0, .ref (ad 0)), (1, .int (nI p9)), (2, .int (nI n))] → Hp D (Af cs ad sz) (Af cs ad sz) s.heap H locs cs ad en_1658 → W p l e (headSpec (Cond.code yX12_layProduct cX12_layProduct 4 none :: TB) (rmN 0)).room s m ([.ref (ad 0), .int (nI p9), .int (nI n)] : List Value).toArray below meth c H locs 0 0 (MQ below (va_Qv (S := Nat → va_E) (fun en1 => RX cy cs ad en1 ∧ (∀ c, (c ≠ 6) → en1 c = en c)) (PostM D cs ad) (Af cs ad sz)) ([.ref (ad 0), .int (nI p9), .int (nI n)] : List Value).toArray s 0 0 (Af cs ad sz)) (F0 m 2 ls []) := by
    intro fu
    induction fu with
    | zero => intro j1658  en_1658 ls H locs h0 h1 h2; exact absurd h2 (by omega)
    | succ fu ih_1658 =>
      intro j1658  en_1658 ls H locs hj0_1658 hj_1658 hfu_1658 hI_1658 hf_1658  hl hh
      refine lv_iload_n hx hb dX12_layProduct_2 rfl (lv_at hl 0 rfl) ?_
      refine lv_aload_n hx hb dX12_layProduct_3 rfl (lv_at hl 1 rfl) ?_
      have es1657_1659 : en_1658 0 = .inr (11, [.int fa, .int hi, .int (nI wd), .int (nI mo), .int (nI tb), .ref (ad 1), .ref (ad 2), .ref (ad 3), .ref (ad 4), .ref (ad 5), .ref (ad 6), .ref (ad 7), .ref (ad 8), .ref (ad 9), .int dp, .long many, .long grt, .long lst, .long nou, .ref (ad 10), .ref (ad 11), .ref (ad 12), .int rm, .long rb, .ref (ad 13), .int pr, .ref (ad 14), .ref (ad 15), .ref (ad 16), .ref (ad 17), .int (nI wo), .ref (ad 18), .ref (ad 19)]) := (hf_1658 0 (by omega)).trans es1657
      refine hp_get hx hb hts ix12 hown hK hh (q := 0) rfl (hI.1 _ (by decide)) es1657_1659 rfl 2 (by decide) (hts _ tw_881) (fun _ h9 => h9) rfl dX12_layProduct_4 ?_
      refine lv_aload_n hx hb dX12_layProduct_7 rfl (lv_at hl 1 rfl) ?_
      refine hp_get hx hb hts ix12 hown hK hh (q := 0) rfl (hI.1 _ (by decide)) es1657_1659 rfl 2 (by decide) (hts _ tw_881) (fun _ h9 => h9) rfl dX12_layProduct_8 ?_
      refine lv_imul hx hb dX12_layProduct_11 ?_
      rw [pk_mul wd wd]
      have hw2_1660 : wd * wd ≤ 9 := mww (by omega)
      refine lv_icmp_ge (tgt := 43) hx hb dX12_layProduct_12 (by decide) (fun c_1661 => ?_) (fun c_1661 => ?_)
      · have n_1661 : (wd * wd) ≤ j1658 := n_le (a := (wd * wd)) (b := j1658) c_1661 (by omega) (by omega)
        exact hp_vretM hx hb hr hlocks hh (⟨hI_1658, hf_1658⟩) dX12_layProduct_43
      · have n_1661 : j1658 < (wd * wd) := n_nle (a := (wd * wd)) (b := j1658) c_1661 (by omega) (by omega)
        refine lv_aload_n hx hb dX12_layProduct_15 rfl (lv_at hl 1 rfl) ?_
        refine hp_get hx hb hts ix12 hown hK hh (q := 0) rfl (hI.1 _ (by decide)) es1657_1659 rfl 10 (by decide) (hts _ tw_889) (fun _ h9 => h9) rfl dX12_layProduct_16 ?_
        refine lv_bipush (v := 9) hx hb dX12_layProduct_19 (by decide) ?_
        refine lv_iload_n hx hb dX12_layProduct_21 rfl (lv_at hl 3 rfl) ?_
        refine lv_imul hx hb dX12_layProduct_22 ?_
        rw [show (9 : Int32) = nI 9 from rfl, pk_mul 9 n]
        refine lv_iload_n hx hb dX12_layProduct_23 rfl (lv_at hl 0 rfl) ?_
        refine lv_iadd hx hb dX12_layProduct_24 ?_
        rw [nI_add (9 * n) j1658]
        refine lv_aload_n hx hb dX12_layProduct_25 rfl (lv_at hl 1 rfl) ?_
        refine hp_get hx hb hts ix12 hown hK hh (q := 0) rfl (hI.1 _ (by decide)) es1657_1659 rfl 26 (by decide) (hts _ tw_905) (fun _ h9 => h9) rfl dX12_layProduct_26 ?_
        refine lv_bipush (v := 9) hx hb dX12_layProduct_29 (by decide) ?_
        refine lv_iload_n hx hb dX12_layProduct_31 rfl (lv_at hl 2 rfl) ?_
        refine lv_imul hx hb dX12_layProduct_32 ?_
        rw [show (9 : Int32) = nI 9 from rfl, pk_mul 9 p9]
        refine lv_iload_n hx hb dX12_layProduct_33 rfl (lv_at hl 0 rfl) ?_
        refine lv_iadd hx hb dX12_layProduct_34 ?_
        rw [nI_add (9 * p9) j1658]
        obtain ⟨f_1662, es1662⟩ := getr_pd hI_1658
        refine hp_lald hx hb hK hh (q := 14) rfl (hI.1 _ (by decide)) es1662 (vp_in_nI (n := ((9 * p9) + j1658)) (by omega) (by decide)) dX12_layProduct_35 ?_
        rw [nI_clamp (n := ((9 * p9) + j1658)) (by omega)]
        obtain ⟨f_1663, es1663⟩ := getr_lv hI_1658
        refine hp_last hx hb hK hh (q := 6) rfl (hI.1 _ (by decide)) es1663 (vp_in_nI (n := ((9 * n) + j1658)) (by omega) (by decide)) dX12_layProduct_36 (fun H locs en_1664 hen_1664 hh => ?_)
        rw [nI_clamp (n := ((9 * n) + j1658)) (by omega)] at hen_1664
        have es1657_1664 : en_1664 0 = .inr (11, [.int fa, .int hi, .int (nI wd), .int (nI mo), .int (nI tb), .ref (ad 1), .ref (ad 2), .ref (ad 3), .ref (ad 4), .ref (ad 5), .ref (ad 6), .ref (ad 7), .ref (ad 8), .ref (ad 9), .int dp, .long many, .long grt, .long lst, .long nou, .ref (ad 10), .ref (ad 11), .ref (ad 12), .int rm, .long rb, .ref (ad 13), .int pr, .ref (ad 14), .ref (ad 15), .ref (ad 16), .ref (ad 17), .int (nI wo), .ref (ad 18), .ref (ad 19)]) := by rw [hen_1664, va_up_ne _ _ (by decide)]; exact es1657_1659
        have es1662_1664 : en_1664 14 = .inl (cy 1, 18009, .inr (.inl f_1662)) := by rw [hen_1664, va_up_ne _ _ (by decide)]; exact es1662
        have es1663_1664 : en_1664 6 = .inl (cy 1, 117, .inr (.inl (vp_updL f_1663 ((9 * n) + j1658) (f_1662 ((9 * p9) + j1658))))) := by rw [hen_1664]; exact va_up_self _ _ _
        have hI_1664 : RX cy cs ad en_1664 := by rw [hen_1664]; exact upr_lv hI_1658 ⟨(vp_updL f_1663 ((9 * n) + j1658) (f_1662 ((9 * p9) + j1658))), rfl⟩
        have hf_1664 : ∀ c, (c ≠ 6) → en_1664 c = en c := fun c hc => Eq.trans (show en_1664 c = en_1658 c from by rw [hen_1664, va_up_ne _ _ (by omega)]) (hf_1658 c hc)
        refine lv_iinc (v := (nI (j1658 + 1))) (lv' := [(3, .int (nI (j1658 + 1))), (0, .ref (ad 0)), (1, .int (nI p9)), (2, .int (nI n))]) hx hb dX12_layProduct_37 hl (k := 0) rfl (nI_1 _) (by decide) rfl (fun ls hl => ?_)
        refine lv_goto (tgt := 2) hx hb dX12_layProduct_40 (by decide) ?_
        exact ih_1658 ((j1658 + 1))  en_1664 ls H locs (by omega) (by omega) (by omega) hI_1664 hf_1664  (lv_sub hl [0, 1, 2, 3] rfl) hh
  exact loop_1658 ((wd * wd) + 1) 0  en ls _ _ (Nat.le_refl _) (by omega) (by omega) hI hf0  (lv_sub hl [0, 1, 2, 3] rfl) hh
theorem kw_X12_layProduct {R : Room} {s : State} {args : Array Value} {own : String} {idx : Nat} (hts : ∀ w ∈ TB, w.before args s = true) (hl : Cond.methodLink own idx yX12_layProduct ∈ TB) (hR : 0 + 1 ≤ R.frames ∧ 8 + (4 + 11) + 40 * 0 ≤ R.locals) : CallW R s args own RX12 idx yX12_layProduct cX12_layProduct 4 none (Cond.code yX12_layProduct cX12_layProduct 4 none :: TB) (rmN 0) 0 0 2 := cwV 2 hts (TB_V hl tw_1135 ts_53 tw_9 tw_1136) rfl rfl rfl (by decide +kernel) hR
set_option maxHeartbeats 4000000 in
set_option maxRecDepth 100000 in
/-- multiply -/
theorem c_X12_multiply (l : Launch) (D : va_G) (cy : Nat → ClassId) (sz : Nat) (cs : List Nat) (ad : Nat → Nat) (en : Nat → va_E) (hI : RX cy cs ad en) (p9 q9 : Nat) (hp : p9 < 2001) (hq9 : q9 < 2001)   : Met l yX12_multiply (Cond.code yX12_multiply cX12_multiply 8 none :: TB) (rmN 1) (va_Pc [.ref (ad 0), .int (nI p9), .int (nI q9)] (Pre D cy cs ad en sz)) (va_Qv (S := Nat → va_E) (fun en1 => RX cy cs ad en1 ∧ (∀ c, (c ≠ 6) → en1 c = en c)) (PostM D cs ad) (Af cs ad sz)) 0 0 (Af cs ad sz) := by
  refine Met.ofW (cc := cX12_multiply) (maxL := 8) (ret := none) (by decide) rfl ?_
  intro p e s m args below meth c s₁ B hml hv
  obtain ⟨rfl, hsz, hP, hK, hD0⟩ := hv
  have hx := B.exec
  have hb := B.bytes
  have hr := B.returns
  have hts : ∀ w ∈ TB, w.before _ s = true := fun w h => atoms_spec (ws := _ :: TB) B.pre w (List.mem_cons_of_mem _ h)
  have hown : s.vm.findClass RX12 = some m.cls := findClass_of_methodNamed B.named
  have hlocks := B.notSynchronized
  have hh : Hp D (Af cs ad sz) (Af cs ad sz) s.heap s.heap [] cs ad en := ⟨hP, Af_self hD0, va_S.rf⟩
  have hA : ∀ q : Nat, s.heap.size ≤ q → Af cs ad sz q := fun q h => Or.inr (by rw [hsz] at h; exact h)
  have hl := lv_entry ([.ref (ad 0), .int (nI p9), .int (nI q9)]) (n := 8) (Nat.le_of_ble_eq_true rfl)
  rw [lg_entry_eq]
  generalize (lg_sl ([.ref (ad 0), .int (nI p9), .int (nI q9)]) ++ List.replicate (8 - (lg_sl ([.ref (ad 0), .int (nI p9), .int (nI q9)])).length) Slot.unset).toArray = ls at hl ⊢
  have hl : lv_has ls 8 [(0, .ref (ad 0)), (1, .int (nI p9)), (2, .int (nI q9))] := hl
  have hf0 : ∀ c, (c ≠ 6) → en c = en c := fun _ _ => rfl
  obtain ⟨fa, hi, wd, mo, tb, dp, many, grt, lst, nou, rm, rb, pr, wo, es1665, hwd2, hwd3, hmo, htb, hwo⟩ := getr_M hI
  refine lv_iconst (v := 0) hx hb dX12_multiply_0 (by decide) ?_
  refine lv_istore_n (lv' := [(3, .int 0), (0, .ref (ad 0)), (1, .int (nI p9)), (2, .int (nI q9))]) hx hb dX12_multiply_1 rfl hl (by decide) rfl (fun ls hl => ?_)
  have loop_1666 : ∀ (fu j1666 : Nat)  (en_1666 : Nat → va_E) (ls : Array Slot) (H : Heap) (locs : List Loc), 0 ≤ j1666 → j1666 ≤ wd → wd < j1666 + fu → RX cy cs ad en_1666 → (∀ c, (c ≠ 6) → en_1666 c = en c) →  lv_has ls 8 [(3, .int (nI j1666)), (0, .ref (ad 0)), (1, .int (nI p9)), (2, .int (nI q9))] → Hp D (Af cs ad sz) (Af cs ad sz) s.heap H locs cs ad en_1666 → W p l e (headSpec (Cond.code yX12_multiply cX12_multiply 8 none :: TB) (rmN 1)).room s m ([.ref (ad 0), .int (nI p9), .int (nI q9)] : List Value).toArray below meth c H locs 0 0 (MQ below (va_Qv (S := Nat → va_E) (fun en1 => RX cy cs ad en1 ∧ (∀ c, (c ≠ 6) → en1 c = en c)) (PostM D cs ad) (Af cs ad sz)) ([.ref (ad 0), .int (nI p9), .int (nI q9)] : List Value).toArray s 0 0 (Af cs ad sz)) (F0 m 2 ls []) := by
    intro fu
    induction fu with
    | zero => intro j1666  en_1666 ls H locs h0 h1 h2; exact absurd h2 (by omega)
    | succ fu ih_1666 =>
      intro j1666  en_1666 ls H locs hj0_1666 hj_1666 hfu_1666 hI_1666 hf_1666  hl hh
      refine lv_iload_n hx hb dX12_multiply_2 rfl (lv_at hl 0 rfl) ?_
      refine lv_aload_n hx hb dX12_multiply_3 rfl (lv_at hl 1 rfl) ?_
      have es1665_1667 : en_1666 0 = .inr (11, [.int fa, .int hi, .int (nI wd), .int (nI mo), .int (nI tb), .ref (ad 1), .ref (ad 2), .ref (ad 3), .ref (ad 4), .ref (ad 5), .ref (ad 6), .ref (ad 7), .ref (ad 8), .ref (ad 9), .int dp, .long many, .long grt, .long lst, .long nou, .ref (ad 10), .ref (ad 11), .ref (ad 12), .int rm, .long rb, .ref (ad 13), .int pr, .ref (ad 14), .ref (ad 15), .ref (ad 16), .ref (ad 17), .int (nI wo), .ref (ad 18), .ref (ad 19)]) := (hf_1666 0 (by omega)).trans es1665
      refine hp_get hx hb hts ix12 hown hK hh (q := 0) rfl (hI.1 _ (by decide)) es1665_1667 rfl 2 (by decide) (hts _ tw_881) (fun _ h9 => h9) rfl dX12_multiply_4 ?_
      refine lv_icmp_ge (tgt := 123) hx hb dX12_multiply_7 (by decide) (fun c_1668 => ?_) (fun c_1668 => ?_)
      · have n_1668 : wd ≤ j1666 := n_le (a := wd) (b := j1666) c_1668 (by omega) (by omega)
        exact hp_vretM hx hb hr hlocks hh (⟨hI_1666, hf_1666⟩) dX12_multiply_123
      · have n_1668 : j1666 < wd := n_nle (a := wd) (b := j1666) c_1668 (by omega) (by omega)
        refine lv_iconst (v := 0) hx hb dX12_multiply_10 (by decide) ?_
        refine lv_istore (lv' := [(4, .int 0), (3, .int (nI j1666)), (0, .ref (ad 0)), (1, .int (nI p9)), (2, .int (nI q9))]) hx hb dX12_multiply_11 hl (by decide) rfl (fun ls hl => ?_)
        have loop_1669 : ∀ (fu j1669 : Nat)  (en_1669 : Nat → va_E) (ls : Array Slot) (H : Heap) (locs : List Loc), 0 ≤ j1669 → j1669 ≤ wd → wd < j1669 + fu → RX cy cs ad en_1669 → (∀ c, (c ≠ 6) → en_1669 c = en c) →  lv_has ls 8 [(4, .int (nI j1669)), (3, .int (nI j1666)), (0, .ref (ad 0)), (1, .int (nI p9)), (2, .int (nI q9))] → Hp D (Af cs ad sz) (Af cs ad sz) s.heap H locs cs ad en_1669 → W p l e (headSpec (Cond.code yX12_multiply cX12_multiply 8 none :: TB) (rmN 1)).room s m ([.ref (ad 0), .int (nI p9), .int (nI q9)] : List Value).toArray below meth c H locs 0 0 (MQ below (va_Qv (S := Nat → va_E) (fun en1 => RX cy cs ad en1 ∧ (∀ c, (c ≠ 6) → en1 c = en c)) (PostM D cs ad) (Af cs ad sz)) ([.ref (ad 0), .int (nI p9), .int (nI q9)] : List Value).toArray s 0 0 (Af cs ad sz)) (F0 m 13 ls []) := by
          intro fu
          induction fu with
          | zero => intro j1669  en_1669 ls H locs h0 h1 h2; exact absurd h2 (by omega)
          | succ fu ih_1669 =>
            intro j1669  en_1669 ls H locs hj0_1669 hj_1669 hfu_1669 hI_1669 hf_1669  hl hh
            refine lv_iload hx hb dX12_multiply_13 (lv_at hl 0 rfl) ?_
            refine lv_aload_n hx hb dX12_multiply_15 rfl (lv_at hl 2 rfl) ?_
            have es1665_1670 : en_1669 0 = .inr (11, [.int fa, .int hi, .int (nI wd), .int (nI mo), .int (nI tb), .ref (ad 1), .ref (ad 2), .ref (ad 3), .ref (ad 4), .ref (ad 5), .ref (ad 6), .ref (ad 7), .ref (ad 8), .ref (ad 9), .int dp, .long many, .long grt, .long lst, .long nou, .ref (ad 10), .ref (ad 11), .ref (ad 12), .int rm, .long rb, .ref (ad 13), .int pr, .ref (ad 14), .ref (ad 15), .ref (ad 16), .ref (ad 17), .int (nI wo), .ref (ad 18), .ref (ad 19)]) := (hf_1669 0 (by omega)).trans es1665
            refine hp_get hx hb hts ix12 hown hK hh (q := 0) rfl (hI.1 _ (by decide)) es1665_1670 rfl 2 (by decide) (hts _ tw_881) (fun _ h9 => h9) rfl dX12_multiply_16 ?_
            refine lv_icmp_ge (tgt := 117) hx hb dX12_multiply_19 (by decide) (fun c_1671 => ?_) (fun c_1671 => ?_)
            · have n_1671 : wd ≤ j1669 := n_le (a := wd) (b := j1669) c_1671 (by omega) (by omega)
              refine lv_iinc (v := (nI (j1666 + 1))) (lv' := [(3, .int (nI (j1666 + 1))), (4, .int (nI j1669)), (0, .ref (ad 0)), (1, .int (nI p9)), (2, .int (nI q9))]) hx hb dX12_multiply_117 hl (k := 1) rfl (nI_1 _) (by decide) rfl (fun ls hl => ?_)
              refine lv_goto (tgt := 2) hx hb dX12_multiply_120 (by decide) ?_
              exact ih_1666 ((j1666 + 1))  en_1669 ls H locs (by omega) (by omega) (by omega) hI_1669 hf_1669  (lv_sub hl [0, 2, 3, 4] rfl) hh
            · have n_1671 : j1669 < wd := n_nle (a := wd) (b := j1669) c_1671 (by omega) (by omega)
              refine lv_lconst (v := 0) hx hb dX12_multiply_22 (by decide) ?_
              refine lv_lstore (lv' := [(5, .long 0), (4, .int (nI j1669)), (3, .int (nI j1666)), (0, .ref (ad 0)), (1, .int (nI p9)), (2, .int (nI q9))]) hx hb dX12_multiply_23 hl (by decide) rfl (fun ls hl => ?_)
              refine lv_iconst (v := 0) hx hb dX12_multiply_25 (by decide) ?_
              refine lv_istore (lv' := [(7, .int 0), (5, .long 0), (4, .int (nI j1669)), (3, .int (nI j1666)), (0, .ref (ad 0)), (1, .int (nI p9)), (2, .int (nI q9))]) hx hb dX12_multiply_26 hl (by decide) rfl (fun ls hl => ?_)
              have loop_1672 : ∀ (fu j1672 : Nat) (ac1672 : Int64)  (ls : Array Slot) (H : Heap) (locs : List Loc), 0 ≤ j1672 → j1672 ≤ wd → wd < j1672 + fu →   lv_has ls 8 [(7, .int (nI j1672)), (5, .long ac1672), (4, .int (nI j1669)), (3, .int (nI j1666)), (0, .ref (ad 0)), (1, .int (nI p9)), (2, .int (nI q9))] → Hp D (Af cs ad sz) (Af cs ad sz) s.heap H locs cs ad en_1669 → W p l e (headSpec (Cond.code yX12_multiply cX12_multiply 8 none :: TB) (rmN 1)).room s m ([.ref (ad 0), .int (nI p9), .int (nI q9)] : List Value).toArray below meth c H locs 0 0 (MQ below (va_Qv (S := Nat → va_E) (fun en1 => RX cy cs ad en1 ∧ (∀ c, (c ≠ 6) → en1 c = en c)) (PostM D cs ad) (Af cs ad sz)) ([.ref (ad 0), .int (nI p9), .int (nI q9)] : List Value).toArray s 0 0 (Af cs ad sz)) (F0 m 28 ls []) := by
                intro fu
                induction fu with
                | zero => intro j1672 ac1672 ls H locs h0 h1 h2; exact absurd h2 (by omega)
                | succ fu ih_1672 =>
                  intro j1672 ac1672 ls H locs hj0_1672 hj_1672 hfu_1672  hl hh
                  refine lv_iload hx hb dX12_multiply_28 (lv_at hl 0 rfl) ?_
                  refine lv_aload_n hx hb dX12_multiply_30 rfl (lv_at hl 4 rfl) ?_
                  refine hp_get hx hb hts ix12 hown hK hh (q := 0) rfl (hI.1 _ (by decide)) es1665_1670 rfl 2 (by decide) (hts _ tw_881) (fun _ h9 => h9) rfl dX12_multiply_31 ?_
                  refine lv_icmp_ge (tgt := 88) hx hb dX12_multiply_34 (by decide) (fun c_1673 => ?_) (fun c_1673 => ?_)
                  · have n_1673 : wd ≤ j1672 := n_le (a := wd) (b := j1672) c_1673 (by omega) (by omega)
                    refine lv_aload_n hx hb dX12_multiply_88 rfl (lv_at hl 4 rfl) ?_
                    refine hp_get hx hb hts ix12 hown hK hh (q := 0) rfl (hI.1 _ (by decide)) es1665_1670 rfl 10 (by decide) (hts _ tw_889) (fun _ h9 => h9) rfl dX12_multiply_89 ?_
                    refine lv_bipush (v := 9) hx hb dX12_multiply_92 (by decide) ?_
                    refine lv_aload_n hx hb dX12_multiply_94 rfl (lv_at hl 4 rfl) ?_
                    refine hp_get hx hb hts ix12 hown hK hh (q := 0) rfl (hI.1 _ (by decide)) es1665_1670 rfl 2 (by decide) (hts _ tw_881) (fun _ h9 => h9) rfl dX12_multiply_95 ?_
                    refine lv_iload_n hx hb dX12_multiply_98 rfl (lv_at hl 3 rfl) ?_
                    refine lv_imul hx hb dX12_multiply_99 ?_
                    rw [pk_mul wd j1666]
                    refine lv_iadd hx hb dX12_multiply_100 ?_
                    rw [show (9 : Int32) = nI 9 from rfl, nI_add 9 (wd * j1666)]
                    refine lv_iload hx hb dX12_multiply_101 (lv_at hl 2 rfl) ?_
                    refine lv_iadd hx hb dX12_multiply_103 ?_
                    rw [nI_add (9 + (wd * j1666)) j1669]
                    refine lv_aload_n hx hb dX12_multiply_104 rfl (lv_at hl 4 rfl) ?_
                    refine lv_lload hx hb dX12_multiply_105 (lv_at hl 1 rfl) ?_
                    refine hp_callRl (va_runV (As := [.long ac1672]) (rest := [.int (nI ((9 + (wd * j1666)) + j1669)), .ref (ad 6)]) ⟨hx, hb, hml, hown, hts⟩ (c_X12_rest l D cy _ cs ad en_1669 hI_1669 ac1672 ) (kw_X12_rest hts tw_1054 ⟨by decide, by decide⟩) (preV_of hh hK (hI.1 _ (by decide)) es1665_1670 rfl) rfl rfl hl.1 rfl (lv_room (Nat.le_of_ble_eq_true rfl)) dX12_multiply_107 ⟨Nat.le_of_ble_eq_true rfl, Nat.le_of_ble_eq_true rfl⟩) hh hA (fun r_1674 H locs hw_1674 hh => ?_)
                    have hi_1675 : wd * j1666 + j1669 < 9 := mdr (by omega) (by omega) (by omega)
                    obtain ⟨f_1676, es1676⟩ := getr_lv hI_1669
                    refine hp_last hx hb hK hh (q := 6) rfl (hI.1 _ (by decide)) es1676 (vp_in_nI (n := ((9 + (wd * j1666)) + j1669)) (by omega) (by decide)) dX12_multiply_110 (fun H locs en_1677 hen_1677 hh => ?_)
                    rw [nI_clamp (n := ((9 + (wd * j1666)) + j1669)) (by omega)] at hen_1677
                    have es1665_1677 : en_1677 0 = .inr (11, [.int fa, .int hi, .int (nI wd), .int (nI mo), .int (nI tb), .ref (ad 1), .ref (ad 2), .ref (ad 3), .ref (ad 4), .ref (ad 5), .ref (ad 6), .ref (ad 7), .ref (ad 8), .ref (ad 9), .int dp, .long many, .long grt, .long lst, .long nou, .ref (ad 10), .ref (ad 11), .ref (ad 12), .int rm, .long rb, .ref (ad 13), .int pr, .ref (ad 14), .ref (ad 15), .ref (ad 16), .ref (ad 17), .int (nI wo), .ref (ad 18), .ref (ad 19)]) := by rw [hen_1677, va_up_ne _ _ (by decide)]; exact es1665_1670
                    have es1676_1677 : en_1677 6 = .inl (cy 1, 117, .inr (.inl (vp_updL f_1676 ((9 + (wd * j1666)) + j1669) r_1674))) := by rw [hen_1677]; exact va_up_self _ _ _
                    have hI_1677 : RX cy cs ad en_1677 := by rw [hen_1677]; exact upr_lv hI_1669 ⟨(vp_updL f_1676 ((9 + (wd * j1666)) + j1669) r_1674), rfl⟩
                    have hf_1677 : ∀ c, (c ≠ 6) → en_1677 c = en c := fun c hc => Eq.trans (show en_1677 c = en_1669 c from by rw [hen_1677, va_up_ne _ _ (by omega)]) (hf_1669 c hc)
                    refine lv_iinc (v := (nI (j1669 + 1))) (lv' := [(4, .int (nI (j1669 + 1))), (7, .int (nI j1672)), (5, .long ac1672), (3, .int (nI j1666)), (0, .ref (ad 0)), (1, .int (nI p9)), (2, .int (nI q9))]) hx hb dX12_multiply_111 hl (k := 2) rfl (nI_1 _) (by decide) rfl (fun ls hl => ?_)
                    refine lv_goto (tgt := 13) hx hb dX12_multiply_114 (by decide) ?_
                    exact ih_1669 ((j1669 + 1))  en_1677 ls H locs (by omega) (by omega) (by omega) hI_1677 hf_1677  (lv_sub hl [0, 3, 4, 5, 6] rfl) hh
                  · have n_1673 : j1672 < wd := n_nle (a := wd) (b := j1672) c_1673 (by omega) (by omega)
                    refine lv_lload hx hb dX12_multiply_37 (lv_at hl 1 rfl) ?_
                    refine lv_aload_n hx hb dX12_multiply_39 rfl (lv_at hl 4 rfl) ?_
                    refine hp_get hx hb hts ix12 hown hK hh (q := 0) rfl (hI.1 _ (by decide)) es1665_1670 rfl 26 (by decide) (hts _ tw_905) (fun _ h9 => h9) rfl dX12_multiply_40 ?_
                    refine lv_bipush (v := 9) hx hb dX12_multiply_43 (by decide) ?_
                    refine lv_iload_n hx hb dX12_multiply_45 rfl (lv_at hl 5 rfl) ?_
                    refine lv_imul hx hb dX12_multiply_46 ?_
                    rw [show (9 : Int32) = nI 9 from rfl, pk_mul 9 p9]
                    refine lv_aload_n hx hb dX12_multiply_47 rfl (lv_at hl 4 rfl) ?_
                    refine hp_get hx hb hts ix12 hown hK hh (q := 0) rfl (hI.1 _ (by decide)) es1665_1670 rfl 2 (by decide) (hts _ tw_881) (fun _ h9 => h9) rfl dX12_multiply_48 ?_
                    refine lv_iload_n hx hb dX12_multiply_51 rfl (lv_at hl 3 rfl) ?_
                    refine lv_imul hx hb dX12_multiply_52 ?_
                    rw [pk_mul wd j1666]
                    refine lv_iadd hx hb dX12_multiply_53 ?_
                    rw [nI_add (9 * p9) (wd * j1666)]
                    refine lv_iload hx hb dX12_multiply_54 (lv_at hl 0 rfl) ?_
                    refine lv_iadd hx hb dX12_multiply_56 ?_
                    rw [nI_add ((9 * p9) + (wd * j1666)) j1672]
                    have hi_1678 : wd * j1666 + j1672 < 9 := mdr (by omega) (by omega) (by omega)
                    obtain ⟨f_1679, es1679⟩ := getr_pd hI_1669
                    refine hp_lald hx hb hK hh (q := 14) rfl (hI.1 _ (by decide)) es1679 (vp_in_nI (n := (((9 * p9) + (wd * j1666)) + j1672)) (by omega) (by decide)) dX12_multiply_57 ?_
                    rw [nI_clamp (n := (((9 * p9) + (wd * j1666)) + j1672)) (by omega)]
                    refine lv_aload_n hx hb dX12_multiply_58 rfl (lv_at hl 4 rfl) ?_
                    refine hp_get hx hb hts ix12 hown hK hh (q := 0) rfl (hI.1 _ (by decide)) es1665_1670 rfl 26 (by decide) (hts _ tw_905) (fun _ h9 => h9) rfl dX12_multiply_59 ?_
                    refine lv_bipush (v := 9) hx hb dX12_multiply_62 (by decide) ?_
                    refine lv_iload_n hx hb dX12_multiply_64 rfl (lv_at hl 6 rfl) ?_
                    refine lv_imul hx hb dX12_multiply_65 ?_
                    rw [show (9 : Int32) = nI 9 from rfl, pk_mul 9 q9]
                    refine lv_aload_n hx hb dX12_multiply_66 rfl (lv_at hl 4 rfl) ?_
                    refine hp_get hx hb hts ix12 hown hK hh (q := 0) rfl (hI.1 _ (by decide)) es1665_1670 rfl 2 (by decide) (hts _ tw_881) (fun _ h9 => h9) rfl dX12_multiply_67 ?_
                    refine lv_iload hx hb dX12_multiply_70 (lv_at hl 0 rfl) ?_
                    refine lv_imul hx hb dX12_multiply_72 ?_
                    rw [pk_mul wd j1672]
                    refine lv_iadd hx hb dX12_multiply_73 ?_
                    rw [nI_add (9 * q9) (wd * j1672)]
                    refine lv_iload hx hb dX12_multiply_74 (lv_at hl 2 rfl) ?_
                    refine lv_iadd hx hb dX12_multiply_76 ?_
                    rw [nI_add ((9 * q9) + (wd * j1672)) j1669]
                    have hi_1680 : wd * j1672 + j1669 < 9 := mdr (by omega) (by omega) (by omega)
                    refine hp_lald hx hb hK hh (q := 14) rfl (hI.1 _ (by decide)) es1679 (vp_in_nI (n := (((9 * q9) + (wd * j1672)) + j1669)) (by omega) (by decide)) dX12_multiply_77 ?_
                    rw [nI_clamp (n := (((9 * q9) + (wd * j1672)) + j1669)) (by omega)]
                    refine lv_lmul hx hb dX12_multiply_78 ?_
                    refine lv_ladd hx hb dX12_multiply_79 ?_
                    refine lv_lstore (lv' := [(5, .long (ac1672 + ((f_1679 (((9 * p9) + (wd * j1666)) + j1672)) * (f_1679 (((9 * q9) + (wd * j1672)) + j1669))))), (7, .int (nI j1672)), (4, .int (nI j1669)), (3, .int (nI j1666)), (0, .ref (ad 0)), (1, .int (nI p9)), (2, .int (nI q9))]) hx hb dX12_multiply_80 hl (by decide) rfl (fun ls hl => ?_)
                    refine lv_iinc (v := (nI (j1672 + 1))) (lv' := [(7, .int (nI (j1672 + 1))), (5, .long (ac1672 + ((f_1679 (((9 * p9) + (wd * j1666)) + j1672)) * (f_1679 (((9 * q9) + (wd * j1672)) + j1669))))), (4, .int (nI j1669)), (3, .int (nI j1666)), (0, .ref (ad 0)), (1, .int (nI p9)), (2, .int (nI q9))]) hx hb dX12_multiply_82 hl (k := 1) rfl (nI_1 _) (by decide) rfl (fun ls hl => ?_)
                    refine lv_goto (tgt := 28) hx hb dX12_multiply_85 (by decide) ?_
                    exact ih_1672 ((j1672 + 1)) (ac1672 + ((f_1679 (((9 * p9) + (wd * j1666)) + j1672)) * (f_1679 (((9 * q9) + (wd * j1672)) + j1669)))) ls H locs (by omega) (by omega) (by omega)  (lv_sub hl [0, 1, 2, 3, 4, 5, 6] rfl) hh
              exact loop_1672 (wd + 1) 0 0 ls _ _ (Nat.le_refl _) (by omega) (by omega)  (lv_sub hl [0, 1, 2, 3, 4, 5, 6] rfl) hh
        exact loop_1669 (wd + 1) 0  en_1666 ls _ _ (Nat.le_refl _) (by omega) (by omega) hI_1666 hf_1666  (lv_sub hl [0, 1, 2, 3, 4] rfl) hh
  exact loop_1666 (wd + 1) 0  en ls _ _ (Nat.le_refl _) (by omega) (by omega) hI hf0  (lv_sub hl [0, 1, 2, 3] rfl) hh
theorem kw_X12_multiply {R : Room} {s : State} {args : Array Value} {own : String} {idx : Nat} (hts : ∀ w ∈ TB, w.before args s = true) (hl : Cond.methodLink own idx yX12_multiply ∈ TB) (hR : 1 + 1 ≤ R.frames ∧ 8 + (8 + 11) + 40 * 1 ≤ R.locals) : CallW R s args own RX12 idx yX12_multiply cX12_multiply 8 none (Cond.code yX12_multiply cX12_multiply 8 none :: TB) (rmN 1) 0 0 2 := cwV 2 hts (TB_V hl tw_1152 ts_56 tw_9 tw_1153) rfl rfl rfl (by decide +kernel) hR
set_option maxHeartbeats 4000000 in
set_option maxRecDepth 100000 in
/-- isNought -/
theorem c_X12_isNought (l : Launch) (D : va_G) (cy : Nat → ClassId) (sz : Nat) (cs : List Nat) (ad : Nat → Nat) (en : Nat → va_E) (hI : RX cy cs ad en) (p9 : Nat) (hp : p9 < 2001)   : Met l yX12_isNought (Cond.code yX12_isNought cX12_isNought 4 (some .boolean) :: TB) (rmN 0) (va_Pc [.ref (ad 0), .int (nI p9)] (Pre D cy cs ad en sz)) (va_Qi (S := Unit) (fun r _ => r = 0 ∨ r = 1) (fun _ _ => True) (Nf sz)) 0 0 (Nf sz) := by
  refine Met.ofW (cc := cX12_isNought) (maxL := 4) (ret := (some .boolean)) (by decide) rfl ?_
  intro p e s m args below meth c s₁ B hml hv
  obtain ⟨rfl, hsz, hP, hK, hD0⟩ := hv
  have hx := B.exec
  have hb := B.bytes
  have hr := B.returns
  have hts : ∀ w ∈ TB, w.before _ s = true := fun w h => atoms_spec (ws := _ :: TB) B.pre w (List.mem_cons_of_mem _ h)
  have hown : s.vm.findClass RX12 = some m.cls := findClass_of_methodNamed B.named
  have hlocks := B.notSynchronized
  have hh : Hp D (Nf sz) (fun _ => True) s.heap s.heap [] cs ad en := ⟨hP, hD0, va_S.rf⟩
  have hA : ∀ q : Nat, s.heap.size ≤ q → Nf sz q := fun q h => by rw [hsz] at h; exact h
  have hl := lv_entry ([.ref (ad 0), .int (nI p9)]) (n := 4) (Nat.le_of_ble_eq_true rfl)
  rw [lg_entry_eq]
  generalize (lg_sl ([.ref (ad 0), .int (nI p9)]) ++ List.replicate (4 - (lg_sl ([.ref (ad 0), .int (nI p9)])).length) Slot.unset).toArray = ls at hl ⊢
  have hl : lv_has ls 4 [(0, .ref (ad 0)), (1, .int (nI p9))] := hl
  obtain ⟨fa, hi, wd, mo, tb, dp, many, grt, lst, nou, rm, rb, pr, wo, es1681, hwd2, hwd3, hmo, htb, hwo⟩ := getr_M hI
  have hww : wd * wd ≤ 9 := mww (by omega)
  refine lv_iconst (v := 1) hx hb dX12_isNought_0 (by decide) ?_
  refine lv_istore_n (lv' := [(2, .int 1), (0, .ref (ad 0)), (1, .int (nI p9))]) hx hb dX12_isNought_1 rfl hl (by decide) rfl (fun ls hl => ?_)
  refine lv_iconst (v := 0) hx hb dX12_isNought_2 (by decide) ?_
  refine lv_istore_n (lv' := [(3, .int 0), (2, .int 1), (0, .ref (ad 0)), (1, .int (nI p9))]) hx hb dX12_isNought_3 rfl hl (by decide) rfl (fun ls hl => ?_)
  have loop_1682 : ∀ (fu j1682 : Nat) (no1682 : Int32)  (ls : Array Slot) (H : Heap) (locs : List Loc), 0 ≤ j1682 → j1682 ≤ (wd * wd) → (wd * wd) < j1682 + fu →  (no1682 = 0 ∨ no1682 = 1) → lv_has ls 4 [(3, .int (nI j1682)), (2, .int no1682), (0, .ref (ad 0)), (1, .int (nI p9))] → Hp D (Nf sz) (fun _ => True) s.heap H locs cs ad en → W p l e (headSpec (Cond.code yX12_isNought cX12_isNought 4 (some .boolean) :: TB) (rmN 0)).room s m ([.ref (ad 0), .int (nI p9)] : List Value).toArray below meth c H locs 0 0 (MQ below (va_Qi (S := Unit) (fun r _ => r = 0 ∨ r = 1) (fun _ _ => True) (Nf sz)) ([.ref (ad 0), .int (nI p9)] : List Value).toArray s 0 0 (Nf sz)) (F0 m 4 ls []) := by
    intro fu
    induction fu with
    | zero => intro j1682 no1682 ls H locs h0 h1 h2; exact absurd h2 (by omega)
    | succ fu ih_1682 =>
      intro j1682 no1682 ls H locs hj0_1682 hj_1682 hfu_1682 i0_1682 hl hh
      refine lv_iload_n hx hb dX12_isNought_4 rfl (lv_at hl 0 rfl) ?_
      refine lv_aload_n hx hb dX12_isNought_5 rfl (lv_at hl 2 rfl) ?_
      refine hp_get hx hb hts ix12 hown hK hh (q := 0) rfl (hI.1 _ (by decide)) es1681 rfl 2 (by decide) (hts _ tw_881) (fun _ h9 => h9) rfl dX12_isNought_6 ?_
      refine lv_aload_n hx hb dX12_isNought_9 rfl (lv_at hl 2 rfl) ?_
      refine hp_get hx hb hts ix12 hown hK hh (q := 0) rfl (hI.1 _ (by decide)) es1681 rfl 2 (by decide) (hts _ tw_881) (fun _ h9 => h9) rfl dX12_isNought_10 ?_
      refine lv_imul hx hb dX12_isNought_13 ?_
      rw [pk_mul wd wd]
      have hw2_1683 : wd * wd ≤ 9 := mww (by omega)
      refine lv_icmp_ge (tgt := 47) hx hb dX12_isNought_14 (by decide) (fun c_1684 => ?_) (fun c_1684 => ?_)
      · have n_1684 : (wd * wd) ≤ j1682 := n_le (a := (wd * wd)) (b := j1682) c_1684 (by omega) (by omega)
        refine lv_iload_n hx hb dX12_isNought_47 rfl (lv_at hl 1 rfl) ?_
        exact hp_iretR hx hb hr (nar_bit i0_1682) hlocks hsz hh (i0_1682) dX12_isNought_48
      · have n_1684 : j1682 < (wd * wd) := n_nle (a := (wd * wd)) (b := j1682) c_1684 (by omega) (by omega)
        refine lv_iload_n hx hb dX12_isNought_17 rfl (lv_at hl 1 rfl) ?_
        refine lv_aload_n hx hb dX12_isNought_18 rfl (lv_at hl 2 rfl) ?_
        refine hp_get hx hb hts ix12 hown hK hh (q := 0) rfl (hI.1 _ (by decide)) es1681 rfl 26 (by decide) (hts _ tw_905) (fun _ h9 => h9) rfl dX12_isNought_19 ?_
        refine lv_bipush (v := 9) hx hb dX12_isNought_22 (by decide) ?_
        refine lv_iload_n hx hb dX12_isNought_24 rfl (lv_at hl 3 rfl) ?_
        refine lv_imul hx hb dX12_isNought_25 ?_
        rw [show (9 : Int32) = nI 9 from rfl, pk_mul 9 p9]
        refine lv_iload_n hx hb dX12_isNought_26 rfl (lv_at hl 0 rfl) ?_
        refine lv_iadd hx hb dX12_isNought_27 ?_
        rw [nI_add (9 * p9) j1682]
        obtain ⟨f_1685, es1685⟩ := getr_pd hI
        refine hp_lald hx hb hK hh (q := 14) rfl (hI.1 _ (by decide)) es1685 (vp_in_nI (n := ((9 * p9) + j1682)) (by omega) (by decide)) dX12_isNought_28 ?_
        rw [nI_clamp (n := ((9 * p9) + j1682)) (by omega)]
        refine lv_lconst (v := 0) hx hb dX12_isNought_29 (by decide) ?_
        refine W.lcmp hx hb dX12_isNought_30 ?_
        refine lv_if_ne (tgt := 38) hx hb dX12_isNought_31 (by decide) (fun c_1686 => ?_) (fun c_1686 => ?_)
        · refine lv_iconst (v := 0) hx hb dX12_isNought_38 (by decide) ?_
          refine lv_iand hx hb dX12_isNought_39 ?_
          refine lv_istore_n (lv' := [(2, .int (no1682 &&& 0)), (3, .int (nI j1682)), (0, .ref (ad 0)), (1, .int (nI p9))]) hx hb dX12_isNought_40 rfl hl (by decide) rfl (fun ls hl => ?_)
          refine lv_iinc (v := (nI (j1682 + 1))) (lv' := [(3, .int (nI (j1682 + 1))), (2, .int (no1682 &&& 0)), (0, .ref (ad 0)), (1, .int (nI p9))]) hx hb dX12_isNought_41 hl (k := 1) rfl (nI_1 _) (by decide) rfl (fun ls hl => ?_)
          refine lv_goto (tgt := 4) hx hb dX12_isNought_44 (by decide) ?_
          exact ih_1682 ((j1682 + 1)) (no1682 &&& 0) ls H locs (by omega) (by omega) (by omega) (bit_and i0_1682 (by decide)) (lv_sub hl [0, 1, 2, 3] rfl) hh
        · refine lv_iconst (v := 1) hx hb dX12_isNought_34 (by decide) ?_
          refine lv_goto (tgt := 39) hx hb dX12_isNought_35 (by decide) ?_
          refine lv_iand hx hb dX12_isNought_39 ?_
          refine lv_istore_n (lv' := [(2, .int (no1682 &&& 1)), (3, .int (nI j1682)), (0, .ref (ad 0)), (1, .int (nI p9))]) hx hb dX12_isNought_40 rfl hl (by decide) rfl (fun ls hl => ?_)
          refine lv_iinc (v := (nI (j1682 + 1))) (lv' := [(3, .int (nI (j1682 + 1))), (2, .int (no1682 &&& 1)), (0, .ref (ad 0)), (1, .int (nI p9))]) hx hb dX12_isNought_41 hl (k := 1) rfl (nI_1 _) (by decide) rfl (fun ls hl => ?_)
          refine lv_goto (tgt := 4) hx hb dX12_isNought_44 (by decide) ?_
          exact ih_1682 ((j1682 + 1)) (no1682 &&& 1) ls H locs (by omega) (by omega) (by omega) (bit_and i0_1682 (by decide)) (lv_sub hl [0, 1, 2, 3] rfl) hh
  exact loop_1682 ((wd * wd) + 1) 0 1 ls _ _ (Nat.le_refl _) (by omega) (by omega) (by decide) (lv_sub hl [0, 1, 2, 3] rfl) hh
theorem kw_X12_isNought {R : Room} {s : State} {args : Array Value} {own : String} {idx : Nat} (hts : ∀ w ∈ TB, w.before args s = true) (hl : Cond.methodLink own idx yX12_isNought ∈ TB) (hR : 0 + 1 ≤ R.frames ∧ 8 + (4 + 11) + 40 * 0 ≤ R.locals) : CallW R s args own RX12 idx yX12_isNought cX12_isNought 4 (some .boolean) (Cond.code yX12_isNought cX12_isNought 4 (some .boolean) :: TB) (rmN 0) 0 0 1 := cwV 1 hts (TB_V hl tw_1144 ts_54 tw_9 tw_1145) rfl rfl rfl (by decide +kernel) hR
set_option maxHeartbeats 4000000 in
set_option maxRecDepth 100000 in
/-- isOne -/
theorem c_X12_isOne (l : Launch) (D : va_G) (cy : Nat → ClassId) (sz : Nat) (cs : List Nat) (ad : Nat → Nat) (en : Nat → va_E) (hI : RX cy cs ad en) (p9 : Nat) (hp : p9 < 2001)   : Met l yX12_isOne (Cond.code yX12_isOne cX12_isOne 5 (some .boolean) :: TB) (rmN 0) (va_Pc [.ref (ad 0), .int (nI p9)] (Pre D cy cs ad en sz)) (va_Qi (S := Unit) (fun r _ => r = 0 ∨ r = 1) (fun _ _ => True) (Nf sz)) 0 0 (Nf sz) := by
  refine Met.ofW (cc := cX12_isOne) (maxL := 5) (ret := (some .boolean)) (by decide) rfl ?_
  intro p e s m args below meth c s₁ B hml hv
  obtain ⟨rfl, hsz, hP, hK, hD0⟩ := hv
  have hx := B.exec
  have hb := B.bytes
  have hr := B.returns
  have hts : ∀ w ∈ TB, w.before _ s = true := fun w h => atoms_spec (ws := _ :: TB) B.pre w (List.mem_cons_of_mem _ h)
  have hown : s.vm.findClass RX12 = some m.cls := findClass_of_methodNamed B.named
  have hlocks := B.notSynchronized
  have hh : Hp D (Nf sz) (fun _ => True) s.heap s.heap [] cs ad en := ⟨hP, hD0, va_S.rf⟩
  have hA : ∀ q : Nat, s.heap.size ≤ q → Nf sz q := fun q h => by rw [hsz] at h; exact h
  have hl := lv_entry ([.ref (ad 0), .int (nI p9)]) (n := 5) (Nat.le_of_ble_eq_true rfl)
  rw [lg_entry_eq]
  generalize (lg_sl ([.ref (ad 0), .int (nI p9)]) ++ List.replicate (5 - (lg_sl ([.ref (ad 0), .int (nI p9)])).length) Slot.unset).toArray = ls at hl ⊢
  have hl : lv_has ls 5 [(0, .ref (ad 0)), (1, .int (nI p9))] := hl
  obtain ⟨fa, hi, wd, mo, tb, dp, many, grt, lst, nou, rm, rb, pr, wo, es1687, hwd2, hwd3, hmo, htb, hwo⟩ := getr_M hI
  refine lv_iconst (v := 1) hx hb dX12_isOne_0 (by decide) ?_
  refine lv_istore_n (lv' := [(2, .int 1), (0, .ref (ad 0)), (1, .int (nI p9))]) hx hb dX12_isOne_1 rfl hl (by decide) rfl (fun ls hl => ?_)
  refine lv_iconst (v := 0) hx hb dX12_isOne_2 (by decide) ?_
  refine lv_istore_n (lv' := [(3, .int 0), (2, .int 1), (0, .ref (ad 0)), (1, .int (nI p9))]) hx hb dX12_isOne_3 rfl hl (by decide) rfl (fun ls hl => ?_)
  have loop_1688 : ∀ (fu j1688 : Nat) (no1688 : Int32)  (ls : Array Slot) (H : Heap) (locs : List Loc), 0 ≤ j1688 → j1688 ≤ wd → wd < j1688 + fu →  (no1688 = 0 ∨ no1688 = 1) → lv_has ls 5 [(3, .int (nI j1688)), (2, .int no1688), (0, .ref (ad 0)), (1, .int (nI p9))] → Hp D (Nf sz) (fun _ => True) s.heap H locs cs ad en → W p l e (headSpec (Cond.code yX12_isOne cX12_isOne 5 (some .boolean) :: TB) (rmN 0)).room s m ([.ref (ad 0), .int (nI p9)] : List Value).toArray below meth c H locs 0 0 (MQ below (va_Qi (S := Unit) (fun r _ => r = 0 ∨ r = 1) (fun _ _ => True) (Nf sz)) ([.ref (ad 0), .int (nI p9)] : List Value).toArray s 0 0 (Nf sz)) (F0 m 4 ls []) := by
    intro fu
    induction fu with
    | zero => intro j1688 no1688 ls H locs h0 h1 h2; exact absurd h2 (by omega)
    | succ fu ih_1688 =>
      intro j1688 no1688 ls H locs hj0_1688 hj_1688 hfu_1688 i0_1688 hl hh
      refine lv_iload_n hx hb dX12_isOne_4 rfl (lv_at hl 0 rfl) ?_
      refine lv_aload_n hx hb dX12_isOne_5 rfl (lv_at hl 2 rfl) ?_
      refine hp_get hx hb hts ix12 hown hK hh (q := 0) rfl (hI.1 _ (by decide)) es1687 rfl 2 (by decide) (hts _ tw_881) (fun _ h9 => h9) rfl dX12_isOne_6 ?_
      refine lv_icmp_ge (tgt := 78) hx hb dX12_isOne_9 (by decide) (fun c_1689 => ?_) (fun c_1689 => ?_)
      · have n_1689 : wd ≤ j1688 := n_le (a := wd) (b := j1688) c_1689 (by omega) (by omega)
        refine lv_iload_n hx hb dX12_isOne_78 rfl (lv_at hl 1 rfl) ?_
        exact hp_iretR hx hb hr (nar_bit i0_1688) hlocks hsz hh (i0_1688) dX12_isOne_79
      · have n_1689 : j1688 < wd := n_nle (a := wd) (b := j1688) c_1689 (by omega) (by omega)
        refine lv_iconst (v := 0) hx hb dX12_isOne_12 (by decide) ?_
        refine lv_istore (lv' := [(4, .int 0), (3, .int (nI j1688)), (2, .int no1688), (0, .ref (ad 0)), (1, .int (nI p9))]) hx hb dX12_isOne_13 hl (by decide) rfl (fun ls hl => ?_)
        have loop_1690 : ∀ (fu j1690 : Nat) (no1690 : Int32)  (ls : Array Slot) (H : Heap) (locs : List Loc), 0 ≤ j1690 → j1690 ≤ wd → wd < j1690 + fu →  (no1690 = 0 ∨ no1690 = 1) → lv_has ls 5 [(4, .int (nI j1690)), (3, .int (nI j1688)), (2, .int no1690), (0, .ref (ad 0)), (1, .int (nI p9))] → Hp D (Nf sz) (fun _ => True) s.heap H locs cs ad en → W p l e (headSpec (Cond.code yX12_isOne cX12_isOne 5 (some .boolean) :: TB) (rmN 0)).room s m ([.ref (ad 0), .int (nI p9)] : List Value).toArray below meth c H locs 0 0 (MQ below (va_Qi (S := Unit) (fun r _ => r = 0 ∨ r = 1) (fun _ _ => True) (Nf sz)) ([.ref (ad 0), .int (nI p9)] : List Value).toArray s 0 0 (Nf sz)) (F0 m 15 ls []) := by
          intro fu
          induction fu with
          | zero => intro j1690 no1690 ls H locs h0 h1 h2; exact absurd h2 (by omega)
          | succ fu ih_1690 =>
            intro j1690 no1690 ls H locs hj0_1690 hj_1690 hfu_1690 i0_1690 hl hh
            refine lv_iload hx hb dX12_isOne_15 (lv_at hl 0 rfl) ?_
            refine lv_aload_n hx hb dX12_isOne_17 rfl (lv_at hl 3 rfl) ?_
            refine hp_get hx hb hts ix12 hown hK hh (q := 0) rfl (hI.1 _ (by decide)) es1687 rfl 2 (by decide) (hts _ tw_881) (fun _ h9 => h9) rfl dX12_isOne_18 ?_
            refine lv_icmp_ge (tgt := 72) hx hb dX12_isOne_21 (by decide) (fun c_1691 => ?_) (fun c_1691 => ?_)
            · have n_1691 : wd ≤ j1690 := n_le (a := wd) (b := j1690) c_1691 (by omega) (by omega)
              refine lv_iinc (v := (nI (j1688 + 1))) (lv' := [(3, .int (nI (j1688 + 1))), (4, .int (nI j1690)), (2, .int no1690), (0, .ref (ad 0)), (1, .int (nI p9))]) hx hb dX12_isOne_72 hl (k := 1) rfl (nI_1 _) (by decide) rfl (fun ls hl => ?_)
              refine lv_goto (tgt := 4) hx hb dX12_isOne_75 (by decide) ?_
              exact ih_1688 ((j1688 + 1)) no1690 ls H locs (by omega) (by omega) (by omega) (i0_1690) (lv_sub hl [0, 2, 3, 4] rfl) hh
            · have n_1691 : j1690 < wd := n_nle (a := wd) (b := j1690) c_1691 (by omega) (by omega)
              refine lv_iload_n hx hb dX12_isOne_24 rfl (lv_at hl 2 rfl) ?_
              refine lv_aload_n hx hb dX12_isOne_25 rfl (lv_at hl 3 rfl) ?_
              refine hp_get hx hb hts ix12 hown hK hh (q := 0) rfl (hI.1 _ (by decide)) es1687 rfl 26 (by decide) (hts _ tw_905) (fun _ h9 => h9) rfl dX12_isOne_26 ?_
              refine lv_bipush (v := 9) hx hb dX12_isOne_29 (by decide) ?_
              refine lv_iload_n hx hb dX12_isOne_31 rfl (lv_at hl 4 rfl) ?_
              refine lv_imul hx hb dX12_isOne_32 ?_
              rw [show (9 : Int32) = nI 9 from rfl, pk_mul 9 p9]
              refine lv_aload_n hx hb dX12_isOne_33 rfl (lv_at hl 3 rfl) ?_
              refine hp_get hx hb hts ix12 hown hK hh (q := 0) rfl (hI.1 _ (by decide)) es1687 rfl 2 (by decide) (hts _ tw_881) (fun _ h9 => h9) rfl dX12_isOne_34 ?_
              refine lv_iload_n hx hb dX12_isOne_37 rfl (lv_at hl 1 rfl) ?_
              refine lv_imul hx hb dX12_isOne_38 ?_
              rw [pk_mul wd j1688]
              refine lv_iadd hx hb dX12_isOne_39 ?_
              rw [nI_add (9 * p9) (wd * j1688)]
              refine lv_iload hx hb dX12_isOne_40 (lv_at hl 0 rfl) ?_
              refine lv_iadd hx hb dX12_isOne_42 ?_
              rw [nI_add ((9 * p9) + (wd * j1688)) j1690]
              have hi_1692 : wd * j1688 + j1690 < 9 := mdr (by omega) (by omega) (by omega)
              obtain ⟨f_1693, es1693⟩ := getr_pd hI
              refine hp_lald hx hb hK hh (q := 14) rfl (hI.1 _ (by decide)) es1693 (vp_in_nI (n := (((9 * p9) + (wd * j1688)) + j1690)) (by omega) (by decide)) dX12_isOne_43 ?_
              rw [nI_clamp (n := (((9 * p9) + (wd * j1688)) + j1690)) (by omega)]
              refine lv_iload_n hx hb dX12_isOne_44 rfl (lv_at hl 1 rfl) ?_
              refine lv_iload hx hb dX12_isOne_45 (lv_at hl 0 rfl) ?_
              refine lv_icmp_ne (tgt := 54) hx hb dX12_isOne_47 (by decide) (fun c_1694 => ?_) (fun c_1694 => ?_)
              · have n_1694 : j1688 ≠ j1690 := n_neq (a := j1688) (b := j1690) c_1694 (by omega) (by omega)
                refine lv_lconst (v := 0) hx hb dX12_isOne_54 (by decide) ?_
                refine W.lcmp hx hb dX12_isOne_55 ?_
                refine lv_if_ne (tgt := 63) hx hb dX12_isOne_56 (by decide) (fun c_1695 => ?_) (fun c_1695 => ?_)
                · refine lv_iconst (v := 0) hx hb dX12_isOne_63 (by decide) ?_
                  refine lv_iand hx hb dX12_isOne_64 ?_
                  refine lv_istore_n (lv' := [(2, .int (no1690 &&& 0)), (4, .int (nI j1690)), (3, .int (nI j1688)), (0, .ref (ad 0)), (1, .int (nI p9))]) hx hb dX12_isOne_65 rfl hl (by decide) rfl (fun ls hl => ?_)
                  refine lv_iinc (v := (nI (j1690 + 1))) (lv' := [(4, .int (nI (j1690 + 1))), (2, .int (no1690 &&& 0)), (3, .int (nI j1688)), (0, .ref (ad 0)), (1, .int (nI p9))]) hx hb dX12_isOne_66 hl (k := 1) rfl (nI_1 _) (by decide) rfl (fun ls hl => ?_)
                  refine lv_goto (tgt := 15) hx hb dX12_isOne_69 (by decide) ?_
                  exact ih_1690 ((j1690 + 1)) (no1690 &&& 0) ls H locs (by omega) (by omega) (by omega) (bit_and i0_1690 (by decide)) (lv_sub hl [0, 2, 1, 3, 4] rfl) hh
                · refine lv_iconst (v := 1) hx hb dX12_isOne_59 (by decide) ?_
                  refine lv_goto (tgt := 64) hx hb dX12_isOne_60 (by decide) ?_
                  refine lv_iand hx hb dX12_isOne_64 ?_
                  refine lv_istore_n (lv' := [(2, .int (no1690 &&& 1)), (4, .int (nI j1690)), (3, .int (nI j1688)), (0, .ref (ad 0)), (1, .int (nI p9))]) hx hb dX12_isOne_65 rfl hl (by decide) rfl (fun ls hl => ?_)
                  refine lv_iinc (v := (nI (j1690 + 1))) (lv' := [(4, .int (nI (j1690 + 1))), (2, .int (no1690 &&& 1)), (3, .int (nI j1688)), (0, .ref (ad 0)), (1, .int (nI p9))]) hx hb dX12_isOne_66 hl (k := 1) rfl (nI_1 _) (by decide) rfl (fun ls hl => ?_)
                  refine lv_goto (tgt := 15) hx hb dX12_isOne_69 (by decide) ?_
                  exact ih_1690 ((j1690 + 1)) (no1690 &&& 1) ls H locs (by omega) (by omega) (by omega) (bit_and i0_1690 (by decide)) (lv_sub hl [0, 2, 1, 3, 4] rfl) hh
              · have n_1694 : j1688 = j1690 := n_eq (a := j1688) (b := j1690) c_1694 (by omega) (by omega)
                refine lv_lconst (v := 1) hx hb dX12_isOne_50 (by decide) ?_
                refine lv_goto (tgt := 55) hx hb dX12_isOne_51 (by decide) ?_
                refine W.lcmp hx hb dX12_isOne_55 ?_
                refine lv_if_ne (tgt := 63) hx hb dX12_isOne_56 (by decide) (fun c_1696 => ?_) (fun c_1696 => ?_)
                · refine lv_iconst (v := 0) hx hb dX12_isOne_63 (by decide) ?_
                  refine lv_iand hx hb dX12_isOne_64 ?_
                  refine lv_istore_n (lv' := [(2, .int (no1690 &&& 0)), (4, .int (nI j1690)), (3, .int (nI j1688)), (0, .ref (ad 0)), (1, .int (nI p9))]) hx hb dX12_isOne_65 rfl hl (by decide) rfl (fun ls hl => ?_)
                  refine lv_iinc (v := (nI (j1690 + 1))) (lv' := [(4, .int (nI (j1690 + 1))), (2, .int (no1690 &&& 0)), (3, .int (nI j1688)), (0, .ref (ad 0)), (1, .int (nI p9))]) hx hb dX12_isOne_66 hl (k := 1) rfl (nI_1 _) (by decide) rfl (fun ls hl => ?_)
                  refine lv_goto (tgt := 15) hx hb dX12_isOne_69 (by decide) ?_
                  exact ih_1690 ((j1690 + 1)) (no1690 &&& 0) ls H locs (by omega) (by omega) (by omega) (bit_and i0_1690 (by decide)) (lv_sub hl [0, 2, 1, 3, 4] rfl) hh
                · refine lv_iconst (v := 1) hx hb dX12_isOne_59 (by decide) ?_
                  refine lv_goto (tgt := 64) hx hb dX12_isOne_60 (by decide) ?_
                  refine lv_iand hx hb dX12_isOne_64 ?_
                  refine lv_istore_n (lv' := [(2, .int (no1690 &&& 1)), (4, .int (nI j1690)), (3, .int (nI j1688)), (0, .ref (ad 0)), (1, .int (nI p9))]) hx hb dX12_isOne_65 rfl hl (by decide) rfl (fun ls hl => ?_)
                  refine lv_iinc (v := (nI (j1690 + 1))) (lv' := [(4, .int (nI (j1690 + 1))), (2, .int (no1690 &&& 1)), (3, .int (nI j1688)), (0, .ref (ad 0)), (1, .int (nI p9))]) hx hb dX12_isOne_66 hl (k := 1) rfl (nI_1 _) (by decide) rfl (fun ls hl => ?_)
                  refine lv_goto (tgt := 15) hx hb dX12_isOne_69 (by decide) ?_
                  exact ih_1690 ((j1690 + 1)) (no1690 &&& 1) ls H locs (by omega) (by omega) (by omega) (bit_and i0_1690 (by decide)) (lv_sub hl [0, 2, 1, 3, 4] rfl) hh
        exact loop_1690 (wd + 1) 0 no1688 ls _ _ (Nat.le_refl _) (by omega) (by omega) (i0_1688) (lv_sub hl [0, 1, 2, 3, 4] rfl) hh
  exact loop_1688 (wd + 1) 0 1 ls _ _ (Nat.le_refl _) (by omega) (by omega) (by decide) (lv_sub hl [0, 1, 2, 3] rfl) hh
theorem kw_X12_isOne {R : Room} {s : State} {args : Array Value} {own : String} {idx : Nat} (hts : ∀ w ∈ TB, w.before args s = true) (hl : Cond.methodLink own idx yX12_isOne ∈ TB) (hR : 0 + 1 ≤ R.frames ∧ 8 + (5 + 11) + 40 * 0 ≤ R.locals) : CallW R s args own RX12 idx yX12_isOne cX12_isOne 5 (some .boolean) (Cond.code yX12_isOne cX12_isOne 5 (some .boolean) :: TB) (rmN 0) 0 0 1 := cwV 1 hts (TB_V hl tw_1148 ts_55 tw_9 tw_1149) rfl rfl rfl (by decide +kernel) hR
set_option maxHeartbeats 4000000 in
set_option maxRecDepth 100000 in
/-- close -/
theorem c_X12_close (l : Launch) (D : va_G) (cy : Nat → ClassId) (sz : Nat) (cs : List Nat) (ad : Nat → Nat) (en : Nat → va_E) (hI : RX cy cs ad en) (hCX : CHX en)   : Met l yX12_close (Cond.code yX12_close cX12_close 4 (some .int) :: TB) (rmN 3) (va_Pc [.ref (ad 0)] (Pre D cy cs ad en sz)) (va_Qi (S := Nat → va_E) (fun r en1 => RX cy cs ad en1 ∧ (∀ c, (c ≠ 0 ∧ c ≠ 6 ∧ c ≠ 14 ∧ c ≠ 15 ∧ c ≠ 16 ∧ c ≠ 17) → en1 c = en c) ∧ CHX en1 ∧ KPp en en1) (PostM D cs ad) (Af cs ad sz)) 0 0 (Af cs ad sz) := by
  refine Met.ofW (cc := cX12_close) (maxL := 4) (ret := (some .int)) (by decide) rfl ?_
  intro p e s m args below meth c s₁ B hml hv
  obtain ⟨rfl, hsz, hP, hK, hD0⟩ := hv
  have hx := B.exec
  have hb := B.bytes
  have hr := B.returns
  have hts : ∀ w ∈ TB, w.before _ s = true := fun w h => atoms_spec (ws := _ :: TB) B.pre w (List.mem_cons_of_mem _ h)
  have hown : s.vm.findClass RX12 = some m.cls := findClass_of_methodNamed B.named
  have hlocks := B.notSynchronized
  have hh : Hp D (Af cs ad sz) (Af cs ad sz) s.heap s.heap [] cs ad en := ⟨hP, Af_self hD0, va_S.rf⟩
  have hA : ∀ q : Nat, s.heap.size ≤ q → Af cs ad sz q := fun q h => Or.inr (by rw [hsz] at h; exact h)
  have hl := lv_entry ([.ref (ad 0)]) (n := 4) (Nat.le_of_ble_eq_true rfl)
  rw [lg_entry_eq]
  generalize (lg_sl ([.ref (ad 0)]) ++ List.replicate (4 - (lg_sl ([.ref (ad 0)])).length) Slot.unset).toArray = ls at hl ⊢
  have hl : lv_has ls 4 [(0, .ref (ad 0))] := hl
  have hf0 : ∀ c, (c ≠ 0 ∧ c ≠ 6 ∧ c ≠ 14 ∧ c ≠ 15 ∧ c ≠ 16 ∧ c ≠ 17) → en c = en c := fun _ _ => rfl
  obtain ⟨fa, hi, wd, mo, tb, dp, many, grt, lst, nou, rm, rb, pr, wo, es1697, hwd2, hwd3, hmo, htb, hwo⟩ := getr_M hI
  refine lv_aload_n hx hb dX12_close_0 rfl (lv_at hl 0 rfl) ?_
  refine hp_get hx hb hts ix12 hown hK hh (q := 0) rfl (hI.1 _ (by decide)) es1697 rfl 4 (by decide) (hts _ tw_883) (fun _ h9 => h9) rfl dX12_close_1 ?_
  refine lv_if_ne (tgt := 10) hx hb dX12_close_4 (by decide) (fun c_1698 => ?_) (fun c_1698 => ?_)
  · have n_1698 : tb ≠ 0 := n_neq (a := tb) (b := 0) c_1698 (by omega) (by decide)
    refine lv_aload_n hx hb dX12_close_10 rfl (lv_at hl 0 rfl) ?_
    refine lv_iconst (v := 0) hx hb dX12_close_11 (by decide) ?_
    refine hp_put hx hb hts ix12 tyX12 tyX12_ok nmX12 hown hK hh (q := 0) rfl (hI.1 _ (by decide)) es1697 rfl 25 (by decide) (hts _ tw_904) (fun _ h9 => h9) rfl (ty := .int) (by decide +kernel) rfl rfl (Nat.le_of_ble_eq_true rfl) dX12_close_12 (fun H locs en_1699 hen_1699 hh => ?_)
    have es1697_1699 : en_1699 0 = .inr (11, [.int fa, .int hi, .int (nI wd), .int (nI mo), .int (nI tb), .ref (ad 1), .ref (ad 2), .ref (ad 3), .ref (ad 4), .ref (ad 5), .ref (ad 6), .ref (ad 7), .ref (ad 8), .ref (ad 9), .int dp, .long many, .long grt, .long lst, .long nou, .ref (ad 10), .ref (ad 11), .ref (ad 12), .int rm, .long rb, .ref (ad 13), .int 0, .ref (ad 14), .ref (ad 15), .ref (ad 16), .ref (ad 17), .int (nI wo), .ref (ad 18), .ref (ad 19)]) := by rw [hen_1699]; exact va_up_self _ _ _
    have hI_1699 : RX cy cs ad en_1699 := by rw [hen_1699]; exact upr_M hI ⟨fa, hi, wd, mo, tb, dp, many, grt, lst, nou, rm, rb, 0, wo, rfl, hwd2, hwd3, hmo, htb, hwo⟩
    have hf_1699 : ∀ c, (c ≠ 0 ∧ c ≠ 6 ∧ c ≠ 14 ∧ c ≠ 15 ∧ c ≠ 16 ∧ c ≠ 17) → en_1699 c = en c := fun c hc => Eq.trans (show en_1699 c = en c from by rw [hen_1699, va_up_ne _ _ (by omega)]) (hf0 c hc)
    have hkp_1699 : KPp en en_1699 := KPp_fv (KPp_rf en) es1697 es1697_1699 hi (nI wd) (nI mo) (nI tb) (nI wo) rfl rfl rfl rfl rfl rfl rfl rfl rfl rfl
    refine lv_iconst (v := 0) hx hb dX12_close_15 (by decide) ?_
    refine lv_istore_n (lv' := [(1, .int 0), (0, .ref (ad 0))]) hx hb dX12_close_16 rfl hl (by decide) rfl (fun ls hl => ?_)
    have loop_1700 : ∀ (fu j1700 : Nat)  (en_1700 : Nat → va_E) (ls : Array Slot) (H : Heap) (locs : List Loc), 0 ≤ j1700 → j1700 ≤ 4096 → 4096 < j1700 + fu → RX cy cs ad en_1700 → (∀ c, (c ≠ 0 ∧ c ≠ 6 ∧ c ≠ 14 ∧ c ≠ 15 ∧ c ≠ 16 ∧ c ≠ 17) → en_1700 c = en c) → (∀ i, i < j1700 → rdF (en_1700 16) i = -9) → (rdI (en_1700 0) 25 = nI 0) → (KPp en en_1700) → lv_has ls 4 [(1, .int (nI j1700)), (0, .ref (ad 0))] → Hp D (Af cs ad sz) (Af cs ad sz) s.heap H locs cs ad en_1700 → W p l e (headSpec (Cond.code yX12_close cX12_close 4 (some .int) :: TB) (rmN 3)).room s m ([.ref (ad 0)] : List Value).toArray below meth c H locs 0 0 (MQ below (va_Qi (S := Nat → va_E) (fun r en1 => RX cy cs ad en1 ∧ (∀ c, (c ≠ 0 ∧ c ≠ 6 ∧ c ≠ 14 ∧ c ≠ 15 ∧ c ≠ 16 ∧ c ≠ 17) → en1 c = en c) ∧ CHX en1 ∧ KPp en en1) (PostM D cs ad) (Af cs ad sz)) ([.ref (ad 0)] : List Value).toArray s 0 0 (Af cs ad sz)) (F0 m 17 ls []) := by
      intro fu
      induction fu with
      | zero => intro j1700  en_1700 ls H locs h0 h1 h2; exact absurd h2 (by omega)
      | succ fu ih_1700 =>
        intro j1700  en_1700 ls H locs hj0_1700 hj_1700 hfu_1700 hI_1700 hf_1700 i0_1700 i1_1700 i2_1700 hl hh
        refine lv_iload_n hx hb dX12_close_17 rfl (lv_at hl 0 rfl) ?_
        refine lv_sipush (v := 4096) hx hb dX12_close_18 (by decide) ?_
        refine lv_icmp_ge (tgt := 38) hx hb dX12_close_21 (by decide) (fun c_1701 => ?_) (fun c_1701 => ?_)
        · have n_1701 : 4096 ≤ j1700 := n_le (a := 4096) (b := j1700) c_1701 (by decide) (by omega)
          have hCH0 : CH en_1700 0 := CH_0 i1_1700 (fun i hi => i0_1700 i (by omega))
          refine lv_iconst (v := 1) hx hb dX12_close_38 (by decide) ?_
          refine lv_istore_n (lv' := [(1, .int 1), (0, .ref (ad 0))]) hx hb dX12_close_39 rfl hl (by decide) rfl (fun ls hl => ?_)
          refine lv_aload_n hx hb dX12_close_40 rfl (lv_at hl 1 rfl) ?_
          obtain ⟨fa_1702, hi_1702, wd_1702, mo_1702, tb_1702, dp_1702, many_1702, grt_1702, lst_1702, nou_1702, rm_1702, rb_1702, pr_1702, wo_1702, es1702, p0_1702, p1_1702, p2_1702, p3_1702, p4_1702⟩ := getr_M hI_1700
          have hfx_1703 : pr_1702 = nI 0 := (show pr_1702 = rdI (en_1700 0) 25 from by rw [es1702]; rfl).trans (i1_1700)
          rw [hfx_1703] at es1702
          have hq2_1704 : wd_1702 = wd := n_eq ((show nI wd_1702 = rdI (en_1700 0) 2 from by rw [es1702]; rfl).trans (i2_1700.2.1.trans (show rdI (en 0) 2 = nI wd from by rw [es1697]; rfl))) (by omega) (by omega)
          have hq3_1704 : mo_1702 = mo := n_eq ((show nI mo_1702 = rdI (en_1700 0) 3 from by rw [es1702]; rfl).trans (i2_1700.2.2.1.trans (show rdI (en 0) 3 = nI mo from by rw [es1697]; rfl))) (by omega) (by omega)
          have hq4_1704 : tb_1702 = tb := n_eq ((show nI tb_1702 = rdI (en_1700 0) 4 from by rw [es1702]; rfl).trans (i2_1700.2.2.2.1.trans (show rdI (en 0) 4 = nI tb from by rw [es1697]; rfl))) (by omega) (by omega)
          have hq30_1704 : wo_1702 = wo := n_eq ((show nI wo_1702 = rdI (en_1700 0) 30 from by rw [es1702]; rfl).trans (i2_1700.2.2.2.2.trans (show rdI (en 0) 30 = nI wo from by rw [es1697]; rfl))) (by omega) (by omega)
          rw [hq2_1704, hq3_1704, hq4_1704, hq30_1704] at es1702
          refine hp_callMv (va_runV (As := []) (rest := []) ⟨hx, hb, hml, hown, hts⟩ (c_X12_beginLevels l D cy _ cs ad en_1700 hI_1700  ) (kw_X12_beginLevels hts tw_1042 ⟨by decide, by decide⟩) (preV_of hh hK (hI.1 _ (by decide)) es1702 rfl) rfl rfl hl.1 rfl (lv_room (Nat.le_of_ble_eq_true rfl)) dX12_close_41 ⟨Nat.le_of_ble_eq_true rfl, Nat.le_of_ble_eq_true rfl⟩) hh hA (fun H locs en_1705 hw_1705 hh => ?_)
          obtain ⟨hI_1705, hu_1705⟩ := hw_1705
          have es1702_1705 : en_1705 0 = .inr (11, [.int fa_1702, .int hi_1702, .int (nI wd), .int (nI mo), .int (nI tb), .ref (ad 1), .ref (ad 2), .ref (ad 3), .ref (ad 4), .ref (ad 5), .ref (ad 6), .ref (ad 7), .ref (ad 8), .ref (ad 9), .int dp_1702, .long many_1702, .long grt_1702, .long lst_1702, .long nou_1702, .ref (ad 10), .ref (ad 11), .ref (ad 12), .int rm_1702, .long rb_1702, .ref (ad 13), .int (nI 0), .ref (ad 14), .ref (ad 15), .ref (ad 16), .ref (ad 17), .int (nI wo), .ref (ad 18), .ref (ad 19)]) := (hu_1705 0 (by omega)).trans es1702
          have hf_1705 : ∀ c, (c ≠ 0 ∧ c ≠ 6 ∧ c ≠ 14 ∧ c ≠ 15 ∧ c ≠ 16 ∧ c ≠ 17) → en_1705 c = en c := fun c hc => (hu_1705 c (by omega)).trans (hf_1700 c hc)
          have hkp_1705 : KPp en en_1705 := KPp_same i2_1700 (hu_1705 0 (by omega))
          have hcq_1705 := CH_keep (e1 := en_1705) hCH0 (by rw [hu_1705 0 (by omega)]) (hu_1705 16 (by omega)) (hu_1705 17 (by omega))
          refine lv_iconst (v := 0) hx hb dX12_close_44 (by decide) ?_
          refine lv_istore_n (lv' := [(2, .int 0), (1, .int 1), (0, .ref (ad 0))]) hx hb dX12_close_45 rfl hl (by decide) rfl (fun ls hl => ?_)
          have loop_1706 : ∀ (fu j1706 : Nat) (my1706 : Int32) (en_1706 : Nat → va_E) (ls : Array Slot) (H : Heap) (locs : List Loc), 0 ≤ j1706 → j1706 ≤ 6 → 6 < j1706 + fu → RX cy cs ad en_1706 → (∀ c, (c ≠ 0 ∧ c ≠ 6 ∧ c ≠ 14 ∧ c ≠ 15 ∧ c ≠ 16 ∧ c ≠ 17) → en_1706 c = en c) → (∃ P, CH en_1706 P ∧ (j1706 = 0 ∨ my1706 = 0 ∨ 1 ≤ P)) → (KPp en en_1706) → lv_has ls 4 [(2, .int (nI j1706)), (1, .int my1706), (0, .ref (ad 0))] → Hp D (Af cs ad sz) (Af cs ad sz) s.heap H locs cs ad en_1706 → W p l e (headSpec (Cond.code yX12_close cX12_close 4 (some .int) :: TB) (rmN 3)).room s m ([.ref (ad 0)] : List Value).toArray below meth c H locs 0 0 (MQ below (va_Qi (S := Nat → va_E) (fun r en1 => RX cy cs ad en1 ∧ (∀ c, (c ≠ 0 ∧ c ≠ 6 ∧ c ≠ 14 ∧ c ≠ 15 ∧ c ≠ 16 ∧ c ≠ 17) → en1 c = en c) ∧ CHX en1 ∧ KPp en en1) (PostM D cs ad) (Af cs ad sz)) ([.ref (ad 0)] : List Value).toArray s 0 0 (Af cs ad sz)) (F0 m 46 ls []) := by
            intro fu
            induction fu with
            | zero => intro j1706 my1706 en_1706 ls H locs h0 h1 h2; exact absurd h2 (by omega)
            | succ fu ih_1706 =>
              intro j1706 my1706 en_1706 ls H locs hj0_1706 hj_1706 hfu_1706 hI_1706 hf_1706 i0_1706 i1_1706 hl hh
              obtain ⟨P_1706, hCH_1706, hPx_1706⟩ := i0_1706
              have hPb_1706 := hCH_1706.1
              refine lv_iload_n hx hb dX12_close_46 rfl (lv_at hl 0 rfl) ?_
              refine lv_aload_n hx hb dX12_close_47 rfl (lv_at hl 2 rfl) ?_
              obtain ⟨fa_1707, hi_1707, wd_1707, mo_1707, tb_1707, dp_1707, many_1707, grt_1707, lst_1707, nou_1707, rm_1707, rb_1707, pr_1707, wo_1707, es1707, p0_1707, p1_1707, p2_1707, p3_1707, p4_1707⟩ := getr_M hI_1706
              have hfx_1708 : pr_1707 = nI P_1706 := (show pr_1707 = rdI (en_1706 0) 25 from by rw [es1707]; rfl).trans (hCH_1706.2.1)
              rw [hfx_1708] at es1707
              have hq2_1709 : wd_1707 = wd := n_eq ((show nI wd_1707 = rdI (en_1706 0) 2 from by rw [es1707]; rfl).trans (i1_1706.2.1.trans (show rdI (en 0) 2 = nI wd from by rw [es1697]; rfl))) (by omega) (by omega)
              have hq3_1709 : mo_1707 = mo := n_eq ((show nI mo_1707 = rdI (en_1706 0) 3 from by rw [es1707]; rfl).trans (i1_1706.2.2.1.trans (show rdI (en 0) 3 = nI mo from by rw [es1697]; rfl))) (by omega) (by omega)
              have hq4_1709 : tb_1707 = tb := n_eq ((show nI tb_1707 = rdI (en_1706 0) 4 from by rw [es1707]; rfl).trans (i1_1706.2.2.2.1.trans (show rdI (en 0) 4 = nI tb from by rw [es1697]; rfl))) (by omega) (by omega)
              have hq30_1709 : wo_1707 = wo := n_eq ((show nI wo_1707 = rdI (en_1706 0) 30 from by rw [es1707]; rfl).trans (i1_1706.2.2.2.2.trans (show rdI (en 0) 30 = nI wo from by rw [es1697]; rfl))) (by omega) (by omega)
              rw [hq2_1709, hq3_1709, hq4_1709, hq30_1709] at es1707
              refine hp_get hx hb hts ix12 hown hK hh (q := 0) rfl (hI.1 _ (by decide)) es1707 rfl 4 (by decide) (hts _ tw_883) (fun _ h9 => h9) rfl dX12_close_48 ?_
              refine lv_icmp_ge (tgt := 77) hx hb dX12_close_51 (by decide) (fun c_1710 => ?_) (fun c_1710 => ?_)
              · have n_1710 : tb ≤ j1706 := n_le (a := tb) (b := j1706) c_1710 (by omega) (by omega)
                refine lv_iconst (v := 0) hx hb dX12_close_77 (by decide) ?_
                refine lv_istore_n (lv' := [(2, .int 0), (1, .int my1706), (0, .ref (ad 0))]) hx hb dX12_close_78 rfl hl (by decide) rfl (fun ls hl => ?_)
                have loop_1711 : ∀ (fu j1711 : Nat) (my1711 : Int32) (en_1711 : Nat → va_E) (ls : Array Slot) (H : Heap) (locs : List Loc), 0 ≤ j1711 → j1711 ≤ 2000 → 2000 < j1711 + fu → RX cy cs ad en_1711 → (∀ c, (c ≠ 0 ∧ c ≠ 6 ∧ c ≠ 14 ∧ c ≠ 15 ∧ c ≠ 16 ∧ c ≠ 17) → en_1711 c = en c) → (∃ P, CH en_1711 P ∧ (my1711 = 0 ∨ 1 ≤ P)) → (KPp en en_1711) → lv_has ls 4 [(2, .int (nI j1711)), (1, .int my1711), (0, .ref (ad 0))] → Hp D (Af cs ad sz) (Af cs ad sz) s.heap H locs cs ad en_1711 → W p l e (headSpec (Cond.code yX12_close cX12_close 4 (some .int) :: TB) (rmN 3)).room s m ([.ref (ad 0)] : List Value).toArray below meth c H locs 0 0 (MQ below (va_Qi (S := Nat → va_E) (fun r en1 => RX cy cs ad en1 ∧ (∀ c, (c ≠ 0 ∧ c ≠ 6 ∧ c ≠ 14 ∧ c ≠ 15 ∧ c ≠ 16 ∧ c ≠ 17) → en1 c = en c) ∧ CHX en1 ∧ KPp en en1) (PostM D cs ad) (Af cs ad sz)) ([.ref (ad 0)] : List Value).toArray s 0 0 (Af cs ad sz)) (F0 m 79 ls []) := by
                  intro fu
                  induction fu with
                  | zero => intro j1711 my1711 en_1711 ls H locs h0 h1 h2; exact absurd h2 (by omega)
                  | succ fu ih_1711 =>
                    intro j1711 my1711 en_1711 ls H locs hj0_1711 hj_1711 hfu_1711 hI_1711 hf_1711 i0_1711 i1_1711 hl hh
                    obtain ⟨P_1711, hCH_1711, hPx_1711⟩ := i0_1711
                    have hPb_1711 := hCH_1711.1
                    refine lv_iload_n hx hb dX12_close_79 rfl (lv_at hl 0 rfl) ?_
                    refine lv_aload_n hx hb dX12_close_80 rfl (lv_at hl 2 rfl) ?_
                    obtain ⟨fa_1712, hi_1712, wd_1712, mo_1712, tb_1712, dp_1712, many_1712, grt_1712, lst_1712, nou_1712, rm_1712, rb_1712, pr_1712, wo_1712, es1712, p0_1712, p1_1712, p2_1712, p3_1712, p4_1712⟩ := getr_M hI_1711
                    have hfx_1713 : pr_1712 = nI P_1711 := (show pr_1712 = rdI (en_1711 0) 25 from by rw [es1712]; rfl).trans (hCH_1711.2.1)
                    rw [hfx_1713] at es1712
                    have hq2_1714 : wd_1712 = wd := n_eq ((show nI wd_1712 = rdI (en_1711 0) 2 from by rw [es1712]; rfl).trans (i1_1711.2.1.trans (show rdI (en 0) 2 = nI wd from by rw [es1697]; rfl))) (by omega) (by omega)
                    have hq3_1714 : mo_1712 = mo := n_eq ((show nI mo_1712 = rdI (en_1711 0) 3 from by rw [es1712]; rfl).trans (i1_1711.2.2.1.trans (show rdI (en 0) 3 = nI mo from by rw [es1697]; rfl))) (by omega) (by omega)
                    have hq4_1714 : tb_1712 = tb := n_eq ((show nI tb_1712 = rdI (en_1711 0) 4 from by rw [es1712]; rfl).trans (i1_1711.2.2.2.1.trans (show rdI (en 0) 4 = nI tb from by rw [es1697]; rfl))) (by omega) (by omega)
                    have hq30_1714 : wo_1712 = wo := n_eq ((show nI wo_1712 = rdI (en_1711 0) 30 from by rw [es1712]; rfl).trans (i1_1711.2.2.2.2.trans (show rdI (en 0) 30 = nI wo from by rw [es1697]; rfl))) (by omega) (by omega)
                    rw [hq2_1714, hq3_1714, hq4_1714, hq30_1714] at es1712
                    refine hp_get hx hb hts ix12 hown hK hh (q := 0) rfl (hI.1 _ (by decide)) es1712 rfl 25 (by decide) (hts _ tw_904) (fun _ h9 => h9) rfl dX12_close_81 ?_
                    refine lv_icmp_ge (tgt := 143) hx hb dX12_close_84 (by decide) (fun c_1715 => ?_) (fun c_1715 => ?_)
                    · have n_1715 : P_1711 ≤ j1711 := n_le (a := P_1711) (b := j1711) c_1715 (by omega) (by omega)
                      refine lv_iload_n hx hb dX12_close_143 rfl (lv_at hl 1 rfl) ?_
                      refine lv_if_ne (tgt := 156) hx hb dX12_close_144 (by decide) (fun c_1716 => ?_) (fun c_1716 => ?_)
                      · refine lv_aload_n hx hb dX12_close_156 rfl (lv_at hl 2 rfl) ?_
                        refine hp_get hx hb hts ix12 hown hK hh (q := 0) rfl (hI.1 _ (by decide)) es1712 rfl 25 (by decide) (hts _ tw_904) (fun _ h9 => h9) rfl dX12_close_157 ?_
                        exact hp_iretM hx hb hr rfl hlocks hh (⟨hI_1711, hf_1711, Or.inr ⟨P_1711, (hPx_1711).resolve_left c_1716, hCH_1711⟩, i1_1711⟩) dX12_close_160
                      · refine lv_aload_n hx hb dX12_close_147 rfl (lv_at hl 2 rfl) ?_
                        refine lv_bipush (v := (-9)) hx hb dX12_close_148 (by decide) ?_
                        refine hp_put hx hb hts ix12 tyX12 tyX12_ok nmX12 hown hK hh (q := 0) rfl (hI.1 _ (by decide)) es1712 rfl 25 (by decide) (hts _ tw_904) (fun _ h9 => h9) rfl (ty := .int) (by decide +kernel) rfl rfl (Nat.le_of_ble_eq_true rfl) dX12_close_150 (fun H locs en_1717 hen_1717 hh => ?_)
                        have es1712_1717 : en_1717 0 = .inr (11, [.int fa_1712, .int hi_1712, .int (nI wd), .int (nI mo), .int (nI tb), .ref (ad 1), .ref (ad 2), .ref (ad 3), .ref (ad 4), .ref (ad 5), .ref (ad 6), .ref (ad 7), .ref (ad 8), .ref (ad 9), .int dp_1712, .long many_1712, .long grt_1712, .long lst_1712, .long nou_1712, .ref (ad 10), .ref (ad 11), .ref (ad 12), .int rm_1712, .long rb_1712, .ref (ad 13), .int (-9), .ref (ad 14), .ref (ad 15), .ref (ad 16), .ref (ad 17), .int (nI wo), .ref (ad 18), .ref (ad 19)]) := by rw [hen_1717]; exact va_up_self _ _ _
                        have hI_1717 : RX cy cs ad en_1717 := by rw [hen_1717]; exact upr_M hI_1711 ⟨fa_1712, hi_1712, wd, mo, tb, dp_1712, many_1712, grt_1712, lst_1712, nou_1712, rm_1712, rb_1712, (-9), wo, rfl, hwd2, hwd3, hmo, htb, hwo⟩
                        have hf_1717 : ∀ c, (c ≠ 0 ∧ c ≠ 6 ∧ c ≠ 14 ∧ c ≠ 15 ∧ c ≠ 16 ∧ c ≠ 17) → en_1717 c = en c := fun c hc => Eq.trans (show en_1717 c = en_1711 c from by rw [hen_1717, va_up_ne _ _ (by omega)]) (hf_1711 c hc)
                        have hkp_1717 : KPp en en_1717 := KPp_fv i1_1711 es1712 es1712_1717 hi_1712 (nI wd) (nI mo) (nI tb) (nI wo) rfl rfl rfl rfl rfl rfl rfl rfl rfl rfl
                        refine lv_bipush (v := (-6)) hx hb dX12_close_153 (by decide) ?_
                        exact hp_iretM hx hb hr rfl hlocks hh (⟨hI_1717, hf_1717, Or.inl (by rw [es1712_1717]; rfl), hkp_1717⟩) dX12_close_155
                    · have n_1715 : j1711 < P_1711 := n_nle (a := P_1711) (b := j1711) c_1715 (by omega) (by omega)
                      refine lv_iload_n hx hb dX12_close_87 rfl (lv_at hl 1 rfl) ?_
                      refine lv_if_eq (tgt := 143) hx hb dX12_close_88 (by decide) (fun c_1718 => ?_) (fun c_1718 => ?_)
                      · refine lv_iload_n hx hb dX12_close_143 rfl (lv_at hl 1 rfl) ?_
                        refine lv_if_ne (tgt := 156) hx hb dX12_close_144 (by decide) (fun c_1719 => ?_) (fun c_1719 => ?_)
                        · refine lv_aload_n hx hb dX12_close_156 rfl (lv_at hl 2 rfl) ?_
                          refine hp_get hx hb hts ix12 hown hK hh (q := 0) rfl (hI.1 _ (by decide)) es1712 rfl 25 (by decide) (hts _ tw_904) (fun _ h9 => h9) rfl dX12_close_157 ?_
                          exact hp_iretM hx hb hr rfl hlocks hh (⟨hI_1711, hf_1711, Or.inr ⟨P_1711, (hPx_1711).resolve_left c_1719, hCH_1711⟩, i1_1711⟩) dX12_close_160
                        · refine lv_aload_n hx hb dX12_close_147 rfl (lv_at hl 2 rfl) ?_
                          refine lv_bipush (v := (-9)) hx hb dX12_close_148 (by decide) ?_
                          refine hp_put hx hb hts ix12 tyX12 tyX12_ok nmX12 hown hK hh (q := 0) rfl (hI.1 _ (by decide)) es1712 rfl 25 (by decide) (hts _ tw_904) (fun _ h9 => h9) rfl (ty := .int) (by decide +kernel) rfl rfl (Nat.le_of_ble_eq_true rfl) dX12_close_150 (fun H locs en_1720 hen_1720 hh => ?_)
                          have es1712_1720 : en_1720 0 = .inr (11, [.int fa_1712, .int hi_1712, .int (nI wd), .int (nI mo), .int (nI tb), .ref (ad 1), .ref (ad 2), .ref (ad 3), .ref (ad 4), .ref (ad 5), .ref (ad 6), .ref (ad 7), .ref (ad 8), .ref (ad 9), .int dp_1712, .long many_1712, .long grt_1712, .long lst_1712, .long nou_1712, .ref (ad 10), .ref (ad 11), .ref (ad 12), .int rm_1712, .long rb_1712, .ref (ad 13), .int (-9), .ref (ad 14), .ref (ad 15), .ref (ad 16), .ref (ad 17), .int (nI wo), .ref (ad 18), .ref (ad 19)]) := by rw [hen_1720]; exact va_up_self _ _ _
                          have hI_1720 : RX cy cs ad en_1720 := by rw [hen_1720]; exact upr_M hI_1711 ⟨fa_1712, hi_1712, wd, mo, tb, dp_1712, many_1712, grt_1712, lst_1712, nou_1712, rm_1712, rb_1712, (-9), wo, rfl, hwd2, hwd3, hmo, htb, hwo⟩
                          have hf_1720 : ∀ c, (c ≠ 0 ∧ c ≠ 6 ∧ c ≠ 14 ∧ c ≠ 15 ∧ c ≠ 16 ∧ c ≠ 17) → en_1720 c = en c := fun c hc => Eq.trans (show en_1720 c = en_1711 c from by rw [hen_1720, va_up_ne _ _ (by omega)]) (hf_1711 c hc)
                          have hkp_1720 : KPp en en_1720 := KPp_fv i1_1711 es1712 es1712_1720 hi_1712 (nI wd) (nI mo) (nI tb) (nI wo) rfl rfl rfl rfl rfl rfl rfl rfl rfl rfl
                          refine lv_bipush (v := (-6)) hx hb dX12_close_153 (by decide) ?_
                          exact hp_iretM hx hb hr rfl hlocks hh (⟨hI_1720, hf_1720, Or.inl (by rw [es1712_1720]; rfl), hkp_1720⟩) dX12_close_155
                      · refine lv_iconst (v := 0) hx hb dX12_close_91 (by decide) ?_
                        refine lv_istore_n (lv' := [(3, .int 0), (2, .int (nI j1711)), (1, .int my1711), (0, .ref (ad 0))]) hx hb dX12_close_92 rfl hl (by decide) rfl (fun ls hl => ?_)
                        have loop_1721 : ∀ (fu j1721 : Nat) (my1721 : Int32) (en_1721 : Nat → va_E) (ls : Array Slot) (H : Heap) (locs : List Loc), 0 ≤ j1721 → j1721 ≤ 6 → 6 < j1721 + fu → RX cy cs ad en_1721 → (∀ c, (c ≠ 0 ∧ c ≠ 6 ∧ c ≠ 14 ∧ c ≠ 15 ∧ c ≠ 16 ∧ c ≠ 17) → en_1721 c = en c) → (∃ P, CH en_1721 P ∧ (my1721 = 0 ∨ 1 ≤ P)) → (KPp en en_1721) → lv_has ls 4 [(3, .int (nI j1721)), (2, .int (nI j1711)), (1, .int my1721), (0, .ref (ad 0))] → Hp D (Af cs ad sz) (Af cs ad sz) s.heap H locs cs ad en_1721 → W p l e (headSpec (Cond.code yX12_close cX12_close 4 (some .int) :: TB) (rmN 3)).room s m ([.ref (ad 0)] : List Value).toArray below meth c H locs 0 0 (MQ below (va_Qi (S := Nat → va_E) (fun r en1 => RX cy cs ad en1 ∧ (∀ c, (c ≠ 0 ∧ c ≠ 6 ∧ c ≠ 14 ∧ c ≠ 15 ∧ c ≠ 16 ∧ c ≠ 17) → en1 c = en c) ∧ CHX en1 ∧ KPp en en1) (PostM D cs ad) (Af cs ad sz)) ([.ref (ad 0)] : List Value).toArray s 0 0 (Af cs ad sz)) (F0 m 93 ls []) := by
                          intro fu
                          induction fu with
                          | zero => intro j1721 my1721 en_1721 ls H locs h0 h1 h2; exact absurd h2 (by omega)
                          | succ fu ih_1721 =>
                            intro j1721 my1721 en_1721 ls H locs hj0_1721 hj_1721 hfu_1721 hI_1721 hf_1721 i0_1721 i1_1721 hl hh
                            obtain ⟨P_1721, hCH_1721, hPx_1721⟩ := i0_1721
                            have hPb_1721 := hCH_1721.1
                            refine lv_iload_n hx hb dX12_close_93 rfl (lv_at hl 0 rfl) ?_
                            refine lv_aload_n hx hb dX12_close_94 rfl (lv_at hl 3 rfl) ?_
                            obtain ⟨fa_1722, hi_1722, wd_1722, mo_1722, tb_1722, dp_1722, many_1722, grt_1722, lst_1722, nou_1722, rm_1722, rb_1722, pr_1722, wo_1722, es1722, p0_1722, p1_1722, p2_1722, p3_1722, p4_1722⟩ := getr_M hI_1721
                            have hfx_1723 : pr_1722 = nI P_1721 := (show pr_1722 = rdI (en_1721 0) 25 from by rw [es1722]; rfl).trans (hCH_1721.2.1)
                            rw [hfx_1723] at es1722
                            have hq2_1724 : wd_1722 = wd := n_eq ((show nI wd_1722 = rdI (en_1721 0) 2 from by rw [es1722]; rfl).trans (i1_1721.2.1.trans (show rdI (en 0) 2 = nI wd from by rw [es1697]; rfl))) (by omega) (by omega)
                            have hq3_1724 : mo_1722 = mo := n_eq ((show nI mo_1722 = rdI (en_1721 0) 3 from by rw [es1722]; rfl).trans (i1_1721.2.2.1.trans (show rdI (en 0) 3 = nI mo from by rw [es1697]; rfl))) (by omega) (by omega)
                            have hq4_1724 : tb_1722 = tb := n_eq ((show nI tb_1722 = rdI (en_1721 0) 4 from by rw [es1722]; rfl).trans (i1_1721.2.2.2.1.trans (show rdI (en 0) 4 = nI tb from by rw [es1697]; rfl))) (by omega) (by omega)
                            have hq30_1724 : wo_1722 = wo := n_eq ((show nI wo_1722 = rdI (en_1721 0) 30 from by rw [es1722]; rfl).trans (i1_1721.2.2.2.2.trans (show rdI (en 0) 30 = nI wo from by rw [es1697]; rfl))) (by omega) (by omega)
                            rw [hq2_1724, hq3_1724, hq4_1724, hq30_1724] at es1722
                            refine hp_get hx hb hts ix12 hown hK hh (q := 0) rfl (hI.1 _ (by decide)) es1722 rfl 4 (by decide) (hts _ tw_883) (fun _ h9 => h9) rfl dX12_close_95 ?_
                            refine lv_icmp_ge (tgt := 137) hx hb dX12_close_98 (by decide) (fun c_1725 => ?_) (fun c_1725 => ?_)
                            · have n_1725 : tb ≤ j1721 := n_le (a := tb) (b := j1721) c_1725 (by omega) (by omega)
                              refine lv_iinc (v := (nI (j1711 + 1))) (lv' := [(2, .int (nI (j1711 + 1))), (3, .int (nI j1721)), (1, .int my1721), (0, .ref (ad 0))]) hx hb dX12_close_137 hl (k := 1) rfl (nI_1 _) (by decide) rfl (fun ls hl => ?_)
                              refine lv_goto (tgt := 79) hx hb dX12_close_140 (by decide) ?_
                              exact ih_1711 ((j1711 + 1)) my1721 en_1721 ls H locs (by omega) (by omega) (by omega) hI_1721 hf_1721 (⟨P_1721, hCH_1721, hPx_1721⟩) (i1_1721) (lv_sub hl [0, 2, 3] rfl) hh
                            · have n_1725 : j1721 < tb := n_nle (a := tb) (b := j1721) c_1725 (by omega) (by omega)
                              refine lv_iload_n hx hb dX12_close_101 rfl (lv_at hl 2 rfl) ?_
                              refine lv_if_eq (tgt := 137) hx hb dX12_close_102 (by decide) (fun c_1726 => ?_) (fun c_1726 => ?_)
                              · refine lv_iinc (v := (nI (j1711 + 1))) (lv' := [(2, .int (nI (j1711 + 1))), (3, .int (nI j1721)), (1, .int my1721), (0, .ref (ad 0))]) hx hb dX12_close_137 hl (k := 1) rfl (nI_1 _) (by decide) rfl (fun ls hl => ?_)
                                refine lv_goto (tgt := 79) hx hb dX12_close_140 (by decide) ?_
                                exact ih_1711 ((j1711 + 1)) my1721 en_1721 ls H locs (by omega) (by omega) (by omega) hI_1721 hf_1721 (⟨P_1721, hCH_1721, hPx_1721⟩) (i1_1721) (lv_sub hl [0, 2, 3] rfl) hh
                              · refine lv_aload_n hx hb dX12_close_105 rfl (lv_at hl 3 rfl) ?_
                                refine lv_iload_n hx hb dX12_close_106 rfl (lv_at hl 1 rfl) ?_
                                refine lv_iconst (v := 0) hx hb dX12_close_107 (by decide) ?_
                                refine hp_callMv (va_runV (As := [.int (nI j1711), .int 0]) (rest := []) ⟨hx, hb, hml, hown, hts⟩ (c_X12_layProduct l D cy _ cs ad en_1721 hI_1721 j1711 0 (by omega) (by omega)) (kw_X12_layProduct hts tw_1133 ⟨by decide, by decide⟩) (preV_of hh hK (hI.1 _ (by decide)) es1722 rfl) rfl rfl hl.1 rfl (lv_room (Nat.le_of_ble_eq_true rfl)) dX12_close_108 ⟨Nat.le_of_ble_eq_true rfl, Nat.le_of_ble_eq_true rfl⟩) hh hA (fun H locs en_1727 hw_1727 hh => ?_)
                                obtain ⟨hI_1727, hu_1727⟩ := hw_1727
                                have es1722_1727 : en_1727 0 = .inr (11, [.int fa_1722, .int hi_1722, .int (nI wd), .int (nI mo), .int (nI tb), .ref (ad 1), .ref (ad 2), .ref (ad 3), .ref (ad 4), .ref (ad 5), .ref (ad 6), .ref (ad 7), .ref (ad 8), .ref (ad 9), .int dp_1722, .long many_1722, .long grt_1722, .long lst_1722, .long nou_1722, .ref (ad 10), .ref (ad 11), .ref (ad 12), .int rm_1722, .long rb_1722, .ref (ad 13), .int (nI P_1721), .ref (ad 14), .ref (ad 15), .ref (ad 16), .ref (ad 17), .int (nI wo), .ref (ad 18), .ref (ad 19)]) := (hu_1727 0 (by omega)).trans es1722
                                have hf_1727 : ∀ c, (c ≠ 0 ∧ c ≠ 6 ∧ c ≠ 14 ∧ c ≠ 15 ∧ c ≠ 16 ∧ c ≠ 17) → en_1727 c = en c := fun c hc => (hu_1727 c (by omega)).trans (hf_1721 c hc)
                                have hkp_1727 : KPp en en_1727 := KPp_same i1_1721 (hu_1727 0 (by omega))
                                have hcq_1727 := CH_keep (e1 := en_1727) hCH_1721 (by rw [hu_1727 0 (by omega)]) (hu_1727 16 (by omega)) (hu_1727 17 (by omega))
                                refine lv_aload_n hx hb dX12_close_111 rfl (lv_at hl 3 rfl) ?_
                                refine lv_iconst (v := 0) hx hb dX12_close_112 (by decide) ?_
                                refine lv_iload_n hx hb dX12_close_113 rfl (lv_at hl 0 rfl) ?_
                                refine hp_callMv (va_runV (As := [.int 0, .int (nI j1721)]) (rest := []) ⟨hx, hb, hml, hown, hts⟩ (c_X12_goOn l D cy _ cs ad en_1727 hI_1727 0 j1721 (by omega) (by omega)) (kw_X12_goOn hts tw_1050 ⟨by decide, by decide⟩) (preV_of hh hK (hI.1 _ (by decide)) es1722_1727 rfl) rfl rfl hl.1 rfl (lv_room (Nat.le_of_ble_eq_true rfl)) dX12_close_114 ⟨Nat.le_of_ble_eq_true rfl, Nat.le_of_ble_eq_true rfl⟩) hh hA (fun H locs en_1728 hw_1728 hh => ?_)
                                obtain ⟨hI_1728, hu_1728⟩ := hw_1728
                                have es1722_1728 : en_1728 0 = .inr (11, [.int fa_1722, .int hi_1722, .int (nI wd), .int (nI mo), .int (nI tb), .ref (ad 1), .ref (ad 2), .ref (ad 3), .ref (ad 4), .ref (ad 5), .ref (ad 6), .ref (ad 7), .ref (ad 8), .ref (ad 9), .int dp_1722, .long many_1722, .long grt_1722, .long lst_1722, .long nou_1722, .ref (ad 10), .ref (ad 11), .ref (ad 12), .int rm_1722, .long rb_1722, .ref (ad 13), .int (nI P_1721), .ref (ad 14), .ref (ad 15), .ref (ad 16), .ref (ad 17), .int (nI wo), .ref (ad 18), .ref (ad 19)]) := (hu_1728 0 (by omega)).trans es1722_1727
                                have hf_1728 : ∀ c, (c ≠ 0 ∧ c ≠ 6 ∧ c ≠ 14 ∧ c ≠ 15 ∧ c ≠ 16 ∧ c ≠ 17) → en_1728 c = en c := fun c hc => (hu_1728 c (by omega)).trans (hf_1727 c hc)
                                have hkp_1728 : KPp en en_1728 := KPp_same hkp_1727 (hu_1728 0 (by omega))
                                have hcq_1728 := CH_keep (e1 := en_1728) hcq_1727 (by rw [hu_1728 0 (by omega)]) (hu_1728 16 (by omega)) (hu_1728 17 (by omega))
                                refine lv_aload_n hx hb dX12_close_117 rfl (lv_at hl 3 rfl) ?_
                                refine lv_iconst (v := 1) hx hb dX12_close_118 (by decide) ?_
                                refine lv_aload_n hx hb dX12_close_119 rfl (lv_at hl 3 rfl) ?_
                                refine hp_get hx hb hts ix12 hown hK hh (q := 0) rfl (hI.1 _ (by decide)) es1722_1728 rfl 27 (by decide) (hts _ tw_906) (fun _ h9 => h9) rfl dX12_close_120 ?_
                                refine lv_iload_n hx hb dX12_close_123 rfl (lv_at hl 1 rfl) ?_
                                obtain ⟨f_1729, es1729⟩ := getr_ln hI_1728
                                refine hp_iald hx hb hK hh (q := 15) rfl (hI.1 _ (by decide)) es1729 (vp_in_nI (n := j1711) (by omega) (by decide)) dX12_close_124 ?_
                                rw [nI_clamp (n := j1711) (by omega)]
                                refine lv_iconst (v := 1) hx hb dX12_close_125 (by decide) ?_
                                refine lv_iadd hx hb dX12_close_126 ?_
                                refine hp_callMi (va_runV (As := [.int 1, .int ((f_1729 j1711) + 1)]) (rest := []) ⟨hx, hb, hml, hown, hts⟩ (c_X12_comes l D cy _ cs ad en_1728 hI_1728 1 ((f_1729 j1711) + 1) (by omega) P_1721 hcq_1728) (kw_X12_comes hts tw_1117 ⟨by decide, by decide⟩) (preV_of hh hK (hI.1 _ (by decide)) es1722_1728 rfl) rfl rfl hl.1 rfl (lv_room (Nat.le_of_ble_eq_true rfl)) dX12_close_127 ⟨Nat.le_of_ble_eq_true rfl, Nat.le_of_ble_eq_true rfl⟩) hh hA (fun r_1730 H locs en_1730 hw_1730 hh => ?_)
                                obtain ⟨hI_1730, hu_1730, hy_1730, hx_1730⟩ := hw_1730
                                have hw_1730 := (⟨hI_1730, hu_1730, hx_1730⟩ : _ ∧ _ ∧ _)
                                obtain ⟨hI_1730, hu_1730, hx_1730⟩ := hw_1730
                                have hf_1730 : ∀ c, (c ≠ 0 ∧ c ≠ 6 ∧ c ≠ 14 ∧ c ≠ 15 ∧ c ≠ 16 ∧ c ≠ 17) → en_1730 c = en c := fun c hc => (hu_1730 c (by omega)).trans (hf_1728 c hc)
                                have hkp_1730 : KPp en en_1730 := KPp_tr hkp_1728 hx_1730
                                rcases hy_1730 with ⟨hr_1730, hch_1730⟩ | ⟨hr_1730, P1_1730, hch_1730, hle_1730, hp1_1730⟩
                                · rw [hr_1730]
                                  refine lv_istore_n (lv' := [(1, .int 0), (3, .int (nI j1721)), (2, .int (nI j1711)), (0, .ref (ad 0))]) hx hb dX12_close_130 rfl hl (by decide) rfl (fun ls hl => ?_)
                                  refine lv_iinc (v := (nI (j1721 + 1))) (lv' := [(3, .int (nI (j1721 + 1))), (1, .int 0), (2, .int (nI j1711)), (0, .ref (ad 0))]) hx hb dX12_close_131 hl (k := 1) rfl (nI_1 _) (by decide) rfl (fun ls hl => ?_)
                                  refine lv_goto (tgt := 93) hx hb dX12_close_134 (by decide) ?_
                                  exact ih_1721 ((j1721 + 1)) 0 en_1730 ls H locs (by omega) (by omega) (by omega) hI_1730 hf_1730 (⟨P_1721, hch_1730, Or.inl rfl⟩) (hkp_1730) (lv_sub hl [0, 2, 1, 3] rfl) hh
                                · rw [hr_1730]
                                  refine lv_istore_n (lv' := [(1, .int 1), (3, .int (nI j1721)), (2, .int (nI j1711)), (0, .ref (ad 0))]) hx hb dX12_close_130 rfl hl (by decide) rfl (fun ls hl => ?_)
                                  refine lv_iinc (v := (nI (j1721 + 1))) (lv' := [(3, .int (nI (j1721 + 1))), (1, .int 1), (2, .int (nI j1711)), (0, .ref (ad 0))]) hx hb dX12_close_131 hl (k := 1) rfl (nI_1 _) (by decide) rfl (fun ls hl => ?_)
                                  refine lv_goto (tgt := 93) hx hb dX12_close_134 (by decide) ?_
                                  exact ih_1721 ((j1721 + 1)) 1 en_1730 ls H locs (by omega) (by omega) (by omega) hI_1730 hf_1730 (⟨P1_1730, hch_1730, Or.inr hp1_1730⟩) (hkp_1730) (lv_sub hl [0, 2, 1, 3] rfl) hh
                        exact loop_1721 (6 + 1) 0 my1711 en_1711 ls _ _ (Nat.le_refl _) (by omega) (by omega) hI_1711 hf_1711 (⟨P_1711, hCH_1711, hPx_1711⟩) (i1_1711) (lv_sub hl [0, 1, 2, 3] rfl) hh
                exact loop_1711 (2000 + 1) 0 my1706 en_1706 ls _ _ (Nat.le_refl _) (by omega) (by omega) hI_1706 hf_1706 (⟨P_1706, hCH_1706, by rcases hPx_1706 with h9 | h9 | h9; exact absurd h9 (by omega); exact Or.inl h9; exact Or.inr h9⟩) (i1_1706) (lv_sub hl [0, 1, 2] rfl) hh
              · have n_1710 : j1706 < tb := n_nle (a := tb) (b := j1706) c_1710 (by omega) (by omega)
                refine lv_iload_n hx hb dX12_close_54 rfl (lv_at hl 1 rfl) ?_
                refine lv_if_eq (tgt := 77) hx hb dX12_close_55 (by decide) (fun c_1731 => ?_) (fun c_1731 => ?_)
                · refine lv_iconst (v := 0) hx hb dX12_close_77 (by decide) ?_
                  refine lv_istore_n (lv' := [(2, .int 0), (1, .int my1706), (0, .ref (ad 0))]) hx hb dX12_close_78 rfl hl (by decide) rfl (fun ls hl => ?_)
                  have loop_1732 : ∀ (fu j1732 : Nat) (my1732 : Int32) (en_1732 : Nat → va_E) (ls : Array Slot) (H : Heap) (locs : List Loc), 0 ≤ j1732 → j1732 ≤ 2000 → 2000 < j1732 + fu → RX cy cs ad en_1732 → (∀ c, (c ≠ 0 ∧ c ≠ 6 ∧ c ≠ 14 ∧ c ≠ 15 ∧ c ≠ 16 ∧ c ≠ 17) → en_1732 c = en c) → (∃ P, CH en_1732 P ∧ (my1732 = 0 ∨ 1 ≤ P)) → (KPp en en_1732) → lv_has ls 4 [(2, .int (nI j1732)), (1, .int my1732), (0, .ref (ad 0))] → Hp D (Af cs ad sz) (Af cs ad sz) s.heap H locs cs ad en_1732 → W p l e (headSpec (Cond.code yX12_close cX12_close 4 (some .int) :: TB) (rmN 3)).room s m ([.ref (ad 0)] : List Value).toArray below meth c H locs 0 0 (MQ below (va_Qi (S := Nat → va_E) (fun r en1 => RX cy cs ad en1 ∧ (∀ c, (c ≠ 0 ∧ c ≠ 6 ∧ c ≠ 14 ∧ c ≠ 15 ∧ c ≠ 16 ∧ c ≠ 17) → en1 c = en c) ∧ CHX en1 ∧ KPp en en1) (PostM D cs ad) (Af cs ad sz)) ([.ref (ad 0)] : List Value).toArray s 0 0 (Af cs ad sz)) (F0 m 79 ls []) := by
                    intro fu
                    induction fu with
                    | zero => intro j1732 my1732 en_1732 ls H locs h0 h1 h2; exact absurd h2 (by omega)
                    | succ fu ih_1732 =>
                      intro j1732 my1732 en_1732 ls H locs hj0_1732 hj_1732 hfu_1732 hI_1732 hf_1732 i0_1732 i1_1732 hl hh
                      obtain ⟨P_1732, hCH_1732, hPx_1732⟩ := i0_1732
                      have hPb_1732 := hCH_1732.1
                      refine lv_iload_n hx hb dX12_close_79 rfl (lv_at hl 0 rfl) ?_
                      refine lv_aload_n hx hb dX12_close_80 rfl (lv_at hl 2 rfl) ?_
                      obtain ⟨fa_1733, hi_1733, wd_1733, mo_1733, tb_1733, dp_1733, many_1733, grt_1733, lst_1733, nou_1733, rm_1733, rb_1733, pr_1733, wo_1733, es1733, p0_1733, p1_1733, p2_1733, p3_1733, p4_1733⟩ := getr_M hI_1732
                      have hfx_1734 : pr_1733 = nI P_1732 := (show pr_1733 = rdI (en_1732 0) 25 from by rw [es1733]; rfl).trans (hCH_1732.2.1)
                      rw [hfx_1734] at es1733
                      have hq2_1735 : wd_1733 = wd := n_eq ((show nI wd_1733 = rdI (en_1732 0) 2 from by rw [es1733]; rfl).trans (i1_1732.2.1.trans (show rdI (en 0) 2 = nI wd from by rw [es1697]; rfl))) (by omega) (by omega)
                      have hq3_1735 : mo_1733 = mo := n_eq ((show nI mo_1733 = rdI (en_1732 0) 3 from by rw [es1733]; rfl).trans (i1_1732.2.2.1.trans (show rdI (en 0) 3 = nI mo from by rw [es1697]; rfl))) (by omega) (by omega)
                      have hq4_1735 : tb_1733 = tb := n_eq ((show nI tb_1733 = rdI (en_1732 0) 4 from by rw [es1733]; rfl).trans (i1_1732.2.2.2.1.trans (show rdI (en 0) 4 = nI tb from by rw [es1697]; rfl))) (by omega) (by omega)
                      have hq30_1735 : wo_1733 = wo := n_eq ((show nI wo_1733 = rdI (en_1732 0) 30 from by rw [es1733]; rfl).trans (i1_1732.2.2.2.2.trans (show rdI (en 0) 30 = nI wo from by rw [es1697]; rfl))) (by omega) (by omega)
                      rw [hq2_1735, hq3_1735, hq4_1735, hq30_1735] at es1733
                      refine hp_get hx hb hts ix12 hown hK hh (q := 0) rfl (hI.1 _ (by decide)) es1733 rfl 25 (by decide) (hts _ tw_904) (fun _ h9 => h9) rfl dX12_close_81 ?_
                      refine lv_icmp_ge (tgt := 143) hx hb dX12_close_84 (by decide) (fun c_1736 => ?_) (fun c_1736 => ?_)
                      · have n_1736 : P_1732 ≤ j1732 := n_le (a := P_1732) (b := j1732) c_1736 (by omega) (by omega)
                        refine lv_iload_n hx hb dX12_close_143 rfl (lv_at hl 1 rfl) ?_
                        refine lv_if_ne (tgt := 156) hx hb dX12_close_144 (by decide) (fun c_1737 => ?_) (fun c_1737 => ?_)
                        · refine lv_aload_n hx hb dX12_close_156 rfl (lv_at hl 2 rfl) ?_
                          refine hp_get hx hb hts ix12 hown hK hh (q := 0) rfl (hI.1 _ (by decide)) es1733 rfl 25 (by decide) (hts _ tw_904) (fun _ h9 => h9) rfl dX12_close_157 ?_
                          exact hp_iretM hx hb hr rfl hlocks hh (⟨hI_1732, hf_1732, Or.inr ⟨P_1732, (hPx_1732).resolve_left c_1737, hCH_1732⟩, i1_1732⟩) dX12_close_160
                        · refine lv_aload_n hx hb dX12_close_147 rfl (lv_at hl 2 rfl) ?_
                          refine lv_bipush (v := (-9)) hx hb dX12_close_148 (by decide) ?_
                          refine hp_put hx hb hts ix12 tyX12 tyX12_ok nmX12 hown hK hh (q := 0) rfl (hI.1 _ (by decide)) es1733 rfl 25 (by decide) (hts _ tw_904) (fun _ h9 => h9) rfl (ty := .int) (by decide +kernel) rfl rfl (Nat.le_of_ble_eq_true rfl) dX12_close_150 (fun H locs en_1738 hen_1738 hh => ?_)
                          have es1733_1738 : en_1738 0 = .inr (11, [.int fa_1733, .int hi_1733, .int (nI wd), .int (nI mo), .int (nI tb), .ref (ad 1), .ref (ad 2), .ref (ad 3), .ref (ad 4), .ref (ad 5), .ref (ad 6), .ref (ad 7), .ref (ad 8), .ref (ad 9), .int dp_1733, .long many_1733, .long grt_1733, .long lst_1733, .long nou_1733, .ref (ad 10), .ref (ad 11), .ref (ad 12), .int rm_1733, .long rb_1733, .ref (ad 13), .int (-9), .ref (ad 14), .ref (ad 15), .ref (ad 16), .ref (ad 17), .int (nI wo), .ref (ad 18), .ref (ad 19)]) := by rw [hen_1738]; exact va_up_self _ _ _
                          have hI_1738 : RX cy cs ad en_1738 := by rw [hen_1738]; exact upr_M hI_1732 ⟨fa_1733, hi_1733, wd, mo, tb, dp_1733, many_1733, grt_1733, lst_1733, nou_1733, rm_1733, rb_1733, (-9), wo, rfl, hwd2, hwd3, hmo, htb, hwo⟩
                          have hf_1738 : ∀ c, (c ≠ 0 ∧ c ≠ 6 ∧ c ≠ 14 ∧ c ≠ 15 ∧ c ≠ 16 ∧ c ≠ 17) → en_1738 c = en c := fun c hc => Eq.trans (show en_1738 c = en_1732 c from by rw [hen_1738, va_up_ne _ _ (by omega)]) (hf_1732 c hc)
                          have hkp_1738 : KPp en en_1738 := KPp_fv i1_1732 es1733 es1733_1738 hi_1733 (nI wd) (nI mo) (nI tb) (nI wo) rfl rfl rfl rfl rfl rfl rfl rfl rfl rfl
                          refine lv_bipush (v := (-6)) hx hb dX12_close_153 (by decide) ?_
                          exact hp_iretM hx hb hr rfl hlocks hh (⟨hI_1738, hf_1738, Or.inl (by rw [es1733_1738]; rfl), hkp_1738⟩) dX12_close_155
                      · have n_1736 : j1732 < P_1732 := n_nle (a := P_1732) (b := j1732) c_1736 (by omega) (by omega)
                        refine lv_iload_n hx hb dX12_close_87 rfl (lv_at hl 1 rfl) ?_
                        refine lv_if_eq (tgt := 143) hx hb dX12_close_88 (by decide) (fun c_1739 => ?_) (fun c_1739 => ?_)
                        · refine lv_iload_n hx hb dX12_close_143 rfl (lv_at hl 1 rfl) ?_
                          refine lv_if_ne (tgt := 156) hx hb dX12_close_144 (by decide) (fun c_1740 => ?_) (fun c_1740 => ?_)
                          · refine lv_aload_n hx hb dX12_close_156 rfl (lv_at hl 2 rfl) ?_
                            refine hp_get hx hb hts ix12 hown hK hh (q := 0) rfl (hI.1 _ (by decide)) es1733 rfl 25 (by decide) (hts _ tw_904) (fun _ h9 => h9) rfl dX12_close_157 ?_
                            exact hp_iretM hx hb hr rfl hlocks hh (⟨hI_1732, hf_1732, Or.inr ⟨P_1732, (hPx_1732).resolve_left c_1740, hCH_1732⟩, i1_1732⟩) dX12_close_160
                          · refine lv_aload_n hx hb dX12_close_147 rfl (lv_at hl 2 rfl) ?_
                            refine lv_bipush (v := (-9)) hx hb dX12_close_148 (by decide) ?_
                            refine hp_put hx hb hts ix12 tyX12 tyX12_ok nmX12 hown hK hh (q := 0) rfl (hI.1 _ (by decide)) es1733 rfl 25 (by decide) (hts _ tw_904) (fun _ h9 => h9) rfl (ty := .int) (by decide +kernel) rfl rfl (Nat.le_of_ble_eq_true rfl) dX12_close_150 (fun H locs en_1741 hen_1741 hh => ?_)
                            have es1733_1741 : en_1741 0 = .inr (11, [.int fa_1733, .int hi_1733, .int (nI wd), .int (nI mo), .int (nI tb), .ref (ad 1), .ref (ad 2), .ref (ad 3), .ref (ad 4), .ref (ad 5), .ref (ad 6), .ref (ad 7), .ref (ad 8), .ref (ad 9), .int dp_1733, .long many_1733, .long grt_1733, .long lst_1733, .long nou_1733, .ref (ad 10), .ref (ad 11), .ref (ad 12), .int rm_1733, .long rb_1733, .ref (ad 13), .int (-9), .ref (ad 14), .ref (ad 15), .ref (ad 16), .ref (ad 17), .int (nI wo), .ref (ad 18), .ref (ad 19)]) := by rw [hen_1741]; exact va_up_self _ _ _
                            have hI_1741 : RX cy cs ad en_1741 := by rw [hen_1741]; exact upr_M hI_1732 ⟨fa_1733, hi_1733, wd, mo, tb, dp_1733, many_1733, grt_1733, lst_1733, nou_1733, rm_1733, rb_1733, (-9), wo, rfl, hwd2, hwd3, hmo, htb, hwo⟩
                            have hf_1741 : ∀ c, (c ≠ 0 ∧ c ≠ 6 ∧ c ≠ 14 ∧ c ≠ 15 ∧ c ≠ 16 ∧ c ≠ 17) → en_1741 c = en c := fun c hc => Eq.trans (show en_1741 c = en_1732 c from by rw [hen_1741, va_up_ne _ _ (by omega)]) (hf_1732 c hc)
                            have hkp_1741 : KPp en en_1741 := KPp_fv i1_1732 es1733 es1733_1741 hi_1733 (nI wd) (nI mo) (nI tb) (nI wo) rfl rfl rfl rfl rfl rfl rfl rfl rfl rfl
                            refine lv_bipush (v := (-6)) hx hb dX12_close_153 (by decide) ?_
                            exact hp_iretM hx hb hr rfl hlocks hh (⟨hI_1741, hf_1741, Or.inl (by rw [es1733_1741]; rfl), hkp_1741⟩) dX12_close_155
                        · refine lv_iconst (v := 0) hx hb dX12_close_91 (by decide) ?_
                          refine lv_istore_n (lv' := [(3, .int 0), (2, .int (nI j1732)), (1, .int my1732), (0, .ref (ad 0))]) hx hb dX12_close_92 rfl hl (by decide) rfl (fun ls hl => ?_)
                          have loop_1742 : ∀ (fu j1742 : Nat) (my1742 : Int32) (en_1742 : Nat → va_E) (ls : Array Slot) (H : Heap) (locs : List Loc), 0 ≤ j1742 → j1742 ≤ 6 → 6 < j1742 + fu → RX cy cs ad en_1742 → (∀ c, (c ≠ 0 ∧ c ≠ 6 ∧ c ≠ 14 ∧ c ≠ 15 ∧ c ≠ 16 ∧ c ≠ 17) → en_1742 c = en c) → (∃ P, CH en_1742 P ∧ (my1742 = 0 ∨ 1 ≤ P)) → (KPp en en_1742) → lv_has ls 4 [(3, .int (nI j1742)), (2, .int (nI j1732)), (1, .int my1742), (0, .ref (ad 0))] → Hp D (Af cs ad sz) (Af cs ad sz) s.heap H locs cs ad en_1742 → W p l e (headSpec (Cond.code yX12_close cX12_close 4 (some .int) :: TB) (rmN 3)).room s m ([.ref (ad 0)] : List Value).toArray below meth c H locs 0 0 (MQ below (va_Qi (S := Nat → va_E) (fun r en1 => RX cy cs ad en1 ∧ (∀ c, (c ≠ 0 ∧ c ≠ 6 ∧ c ≠ 14 ∧ c ≠ 15 ∧ c ≠ 16 ∧ c ≠ 17) → en1 c = en c) ∧ CHX en1 ∧ KPp en en1) (PostM D cs ad) (Af cs ad sz)) ([.ref (ad 0)] : List Value).toArray s 0 0 (Af cs ad sz)) (F0 m 93 ls []) := by
                            intro fu
                            induction fu with
                            | zero => intro j1742 my1742 en_1742 ls H locs h0 h1 h2; exact absurd h2 (by omega)
                            | succ fu ih_1742 =>
                              intro j1742 my1742 en_1742 ls H locs hj0_1742 hj_1742 hfu_1742 hI_1742 hf_1742 i0_1742 i1_1742 hl hh
                              obtain ⟨P_1742, hCH_1742, hPx_1742⟩ := i0_1742
                              have hPb_1742 := hCH_1742.1
                              refine lv_iload_n hx hb dX12_close_93 rfl (lv_at hl 0 rfl) ?_
                              refine lv_aload_n hx hb dX12_close_94 rfl (lv_at hl 3 rfl) ?_
                              obtain ⟨fa_1743, hi_1743, wd_1743, mo_1743, tb_1743, dp_1743, many_1743, grt_1743, lst_1743, nou_1743, rm_1743, rb_1743, pr_1743, wo_1743, es1743, p0_1743, p1_1743, p2_1743, p3_1743, p4_1743⟩ := getr_M hI_1742
                              have hfx_1744 : pr_1743 = nI P_1742 := (show pr_1743 = rdI (en_1742 0) 25 from by rw [es1743]; rfl).trans (hCH_1742.2.1)
                              rw [hfx_1744] at es1743
                              have hq2_1745 : wd_1743 = wd := n_eq ((show nI wd_1743 = rdI (en_1742 0) 2 from by rw [es1743]; rfl).trans (i1_1742.2.1.trans (show rdI (en 0) 2 = nI wd from by rw [es1697]; rfl))) (by omega) (by omega)
                              have hq3_1745 : mo_1743 = mo := n_eq ((show nI mo_1743 = rdI (en_1742 0) 3 from by rw [es1743]; rfl).trans (i1_1742.2.2.1.trans (show rdI (en 0) 3 = nI mo from by rw [es1697]; rfl))) (by omega) (by omega)
                              have hq4_1745 : tb_1743 = tb := n_eq ((show nI tb_1743 = rdI (en_1742 0) 4 from by rw [es1743]; rfl).trans (i1_1742.2.2.2.1.trans (show rdI (en 0) 4 = nI tb from by rw [es1697]; rfl))) (by omega) (by omega)
                              have hq30_1745 : wo_1743 = wo := n_eq ((show nI wo_1743 = rdI (en_1742 0) 30 from by rw [es1743]; rfl).trans (i1_1742.2.2.2.2.trans (show rdI (en 0) 30 = nI wo from by rw [es1697]; rfl))) (by omega) (by omega)
                              rw [hq2_1745, hq3_1745, hq4_1745, hq30_1745] at es1743
                              refine hp_get hx hb hts ix12 hown hK hh (q := 0) rfl (hI.1 _ (by decide)) es1743 rfl 4 (by decide) (hts _ tw_883) (fun _ h9 => h9) rfl dX12_close_95 ?_
                              refine lv_icmp_ge (tgt := 137) hx hb dX12_close_98 (by decide) (fun c_1746 => ?_) (fun c_1746 => ?_)
                              · have n_1746 : tb ≤ j1742 := n_le (a := tb) (b := j1742) c_1746 (by omega) (by omega)
                                refine lv_iinc (v := (nI (j1732 + 1))) (lv' := [(2, .int (nI (j1732 + 1))), (3, .int (nI j1742)), (1, .int my1742), (0, .ref (ad 0))]) hx hb dX12_close_137 hl (k := 1) rfl (nI_1 _) (by decide) rfl (fun ls hl => ?_)
                                refine lv_goto (tgt := 79) hx hb dX12_close_140 (by decide) ?_
                                exact ih_1732 ((j1732 + 1)) my1742 en_1742 ls H locs (by omega) (by omega) (by omega) hI_1742 hf_1742 (⟨P_1742, hCH_1742, hPx_1742⟩) (i1_1742) (lv_sub hl [0, 2, 3] rfl) hh
                              · have n_1746 : j1742 < tb := n_nle (a := tb) (b := j1742) c_1746 (by omega) (by omega)
                                refine lv_iload_n hx hb dX12_close_101 rfl (lv_at hl 2 rfl) ?_
                                refine lv_if_eq (tgt := 137) hx hb dX12_close_102 (by decide) (fun c_1747 => ?_) (fun c_1747 => ?_)
                                · refine lv_iinc (v := (nI (j1732 + 1))) (lv' := [(2, .int (nI (j1732 + 1))), (3, .int (nI j1742)), (1, .int my1742), (0, .ref (ad 0))]) hx hb dX12_close_137 hl (k := 1) rfl (nI_1 _) (by decide) rfl (fun ls hl => ?_)
                                  refine lv_goto (tgt := 79) hx hb dX12_close_140 (by decide) ?_
                                  exact ih_1732 ((j1732 + 1)) my1742 en_1742 ls H locs (by omega) (by omega) (by omega) hI_1742 hf_1742 (⟨P_1742, hCH_1742, hPx_1742⟩) (i1_1742) (lv_sub hl [0, 2, 3] rfl) hh
                                · refine lv_aload_n hx hb dX12_close_105 rfl (lv_at hl 3 rfl) ?_
                                  refine lv_iload_n hx hb dX12_close_106 rfl (lv_at hl 1 rfl) ?_
                                  refine lv_iconst (v := 0) hx hb dX12_close_107 (by decide) ?_
                                  refine hp_callMv (va_runV (As := [.int (nI j1732), .int 0]) (rest := []) ⟨hx, hb, hml, hown, hts⟩ (c_X12_layProduct l D cy _ cs ad en_1742 hI_1742 j1732 0 (by omega) (by omega)) (kw_X12_layProduct hts tw_1133 ⟨by decide, by decide⟩) (preV_of hh hK (hI.1 _ (by decide)) es1743 rfl) rfl rfl hl.1 rfl (lv_room (Nat.le_of_ble_eq_true rfl)) dX12_close_108 ⟨Nat.le_of_ble_eq_true rfl, Nat.le_of_ble_eq_true rfl⟩) hh hA (fun H locs en_1748 hw_1748 hh => ?_)
                                  obtain ⟨hI_1748, hu_1748⟩ := hw_1748
                                  have es1743_1748 : en_1748 0 = .inr (11, [.int fa_1743, .int hi_1743, .int (nI wd), .int (nI mo), .int (nI tb), .ref (ad 1), .ref (ad 2), .ref (ad 3), .ref (ad 4), .ref (ad 5), .ref (ad 6), .ref (ad 7), .ref (ad 8), .ref (ad 9), .int dp_1743, .long many_1743, .long grt_1743, .long lst_1743, .long nou_1743, .ref (ad 10), .ref (ad 11), .ref (ad 12), .int rm_1743, .long rb_1743, .ref (ad 13), .int (nI P_1742), .ref (ad 14), .ref (ad 15), .ref (ad 16), .ref (ad 17), .int (nI wo), .ref (ad 18), .ref (ad 19)]) := (hu_1748 0 (by omega)).trans es1743
                                  have hf_1748 : ∀ c, (c ≠ 0 ∧ c ≠ 6 ∧ c ≠ 14 ∧ c ≠ 15 ∧ c ≠ 16 ∧ c ≠ 17) → en_1748 c = en c := fun c hc => (hu_1748 c (by omega)).trans (hf_1742 c hc)
                                  have hkp_1748 : KPp en en_1748 := KPp_same i1_1742 (hu_1748 0 (by omega))
                                  have hcq_1748 := CH_keep (e1 := en_1748) hCH_1742 (by rw [hu_1748 0 (by omega)]) (hu_1748 16 (by omega)) (hu_1748 17 (by omega))
                                  refine lv_aload_n hx hb dX12_close_111 rfl (lv_at hl 3 rfl) ?_
                                  refine lv_iconst (v := 0) hx hb dX12_close_112 (by decide) ?_
                                  refine lv_iload_n hx hb dX12_close_113 rfl (lv_at hl 0 rfl) ?_
                                  refine hp_callMv (va_runV (As := [.int 0, .int (nI j1742)]) (rest := []) ⟨hx, hb, hml, hown, hts⟩ (c_X12_goOn l D cy _ cs ad en_1748 hI_1748 0 j1742 (by omega) (by omega)) (kw_X12_goOn hts tw_1050 ⟨by decide, by decide⟩) (preV_of hh hK (hI.1 _ (by decide)) es1743_1748 rfl) rfl rfl hl.1 rfl (lv_room (Nat.le_of_ble_eq_true rfl)) dX12_close_114 ⟨Nat.le_of_ble_eq_true rfl, Nat.le_of_ble_eq_true rfl⟩) hh hA (fun H locs en_1749 hw_1749 hh => ?_)
                                  obtain ⟨hI_1749, hu_1749⟩ := hw_1749
                                  have es1743_1749 : en_1749 0 = .inr (11, [.int fa_1743, .int hi_1743, .int (nI wd), .int (nI mo), .int (nI tb), .ref (ad 1), .ref (ad 2), .ref (ad 3), .ref (ad 4), .ref (ad 5), .ref (ad 6), .ref (ad 7), .ref (ad 8), .ref (ad 9), .int dp_1743, .long many_1743, .long grt_1743, .long lst_1743, .long nou_1743, .ref (ad 10), .ref (ad 11), .ref (ad 12), .int rm_1743, .long rb_1743, .ref (ad 13), .int (nI P_1742), .ref (ad 14), .ref (ad 15), .ref (ad 16), .ref (ad 17), .int (nI wo), .ref (ad 18), .ref (ad 19)]) := (hu_1749 0 (by omega)).trans es1743_1748
                                  have hf_1749 : ∀ c, (c ≠ 0 ∧ c ≠ 6 ∧ c ≠ 14 ∧ c ≠ 15 ∧ c ≠ 16 ∧ c ≠ 17) → en_1749 c = en c := fun c hc => (hu_1749 c (by omega)).trans (hf_1748 c hc)
                                  have hkp_1749 : KPp en en_1749 := KPp_same hkp_1748 (hu_1749 0 (by omega))
                                  have hcq_1749 := CH_keep (e1 := en_1749) hcq_1748 (by rw [hu_1749 0 (by omega)]) (hu_1749 16 (by omega)) (hu_1749 17 (by omega))
                                  refine lv_aload_n hx hb dX12_close_117 rfl (lv_at hl 3 rfl) ?_
                                  refine lv_iconst (v := 1) hx hb dX12_close_118 (by decide) ?_
                                  refine lv_aload_n hx hb dX12_close_119 rfl (lv_at hl 3 rfl) ?_
                                  refine hp_get hx hb hts ix12 hown hK hh (q := 0) rfl (hI.1 _ (by decide)) es1743_1749 rfl 27 (by decide) (hts _ tw_906) (fun _ h9 => h9) rfl dX12_close_120 ?_
                                  refine lv_iload_n hx hb dX12_close_123 rfl (lv_at hl 1 rfl) ?_
                                  obtain ⟨f_1750, es1750⟩ := getr_ln hI_1749
                                  refine hp_iald hx hb hK hh (q := 15) rfl (hI.1 _ (by decide)) es1750 (vp_in_nI (n := j1732) (by omega) (by decide)) dX12_close_124 ?_
                                  rw [nI_clamp (n := j1732) (by omega)]
                                  refine lv_iconst (v := 1) hx hb dX12_close_125 (by decide) ?_
                                  refine lv_iadd hx hb dX12_close_126 ?_
                                  refine hp_callMi (va_runV (As := [.int 1, .int ((f_1750 j1732) + 1)]) (rest := []) ⟨hx, hb, hml, hown, hts⟩ (c_X12_comes l D cy _ cs ad en_1749 hI_1749 1 ((f_1750 j1732) + 1) (by omega) P_1742 hcq_1749) (kw_X12_comes hts tw_1117 ⟨by decide, by decide⟩) (preV_of hh hK (hI.1 _ (by decide)) es1743_1749 rfl) rfl rfl hl.1 rfl (lv_room (Nat.le_of_ble_eq_true rfl)) dX12_close_127 ⟨Nat.le_of_ble_eq_true rfl, Nat.le_of_ble_eq_true rfl⟩) hh hA (fun r_1751 H locs en_1751 hw_1751 hh => ?_)
                                  obtain ⟨hI_1751, hu_1751, hy_1751, hx_1751⟩ := hw_1751
                                  have hw_1751 := (⟨hI_1751, hu_1751, hx_1751⟩ : _ ∧ _ ∧ _)
                                  obtain ⟨hI_1751, hu_1751, hx_1751⟩ := hw_1751
                                  have hf_1751 : ∀ c, (c ≠ 0 ∧ c ≠ 6 ∧ c ≠ 14 ∧ c ≠ 15 ∧ c ≠ 16 ∧ c ≠ 17) → en_1751 c = en c := fun c hc => (hu_1751 c (by omega)).trans (hf_1749 c hc)
                                  have hkp_1751 : KPp en en_1751 := KPp_tr hkp_1749 hx_1751
                                  rcases hy_1751 with ⟨hr_1751, hch_1751⟩ | ⟨hr_1751, P1_1751, hch_1751, hle_1751, hp1_1751⟩
                                  · rw [hr_1751]
                                    refine lv_istore_n (lv' := [(1, .int 0), (3, .int (nI j1742)), (2, .int (nI j1732)), (0, .ref (ad 0))]) hx hb dX12_close_130 rfl hl (by decide) rfl (fun ls hl => ?_)
                                    refine lv_iinc (v := (nI (j1742 + 1))) (lv' := [(3, .int (nI (j1742 + 1))), (1, .int 0), (2, .int (nI j1732)), (0, .ref (ad 0))]) hx hb dX12_close_131 hl (k := 1) rfl (nI_1 _) (by decide) rfl (fun ls hl => ?_)
                                    refine lv_goto (tgt := 93) hx hb dX12_close_134 (by decide) ?_
                                    exact ih_1742 ((j1742 + 1)) 0 en_1751 ls H locs (by omega) (by omega) (by omega) hI_1751 hf_1751 (⟨P_1742, hch_1751, Or.inl rfl⟩) (hkp_1751) (lv_sub hl [0, 2, 1, 3] rfl) hh
                                  · rw [hr_1751]
                                    refine lv_istore_n (lv' := [(1, .int 1), (3, .int (nI j1742)), (2, .int (nI j1732)), (0, .ref (ad 0))]) hx hb dX12_close_130 rfl hl (by decide) rfl (fun ls hl => ?_)
                                    refine lv_iinc (v := (nI (j1742 + 1))) (lv' := [(3, .int (nI (j1742 + 1))), (1, .int 1), (2, .int (nI j1732)), (0, .ref (ad 0))]) hx hb dX12_close_131 hl (k := 1) rfl (nI_1 _) (by decide) rfl (fun ls hl => ?_)
                                    refine lv_goto (tgt := 93) hx hb dX12_close_134 (by decide) ?_
                                    exact ih_1742 ((j1742 + 1)) 1 en_1751 ls H locs (by omega) (by omega) (by omega) hI_1751 hf_1751 (⟨P1_1751, hch_1751, Or.inr hp1_1751⟩) (hkp_1751) (lv_sub hl [0, 2, 1, 3] rfl) hh
                          exact loop_1742 (6 + 1) 0 my1732 en_1732 ls _ _ (Nat.le_refl _) (by omega) (by omega) hI_1732 hf_1732 (⟨P_1732, hCH_1732, hPx_1732⟩) (i1_1732) (lv_sub hl [0, 1, 2, 3] rfl) hh
                  exact loop_1732 (2000 + 1) 0 my1706 en_1706 ls _ _ (Nat.le_refl _) (by omega) (by omega) hI_1706 hf_1706 (⟨P_1706, hCH_1706, Or.inl c_1731⟩) (i1_1706) (lv_sub hl [0, 1, 2] rfl) hh
                · refine lv_aload_n hx hb dX12_close_58 rfl (lv_at hl 2 rfl) ?_
                  refine lv_iconst (v := 0) hx hb dX12_close_59 (by decide) ?_
                  refine lv_iload_n hx hb dX12_close_60 rfl (lv_at hl 0 rfl) ?_
                  refine hp_callMv (va_runV (As := [.int 0, .int (nI j1706)]) (rest := []) ⟨hx, hb, hml, hown, hts⟩ (c_X12_goOn l D cy _ cs ad en_1706 hI_1706 0 j1706 (by omega) (by omega)) (kw_X12_goOn hts tw_1050 ⟨by decide, by decide⟩) (preV_of hh hK (hI.1 _ (by decide)) es1707 rfl) rfl rfl hl.1 rfl (lv_room (Nat.le_of_ble_eq_true rfl)) dX12_close_61 ⟨Nat.le_of_ble_eq_true rfl, Nat.le_of_ble_eq_true rfl⟩) hh hA (fun H locs en_1752 hw_1752 hh => ?_)
                  obtain ⟨hI_1752, hu_1752⟩ := hw_1752
                  have es1707_1752 : en_1752 0 = .inr (11, [.int fa_1707, .int hi_1707, .int (nI wd), .int (nI mo), .int (nI tb), .ref (ad 1), .ref (ad 2), .ref (ad 3), .ref (ad 4), .ref (ad 5), .ref (ad 6), .ref (ad 7), .ref (ad 8), .ref (ad 9), .int dp_1707, .long many_1707, .long grt_1707, .long lst_1707, .long nou_1707, .ref (ad 10), .ref (ad 11), .ref (ad 12), .int rm_1707, .long rb_1707, .ref (ad 13), .int (nI P_1706), .ref (ad 14), .ref (ad 15), .ref (ad 16), .ref (ad 17), .int (nI wo), .ref (ad 18), .ref (ad 19)]) := (hu_1752 0 (by omega)).trans es1707
                  have hf_1752 : ∀ c, (c ≠ 0 ∧ c ≠ 6 ∧ c ≠ 14 ∧ c ≠ 15 ∧ c ≠ 16 ∧ c ≠ 17) → en_1752 c = en c := fun c hc => (hu_1752 c (by omega)).trans (hf_1706 c hc)
                  have hkp_1752 : KPp en en_1752 := KPp_same i1_1706 (hu_1752 0 (by omega))
                  have hcq_1752 := CH_keep (e1 := en_1752) hCH_1706 (by rw [hu_1752 0 (by omega)]) (hu_1752 16 (by omega)) (hu_1752 17 (by omega))
                  refine lv_aload_n hx hb dX12_close_64 rfl (lv_at hl 2 rfl) ?_
                  refine lv_iconst (v := 1) hx hb dX12_close_65 (by decide) ?_
                  refine lv_iconst (v := 1) hx hb dX12_close_66 (by decide) ?_
                  refine hp_callMi (va_runV (As := [.int 1, .int 1]) (rest := []) ⟨hx, hb, hml, hown, hts⟩ (c_X12_comes l D cy _ cs ad en_1752 hI_1752 1 1 (by omega) P_1706 hcq_1752) (kw_X12_comes hts tw_1117 ⟨by decide, by decide⟩) (preV_of hh hK (hI.1 _ (by decide)) es1707_1752 rfl) rfl rfl hl.1 rfl (lv_room (Nat.le_of_ble_eq_true rfl)) dX12_close_67 ⟨Nat.le_of_ble_eq_true rfl, Nat.le_of_ble_eq_true rfl⟩) hh hA (fun r_1753 H locs en_1753 hw_1753 hh => ?_)
                  obtain ⟨hI_1753, hu_1753, hy_1753, hx_1753⟩ := hw_1753
                  have hw_1753 := (⟨hI_1753, hu_1753, hx_1753⟩ : _ ∧ _ ∧ _)
                  obtain ⟨hI_1753, hu_1753, hx_1753⟩ := hw_1753
                  have hf_1753 : ∀ c, (c ≠ 0 ∧ c ≠ 6 ∧ c ≠ 14 ∧ c ≠ 15 ∧ c ≠ 16 ∧ c ≠ 17) → en_1753 c = en c := fun c hc => (hu_1753 c (by omega)).trans (hf_1752 c hc)
                  have hkp_1753 : KPp en en_1753 := KPp_tr hkp_1752 hx_1753
                  rcases hy_1753 with ⟨hr_1753, hch_1753⟩ | ⟨hr_1753, P1_1753, hch_1753, hle_1753, hp1_1753⟩
                  · rw [hr_1753]
                    refine lv_istore_n (lv' := [(1, .int 0), (2, .int (nI j1706)), (0, .ref (ad 0))]) hx hb dX12_close_70 rfl hl (by decide) rfl (fun ls hl => ?_)
                    refine lv_iinc (v := (nI (j1706 + 1))) (lv' := [(2, .int (nI (j1706 + 1))), (1, .int 0), (0, .ref (ad 0))]) hx hb dX12_close_71 hl (k := 1) rfl (nI_1 _) (by decide) rfl (fun ls hl => ?_)
                    refine lv_goto (tgt := 46) hx hb dX12_close_74 (by decide) ?_
                    exact ih_1706 ((j1706 + 1)) 0 en_1753 ls H locs (by omega) (by omega) (by omega) hI_1753 hf_1753 (⟨P_1706, hch_1753, Or.inr (Or.inl rfl)⟩) (hkp_1753) (lv_sub hl [0, 1, 2] rfl) hh
                  · rw [hr_1753]
                    refine lv_istore_n (lv' := [(1, .int 1), (2, .int (nI j1706)), (0, .ref (ad 0))]) hx hb dX12_close_70 rfl hl (by decide) rfl (fun ls hl => ?_)
                    refine lv_iinc (v := (nI (j1706 + 1))) (lv' := [(2, .int (nI (j1706 + 1))), (1, .int 1), (0, .ref (ad 0))]) hx hb dX12_close_71 hl (k := 1) rfl (nI_1 _) (by decide) rfl (fun ls hl => ?_)
                    refine lv_goto (tgt := 46) hx hb dX12_close_74 (by decide) ?_
                    exact ih_1706 ((j1706 + 1)) 1 en_1753 ls H locs (by omega) (by omega) (by omega) hI_1753 hf_1753 (⟨P1_1753, hch_1753, Or.inr (Or.inr hp1_1753)⟩) (hkp_1753) (lv_sub hl [0, 1, 2] rfl) hh
          exact loop_1706 (6 + 1) 0 1 en_1705 ls _ _ (Nat.le_refl _) (by omega) (by omega) hI_1705 hf_1705 (⟨0, hcq_1705, Or.inl rfl⟩) (hkp_1705) (lv_sub hl [0, 1, 2] rfl) hh
        · have n_1701 : j1700 < 4096 := n_nle (a := 4096) (b := j1700) c_1701 (by decide) (by omega)
          refine lv_aload_n hx hb dX12_close_24 rfl (lv_at hl 1 rfl) ?_
          obtain ⟨fa_1754, hi_1754, wd_1754, mo_1754, tb_1754, dp_1754, many_1754, grt_1754, lst_1754, nou_1754, rm_1754, rb_1754, pr_1754, wo_1754, es1754, p0_1754, p1_1754, p2_1754, p3_1754, p4_1754⟩ := getr_M hI_1700
          have hfx_1755 : pr_1754 = nI 0 := (show pr_1754 = rdI (en_1700 0) 25 from by rw [es1754]; rfl).trans (i1_1700)
          rw [hfx_1755] at es1754
          have hq2_1756 : wd_1754 = wd := n_eq ((show nI wd_1754 = rdI (en_1700 0) 2 from by rw [es1754]; rfl).trans (i2_1700.2.1.trans (show rdI (en 0) 2 = nI wd from by rw [es1697]; rfl))) (by omega) (by omega)
          have hq3_1756 : mo_1754 = mo := n_eq ((show nI mo_1754 = rdI (en_1700 0) 3 from by rw [es1754]; rfl).trans (i2_1700.2.2.1.trans (show rdI (en 0) 3 = nI mo from by rw [es1697]; rfl))) (by omega) (by omega)
          have hq4_1756 : tb_1754 = tb := n_eq ((show nI tb_1754 = rdI (en_1700 0) 4 from by rw [es1754]; rfl).trans (i2_1700.2.2.2.1.trans (show rdI (en 0) 4 = nI tb from by rw [es1697]; rfl))) (by omega) (by omega)
          have hq30_1756 : wo_1754 = wo := n_eq ((show nI wo_1754 = rdI (en_1700 0) 30 from by rw [es1754]; rfl).trans (i2_1700.2.2.2.2.trans (show rdI (en 0) 30 = nI wo from by rw [es1697]; rfl))) (by omega) (by omega)
          rw [hq2_1756, hq3_1756, hq4_1756, hq30_1756] at es1754
          refine hp_get hx hb hts ix12 hown hK hh (q := 0) rfl (hI.1 _ (by decide)) es1754 rfl 28 (by decide) (hts _ tw_907) (fun _ h9 => h9) rfl dX12_close_25 ?_
          refine lv_iload_n hx hb dX12_close_28 rfl (lv_at hl 0 rfl) ?_
          refine lv_bipush (v := (-9)) hx hb dX12_close_29 (by decide) ?_
          obtain ⟨f_1757, es1757⟩ := getr_hd hI_1700
          refine hp_iast hx hb hK hh (q := 16) rfl (hI.1 _ (by decide)) es1757 (vp_in_nI (n := j1700) (by omega) (by decide)) dX12_close_31 (fun H locs en_1758 hen_1758 hh => ?_)
          rw [nI_clamp (n := j1700) (by omega)] at hen_1758
          have es1754_1758 : en_1758 0 = .inr (11, [.int fa_1754, .int hi_1754, .int (nI wd), .int (nI mo), .int (nI tb), .ref (ad 1), .ref (ad 2), .ref (ad 3), .ref (ad 4), .ref (ad 5), .ref (ad 6), .ref (ad 7), .ref (ad 8), .ref (ad 9), .int dp_1754, .long many_1754, .long grt_1754, .long lst_1754, .long nou_1754, .ref (ad 10), .ref (ad 11), .ref (ad 12), .int rm_1754, .long rb_1754, .ref (ad 13), .int (nI 0), .ref (ad 14), .ref (ad 15), .ref (ad 16), .ref (ad 17), .int (nI wo), .ref (ad 18), .ref (ad 19)]) := by rw [hen_1758, va_up_ne _ _ (by decide)]; exact es1754
          have es1757_1758 : en_1758 16 = .inl (cy 0, 4096, .inl (upd f_1757 j1700 (-9))) := by rw [hen_1758]; exact va_up_self _ _ _
          have hI_1758 : RX cy cs ad en_1758 := by rw [hen_1758]; exact upr_hd hI_1700 ⟨(upd f_1757 j1700 (-9)), rfl⟩
          have hf_1758 : ∀ c, (c ≠ 0 ∧ c ≠ 6 ∧ c ≠ 14 ∧ c ≠ 15 ∧ c ≠ 16 ∧ c ≠ 17) → en_1758 c = en c := fun c hc => Eq.trans (show en_1758 c = en_1700 c from by rw [hen_1758, va_up_ne _ _ (by omega)]) (hf_1700 c hc)
          have hkp_1758 : KPp en en_1758 := KPp_same i2_1700 (show en_1758 0 = en_1700 0 from by rw [hen_1758, va_up_ne _ _ (by decide)])
          refine lv_iinc (v := (nI (j1700 + 1))) (lv' := [(1, .int (nI (j1700 + 1))), (0, .ref (ad 0))]) hx hb dX12_close_32 hl (k := 0) rfl (nI_1 _) (by decide) rfl (fun ls hl => ?_)
          refine lv_goto (tgt := 17) hx hb dX12_close_35 (by decide) ?_
          exact ih_1700 ((j1700 + 1))  en_1758 ls H locs (by omega) (by omega) (by omega) hI_1758 hf_1758 (fun i hi => by rw [es1757_1758]; exact z_upd hi rfl (fun h9 => (show f_1757 i = rdF (en_1700 16) i from by rw [es1757]; rfl).trans (i0_1700 i h9))) (by rw [es1754_1758]; rfl) (hkp_1758) (lv_sub hl [0, 1] rfl) hh
    exact loop_1700 (4096 + 1) 0  en_1699 ls _ _ (Nat.le_refl _) (by omega) (by omega) hI_1699 hf_1699 (fun i h => absurd h (Nat.not_lt_zero i)) (by rw [es1697_1699]; rfl) (hkp_1699) (lv_sub hl [0, 1] rfl) hh
  · have n_1698 : tb = 0 := n_eq (a := tb) (b := 0) c_1698 (by omega) (by decide)
    refine lv_bipush (v := (-3)) hx hb dX12_close_7 (by decide) ?_
    exact hp_iretM hx hb hr rfl hlocks hh (⟨hI, hf0, hCX, (KPp_rf en)⟩) dX12_close_9
theorem kw_X12_close {R : Room} {s : State} {args : Array Value} {own : String} {idx : Nat} (hts : ∀ w ∈ TB, w.before args s = true) (hl : Cond.methodLink own idx yX12_close ∈ TB) (hR : 3 + 1 ≤ R.frames ∧ 8 + (4 + 11) + 40 * 3 ≤ R.locals) : CallW R s args own RX12 idx yX12_close cX12_close 4 (some .int) (Cond.code yX12_close cX12_close 4 (some .int) :: TB) (rmN 3) 0 0 0 := cwV 0 hts (TB_V hl tw_1114 tw_1115 tw_9 tw_1116) rfl rfl rfl (by decide +kernel) hR
