set_option maxHeartbeats 4000000 in
set_option maxRecDepth 100000 in
/-- chainOf -/
theorem c_X12_chainOf (l : Launch) (D : va_G) (cy : Nat → ClassId) (sz : Nat) (cs : List Nat) (ad : Nat → Nat) (en : Nat → va_E) (hI : RX cy cs ad en) (n : Nat) (hn : n ≤ 12) (N : Nat) (hN : N = dQ en * dQ en)   : Met l yX12_chainOf (Cond.code yX12_chainOf cX12_chainOf 5 (some .int) :: TB) (rmN 0) (va_Pc [.ref (ad 0), .int (nI n)] (Pre D cy cs ad en sz)) (va_Qi (S := Unit) (fun r _ => r = nI (hR (vec N (lvl n en)))) (fun _ _ => True) (Nf sz)) 0 0 (Nf sz) := by
  refine Met.ofW (cc := cX12_chainOf) (maxL := 5) (ret := (some .int)) (by decide) rfl ?_
  intro p e s m args below meth c s₁ B hml hv
  obtain ⟨rfl, hsz, hP, hK, hD0⟩ := hv
  have hx := B.exec
  have hb := B.bytes
  have hr := B.returns
  have hts : ∀ w ∈ TB, w.before _ s = true := fun w h => atoms_spec (ws := _ :: TB) B.pre w (List.mem_cons_of_mem _ h)
  have hown : s.vm.findClass RX12 = some m.cls := findClass_of_methodNamed B.named
  have hlocks := B.notSynchronized
  have hh : Hp D (Nf sz) (fun _ => True) s.heap s.heap [] cs ad en := ⟨hP, hD0, va_S.rf⟩
  have hA : ∀ q : Nat, s.heap.size ≤ q → Nf sz q := fun q h => by rw [hsz] at h; exact h
  have hl := lv_entry ([.ref (ad 0), .int (nI n)]) (n := 5) (Nat.le_of_ble_eq_true rfl)
  rw [lg_entry_eq]
  generalize (lg_sl ([.ref (ad 0), .int (nI n)]) ++ List.replicate (5 - (lg_sl ([.ref (ad 0), .int (nI n)])).length) Slot.unset).toArray = ls at hl ⊢
  have hl : lv_has ls 5 [(0, .ref (ad 0)), (1, .int (nI n))] := hl
  obtain ⟨fa, hi, wd, mo, tb, dp, many, grt, lst, nou, rm, rb, pr, wo, es1595, hwd2, hwd3, hmo, htb, hwo⟩ := getr_M hI
  have hdq : dQ en = wd := by unfold dQ; rw [show rdI (en 0) 2 = nI wd from by rw [es1595]; rfl]; exact nI_clamp (by omega)
  have hmq : mQ en = mo := by unfold mQ; rw [show rdI (en 0) 3 = nI mo from by rw [es1595]; rfl]; exact nI_clamp (by omega)
  have hkq : kQ en = tb := by unfold kQ; rw [show rdI (en 0) 4 = nI tb from by rw [es1595]; rfl]; exact nI_clamp (by omega)
  have hN9 : N = wd * wd := by rw [hN, hdq]
  have hww : wd * wd ≤ 9 := mww (by omega)
  refine lv_lconst (v := 0) hx hb dX12_chainOf_0 (by decide) ?_
  refine lv_lstore_n (lv' := [(2, .long 0), (0, .ref (ad 0)), (1, .int (nI n))]) hx hb dX12_chainOf_1 rfl hl (by decide) rfl (fun ls hl => ?_)
  refine lv_iconst (v := 0) hx hb dX12_chainOf_2 (by decide) ?_
  refine lv_istore (lv' := [(4, .int 0), (2, .long 0), (0, .ref (ad 0)), (1, .int (nI n))]) hx hb dX12_chainOf_3 hl (by decide) rfl (fun ls hl => ?_)
  have loop_1596 : ∀ (fu j1596 : Nat) (v1596 : Int64)  (ls : Array Slot) (H : Heap) (locs : List Loc), 0 ≤ j1596 → j1596 ≤ (wd * wd) → (wd * wd) < j1596 + fu →  (v1596 = (vec j1596 (lvl n en)).foldl hRst 0) → lv_has ls 5 [(4, .int (nI j1596)), (2, .long v1596), (0, .ref (ad 0)), (1, .int (nI n))] → Hp D (Nf sz) (fun _ => True) s.heap H locs cs ad en → W p l e (headSpec (Cond.code yX12_chainOf cX12_chainOf 5 (some .int) :: TB) (rmN 0)).room s m ([.ref (ad 0), .int (nI n)] : List Value).toArray below meth c H locs 0 0 (MQ below (va_Qi (S := Unit) (fun r _ => r = nI (hR (vec N (lvl n en)))) (fun _ _ => True) (Nf sz)) ([.ref (ad 0), .int (nI n)] : List Value).toArray s 0 0 (Nf sz)) (F0 m 5 ls []) := by
    intro fu
    induction fu with
    | zero => intro j1596 v1596 ls H locs h0 h1 h2; exact absurd h2 (by omega)
    | succ fu ih_1596 =>
      intro j1596 v1596 ls H locs hj0_1596 hj_1596 hfu_1596 i0_1596 hl hh
      refine lv_iload hx hb dX12_chainOf_5 (lv_at hl 0 rfl) ?_
      refine lv_aload_n hx hb dX12_chainOf_7 rfl (lv_at hl 2 rfl) ?_
      refine hp_get hx hb hts ix12 hown hK hh (q := 0) rfl (hI.1 _ (by decide)) es1595 rfl 2 (by decide) (hts _ tw_881) (fun _ h9 => h9) rfl dX12_chainOf_8 ?_
      refine lv_aload_n hx hb dX12_chainOf_11 rfl (lv_at hl 2 rfl) ?_
      refine hp_get hx hb hts ix12 hown hK hh (q := 0) rfl (hI.1 _ (by decide)) es1595 rfl 2 (by decide) (hts _ tw_881) (fun _ h9 => h9) rfl dX12_chainOf_12 ?_
      refine lv_imul hx hb dX12_chainOf_15 ?_
      rw [pk_mul wd wd]
      have hw2_1597 : wd * wd ≤ 9 := mww (by omega)
      refine lv_icmp_ge (tgt := 44) hx hb dX12_chainOf_16 (by decide) (fun c_1598 => ?_) (fun c_1598 => ?_)
      · have n_1598 : (wd * wd) ≤ j1596 := n_le (a := (wd * wd)) (b := j1596) c_1598 (by omega) (by omega)
        refine lv_lload_n hx hb dX12_chainOf_44 rfl (lv_at hl 1 rfl) ?_
        refine lv_lload_n hx hb dX12_chainOf_45 rfl (lv_at hl 1 rfl) ?_
        refine lv_bipush (v := 21) hx hb dX12_chainOf_46 (by decide) ?_
        refine lv_lshr hx hb dX12_chainOf_48 rfl ?_
        refine lv_lxor hx hb dX12_chainOf_49 ?_
        refine lv_ldc2 hx hb hown (hts _ tw_1132) dX12_chainOf_50 ?_
        refine lv_land hx hb dX12_chainOf_53 ?_
        refine lv_l2i hx hb dX12_chainOf_54 rfl ?_
        rw [l4095x (v1596 ^^^ (v1596 >>> ((21 : Int32).toInt64 &&& 63)))]
        have hq_1599 : ((v1596 ^^^ (v1596 >>> ((21 : Int32).toInt64 &&& 63))).toBitVec.toNat % 4096) < 4096 := Nat.mod_lt _ (by decide)
        exact hp_iretR hx hb hr rfl hlocks hsz hh (by have e9 : j1596 = N := (by omega); rw [e9] at i0_1596; exact congrArg (fun z => nI (hRE z)) i0_1596) dX12_chainOf_55
      · have n_1598 : j1596 < (wd * wd) := n_nle (a := (wd * wd)) (b := j1596) c_1598 (by omega) (by omega)
        refine lv_lload_n hx hb dX12_chainOf_19 rfl (lv_at hl 1 rfl) ?_
        refine lv_ldc2 hx hb hown (hts _ tw_1131) dX12_chainOf_20 ?_
        refine lv_lmul hx hb dX12_chainOf_23 ?_
        refine lv_aload_n hx hb dX12_chainOf_24 rfl (lv_at hl 2 rfl) ?_
        refine hp_get hx hb hts ix12 hown hK hh (q := 0) rfl (hI.1 _ (by decide)) es1595 rfl 10 (by decide) (hts _ tw_889) (fun _ h9 => h9) rfl dX12_chainOf_25 ?_
        refine lv_bipush (v := 9) hx hb dX12_chainOf_28 (by decide) ?_
        refine lv_iload_n hx hb dX12_chainOf_30 rfl (lv_at hl 3 rfl) ?_
        refine lv_imul hx hb dX12_chainOf_31 ?_
        rw [show (9 : Int32) = nI 9 from rfl, pk_mul 9 n]
        refine lv_iload hx hb dX12_chainOf_32 (lv_at hl 0 rfl) ?_
        refine lv_iadd hx hb dX12_chainOf_34 ?_
        rw [nI_add (9 * n) j1596]
        obtain ⟨f_1600, es1600⟩ := getr_lv hI
        refine hp_lald hx hb hK hh (q := 6) rfl (hI.1 _ (by decide)) es1600 (vp_in_nI (n := ((9 * n) + j1596)) (by omega) (by decide)) dX12_chainOf_35 ?_
        rw [nI_clamp (n := ((9 * n) + j1596)) (by omega)]
        refine lv_ladd hx hb dX12_chainOf_36 ?_
        refine lv_lstore_n (lv' := [(2, .long ((v1596 * 1000003) + (f_1600 ((9 * n) + j1596)))), (4, .int (nI j1596)), (0, .ref (ad 0)), (1, .int (nI n))]) hx hb dX12_chainOf_37 rfl hl (by decide) rfl (fun ls hl => ?_)
        refine lv_iinc (v := (nI (j1596 + 1))) (lv' := [(4, .int (nI (j1596 + 1))), (2, .long ((v1596 * 1000003) + (f_1600 ((9 * n) + j1596)))), (0, .ref (ad 0)), (1, .int (nI n))]) hx hb dX12_chainOf_38 hl (k := 1) rfl (nI_1 _) (by decide) rfl (fun ls hl => ?_)
        refine lv_goto (tgt := 5) hx hb dX12_chainOf_41 (by decide) ?_
        exact ih_1596 ((j1596 + 1)) ((v1596 * 1000003) + (f_1600 ((9 * n) + j1596))) ls H locs (by omega) (by omega) (by omega) (by rw [hr_s, ← i0_1596, show f_1600 = rdL (en 6) from by rw [es1600]; rfl]; rfl) (lv_sub hl [0, 1, 2, 3] rfl) hh
  exact loop_1596 ((wd * wd) + 1) 0 0 ls _ _ (Nat.le_refl _) (by omega) (by omega) (rfl) (lv_sub hl [0, 1, 2, 3] rfl) hh
theorem kw_X12_chainOf {R : Room} {s : State} {args : Array Value} {own : String} {idx : Nat} (hts : ∀ w ∈ TB, w.before args s = true) (hl : Cond.methodLink own idx yX12_chainOf ∈ TB) (hR : 0 + 1 ≤ R.frames ∧ 8 + (5 + 11) + 40 * 0 ≤ R.locals) : CallW R s args own RX12 idx yX12_chainOf cX12_chainOf 5 (some .int) (Cond.code yX12_chainOf cX12_chainOf 5 (some .int) :: TB) (rmN 0) 0 0 1 := cwV 1 hts (TB_V hl tw_1129 ts_52 tw_9 tw_1130) rfl rfl rfl (by decide +kernel) hR
set_option maxHeartbeats 4000000 in
set_option maxRecDepth 100000 in
/-- findAt -/
theorem c_X12_findAt (l : Launch) (D : va_G) (cy : Nat → ClassId) (sz : Nat) (cs : List Nat) (ad : Nat → Nat) (en : Nat → va_E) (hI : RX cy cs ad en) (n : Nat) (hn : n ≤ 12) (N : Nat) (hN : N = dQ en * dQ en) (S : CR) (hRC : RC9 N en S)   : Met l yX12_findAt (Cond.code yX12_findAt cX12_findAt 4 (some .int) :: TB) (rmN 1) (va_Pc [.ref (ad 0), .int (nI n)] (Pre D cy cs ad en sz)) (va_Qi (S := Unit) (fun r _ => FA9 r S (vec N (lvl n en))) (fun _ _ => True) (Nf sz)) 0 0 (Nf sz) := by
  refine Met.ofW (cc := cX12_findAt) (maxL := 4) (ret := (some .int)) (by decide) rfl ?_
  intro p e s m args below meth c s₁ B hml hv
  obtain ⟨rfl, hsz, hP, hK, hD0⟩ := hv
  have hx := B.exec
  have hb := B.bytes
  have hr := B.returns
  have hts : ∀ w ∈ TB, w.before _ s = true := fun w h => atoms_spec (ws := _ :: TB) B.pre w (List.mem_cons_of_mem _ h)
  have hown : s.vm.findClass RX12 = some m.cls := findClass_of_methodNamed B.named
  have hlocks := B.notSynchronized
  have hh : Hp D (Nf sz) (fun _ => True) s.heap s.heap [] cs ad en := ⟨hP, hD0, va_S.rf⟩
  have hA : ∀ q : Nat, s.heap.size ≤ q → Nf sz q := fun q h => by rw [hsz] at h; exact h
  have hl := lv_entry ([.ref (ad 0), .int (nI n)]) (n := 4) (Nat.le_of_ble_eq_true rfl)
  rw [lg_entry_eq]
  generalize (lg_sl ([.ref (ad 0), .int (nI n)]) ++ List.replicate (4 - (lg_sl ([.ref (ad 0), .int (nI n)])).length) Slot.unset).toArray = ls at hl ⊢
  have hl : lv_has ls 4 [(0, .ref (ad 0)), (1, .int (nI n))] := hl
  obtain ⟨fa, hi, wd, mo, tb, dp, many, grt, lst, nou, rm, rb, pr, wo, es1601, hwd2, hwd3, hmo, htb, hwo⟩ := getr_M hI
  obtain ⟨f_1602, es1602⟩ := getr_hd hI
  obtain ⟨f_1603, es1603⟩ := getr_ch hI
  obtain ⟨f_1604, es1604⟩ := getr_pd hI
  obtain ⟨f_1605, es1605⟩ := getr_lv hI
  have hdq : dQ en = wd := by unfold dQ; rw [show rdI (en 0) 2 = nI wd from by rw [es1601]; rfl]; exact nI_clamp (by omega)
  have hmq : mQ en = mo := by unfold mQ; rw [show rdI (en 0) 3 = nI mo from by rw [es1601]; rfl]; exact nI_clamp (by omega)
  have hkq : kQ en = tb := by unfold kQ; rw [show rdI (en 0) 4 = nI tb from by rw [es1601]; rfl]; exact nI_clamp (by omega)
  have hN9 : N = wd * wd := by rw [hN, hdq]
  have hww : wd * wd ≤ 9 := mww (by omega)
  have hS2 := hRC.2.1.1
  refine lv_aload_n hx hb dX12_findAt_0 rfl (lv_at hl 0 rfl) ?_
  refine hp_get hx hb hts ix12 hown hK hh (q := 0) rfl (hI.1 _ (by decide)) es1601 rfl 28 (by decide) (hts _ tw_907) (fun _ h9 => h9) rfl dX12_findAt_1 ?_
  refine lv_aload_n hx hb dX12_findAt_4 rfl (lv_at hl 0 rfl) ?_
  refine lv_iload_n hx hb dX12_findAt_5 rfl (lv_at hl 1 rfl) ?_
  refine hp_callRi (va_runV (As := [.int (nI n)]) (rest := [.ref (ad 16)]) ⟨hx, hb, hml, hown, hts⟩ (c_X12_chainOf l D cy _ cs ad en hI n (by omega) N hN) (kw_X12_chainOf hts tw_1127 ⟨by decide, by decide⟩) (preV_of hh hK (hI.1 _ (by decide)) es1601 rfl) rfl rfl hl.1 rfl (lv_room (Nat.le_of_ble_eq_true rfl)) dX12_findAt_6 ⟨Nat.le_of_ble_eq_true rfl, Nat.le_of_ble_eq_true rfl⟩) hh hA (fun r_1606 H locs hw_1606 hh => ?_)
  obtain rfl : r_1606 = nI (hR (vec N (lvl n en))) := hw_1606
  have hxl_1606 : hR (vec N (lvl n en)) < 4096 := hR_lt _
  refine hp_iald hx hb hK hh (q := 16) rfl (hI.1 _ (by decide)) es1602 (vp_in_nI (n := (hR (vec N (lvl n en)))) (by omega) (by decide)) dX12_findAt_9 ?_
  rw [nI_clamp (n := (hR (vec N (lvl n en)))) (by omega)]
  refine lv_istore_n (lv' := [(2, .int (f_1602 (hR (vec N (lvl n en))))), (0, .ref (ad 0)), (1, .int (nI n))]) hx hb dX12_findAt_10 rfl hl (by decide) rfl (fun ls hl => ?_)
  have loop_1607 : ∀ (fu mm1607 : Nat) (pp1607 : Int32)   (ls : Array Slot) (H : Heap) (locs : List Loc), mm1607 < fu →  (pp1607 = pv9 hR S (hR (vec N (lvl n en))) mm1607) → (FI9 S (vec N (lvl n en)) mm1607) → lv_has ls 4 [(2, .int pp1607), (0, .ref (ad 0)), (1, .int (nI n))] → Hp D (Nf sz) (fun _ => True) s.heap H locs cs ad en → W p l e (headSpec (Cond.code yX12_findAt cX12_findAt 4 (some .int) :: TB) (rmN 1)).room s m ([.ref (ad 0), .int (nI n)] : List Value).toArray below meth c H locs 0 0 (MQ below (va_Qi (S := Unit) (fun r _ => FA9 r S (vec N (lvl n en))) (fun _ _ => True) (Nf sz)) ([.ref (ad 0), .int (nI n)] : List Value).toArray s 0 0 (Nf sz)) (F0 m 11 ls []) := by
    intro fu
    induction fu with
    | zero => intro mm1607 pp1607 ls H locs h2; exact absurd h2 (by omega)
    | succ fu ih_1607 =>
      intro mm1607 pp1607 ls H locs hmm_1607 i0_1607 i1_1607 hl hh
      refine lv_iload_n hx hb dX12_findAt_11 rfl (lv_at hl 0 rfl) ?_
      refine lv_bipush (v := (-9)) hx hb dX12_findAt_12 (by decide) ?_
      refine lv_icmp_eq (tgt := 89) hx hb dX12_findAt_14 (by decide) (fun c_1608 => ?_) (fun c_1608 => ?_)
      · refine lv_bipush (v := (-9)) hx hb dX12_findAt_89 (by decide) ?_
        exact hp_iretR hx hb hr rfl hlocks hsz hh (FI_end hS2 i1_1607 (i0_1607.symm.trans c_1608)) dX12_findAt_91
      · rcases pv_cs (hs := hR) (S := S) (h := hR (vec N (lvl n en))) mm1607 i1_1607.1 with ⟨hq9_1607, -⟩ | ⟨v9_1607, x9_1607, hv9a_1607, hv9e_1607, hx9_1607, hh9_1607, hb9_1607⟩
        · exact absurd (i0_1607.trans hq9_1607) c_1608
        have hm9_1607 := i1_1607.1
        obtain rfl : pp1607 = nI v9_1607 := i0_1607.trans hv9e_1607
        refine lv_iconst (v := 0) hx hb dX12_findAt_17 (by decide) ?_
        refine lv_istore_n (lv' := [(3, .int 0), (2, .int (nI v9_1607)), (0, .ref (ad 0)), (1, .int (nI n))]) hx hb dX12_findAt_18 rfl hl (by decide) rfl (fun ls hl => ?_)
        have loop_1609 : ∀ (fu j1609 : Nat)   (ls : Array Slot) (H : Heap) (locs : List Loc), 0 ≤ j1609 → j1609 ≤ (wd * wd) → (wd * wd) < j1609 + fu →  (∀ i, i < j1609 → f_1604 (9 * v9_1607 + i) = f_1605 (9 * n + i)) → lv_has ls 4 [(3, .int (nI j1609)), (2, .int (nI v9_1607)), (0, .ref (ad 0)), (1, .int (nI n))] → Hp D (Nf sz) (fun _ => True) s.heap H locs cs ad en → W p l e (headSpec (Cond.code yX12_findAt cX12_findAt 4 (some .int) :: TB) (rmN 1)).room s m ([.ref (ad 0), .int (nI n)] : List Value).toArray below meth c H locs 0 0 (MQ below (va_Qi (S := Unit) (fun r _ => FA9 r S (vec N (lvl n en))) (fun _ _ => True) (Nf sz)) ([.ref (ad 0), .int (nI n)] : List Value).toArray s 0 0 (Nf sz)) (F0 m 19 ls []) := by
          intro fu
          induction fu with
          | zero => intro j1609  ls H locs h0 h1 h2; exact absurd h2 (by omega)
          | succ fu ih_1609 =>
            intro j1609  ls H locs hj0_1609 hj_1609 hfu_1609 i0_1609 hl hh
            refine lv_iload_n hx hb dX12_findAt_19 rfl (lv_at hl 0 rfl) ?_
            refine lv_aload_n hx hb dX12_findAt_20 rfl (lv_at hl 2 rfl) ?_
            refine hp_get hx hb hts ix12 hown hK hh (q := 0) rfl (hI.1 _ (by decide)) es1601 rfl 2 (by decide) (hts _ tw_881) (fun _ h9 => h9) rfl dX12_findAt_21 ?_
            refine lv_aload_n hx hb dX12_findAt_24 rfl (lv_at hl 2 rfl) ?_
            refine hp_get hx hb hts ix12 hown hK hh (q := 0) rfl (hI.1 _ (by decide)) es1601 rfl 2 (by decide) (hts _ tw_881) (fun _ h9 => h9) rfl dX12_findAt_25 ?_
            refine lv_imul hx hb dX12_findAt_28 ?_
            rw [pk_mul wd wd]
            have hw2_1610 : wd * wd ≤ 9 := mww (by omega)
            refine lv_icmp_ge (tgt := 64) hx hb dX12_findAt_29 (by decide) (fun c_1611 => ?_) (fun c_1611 => ?_)
            · have n_1611 : (wd * wd) ≤ j1609 := n_le (a := (wd * wd)) (b := j1609) c_1611 (by omega) (by omega)
              refine lv_iload_n hx hb dX12_findAt_64 rfl (lv_at hl 0 rfl) ?_
              refine lv_aload_n hx hb dX12_findAt_65 rfl (lv_at hl 2 rfl) ?_
              refine hp_get hx hb hts ix12 hown hK hh (q := 0) rfl (hI.1 _ (by decide)) es1601 rfl 2 (by decide) (hts _ tw_881) (fun _ h9 => h9) rfl dX12_findAt_66 ?_
              refine lv_aload_n hx hb dX12_findAt_69 rfl (lv_at hl 2 rfl) ?_
              refine hp_get hx hb hts ix12 hown hK hh (q := 0) rfl (hI.1 _ (by decide)) es1601 rfl 2 (by decide) (hts _ tw_881) (fun _ h9 => h9) rfl dX12_findAt_70 ?_
              refine lv_imul hx hb dX12_findAt_73 ?_
              rw [pk_mul wd wd]
              have hw2_1612 : wd * wd ≤ 9 := mww (by omega)
              refine lv_icmp_ne (tgt := 79) hx hb dX12_findAt_74 (by decide) (fun c_1613 => ?_) (fun c_1613 => ?_)
              · have n_1613 : j1609 ≠ (wd * wd) := n_neq (a := j1609) (b := (wd * wd)) c_1613 (by omega) (by omega)
                exact absurd n_1613 (by omega)
              · have n_1613 : j1609 = (wd * wd) := n_eq (a := j1609) (b := (wd * wd)) c_1613 (by omega) (by omega)
                refine lv_iload_n hx hb dX12_findAt_77 rfl (lv_at hl 1 rfl) ?_
                exact hp_iretR hx hb hr rfl hlocks hsz hh (Or.inr ⟨v9_1607, x9_1607, hx9_1607, (AR_same hRC.2.2.1 hx9_1607).2 (fun i hi => by show rdL (en 14) (9 * v9_1607 + i) = rdL (en 6) (9 * n + i); rw [show rdL (en 14) = f_1604 from by rw [es1604]; rfl, show rdL (en 6) = f_1605 from by rw [es1605]; rfl]; exact i0_1609 i (by omega)), rfl⟩) dX12_findAt_78
            · have n_1611 : j1609 < (wd * wd) := n_nle (a := (wd * wd)) (b := j1609) c_1611 (by omega) (by omega)
              refine lv_aload_n hx hb dX12_findAt_32 rfl (lv_at hl 2 rfl) ?_
              refine hp_get hx hb hts ix12 hown hK hh (q := 0) rfl (hI.1 _ (by decide)) es1601 rfl 26 (by decide) (hts _ tw_905) (fun _ h9 => h9) rfl dX12_findAt_33 ?_
              refine lv_bipush (v := 9) hx hb dX12_findAt_36 (by decide) ?_
              refine lv_iload_n hx hb dX12_findAt_38 rfl (lv_at hl 1 rfl) ?_
              refine lv_imul hx hb dX12_findAt_39 ?_
              rw [show (9 : Int32) = nI 9 from rfl, pk_mul 9 v9_1607]
              refine lv_iload_n hx hb dX12_findAt_40 rfl (lv_at hl 0 rfl) ?_
              refine lv_iadd hx hb dX12_findAt_41 ?_
              rw [nI_add (9 * v9_1607) j1609]
              refine hp_lald hx hb hK hh (q := 14) rfl (hI.1 _ (by decide)) es1604 (vp_in_nI (n := ((9 * v9_1607) + j1609)) (by omega) (by decide)) dX12_findAt_42 ?_
              rw [nI_clamp (n := ((9 * v9_1607) + j1609)) (by omega)]
              refine lv_aload_n hx hb dX12_findAt_43 rfl (lv_at hl 2 rfl) ?_
              refine hp_get hx hb hts ix12 hown hK hh (q := 0) rfl (hI.1 _ (by decide)) es1601 rfl 10 (by decide) (hts _ tw_889) (fun _ h9 => h9) rfl dX12_findAt_44 ?_
              refine lv_bipush (v := 9) hx hb dX12_findAt_47 (by decide) ?_
              refine lv_iload_n hx hb dX12_findAt_49 rfl (lv_at hl 3 rfl) ?_
              refine lv_imul hx hb dX12_findAt_50 ?_
              rw [show (9 : Int32) = nI 9 from rfl, pk_mul 9 n]
              refine lv_iload_n hx hb dX12_findAt_51 rfl (lv_at hl 0 rfl) ?_
              refine lv_iadd hx hb dX12_findAt_52 ?_
              rw [nI_add (9 * n) j1609]
              refine hp_lald hx hb hK hh (q := 6) rfl (hI.1 _ (by decide)) es1605 (vp_in_nI (n := ((9 * n) + j1609)) (by omega) (by decide)) dX12_findAt_53 ?_
              rw [nI_clamp (n := ((9 * n) + j1609)) (by omega)]
              refine W.lcmp hx hb dX12_findAt_54 ?_
              refine lv_if_ne (tgt := 64) hx hb dX12_findAt_55 (by decide) (fun c_1614 => ?_) (fun c_1614 => ?_)
              · refine lv_iload_n hx hb dX12_findAt_64 rfl (lv_at hl 0 rfl) ?_
                refine lv_aload_n hx hb dX12_findAt_65 rfl (lv_at hl 2 rfl) ?_
                refine hp_get hx hb hts ix12 hown hK hh (q := 0) rfl (hI.1 _ (by decide)) es1601 rfl 2 (by decide) (hts _ tw_881) (fun _ h9 => h9) rfl dX12_findAt_66 ?_
                refine lv_aload_n hx hb dX12_findAt_69 rfl (lv_at hl 2 rfl) ?_
                refine hp_get hx hb hts ix12 hown hK hh (q := 0) rfl (hI.1 _ (by decide)) es1601 rfl 2 (by decide) (hts _ tw_881) (fun _ h9 => h9) rfl dX12_findAt_70 ?_
                refine lv_imul hx hb dX12_findAt_73 ?_
                rw [pk_mul wd wd]
                have hw2_1615 : wd * wd ≤ 9 := mww (by omega)
                refine lv_icmp_ne (tgt := 79) hx hb dX12_findAt_74 (by decide) (fun c_1616 => ?_) (fun c_1616 => ?_)
                · have n_1616 : j1609 ≠ (wd * wd) := n_neq (a := j1609) (b := (wd * wd)) c_1616 (by omega) (by omega)
                  refine lv_aload_n hx hb dX12_findAt_79 rfl (lv_at hl 2 rfl) ?_
                  refine hp_get hx hb hts ix12 hown hK hh (q := 0) rfl (hI.1 _ (by decide)) es1601 rfl 29 (by decide) (hts _ tw_908) (fun _ h9 => h9) rfl dX12_findAt_80 ?_
                  refine lv_iload_n hx hb dX12_findAt_83 rfl (lv_at hl 1 rfl) ?_
                  refine hp_iald hx hb hK hh (q := 17) rfl (hI.1 _ (by decide)) es1603 (vp_in_nI (n := v9_1607) (by omega) (by decide)) dX12_findAt_84 ?_
                  rw [nI_clamp (n := v9_1607) (by omega)]
                  refine lv_istore_n (lv' := [(2, .int (f_1603 v9_1607)), (3, .int (nI j1609)), (0, .ref (ad 0)), (1, .int (nI n))]) hx hb dX12_findAt_85 rfl hl (by decide) rfl (fun ls hl => ?_)
                  refine lv_goto (tgt := 11) hx hb dX12_findAt_86 (by decide) ?_
                  exact ih_1607 (v9_1607) (f_1603 v9_1607) ls H locs (by omega) (by have h9 := hRC.2.2.2.2 v9_1607 x9_1607 hx9_1607; rw [hh9_1607, show rdF (en 17) = f_1603 from by rw [es1603]; rfl] at h9; exact h9) (FI_s i1_1607 hv9a_1607 hx9_1607 hb9_1607 (fun e9 => c_1614 (show (lg_cmp (f_1604 ((9 * v9_1607) + j1609)) (f_1605 ((9 * n) + j1609))) = 0 from by have h9 := (AR_same hRC.2.2.1 hx9_1607).1 e9 j1609 (by omega); rw [show rdL (en 14) = f_1604 from by rw [es1604]; rfl] at h9; unfold lvl at h9; rw [show rdL (en 6) = f_1605 from by rw [es1605]; rfl] at h9; exact (lg_cmp_eq _ _).mpr h9))) (lv_sub hl [0, 2, 3] rfl) hh
                · have n_1616 : j1609 = (wd * wd) := n_eq (a := j1609) (b := (wd * wd)) c_1616 (by omega) (by omega)
                  exact absurd n_1616 (by omega)
              · refine lv_iinc (v := (nI (j1609 + 1))) (lv' := [(3, .int (nI (j1609 + 1))), (2, .int (nI v9_1607)), (0, .ref (ad 0)), (1, .int (nI n))]) hx hb dX12_findAt_58 hl (k := 0) rfl (nI_1 _) (by decide) rfl (fun ls hl => ?_)
                refine lv_goto (tgt := 19) hx hb dX12_findAt_61 (by decide) ?_
                exact ih_1609 ((j1609 + 1))  ls H locs (by omega) (by omega) (by omega) (fun i hi => (Nat.lt_or_ge i j1609).elim (fun h9 => i0_1609 i h9) (fun h9 => by obtain rfl : i = j1609 := (by omega); exact (lg_cmp_eq _ _).mp c_1614)) (lv_sub hl [0, 1, 2, 3] rfl) hh
        exact loop_1609 ((wd * wd) + 1) 0  ls _ _ (Nat.le_refl _) (by omega) (by omega) (fun i h => absurd h (Nat.not_lt_zero i)) (lv_sub hl [0, 1, 2, 3] rfl) hh
  exact loop_1607 (S.length + 1) S.length (f_1602 (hR (vec N (lvl n en)))) ls _ _ (by omega) (by have h9 := hRC.2.2.2.1 (hR (vec N (lvl n en))) (hR_lt _); rw [show rdF (en 16) = f_1602 from by rw [es1602]; rfl] at h9; exact h9) (FI_0) (lv_sub hl [0, 1, 2] rfl) hh
theorem kw_X12_findAt {R : Room} {s : State} {args : Array Value} {own : String} {idx : Nat} (hts : ∀ w ∈ TB, w.before args s = true) (hl : Cond.methodLink own idx yX12_findAt ∈ TB) (hR : 1 + 1 ≤ R.frames ∧ 8 + (4 + 11) + 40 * 1 ≤ R.locals) : CallW R s args own RX12 idx yX12_findAt cX12_findAt 4 (some .int) (Cond.code yX12_findAt cX12_findAt 4 (some .int) :: TB) (rmN 1) 0 0 1 := cwV 1 hts (TB_V hl tw_1125 ts_51 tw_9 tw_1126) rfl rfl rfl (by decide +kernel) hR
set_option maxHeartbeats 4000000 in
set_option maxRecDepth 100000 in
/-- comes -/
theorem c_X12_comes (l : Launch) (D : va_G) (cy : Nat → ClassId) (sz : Nat) (cs : List Nat) (ad : Nat → Nat) (en : Nat → va_E) (hI : RX cy cs ad en) (n : Nat) (le9 : Int32) (hn : n ≤ 12) (N : Nat) (hN : N = dQ en * dQ en) (S : CR) (hRC : RC9 N en S)   : Met l yX12_comes (Cond.code yX12_comes cX12_comes 5 (some .boolean) :: TB) (rmN 2) (va_Pc [.ref (ad 0), .int (nI n), .int le9] (Pre D cy cs ad en sz)) (va_Qi (S := Nat → va_E) (fun r en1 => RX cy cs ad en1 ∧ (∀ c, (c ≠ 0 ∧ c ≠ 14 ∧ c ≠ 15 ∧ c ≠ 16 ∧ c ≠ 17) → en1 c = en c) ∧ ((r = 1 ∧ ∃ T, tk beyB S (vec N (lvl n en)) le9 = some T ∧ RC9 N en1 T) ∨ (r = 0 ∧ RC9 N en1 S ∧ tk beyB S (vec N (lvl n en)) le9 = none)) ∧ KPp en en1) (PostM D cs ad) (Af cs ad sz)) 0 0 (Af cs ad sz) := by
  refine Met.ofW (cc := cX12_comes) (maxL := 5) (ret := (some .boolean)) (by decide) rfl ?_
  intro p e s m args below meth c s₁ B hml hv
  obtain ⟨rfl, hsz, hP, hK, hD0⟩ := hv
  have hx := B.exec
  have hb := B.bytes
  have hr := B.returns
  have hts : ∀ w ∈ TB, w.before _ s = true := fun w h => atoms_spec (ws := _ :: TB) B.pre w (List.mem_cons_of_mem _ h)
  have hown : s.vm.findClass RX12 = some m.cls := findClass_of_methodNamed B.named
  have hlocks := B.notSynchronized
  have hh : Hp D (Af cs ad sz) (Af cs ad sz) s.heap s.heap [] cs ad en := ⟨hP, Af_self hD0, va_S.rf⟩
  have hA : ∀ q : Nat, s.heap.size ≤ q → Af cs ad sz q := fun q h => Or.inr (by rw [hsz] at h; exact h)
  have hl := lv_entry ([.ref (ad 0), .int (nI n), .int le9]) (n := 5) (Nat.le_of_ble_eq_true rfl)
  rw [lg_entry_eq]
  generalize (lg_sl ([.ref (ad 0), .int (nI n), .int le9]) ++ List.replicate (5 - (lg_sl ([.ref (ad 0), .int (nI n), .int le9])).length) Slot.unset).toArray = ls at hl ⊢
  have hl : lv_has ls 5 [(0, .ref (ad 0)), (1, .int (nI n)), (2, .int le9)] := hl
  have hf0 : ∀ c, (c ≠ 0 ∧ c ≠ 14 ∧ c ≠ 15 ∧ c ≠ 16 ∧ c ≠ 17) → en c = en c := fun _ _ => rfl
  obtain ⟨fa, hi, wd, mo, tb, dp, many, grt, lst, nou, rm, rb, pr, wo, es1617, hwd2, hwd3, hmo, htb, hwo⟩ := getr_M hI
  obtain ⟨f_1618, es1618⟩ := getr_hd hI
  obtain ⟨f_1619, es1619⟩ := getr_ch hI
  obtain ⟨f_1620, es1620⟩ := getr_ln hI
  obtain ⟨f_1621, es1621⟩ := getr_pd hI
  obtain ⟨f_1622, es1622⟩ := getr_lv hI
  have hdq : dQ en = wd := by unfold dQ; rw [show rdI (en 0) 2 = nI wd from by rw [es1617]; rfl]; exact nI_clamp (by omega)
  have hmq : mQ en = mo := by unfold mQ; rw [show rdI (en 0) 3 = nI mo from by rw [es1617]; rfl]; exact nI_clamp (by omega)
  have hkq : kQ en = tb := by unfold kQ; rw [show rdI (en 0) 4 = nI tb from by rw [es1617]; rfl]; exact nI_clamp (by omega)
  have hN9 : N = wd * wd := by rw [hN, hdq]
  have hww : wd * wd ≤ 9 := mww (by omega)
  have hS2 := hRC.2.1.1
  have hfx_1623 : pr = nI S.length := (show pr = rdI (en 0) 25 from by rw [es1617]; rfl).trans (hRC.1)
  rw [hfx_1623] at es1617
  refine lv_iconst (v := 0) hx hb dX12_comes_0 (by decide) ?_
  refine lv_istore_n (lv' := [(3, .int 0), (0, .ref (ad 0)), (1, .int (nI n)), (2, .int le9)]) hx hb dX12_comes_1 rfl hl (by decide) rfl (fun ls hl => ?_)
  have loop_1624 : ∀ (fu j1624 : Nat)   (ls : Array Slot) (H : Heap) (locs : List Loc), 0 ≤ j1624 → j1624 ≤ (wd * wd) → (wd * wd) < j1624 + fu →  (∀ i, i < j1624 → wj (f_1622 (9 * n + i)) (-1000000) 1000000) → lv_has ls 5 [(3, .int (nI j1624)), (0, .ref (ad 0)), (1, .int (nI n)), (2, .int le9)] → Hp D (Af cs ad sz) (Af cs ad sz) s.heap H locs cs ad en → W p l e (headSpec (Cond.code yX12_comes cX12_comes 5 (some .boolean) :: TB) (rmN 2)).room s m ([.ref (ad 0), .int (nI n), .int le9] : List Value).toArray below meth c H locs 0 0 (MQ below (va_Qi (S := Nat → va_E) (fun r en1 => RX cy cs ad en1 ∧ (∀ c, (c ≠ 0 ∧ c ≠ 14 ∧ c ≠ 15 ∧ c ≠ 16 ∧ c ≠ 17) → en1 c = en c) ∧ ((r = 1 ∧ ∃ T, tk beyB S (vec N (lvl n en)) le9 = some T ∧ RC9 N en1 T) ∨ (r = 0 ∧ RC9 N en1 S ∧ tk beyB S (vec N (lvl n en)) le9 = none)) ∧ KPp en en1) (PostM D cs ad) (Af cs ad sz)) ([.ref (ad 0), .int (nI n), .int le9] : List Value).toArray s 0 0 (Af cs ad sz)) (F0 m 2 ls []) := by
    intro fu
    induction fu with
    | zero => intro j1624  ls H locs h0 h1 h2; exact absurd h2 (by omega)
    | succ fu ih_1624 =>
      intro j1624  ls H locs hj0_1624 hj_1624 hfu_1624 i0_1624 hl hh
      refine lv_iload_n hx hb dX12_comes_2 rfl (lv_at hl 0 rfl) ?_
      refine lv_aload_n hx hb dX12_comes_3 rfl (lv_at hl 1 rfl) ?_
      refine hp_get hx hb hts ix12 hown hK hh (q := 0) rfl (hI.1 _ (by decide)) es1617 rfl 2 (by decide) (hts _ tw_881) (fun _ h9 => h9) rfl dX12_comes_4 ?_
      refine lv_aload_n hx hb dX12_comes_7 rfl (lv_at hl 1 rfl) ?_
      refine hp_get hx hb hts ix12 hown hK hh (q := 0) rfl (hI.1 _ (by decide)) es1617 rfl 2 (by decide) (hts _ tw_881) (fun _ h9 => h9) rfl dX12_comes_8 ?_
      refine lv_imul hx hb dX12_comes_11 ?_
      rw [pk_mul wd wd]
      have hw2_1625 : wd * wd ≤ 9 := mww (by omega)
      refine lv_icmp_ge (tgt := 46) hx hb dX12_comes_12 (by decide) (fun c_1626 => ?_) (fun c_1626 => ?_)
      · have n_1626 : (wd * wd) ≤ j1624 := n_le (a := (wd * wd)) (b := j1624) c_1626 (by omega) (by omega)
        refine lv_aload_n hx hb dX12_comes_46 rfl (lv_at hl 1 rfl) ?_
        refine lv_iload_n hx hb dX12_comes_47 rfl (lv_at hl 2 rfl) ?_
        refine hp_callRi (va_runV (As := [.int (nI n)]) (rest := []) ⟨hx, hb, hml, hown, hts⟩ (c_X12_findAt l D cy _ cs ad en hI n (by omega) N hN S hRC) (kw_X12_findAt hts tw_1123 ⟨by decide, by decide⟩) (preV_of hh hK (hI.1 _ (by decide)) es1617 rfl) rfl rfl hl.1 rfl (lv_room (Nat.le_of_ble_eq_true rfl)) dX12_comes_48 ⟨Nat.le_of_ble_eq_true rfl, Nat.le_of_ble_eq_true rfl⟩) hh hA (fun r_1627 H locs hw_1627 hh => ?_)
        rcases hw_1627 with ⟨hb_1627, hno_1627⟩ | ⟨F_1627, xf_1627, hxf_1627, hef_1627, hb_1627⟩
        · obtain rfl : r_1627 = (-9) := hb_1627
          refine lv_bipush (v := (-9)) hx hb dX12_comes_51 (by decide) ?_
          refine lv_icmp_eq (tgt := 58) hx hb dX12_comes_53 (by decide) (fun _ => ?_) (fun c_0 => absurd c_0 (by decide))
          refine lv_aload_n hx hb dX12_comes_58 rfl (lv_at hl 1 rfl) ?_
          refine hp_get hx hb hts ix12 hown hK hh (q := 0) rfl (hI.1 _ (by decide)) es1617 rfl 25 (by decide) (hts _ tw_904) (fun _ h9 => h9) rfl dX12_comes_59 ?_
          refine lv_sipush (v := 2000) hx hb dX12_comes_62 (by decide) ?_
          refine lv_icmp_ne (tgt := 70) hx hb dX12_comes_65 (by decide) (fun c_1628 => ?_) (fun c_1628 => ?_)
          · have n_1628 : S.length ≠ 2000 := n_neq (a := S.length) (b := 2000) c_1628 (by omega) (by decide)
            refine lv_aload_n hx hb dX12_comes_70 rfl (lv_at hl 1 rfl) ?_
            refine lv_iload_n hx hb dX12_comes_71 rfl (lv_at hl 2 rfl) ?_
            refine hp_callRi (va_runV (As := [.int (nI n)]) (rest := []) ⟨hx, hb, hml, hown, hts⟩ (c_X12_chainOf l D cy _ cs ad en hI n (by omega) N hN) (kw_X12_chainOf hts tw_1127 ⟨by decide, by decide⟩) (preV_of hh hK (hI.1 _ (by decide)) es1617 rfl) rfl rfl hl.1 rfl (lv_room (Nat.le_of_ble_eq_true rfl)) dX12_comes_72 ⟨Nat.le_of_ble_eq_true rfl, Nat.le_of_ble_eq_true rfl⟩) hh hA (fun r_1629 H locs hw_1629 hh => ?_)
            obtain rfl : r_1629 = nI (hR (vec N (lvl n en))) := hw_1629
            have hxl_1629 : hR (vec N (lvl n en)) < 4096 := hR_lt _
            refine lv_istore_n (lv' := [(3, .int (nI (hR (vec N (lvl n en))))), (0, .ref (ad 0)), (1, .int (nI n)), (2, .int le9)]) hx hb dX12_comes_75 rfl hl (by decide) rfl (fun ls hl => ?_)
            refine lv_iconst (v := 0) hx hb dX12_comes_76 (by decide) ?_
            refine lv_istore (lv' := [(4, .int 0), (3, .int (nI (hR (vec N (lvl n en))))), (0, .ref (ad 0)), (1, .int (nI n)), (2, .int le9)]) hx hb dX12_comes_77 hl (by decide) rfl (fun ls hl => ?_)
            have loop_1630 : ∀ (fu j1630 : Nat)  (en_1630 : Nat → va_E) (ls : Array Slot) (H : Heap) (locs : List Loc), 0 ≤ j1630 → j1630 ≤ (wd * wd) → (wd * wd) < j1630 + fu → RX cy cs ad en_1630 → (∀ c, (c ≠ 0 ∧ c ≠ 14 ∧ c ≠ 15 ∧ c ≠ 16 ∧ c ≠ 17) → en_1630 c = en c) → (rdI (en_1630 0) 25 = nI S.length) → (∀ k9 i9, k9 < S.length → i9 < N → rdL (en_1630 14) (9 * k9 + i9) = rdL (en 14) (9 * k9 + i9)) → (∀ i9, i9 < j1630 → rdL (en_1630 14) (9 * S.length + i9) = lvl n en i9) → (KPp en en_1630) → (en_1630 16 = en 16) → (en_1630 17 = en 17) → (en_1630 15 = en 15) → (en_1630 6 = en 6) → lv_has ls 5 [(4, .int (nI j1630)), (3, .int (nI (hR (vec N (lvl n en))))), (0, .ref (ad 0)), (1, .int (nI n)), (2, .int le9)] → Hp D (Af cs ad sz) (Af cs ad sz) s.heap H locs cs ad en_1630 → W p l e (headSpec (Cond.code yX12_comes cX12_comes 5 (some .boolean) :: TB) (rmN 2)).room s m ([.ref (ad 0), .int (nI n), .int le9] : List Value).toArray below meth c H locs 0 0 (MQ below (va_Qi (S := Nat → va_E) (fun r en1 => RX cy cs ad en1 ∧ (∀ c, (c ≠ 0 ∧ c ≠ 14 ∧ c ≠ 15 ∧ c ≠ 16 ∧ c ≠ 17) → en1 c = en c) ∧ ((r = 1 ∧ ∃ T, tk beyB S (vec N (lvl n en)) le9 = some T ∧ RC9 N en1 T) ∨ (r = 0 ∧ RC9 N en1 S ∧ tk beyB S (vec N (lvl n en)) le9 = none)) ∧ KPp en en1) (PostM D cs ad) (Af cs ad sz)) ([.ref (ad 0), .int (nI n), .int le9] : List Value).toArray s 0 0 (Af cs ad sz)) (F0 m 79 ls []) := by
              intro fu
              induction fu with
              | zero => intro j1630  en_1630 ls H locs h0 h1 h2; exact absurd h2 (by omega)
              | succ fu ih_1630 =>
                intro j1630  en_1630 ls H locs hj0_1630 hj_1630 hfu_1630 hI_1630 hf_1630 i0_1630 i1_1630 i2_1630 i3_1630 i4_1630 i5_1630 i6_1630 i7_1630 hl hh
                refine lv_iload hx hb dX12_comes_79 (lv_at hl 0 rfl) ?_
                refine lv_aload_n hx hb dX12_comes_81 rfl (lv_at hl 2 rfl) ?_
                obtain ⟨fa_1631, hi_1631, wd_1631, mo_1631, tb_1631, dp_1631, many_1631, grt_1631, lst_1631, nou_1631, rm_1631, rb_1631, pr_1631, wo_1631, es1631, p0_1631, p1_1631, p2_1631, p3_1631, p4_1631⟩ := getr_M hI_1630
                have hfx_1632 : pr_1631 = nI S.length := (show pr_1631 = rdI (en_1630 0) 25 from by rw [es1631]; rfl).trans (i0_1630)
                rw [hfx_1632] at es1631
                have hq2_1633 : wd_1631 = wd := n_eq ((show nI wd_1631 = rdI (en_1630 0) 2 from by rw [es1631]; rfl).trans (i3_1630.2.1.trans (show rdI (en 0) 2 = nI wd from by rw [es1617]; rfl))) (by omega) (by omega)
                have hq3_1633 : mo_1631 = mo := n_eq ((show nI mo_1631 = rdI (en_1630 0) 3 from by rw [es1631]; rfl).trans (i3_1630.2.2.1.trans (show rdI (en 0) 3 = nI mo from by rw [es1617]; rfl))) (by omega) (by omega)
                have hq4_1633 : tb_1631 = tb := n_eq ((show nI tb_1631 = rdI (en_1630 0) 4 from by rw [es1631]; rfl).trans (i3_1630.2.2.2.1.trans (show rdI (en 0) 4 = nI tb from by rw [es1617]; rfl))) (by omega) (by omega)
                have hq30_1633 : wo_1631 = wo := n_eq ((show nI wo_1631 = rdI (en_1630 0) 30 from by rw [es1631]; rfl).trans (i3_1630.2.2.2.2.trans (show rdI (en 0) 30 = nI wo from by rw [es1617]; rfl))) (by omega) (by omega)
                rw [hq2_1633, hq3_1633, hq4_1633, hq30_1633] at es1631
                refine hp_get hx hb hts ix12 hown hK hh (q := 0) rfl (hI.1 _ (by decide)) es1631 rfl 2 (by decide) (hts _ tw_881) (fun _ h9 => h9) rfl dX12_comes_82 ?_
                refine lv_aload_n hx hb dX12_comes_85 rfl (lv_at hl 2 rfl) ?_
                refine hp_get hx hb hts ix12 hown hK hh (q := 0) rfl (hI.1 _ (by decide)) es1631 rfl 2 (by decide) (hts _ tw_881) (fun _ h9 => h9) rfl dX12_comes_86 ?_
                refine lv_imul hx hb dX12_comes_89 ?_
                rw [pk_mul wd wd]
                have hw2_1634 : wd * wd ≤ 9 := mww (by omega)
                refine lv_icmp_ge (tgt := 126) hx hb dX12_comes_90 (by decide) (fun c_1635 => ?_) (fun c_1635 => ?_)
                · have n_1635 : (wd * wd) ≤ j1630 := n_le (a := (wd * wd)) (b := j1630) c_1635 (by omega) (by omega)
                  refine lv_aload_n hx hb dX12_comes_126 rfl (lv_at hl 2 rfl) ?_
                  refine hp_get hx hb hts ix12 hown hK hh (q := 0) rfl (hI.1 _ (by decide)) es1631 rfl 27 (by decide) (hts _ tw_906) (fun _ h9 => h9) rfl dX12_comes_127 ?_
                  refine lv_aload_n hx hb dX12_comes_130 rfl (lv_at hl 2 rfl) ?_
                  refine hp_get hx hb hts ix12 hown hK hh (q := 0) rfl (hI.1 _ (by decide)) es1631 rfl 25 (by decide) (hts _ tw_904) (fun _ h9 => h9) rfl dX12_comes_131 ?_
                  refine lv_iload_n hx hb dX12_comes_134 rfl (lv_at hl 4 rfl) ?_
                  have es1620_1636 : en_1630 15 = .inl (cy 0, 2001, .inl f_1620) := i6_1630.trans es1620
                  refine hp_iast hx hb hK hh (q := 15) rfl (hI.1 _ (by decide)) es1620_1636 (vp_in_nI (n := S.length) (by omega) (by decide)) dX12_comes_135 (fun H locs en_1637 hen_1637 hh => ?_)
                  rw [nI_clamp (n := S.length) (by omega)] at hen_1637
                  have es1631_1637 : en_1637 0 = .inr (11, [.int fa_1631, .int hi_1631, .int (nI wd), .int (nI mo), .int (nI tb), .ref (ad 1), .ref (ad 2), .ref (ad 3), .ref (ad 4), .ref (ad 5), .ref (ad 6), .ref (ad 7), .ref (ad 8), .ref (ad 9), .int dp_1631, .long many_1631, .long grt_1631, .long lst_1631, .long nou_1631, .ref (ad 10), .ref (ad 11), .ref (ad 12), .int rm_1631, .long rb_1631, .ref (ad 13), .int (nI S.length), .ref (ad 14), .ref (ad 15), .ref (ad 16), .ref (ad 17), .int (nI wo), .ref (ad 18), .ref (ad 19)]) := by rw [hen_1637, va_up_ne _ _ (by decide)]; exact es1631
                  have es1620_1637 : en_1637 15 = .inl (cy 0, 2001, .inl (upd f_1620 S.length le9)) := by rw [hen_1637]; exact va_up_self _ _ _
                  have hI_1637 : RX cy cs ad en_1637 := by rw [hen_1637]; exact upr_ln hI_1630 ⟨(upd f_1620 S.length le9), rfl⟩
                  have hf_1637 : ∀ c, (c ≠ 0 ∧ c ≠ 14 ∧ c ≠ 15 ∧ c ≠ 16 ∧ c ≠ 17) → en_1637 c = en c := fun c hc => Eq.trans (show en_1637 c = en_1630 c from by rw [hen_1637, va_up_ne _ _ (by omega)]) (hf_1630 c hc)
                  have hkc16_1637 : en_1637 16 = en 16 := (show en_1637 16 = en_1630 16 from by rw [hen_1637, va_up_ne _ _ (by decide)]).trans i4_1630
                  have hkc17_1637 : en_1637 17 = en 17 := (show en_1637 17 = en_1630 17 from by rw [hen_1637, va_up_ne _ _ (by decide)]).trans i5_1630
                  have hkc6_1637 : en_1637 6 = en 6 := (show en_1637 6 = en_1630 6 from by rw [hen_1637, va_up_ne _ _ (by decide)]).trans i7_1630
                  have hkp_1637 : KPp en en_1637 := KPp_same i3_1630 (show en_1637 0 = en_1630 0 from by rw [hen_1637, va_up_ne _ _ (by decide)])
                  refine lv_aload_n hx hb dX12_comes_136 rfl (lv_at hl 2 rfl) ?_
                  refine hp_get hx hb hts ix12 hown hK hh (q := 0) rfl (hI.1 _ (by decide)) es1631_1637 rfl 29 (by decide) (hts _ tw_908) (fun _ h9 => h9) rfl dX12_comes_137 ?_
                  refine lv_aload_n hx hb dX12_comes_140 rfl (lv_at hl 2 rfl) ?_
                  refine hp_get hx hb hts ix12 hown hK hh (q := 0) rfl (hI.1 _ (by decide)) es1631_1637 rfl 25 (by decide) (hts _ tw_904) (fun _ h9 => h9) rfl dX12_comes_141 ?_
                  refine lv_aload_n hx hb dX12_comes_144 rfl (lv_at hl 2 rfl) ?_
                  refine hp_get hx hb hts ix12 hown hK hh (q := 0) rfl (hI.1 _ (by decide)) es1631_1637 rfl 28 (by decide) (hts _ tw_907) (fun _ h9 => h9) rfl dX12_comes_145 ?_
                  refine lv_iload_n hx hb dX12_comes_148 rfl (lv_at hl 1 rfl) ?_
                  have es1618_1638 : en_1637 16 = .inl (cy 0, 4096, .inl f_1618) := hkc16_1637.trans es1618
                  refine hp_iald hx hb hK hh (q := 16) rfl (hI.1 _ (by decide)) es1618_1638 (vp_in_nI (n := (hR (vec N (lvl n en)))) (by omega) (by decide)) dX12_comes_149 ?_
                  rw [nI_clamp (n := (hR (vec N (lvl n en)))) (by omega)]
                  have es1619_1639 : en_1637 17 = .inl (cy 0, 2001, .inl f_1619) := hkc17_1637.trans es1619
                  refine hp_iast hx hb hK hh (q := 17) rfl (hI.1 _ (by decide)) es1619_1639 (vp_in_nI (n := S.length) (by omega) (by decide)) dX12_comes_150 (fun H locs en_1640 hen_1640 hh => ?_)
                  rw [nI_clamp (n := S.length) (by omega)] at hen_1640
                  have es1631_1640 : en_1640 0 = .inr (11, [.int fa_1631, .int hi_1631, .int (nI wd), .int (nI mo), .int (nI tb), .ref (ad 1), .ref (ad 2), .ref (ad 3), .ref (ad 4), .ref (ad 5), .ref (ad 6), .ref (ad 7), .ref (ad 8), .ref (ad 9), .int dp_1631, .long many_1631, .long grt_1631, .long lst_1631, .long nou_1631, .ref (ad 10), .ref (ad 11), .ref (ad 12), .int rm_1631, .long rb_1631, .ref (ad 13), .int (nI S.length), .ref (ad 14), .ref (ad 15), .ref (ad 16), .ref (ad 17), .int (nI wo), .ref (ad 18), .ref (ad 19)]) := by rw [hen_1640, va_up_ne _ _ (by decide)]; exact es1631_1637
                  have es1620_1640 : en_1640 15 = .inl (cy 0, 2001, .inl (upd f_1620 S.length le9)) := by rw [hen_1640, va_up_ne _ _ (by decide)]; exact es1620_1637
                  have es1618_1640 : en_1640 16 = .inl (cy 0, 4096, .inl f_1618) := by rw [hen_1640, va_up_ne _ _ (by decide)]; exact es1618_1638
                  have es1619_1640 : en_1640 17 = .inl (cy 0, 2001, .inl (upd f_1619 S.length (f_1618 (hR (vec N (lvl n en)))))) := by rw [hen_1640]; exact va_up_self _ _ _
                  have hI_1640 : RX cy cs ad en_1640 := by rw [hen_1640]; exact upr_ch hI_1637 ⟨(upd f_1619 S.length (f_1618 (hR (vec N (lvl n en))))), rfl⟩
                  have hf_1640 : ∀ c, (c ≠ 0 ∧ c ≠ 14 ∧ c ≠ 15 ∧ c ≠ 16 ∧ c ≠ 17) → en_1640 c = en c := fun c hc => Eq.trans (show en_1640 c = en_1637 c from by rw [hen_1640, va_up_ne _ _ (by omega)]) (hf_1637 c hc)
                  have hkc16_1640 : en_1640 16 = en 16 := (show en_1640 16 = en_1637 16 from by rw [hen_1640, va_up_ne _ _ (by decide)]).trans hkc16_1637
                  have hkc6_1640 : en_1640 6 = en 6 := (show en_1640 6 = en_1637 6 from by rw [hen_1640, va_up_ne _ _ (by decide)]).trans hkc6_1637
                  have hkp_1640 : KPp en en_1640 := KPp_same hkp_1637 (show en_1640 0 = en_1637 0 from by rw [hen_1640, va_up_ne _ _ (by decide)])
                  refine lv_aload_n hx hb dX12_comes_151 rfl (lv_at hl 2 rfl) ?_
                  refine hp_get hx hb hts ix12 hown hK hh (q := 0) rfl (hI.1 _ (by decide)) es1631_1640 rfl 28 (by decide) (hts _ tw_907) (fun _ h9 => h9) rfl dX12_comes_152 ?_
                  refine lv_iload_n hx hb dX12_comes_155 rfl (lv_at hl 1 rfl) ?_
                  refine lv_aload_n hx hb dX12_comes_156 rfl (lv_at hl 2 rfl) ?_
                  refine hp_get hx hb hts ix12 hown hK hh (q := 0) rfl (hI.1 _ (by decide)) es1631_1640 rfl 25 (by decide) (hts _ tw_904) (fun _ h9 => h9) rfl dX12_comes_157 ?_
                  refine hp_iast hx hb hK hh (q := 16) rfl (hI.1 _ (by decide)) es1618_1640 (vp_in_nI (n := (hR (vec N (lvl n en)))) (by omega) (by decide)) dX12_comes_160 (fun H locs en_1641 hen_1641 hh => ?_)
                  rw [nI_clamp (n := (hR (vec N (lvl n en)))) (by omega)] at hen_1641
                  have es1631_1641 : en_1641 0 = .inr (11, [.int fa_1631, .int hi_1631, .int (nI wd), .int (nI mo), .int (nI tb), .ref (ad 1), .ref (ad 2), .ref (ad 3), .ref (ad 4), .ref (ad 5), .ref (ad 6), .ref (ad 7), .ref (ad 8), .ref (ad 9), .int dp_1631, .long many_1631, .long grt_1631, .long lst_1631, .long nou_1631, .ref (ad 10), .ref (ad 11), .ref (ad 12), .int rm_1631, .long rb_1631, .ref (ad 13), .int (nI S.length), .ref (ad 14), .ref (ad 15), .ref (ad 16), .ref (ad 17), .int (nI wo), .ref (ad 18), .ref (ad 19)]) := by rw [hen_1641, va_up_ne _ _ (by decide)]; exact es1631_1640
                  have es1620_1641 : en_1641 15 = .inl (cy 0, 2001, .inl (upd f_1620 S.length le9)) := by rw [hen_1641, va_up_ne _ _ (by decide)]; exact es1620_1640
                  have es1619_1641 : en_1641 17 = .inl (cy 0, 2001, .inl (upd f_1619 S.length (f_1618 (hR (vec N (lvl n en)))))) := by rw [hen_1641, va_up_ne _ _ (by decide)]; exact es1619_1640
                  have es1618_1641 : en_1641 16 = .inl (cy 0, 4096, .inl (upd f_1618 (hR (vec N (lvl n en))) (nI S.length))) := by rw [hen_1641]; exact va_up_self _ _ _
                  have hI_1641 : RX cy cs ad en_1641 := by rw [hen_1641]; exact upr_hd hI_1640 ⟨(upd f_1618 (hR (vec N (lvl n en))) (nI S.length)), rfl⟩
                  have hf_1641 : ∀ c, (c ≠ 0 ∧ c ≠ 14 ∧ c ≠ 15 ∧ c ≠ 16 ∧ c ≠ 17) → en_1641 c = en c := fun c hc => Eq.trans (show en_1641 c = en_1640 c from by rw [hen_1641, va_up_ne _ _ (by omega)]) (hf_1640 c hc)
                  have hkc6_1641 : en_1641 6 = en 6 := (show en_1641 6 = en_1640 6 from by rw [hen_1641, va_up_ne _ _ (by decide)]).trans hkc6_1640
                  have hkp_1641 : KPp en en_1641 := KPp_same hkp_1640 (show en_1641 0 = en_1640 0 from by rw [hen_1641, va_up_ne _ _ (by decide)])
                  refine lv_aload_n hx hb dX12_comes_161 rfl (lv_at hl 2 rfl) ?_
                  refine lv_dup hx hb dX12_comes_162 rfl ?_
                  refine hp_get hx hb hts ix12 hown hK hh (q := 0) rfl (hI.1 _ (by decide)) es1631_1641 rfl 25 (by decide) (hts _ tw_904) (fun _ h9 => h9) rfl dX12_comes_163 ?_
                  refine lv_iconst (v := 1) hx hb dX12_comes_166 (by decide) ?_
                  refine lv_iadd hx hb dX12_comes_167 ?_
                  rw [show (1 : Int32) = nI 1 from rfl, nI_add S.length 1]
                  refine hp_put hx hb hts ix12 tyX12 tyX12_ok nmX12 hown hK hh (q := 0) rfl (hI.1 _ (by decide)) es1631_1641 rfl 25 (by decide) (hts _ tw_904) (fun _ h9 => h9) rfl (ty := .int) (by decide +kernel) rfl rfl (Nat.le_of_ble_eq_true rfl) dX12_comes_168 (fun H locs en_1642 hen_1642 hh => ?_)
                  have es1620_1642 : en_1642 15 = .inl (cy 0, 2001, .inl (upd f_1620 S.length le9)) := by rw [hen_1642, va_up_ne _ _ (by decide)]; exact es1620_1641
                  have es1619_1642 : en_1642 17 = .inl (cy 0, 2001, .inl (upd f_1619 S.length (f_1618 (hR (vec N (lvl n en)))))) := by rw [hen_1642, va_up_ne _ _ (by decide)]; exact es1619_1641
                  have es1618_1642 : en_1642 16 = .inl (cy 0, 4096, .inl (upd f_1618 (hR (vec N (lvl n en))) (nI S.length))) := by rw [hen_1642, va_up_ne _ _ (by decide)]; exact es1618_1641
                  have es1631_1642 : en_1642 0 = .inr (11, [.int fa_1631, .int hi_1631, .int (nI wd), .int (nI mo), .int (nI tb), .ref (ad 1), .ref (ad 2), .ref (ad 3), .ref (ad 4), .ref (ad 5), .ref (ad 6), .ref (ad 7), .ref (ad 8), .ref (ad 9), .int dp_1631, .long many_1631, .long grt_1631, .long lst_1631, .long nou_1631, .ref (ad 10), .ref (ad 11), .ref (ad 12), .int rm_1631, .long rb_1631, .ref (ad 13), .int (nI (S.length + 1)), .ref (ad 14), .ref (ad 15), .ref (ad 16), .ref (ad 17), .int (nI wo), .ref (ad 18), .ref (ad 19)]) := by rw [hen_1642]; exact va_up_self _ _ _
                  have hI_1642 : RX cy cs ad en_1642 := by rw [hen_1642]; exact upr_M hI_1641 ⟨fa_1631, hi_1631, wd, mo, tb, dp_1631, many_1631, grt_1631, lst_1631, nou_1631, rm_1631, rb_1631, (nI (S.length + 1)), wo, rfl, hwd2, hwd3, hmo, htb, hwo⟩
                  have hf_1642 : ∀ c, (c ≠ 0 ∧ c ≠ 14 ∧ c ≠ 15 ∧ c ≠ 16 ∧ c ≠ 17) → en_1642 c = en c := fun c hc => Eq.trans (show en_1642 c = en_1641 c from by rw [hen_1642, va_up_ne _ _ (by omega)]) (hf_1641 c hc)
                  have hkc6_1642 : en_1642 6 = en 6 := (show en_1642 6 = en_1641 6 from by rw [hen_1642, va_up_ne _ _ (by decide)]).trans hkc6_1641
                  have hkp_1642 : KPp en en_1642 := KPp_fv hkp_1641 es1631_1641 es1631_1642 hi_1631 (nI wd) (nI mo) (nI tb) (nI wo) rfl rfl rfl rfl rfl rfl rfl rfl rfl rfl
                  refine lv_iconst (v := 1) hx hb dX12_comes_171 (by decide) ?_
                  exact hp_iretM hx hb hr rfl hlocks hh (⟨hI_1642, hf_1642, Or.inl ⟨rfl, RC_add hN9 hRC (by omega) (fun q9 => by obtain ⟨i, hi, h9⟩ := beyB_vec.1 q9; unfold lvl at h9; rw [show rdL (en 6) = f_1622 from by rw [es1622]; rfl] at h9; exact bey_wj (i0_1624 i (by omega)) h9) hno_1627 (by rw [es1631_1642]; rfl) (fun k9 i9 h1 h2 => by rw [show en_1642 14 = en_1630 14 from (by rw [hen_1642, va_up_ne _ _ (by decide), hen_1641, va_up_ne _ _ (by decide), hen_1640, va_up_ne _ _ (by decide), hen_1637, va_up_ne _ _ (by decide)])]; exact (i1_1630 k9 i9 h1 h2)) (fun i9 h2 => by rw [show en_1642 14 = en_1630 14 from (by rw [hen_1642, va_up_ne _ _ (by decide), hen_1641, va_up_ne _ _ (by decide), hen_1640, va_up_ne _ _ (by decide), hen_1637, va_up_ne _ _ (by decide)])]; exact i2_1630 i9 (by omega)) (by rw [es1620_1642, show rdF (en 15) = f_1620 from by rw [es1620]; rfl]; rfl) (by rw [es1618_1642, show rdF (en 16) = f_1618 from by rw [es1618]; rfl]; rfl) (by rw [es1619_1642, show rdF (en 17) = f_1619 from by rw [es1619]; rfl, show rdF (en 16) = f_1618 from by rw [es1618]; rfl]; rfl)⟩, hkp_1642⟩) dX12_comes_172
                · have n_1635 : j1630 < (wd * wd) := n_nle (a := (wd * wd)) (b := j1630) c_1635 (by omega) (by omega)
                  refine lv_aload_n hx hb dX12_comes_93 rfl (lv_at hl 2 rfl) ?_
                  refine hp_get hx hb hts ix12 hown hK hh (q := 0) rfl (hI.1 _ (by decide)) es1631 rfl 26 (by decide) (hts _ tw_905) (fun _ h9 => h9) rfl dX12_comes_94 ?_
                  refine lv_bipush (v := 9) hx hb dX12_comes_97 (by decide) ?_
                  refine lv_aload_n hx hb dX12_comes_99 rfl (lv_at hl 2 rfl) ?_
                  refine hp_get hx hb hts ix12 hown hK hh (q := 0) rfl (hI.1 _ (by decide)) es1631 rfl 25 (by decide) (hts _ tw_904) (fun _ h9 => h9) rfl dX12_comes_100 ?_
                  refine lv_imul hx hb dX12_comes_103 ?_
                  rw [show (9 : Int32) = nI 9 from rfl, pk_mul 9 S.length]
                  refine lv_iload hx hb dX12_comes_104 (lv_at hl 0 rfl) ?_
                  refine lv_iadd hx hb dX12_comes_106 ?_
                  rw [nI_add (9 * S.length) j1630]
                  refine lv_aload_n hx hb dX12_comes_107 rfl (lv_at hl 2 rfl) ?_
                  refine hp_get hx hb hts ix12 hown hK hh (q := 0) rfl (hI.1 _ (by decide)) es1631 rfl 10 (by decide) (hts _ tw_889) (fun _ h9 => h9) rfl dX12_comes_108 ?_
                  refine lv_bipush (v := 9) hx hb dX12_comes_111 (by decide) ?_
                  refine lv_iload_n hx hb dX12_comes_113 rfl (lv_at hl 3 rfl) ?_
                  refine lv_imul hx hb dX12_comes_114 ?_
                  rw [show (9 : Int32) = nI 9 from rfl, pk_mul 9 n]
                  refine lv_iload hx hb dX12_comes_115 (lv_at hl 0 rfl) ?_
                  refine lv_iadd hx hb dX12_comes_117 ?_
                  rw [nI_add (9 * n) j1630]
                  have es1622_1643 : en_1630 6 = .inl (cy 1, 117, .inr (.inl f_1622)) := i7_1630.trans es1622
                  refine hp_lald hx hb hK hh (q := 6) rfl (hI.1 _ (by decide)) es1622_1643 (vp_in_nI (n := ((9 * n) + j1630)) (by omega) (by decide)) dX12_comes_118 ?_
                  rw [nI_clamp (n := ((9 * n) + j1630)) (by omega)]
                  obtain ⟨f_1644, es1644⟩ := getr_pd hI_1630
                  refine hp_last hx hb hK hh (q := 14) rfl (hI.1 _ (by decide)) es1644 (vp_in_nI (n := ((9 * S.length) + j1630)) (by omega) (by decide)) dX12_comes_119 (fun H locs en_1645 hen_1645 hh => ?_)
                  rw [nI_clamp (n := ((9 * S.length) + j1630)) (by omega)] at hen_1645
                  have es1631_1645 : en_1645 0 = .inr (11, [.int fa_1631, .int hi_1631, .int (nI wd), .int (nI mo), .int (nI tb), .ref (ad 1), .ref (ad 2), .ref (ad 3), .ref (ad 4), .ref (ad 5), .ref (ad 6), .ref (ad 7), .ref (ad 8), .ref (ad 9), .int dp_1631, .long many_1631, .long grt_1631, .long lst_1631, .long nou_1631, .ref (ad 10), .ref (ad 11), .ref (ad 12), .int rm_1631, .long rb_1631, .ref (ad 13), .int (nI S.length), .ref (ad 14), .ref (ad 15), .ref (ad 16), .ref (ad 17), .int (nI wo), .ref (ad 18), .ref (ad 19)]) := by rw [hen_1645, va_up_ne _ _ (by decide)]; exact es1631
                  have es1622_1645 : en_1645 6 = .inl (cy 1, 117, .inr (.inl f_1622)) := by rw [hen_1645, va_up_ne _ _ (by decide)]; exact es1622_1643
                  have es1644_1645 : en_1645 14 = .inl (cy 1, 18009, .inr (.inl (vp_updL f_1644 ((9 * S.length) + j1630) (f_1622 ((9 * n) + j1630))))) := by rw [hen_1645]; exact va_up_self _ _ _
                  have hI_1645 : RX cy cs ad en_1645 := by rw [hen_1645]; exact upr_pd hI_1630 ⟨(vp_updL f_1644 ((9 * S.length) + j1630) (f_1622 ((9 * n) + j1630))), rfl⟩
                  have hf_1645 : ∀ c, (c ≠ 0 ∧ c ≠ 14 ∧ c ≠ 15 ∧ c ≠ 16 ∧ c ≠ 17) → en_1645 c = en c := fun c hc => Eq.trans (show en_1645 c = en_1630 c from by rw [hen_1645, va_up_ne _ _ (by omega)]) (hf_1630 c hc)
                  have hkc16_1645 : en_1645 16 = en 16 := (show en_1645 16 = en_1630 16 from by rw [hen_1645, va_up_ne _ _ (by decide)]).trans i4_1630
                  have hkc17_1645 : en_1645 17 = en 17 := (show en_1645 17 = en_1630 17 from by rw [hen_1645, va_up_ne _ _ (by decide)]).trans i5_1630
                  have hkc15_1645 : en_1645 15 = en 15 := (show en_1645 15 = en_1630 15 from by rw [hen_1645, va_up_ne _ _ (by decide)]).trans i6_1630
                  have hkc6_1645 : en_1645 6 = en 6 := (show en_1645 6 = en_1630 6 from by rw [hen_1645, va_up_ne _ _ (by decide)]).trans i7_1630
                  have hkp_1645 : KPp en en_1645 := KPp_same i3_1630 (show en_1645 0 = en_1630 0 from by rw [hen_1645, va_up_ne _ _ (by decide)])
                  refine lv_iinc (v := (nI (j1630 + 1))) (lv' := [(4, .int (nI (j1630 + 1))), (3, .int (nI (hR (vec N (lvl n en))))), (0, .ref (ad 0)), (1, .int (nI n)), (2, .int le9)]) hx hb dX12_comes_120 hl (k := 0) rfl (nI_1 _) (by decide) rfl (fun ls hl => ?_)
                  refine lv_goto (tgt := 79) hx hb dX12_comes_123 (by decide) ?_
                  exact ih_1630 ((j1630 + 1))  en_1645 ls H locs (by omega) (by omega) (by omega) hI_1645 hf_1645 (by rw [es1631_1645]; rfl) (fun k9 i9 h1 h2 => by rw [es1644_1645]; show vp_updL f_1644 _ _ (9 * k9 + i9) = _; rw [pk_uLn (by omega)]; exact (show f_1644 (9 * k9 + i9) = rdL (en_1630 14) (9 * k9 + i9) from by rw [es1644]; rfl).trans (i1_1630 k9 i9 h1 h2)) (fun i9 h2 => by rw [es1644_1645]; exact LY_s (F := lvl n en) (fun i h => (show f_1644 (9 * S.length + i) = rdL (en_1630 14) (9 * S.length + i) from by rw [es1644]; rfl).trans (i2_1630 i h)) (by unfold lvl; rw [show rdL (en 6) = f_1622 from by rw [es1622]; rfl]) i9 h2) (hkp_1645) (hkc16_1645) (hkc17_1645) (hkc15_1645) (hkc6_1645) (lv_sub hl [0, 1, 2, 3, 4] rfl) hh
            exact loop_1630 ((wd * wd) + 1) 0  en ls _ _ (Nat.le_refl _) (by omega) (by omega) hI hf0 (by rw [es1617]; rfl) (fun _ _ _ _ => rfl) (fun i h => absurd h (Nat.not_lt_zero i)) ((KPp_rf en)) (rfl) (rfl) (rfl) (rfl) (lv_sub hl [0, 1, 2, 3, 4] rfl) hh
          · have n_1628 : S.length = 2000 := n_eq (a := S.length) (b := 2000) c_1628 (by omega) (by decide)
            refine lv_iconst (v := 0) hx hb dX12_comes_68 (by decide) ?_
            exact hp_iretM hx hb hr rfl hlocks hh (⟨hI, hf0, Or.inr ⟨rfl, hRC, tk_full (fun q9 => by obtain ⟨i, hi, h9⟩ := beyB_vec.1 q9; unfold lvl at h9; rw [show rdL (en 6) = f_1622 from by rw [es1622]; rfl] at h9; exact bey_wj (i0_1624 i (by omega)) h9) hno_1627 (by omega)⟩, (KPp_rf en)⟩) dX12_comes_69
        · obtain rfl : r_1627 = nI F_1627 := hb_1627
          have hFl_1627 := ge_lt hxf_1627
          have hn9_1627 : ¬ nI F_1627 = (-9 : Int32) := nI_n9 (by have h9 := hRC.2.1.1; omega)
          refine lv_bipush (v := (-9)) hx hb dX12_comes_51 (by decide) ?_
          refine lv_icmp_eq (tgt := 58) hx hb dX12_comes_53 (by decide) (fun c_0 => absurd c_0 (hn9_1627)) (fun _ => ?_)
          refine lv_iconst (v := 1) hx hb dX12_comes_56 (by decide) ?_
          exact hp_iretM hx hb hr rfl hlocks hh (⟨hI, hf0, Or.inl ⟨rfl, S, tk_in (fun q9 => by obtain ⟨i, hi, h9⟩ := beyB_vec.1 q9; unfold lvl at h9; rw [show rdL (en 6) = f_1622 from by rw [es1622]; rfl] at h9; exact bey_wj (i0_1624 i (by omega)) h9) (by rw [← hef_1627]; exact mem_ge hxf_1627), hRC⟩, (KPp_rf en)⟩) dX12_comes_57
      · have n_1626 : j1624 < (wd * wd) := n_nle (a := (wd * wd)) (b := j1624) c_1626 (by omega) (by omega)
        refine lv_aload_n hx hb dX12_comes_15 rfl (lv_at hl 1 rfl) ?_
        refine hp_get hx hb hts ix12 hown hK hh (q := 0) rfl (hI.1 _ (by decide)) es1617 rfl 10 (by decide) (hts _ tw_889) (fun _ h9 => h9) rfl dX12_comes_16 ?_
        refine lv_bipush (v := 9) hx hb dX12_comes_19 (by decide) ?_
        refine lv_iload_n hx hb dX12_comes_21 rfl (lv_at hl 2 rfl) ?_
        refine lv_imul hx hb dX12_comes_22 ?_
        rw [show (9 : Int32) = nI 9 from rfl, pk_mul 9 n]
        refine lv_iload_n hx hb dX12_comes_23 rfl (lv_at hl 0 rfl) ?_
        refine lv_iadd hx hb dX12_comes_24 ?_
        rw [nI_add (9 * n) j1624]
        refine hp_lald hx hb hK hh (q := 6) rfl (hI.1 _ (by decide)) es1622 (vp_in_nI (n := ((9 * n) + j1624)) (by omega) (by decide)) dX12_comes_25 ?_
        rw [nI_clamp (n := ((9 * n) + j1624)) (by omega)]
        refine lv_ldc2 hx hb hown (hts _ tw_1121) dX12_comes_26 ?_
        refine lv_ldc2 hx hb hown (hts _ tw_1122) dX12_comes_29 ?_
        refine hp_callRi (va_runS (As := [.long (f_1622 ((9 * n) + j1624)), .long (-1000000), .long 1000000]) (rest := []) ⟨hx, hb, hml, hown, hts⟩ (c_X12_within l D cy _ cs ad en (f_1622 ((9 * n) + j1624)) (-1000000) 1000000) (kw_X12_within hts tw_985 ⟨by decide, by decide⟩) (preS_of hh hK) rfl rfl hl.1 rfl (lv_room (Nat.le_of_ble_eq_true rfl)) dX12_comes_32 ⟨Nat.le_of_ble_eq_true rfl, Nat.le_of_ble_eq_true rfl⟩) hh hA (fun r_1646 H locs hw_1646 hh => ?_)
        rcases Decidable.em (wj (f_1622 ((9 * n) + j1624)) (-1000000) 1000000) with hp_1646 | hp_1646
        · obtain rfl : r_1646 = 1 := Eq.trans hw_1646 (if_pos hp_1646)
          refine lv_if_ne (tgt := 40) hx hb dX12_comes_35 (by decide) (fun _ => ?_) (fun c_0 => absurd c_0 (by decide))
          refine lv_iinc (v := (nI (j1624 + 1))) (lv' := [(3, .int (nI (j1624 + 1))), (0, .ref (ad 0)), (1, .int (nI n)), (2, .int le9)]) hx hb dX12_comes_40 hl (k := 0) rfl (nI_1 _) (by decide) rfl (fun ls hl => ?_)
          refine lv_goto (tgt := 2) hx hb dX12_comes_43 (by decide) ?_
          exact ih_1624 ((j1624 + 1))  ls H locs (by omega) (by omega) (by omega) (fun i hi => (Nat.lt_or_ge i j1624).elim (fun h9 => i0_1624 i h9) (fun h9 => by obtain rfl : i = j1624 := (by omega); exact hp_1646)) (lv_sub hl [0, 1, 2, 3] rfl) hh
        · obtain rfl : r_1646 = 0 := Eq.trans hw_1646 (if_neg hp_1646)
          refine lv_if_ne (tgt := 40) hx hb dX12_comes_35 (by decide) (fun c_0 => absurd c_0 (by decide)) (fun _ => ?_)
          refine lv_iconst (v := 0) hx hb dX12_comes_38 (by decide) ?_
          exact hp_iretM hx hb hr rfl hlocks hh (⟨hI, hf0, Or.inr ⟨rfl, hRC, tk_bey (beyB_vec.2 ⟨j1624, by omega, by have h9 := hp_1646; unfold lvl; rw [show rdL (en 6) = f_1622 from by rw [es1622]; rfl]; exact wj_bey h9⟩)⟩, (KPp_rf en)⟩) dX12_comes_39
  exact loop_1624 ((wd * wd) + 1) 0  ls _ _ (Nat.le_refl _) (by omega) (by omega) (fun i h => absurd h (Nat.not_lt_zero i)) (lv_sub hl [0, 1, 2, 3] rfl) hh
theorem kw_X12_comes {R : Room} {s : State} {args : Array Value} {own : String} {idx : Nat} (hts : ∀ w ∈ TB, w.before args s = true) (hl : Cond.methodLink own idx yX12_comes ∈ TB) (hR : 2 + 1 ≤ R.frames ∧ 8 + (5 + 11) + 40 * 2 ≤ R.locals) : CallW R s args own RX12 idx yX12_comes cX12_comes 5 (some .boolean) (Cond.code yX12_comes cX12_comes 5 (some .boolean) :: TB) (rmN 2) 0 0 2 := cwV 2 hts (TB_V hl tw_1119 ts_50 tw_9 tw_1120) rfl rfl rfl (by decide +kernel) hR
set_option maxHeartbeats 4000000 in
set_option maxRecDepth 100000 in
/-- layProduct -/
theorem c_X12_layProduct (l : Launch) (D : va_G) (cy : Nat → ClassId) (sz : Nat) (cs : List Nat) (ad : Nat → Nat) (en : Nat → va_E) (hI : RX cy cs ad en) (p9 n : Nat) (hp : p9 < 2001) (hn : n ≤ 12) (N : Nat) (hN : N = dQ en * dQ en)   : Met l yX12_layProduct (Cond.code yX12_layProduct cX12_layProduct 4 none :: TB) (rmN 0) (va_Pc [.ref (ad 0), .int (nI p9), .int (nI n)] (Pre D cy cs ad en sz)) (va_Qv (S := Nat → va_E) (fun en1 => RX cy cs ad en1 ∧ (∀ c, (c ≠ 6) → en1 c = en c) ∧ (∀ i, i < N → rdL (en1 6) (9 * n + i) = rdL (en 14) (9 * p9 + i))) (PostM D cs ad) (Af cs ad sz)) 0 0 (Af cs ad sz) := by
  refine Met.ofW (cc := cX12_layProduct) (maxL := 4) (ret := none) (by decide) rfl ?_
  intro p e s m args below meth c s₁ B hml hv
  obtain ⟨rfl, hsz, hP, hK, hD0⟩ := hv
  have hx := B.exec
  have hb := B.bytes
  have hr := B.returns
  have hts : ∀ w ∈ TB, w.before _ s = true := fun w h => atoms_spec (ws := _ :: TB) B.pre w (List.mem_cons_of_mem _ h)
  have hown : s.vm.findClass RX12 = some m.cls := findClass_of_methodNamed B.named
  have hlocks := B.notSynchronized
  have hh : Hp D (Af cs ad sz) (Af cs ad sz) s.heap s.heap [] cs ad en := ⟨hP, Af_self hD0, va_S.rf⟩
  have hA : ∀ q : Nat, s.heap.size ≤ q → Af cs ad sz q := fun q h => Or.inr (by rw [hsz] at h; exact h)
  have hl := lv_entry ([.ref (ad 0), .int (nI p9), .int (nI n)]) (n := 4) (Nat.le_of_ble_eq_true rfl)
  rw [lg_entry_eq]
  generalize (lg_sl ([.ref (ad 0), .int (nI p9), .int (nI n)]) ++ List.replicate (4 - (lg_sl ([.ref (ad 0), .int (nI p9), .int (nI n)])).length) Slot.unset).toArray = ls at hl ⊢
  have hl : lv_has ls 4 [(0, .ref (ad 0)), (1, .int (nI p9)), (2, .int (nI n))] := hl
  have hf0 : ∀ c, (c ≠ 6) → en c = en c := fun _ _ => rfl
  obtain ⟨fa, hi, wd, mo, tb, dp, many, grt, lst, nou, rm, rb, pr, wo, es1647, hwd2, hwd3, hmo, htb, hwo⟩ := getr_M hI
  have hdq : dQ en = wd := by unfold dQ; rw [show rdI (en 0) 2 = nI wd from by rw [es1647]; rfl]; exact nI_clamp (by omega)
  have hmq : mQ en = mo := by unfold mQ; rw [show rdI (en 0) 3 = nI mo from by rw [es1647]; rfl]; exact nI_clamp (by omega)
  have hkq : kQ en = tb := by unfold kQ; rw [show rdI (en 0) 4 = nI tb from by rw [es1647]; rfl]; exact nI_clamp (by omega)
  have hN9 : N = wd * wd := by rw [hN, hdq]
  have hww : wd * wd ≤ 9 := mww (by omega)
  refine lv_iconst (v := 0) hx hb dX12_layProduct_0 (by decide) ?_
  refine lv_istore_n (lv' := [(3, .int 0), (0, .ref (ad 0)), (1, .int (nI p9)), (2, .int (nI n))]) hx hb dX12_layProduct_1 rfl hl (by decide) rfl (fun ls hl => ?_)
  have loop_1648 : ∀ (fu j1648 : Nat)  (en_1648 : Nat → va_E) (ls : Array Slot) (H : Heap) (locs : List Loc), 0 ≤ j1648 → j1648 ≤ (wd * wd) → (wd * wd) < j1648 + fu → RX cy cs ad en_1648 → (∀ c, (c ≠ 6) → en_1648 c = en c) → (∀ i9, i9 < j1648 → rdL (en_1648 6) (9 * n + i9) = rdL (en 14) (9 * p9 + i9)) → lv_has ls 4 [(3, .int (nI j1648)), (0, .ref (ad 0)), (1, .int (nI p9)), (2, .int (nI n))] → Hp D (Af cs ad sz) (Af cs ad sz) s.heap H locs cs ad en_1648 → W p l e (headSpec (Cond.code yX12_layProduct cX12_layProduct 4 none :: TB) (rmN 0)).room s m ([.ref (ad 0), .int (nI p9), .int (nI n)] : List Value).toArray below meth c H locs 0 0 (MQ below (va_Qv (S := Nat → va_E) (fun en1 => RX cy cs ad en1 ∧ (∀ c, (c ≠ 6) → en1 c = en c) ∧ (∀ i, i < N → rdL (en1 6) (9 * n + i) = rdL (en 14) (9 * p9 + i))) (PostM D cs ad) (Af cs ad sz)) ([.ref (ad 0), .int (nI p9), .int (nI n)] : List Value).toArray s 0 0 (Af cs ad sz)) (F0 m 2 ls []) := by
    intro fu
    induction fu with
    | zero => intro j1648  en_1648 ls H locs h0 h1 h2; exact absurd h2 (by omega)
    | succ fu ih_1648 =>
      intro j1648  en_1648 ls H locs hj0_1648 hj_1648 hfu_1648 hI_1648 hf_1648 i0_1648 hl hh
      refine lv_iload_n hx hb dX12_layProduct_2 rfl (lv_at hl 0 rfl) ?_
      refine lv_aload_n hx hb dX12_layProduct_3 rfl (lv_at hl 1 rfl) ?_
      have es1647_1649 : en_1648 0 = .inr (11, [.int fa, .int hi, .int (nI wd), .int (nI mo), .int (nI tb), .ref (ad 1), .ref (ad 2), .ref (ad 3), .ref (ad 4), .ref (ad 5), .ref (ad 6), .ref (ad 7), .ref (ad 8), .ref (ad 9), .int dp, .long many, .long grt, .long lst, .long nou, .ref (ad 10), .ref (ad 11), .ref (ad 12), .int rm, .long rb, .ref (ad 13), .int pr, .ref (ad 14), .ref (ad 15), .ref (ad 16), .ref (ad 17), .int (nI wo), .ref (ad 18), .ref (ad 19)]) := (hf_1648 0 (by omega)).trans es1647
      refine hp_get hx hb hts ix12 hown hK hh (q := 0) rfl (hI.1 _ (by decide)) es1647_1649 rfl 2 (by decide) (hts _ tw_881) (fun _ h9 => h9) rfl dX12_layProduct_4 ?_
      refine lv_aload_n hx hb dX12_layProduct_7 rfl (lv_at hl 1 rfl) ?_
      refine hp_get hx hb hts ix12 hown hK hh (q := 0) rfl (hI.1 _ (by decide)) es1647_1649 rfl 2 (by decide) (hts _ tw_881) (fun _ h9 => h9) rfl dX12_layProduct_8 ?_
      refine lv_imul hx hb dX12_layProduct_11 ?_
      rw [pk_mul wd wd]
      have hw2_1650 : wd * wd ≤ 9 := mww (by omega)
      refine lv_icmp_ge (tgt := 43) hx hb dX12_layProduct_12 (by decide) (fun c_1651 => ?_) (fun c_1651 => ?_)
      · have n_1651 : (wd * wd) ≤ j1648 := n_le (a := (wd * wd)) (b := j1648) c_1651 (by omega) (by omega)
        exact hp_vretM hx hb hr hlocks hh (⟨hI_1648, hf_1648, (fun i hi => i0_1648 i (by omega))⟩) dX12_layProduct_43
      · have n_1651 : j1648 < (wd * wd) := n_nle (a := (wd * wd)) (b := j1648) c_1651 (by omega) (by omega)
        refine lv_aload_n hx hb dX12_layProduct_15 rfl (lv_at hl 1 rfl) ?_
        refine hp_get hx hb hts ix12 hown hK hh (q := 0) rfl (hI.1 _ (by decide)) es1647_1649 rfl 10 (by decide) (hts _ tw_889) (fun _ h9 => h9) rfl dX12_layProduct_16 ?_
        refine lv_bipush (v := 9) hx hb dX12_layProduct_19 (by decide) ?_
        refine lv_iload_n hx hb dX12_layProduct_21 rfl (lv_at hl 3 rfl) ?_
        refine lv_imul hx hb dX12_layProduct_22 ?_
        rw [show (9 : Int32) = nI 9 from rfl, pk_mul 9 n]
        refine lv_iload_n hx hb dX12_layProduct_23 rfl (lv_at hl 0 rfl) ?_
        refine lv_iadd hx hb dX12_layProduct_24 ?_
        rw [nI_add (9 * n) j1648]
        refine lv_aload_n hx hb dX12_layProduct_25 rfl (lv_at hl 1 rfl) ?_
        refine hp_get hx hb hts ix12 hown hK hh (q := 0) rfl (hI.1 _ (by decide)) es1647_1649 rfl 26 (by decide) (hts _ tw_905) (fun _ h9 => h9) rfl dX12_layProduct_26 ?_
        refine lv_bipush (v := 9) hx hb dX12_layProduct_29 (by decide) ?_
        refine lv_iload_n hx hb dX12_layProduct_31 rfl (lv_at hl 2 rfl) ?_
        refine lv_imul hx hb dX12_layProduct_32 ?_
        rw [show (9 : Int32) = nI 9 from rfl, pk_mul 9 p9]
        refine lv_iload_n hx hb dX12_layProduct_33 rfl (lv_at hl 0 rfl) ?_
        refine lv_iadd hx hb dX12_layProduct_34 ?_
        rw [nI_add (9 * p9) j1648]
        obtain ⟨f_1652, es1652⟩ := getr_pd hI_1648
        refine hp_lald hx hb hK hh (q := 14) rfl (hI.1 _ (by decide)) es1652 (vp_in_nI (n := ((9 * p9) + j1648)) (by omega) (by decide)) dX12_layProduct_35 ?_
        rw [nI_clamp (n := ((9 * p9) + j1648)) (by omega)]
        obtain ⟨f_1653, es1653⟩ := getr_lv hI_1648
        refine hp_last hx hb hK hh (q := 6) rfl (hI.1 _ (by decide)) es1653 (vp_in_nI (n := ((9 * n) + j1648)) (by omega) (by decide)) dX12_layProduct_36 (fun H locs en_1654 hen_1654 hh => ?_)
        rw [nI_clamp (n := ((9 * n) + j1648)) (by omega)] at hen_1654
        have es1647_1654 : en_1654 0 = .inr (11, [.int fa, .int hi, .int (nI wd), .int (nI mo), .int (nI tb), .ref (ad 1), .ref (ad 2), .ref (ad 3), .ref (ad 4), .ref (ad 5), .ref (ad 6), .ref (ad 7), .ref (ad 8), .ref (ad 9), .int dp, .long many, .long grt, .long lst, .long nou, .ref (ad 10), .ref (ad 11), .ref (ad 12), .int rm, .long rb, .ref (ad 13), .int pr, .ref (ad 14), .ref (ad 15), .ref (ad 16), .ref (ad 17), .int (nI wo), .ref (ad 18), .ref (ad 19)]) := by rw [hen_1654, va_up_ne _ _ (by decide)]; exact es1647_1649
        have es1652_1654 : en_1654 14 = .inl (cy 1, 18009, .inr (.inl f_1652)) := by rw [hen_1654, va_up_ne _ _ (by decide)]; exact es1652
        have es1653_1654 : en_1654 6 = .inl (cy 1, 117, .inr (.inl (vp_updL f_1653 ((9 * n) + j1648) (f_1652 ((9 * p9) + j1648))))) := by rw [hen_1654]; exact va_up_self _ _ _
        have hI_1654 : RX cy cs ad en_1654 := by rw [hen_1654]; exact upr_lv hI_1648 ⟨(vp_updL f_1653 ((9 * n) + j1648) (f_1652 ((9 * p9) + j1648))), rfl⟩
        have hf_1654 : ∀ c, (c ≠ 6) → en_1654 c = en c := fun c hc => Eq.trans (show en_1654 c = en_1648 c from by rw [hen_1654, va_up_ne _ _ (by omega)]) (hf_1648 c hc)
        refine lv_iinc (v := (nI (j1648 + 1))) (lv' := [(3, .int (nI (j1648 + 1))), (0, .ref (ad 0)), (1, .int (nI p9)), (2, .int (nI n))]) hx hb dX12_layProduct_37 hl (k := 0) rfl (nI_1 _) (by decide) rfl (fun ls hl => ?_)
        refine lv_goto (tgt := 2) hx hb dX12_layProduct_40 (by decide) ?_
        exact ih_1648 ((j1648 + 1))  en_1654 ls H locs (by omega) (by omega) (by omega) hI_1654 hf_1654 (fun i9 h2 => by rw [es1653_1654]; exact LY_s (F := fun i => rdL (en 14) (9 * p9 + i)) (fun i h => (show f_1653 (9 * n + i) = rdL (en_1648 6) (9 * n + i) from by rw [es1653]; rfl).trans (i0_1648 i h)) (by show f_1652 (9 * p9 + j1648) = rdL (en 14) (9 * p9 + j1648); rw [← hf_1648 14 (by omega), es1652]; rfl) i9 h2) (lv_sub hl [0, 1, 2, 3] rfl) hh
  exact loop_1648 ((wd * wd) + 1) 0  en ls _ _ (Nat.le_refl _) (by omega) (by omega) hI hf0 (fun i h => absurd h (Nat.not_lt_zero i)) (lv_sub hl [0, 1, 2, 3] rfl) hh
theorem kw_X12_layProduct {R : Room} {s : State} {args : Array Value} {own : String} {idx : Nat} (hts : ∀ w ∈ TB, w.before args s = true) (hl : Cond.methodLink own idx yX12_layProduct ∈ TB) (hR : 0 + 1 ≤ R.frames ∧ 8 + (4 + 11) + 40 * 0 ≤ R.locals) : CallW R s args own RX12 idx yX12_layProduct cX12_layProduct 4 none (Cond.code yX12_layProduct cX12_layProduct 4 none :: TB) (rmN 0) 0 0 2 := cwV 2 hts (TB_V hl tw_1135 ts_53 tw_9 tw_1136) rfl rfl rfl (by decide +kernel) hR
set_option maxHeartbeats 4000000 in
set_option maxRecDepth 100000 in
/-- multiply -/
theorem c_X12_multiply (l : Launch) (D : va_G) (cy : Nat → ClassId) (sz : Nat) (cs : List Nat) (ad : Nat → Nat) (en : Nat → va_E) (hI : RX cy cs ad en) (p9 q9 : Nat) (hp : p9 < 2001) (hq9 : q9 < 2001)   : Met l yX12_multiply (Cond.code yX12_multiply cX12_multiply 8 none :: TB) (rmN 1) (va_Pc [.ref (ad 0), .int (nI p9), .int (nI q9)] (Pre D cy cs ad en sz)) (va_Qv (S := Nat → va_E) (fun en1 => RX cy cs ad en1 ∧ (∀ c, (c ≠ 6) → en1 c = en c) ∧ (∀ i, i < dQ en * dQ en → rdL (en1 6) (9 + i) = muP (dQ en) (mQ en) p9 q9 (rdL (en 14)) i)) (PostM D cs ad) (Af cs ad sz)) 0 0 (Af cs ad sz) := by
  refine Met.ofW (cc := cX12_multiply) (maxL := 8) (ret := none) (by decide) rfl ?_
  intro p e s m args below meth c s₁ B hml hv
  obtain ⟨rfl, hsz, hP, hK, hD0⟩ := hv
  have hx := B.exec
  have hb := B.bytes
  have hr := B.returns
  have hts : ∀ w ∈ TB, w.before _ s = true := fun w h => atoms_spec (ws := _ :: TB) B.pre w (List.mem_cons_of_mem _ h)
  have hown : s.vm.findClass RX12 = some m.cls := findClass_of_methodNamed B.named
  have hlocks := B.notSynchronized
  have hh : Hp D (Af cs ad sz) (Af cs ad sz) s.heap s.heap [] cs ad en := ⟨hP, Af_self hD0, va_S.rf⟩
  have hA : ∀ q : Nat, s.heap.size ≤ q → Af cs ad sz q := fun q h => Or.inr (by rw [hsz] at h; exact h)
  have hl := lv_entry ([.ref (ad 0), .int (nI p9), .int (nI q9)]) (n := 8) (Nat.le_of_ble_eq_true rfl)
  rw [lg_entry_eq]
  generalize (lg_sl ([.ref (ad 0), .int (nI p9), .int (nI q9)]) ++ List.replicate (8 - (lg_sl ([.ref (ad 0), .int (nI p9), .int (nI q9)])).length) Slot.unset).toArray = ls at hl ⊢
  have hl : lv_has ls 8 [(0, .ref (ad 0)), (1, .int (nI p9)), (2, .int (nI q9))] := hl
  have hf0 : ∀ c, (c ≠ 6) → en c = en c := fun _ _ => rfl
  obtain ⟨fa, hi, wd, mo, tb, dp, many, grt, lst, nou, rm, rb, pr, wo, es1655, hwd2, hwd3, hmo, htb, hwo⟩ := getr_M hI
  refine lv_iconst (v := 0) hx hb dX12_multiply_0 (by decide) ?_
  refine lv_istore_n (lv' := [(3, .int 0), (0, .ref (ad 0)), (1, .int (nI p9)), (2, .int (nI q9))]) hx hb dX12_multiply_1 rfl hl (by decide) rfl (fun ls hl => ?_)
  have loop_1656 : ∀ (fu j1656 : Nat)  (en_1656 : Nat → va_E) (ls : Array Slot) (H : Heap) (locs : List Loc), 0 ≤ j1656 → j1656 ≤ wd → wd < j1656 + fu → RX cy cs ad en_1656 → (∀ c, (c ≠ 6) → en_1656 c = en c) → (∀ x, rdL (en_1656 6) x = if 9 ≤ x ∧ x < 9 + wd * j1656 then muP wd mo p9 q9 (rdL (en 14)) (x - (9)) else rdL (en 6) x) → lv_has ls 8 [(3, .int (nI j1656)), (0, .ref (ad 0)), (1, .int (nI p9)), (2, .int (nI q9))] → Hp D (Af cs ad sz) (Af cs ad sz) s.heap H locs cs ad en_1656 → W p l e (headSpec (Cond.code yX12_multiply cX12_multiply 8 none :: TB) (rmN 1)).room s m ([.ref (ad 0), .int (nI p9), .int (nI q9)] : List Value).toArray below meth c H locs 0 0 (MQ below (va_Qv (S := Nat → va_E) (fun en1 => RX cy cs ad en1 ∧ (∀ c, (c ≠ 6) → en1 c = en c) ∧ (∀ i, i < dQ en * dQ en → rdL (en1 6) (9 + i) = muP (dQ en) (mQ en) p9 q9 (rdL (en 14)) i)) (PostM D cs ad) (Af cs ad sz)) ([.ref (ad 0), .int (nI p9), .int (nI q9)] : List Value).toArray s 0 0 (Af cs ad sz)) (F0 m 2 ls []) := by
    intro fu
    induction fu with
    | zero => intro j1656  en_1656 ls H locs h0 h1 h2; exact absurd h2 (by omega)
    | succ fu ih_1656 =>
      intro j1656  en_1656 ls H locs hj0_1656 hj_1656 hfu_1656 hI_1656 hf_1656 i0_1656 hl hh
      refine lv_iload_n hx hb dX12_multiply_2 rfl (lv_at hl 0 rfl) ?_
      refine lv_aload_n hx hb dX12_multiply_3 rfl (lv_at hl 1 rfl) ?_
      have es1655_1657 : en_1656 0 = .inr (11, [.int fa, .int hi, .int (nI wd), .int (nI mo), .int (nI tb), .ref (ad 1), .ref (ad 2), .ref (ad 3), .ref (ad 4), .ref (ad 5), .ref (ad 6), .ref (ad 7), .ref (ad 8), .ref (ad 9), .int dp, .long many, .long grt, .long lst, .long nou, .ref (ad 10), .ref (ad 11), .ref (ad 12), .int rm, .long rb, .ref (ad 13), .int pr, .ref (ad 14), .ref (ad 15), .ref (ad 16), .ref (ad 17), .int (nI wo), .ref (ad 18), .ref (ad 19)]) := (hf_1656 0 (by omega)).trans es1655
      refine hp_get hx hb hts ix12 hown hK hh (q := 0) rfl (hI.1 _ (by decide)) es1655_1657 rfl 2 (by decide) (hts _ tw_881) (fun _ h9 => h9) rfl dX12_multiply_4 ?_
      refine lv_icmp_ge (tgt := 123) hx hb dX12_multiply_7 (by decide) (fun c_1658 => ?_) (fun c_1658 => ?_)
      · have n_1658 : wd ≤ j1656 := n_le (a := wd) (b := j1656) c_1658 (by omega) (by omega)
        have hdq : dQ en = wd := by unfold dQ; rw [show rdI (en 0) 2 = nI wd from by rw [es1655]; rfl]; exact nI_clamp (by omega)
        have hmq : mQ en = mo := by unfold mQ; rw [show rdI (en 0) 3 = nI mo from by rw [es1655]; rfl]; exact nI_clamp (by omega)
        have hkq : kQ en = tb := by unfold kQ; rw [show rdI (en 0) 4 = nI tb from by rw [es1655]; rfl]; exact nI_clamp (by omega)
        exact hp_vretM hx hb hr hlocks hh (⟨hI_1656, hf_1656, (fun i hi => by rw [hdq] at hi; rw [hdq, hmq]; have e9 : j1656 = wd := (by omega); have h9 := i0_1656 (9 + i); rw [e9, if_pos (by omega), show 9 + i - 9 = i by omega] at h9; exact h9)⟩) dX12_multiply_123
      · have n_1658 : j1656 < wd := n_nle (a := wd) (b := j1656) c_1658 (by omega) (by omega)
        refine lv_iconst (v := 0) hx hb dX12_multiply_10 (by decide) ?_
        refine lv_istore (lv' := [(4, .int 0), (3, .int (nI j1656)), (0, .ref (ad 0)), (1, .int (nI p9)), (2, .int (nI q9))]) hx hb dX12_multiply_11 hl (by decide) rfl (fun ls hl => ?_)
        have loop_1659 : ∀ (fu j1659 : Nat)  (en_1659 : Nat → va_E) (ls : Array Slot) (H : Heap) (locs : List Loc), 0 ≤ j1659 → j1659 ≤ wd → wd < j1659 + fu → RX cy cs ad en_1659 → (∀ c, (c ≠ 6) → en_1659 c = en c) → (∀ x, rdL (en_1659 6) x = if 9 ≤ x ∧ x < 9 + (wd * j1656 + j1659) then muP wd mo p9 q9 (rdL (en 14)) (x - (9)) else rdL (en 6) x) → lv_has ls 8 [(4, .int (nI j1659)), (3, .int (nI j1656)), (0, .ref (ad 0)), (1, .int (nI p9)), (2, .int (nI q9))] → Hp D (Af cs ad sz) (Af cs ad sz) s.heap H locs cs ad en_1659 → W p l e (headSpec (Cond.code yX12_multiply cX12_multiply 8 none :: TB) (rmN 1)).room s m ([.ref (ad 0), .int (nI p9), .int (nI q9)] : List Value).toArray below meth c H locs 0 0 (MQ below (va_Qv (S := Nat → va_E) (fun en1 => RX cy cs ad en1 ∧ (∀ c, (c ≠ 6) → en1 c = en c) ∧ (∀ i, i < dQ en * dQ en → rdL (en1 6) (9 + i) = muP (dQ en) (mQ en) p9 q9 (rdL (en 14)) i)) (PostM D cs ad) (Af cs ad sz)) ([.ref (ad 0), .int (nI p9), .int (nI q9)] : List Value).toArray s 0 0 (Af cs ad sz)) (F0 m 13 ls []) := by
          intro fu
          induction fu with
          | zero => intro j1659  en_1659 ls H locs h0 h1 h2; exact absurd h2 (by omega)
          | succ fu ih_1659 =>
            intro j1659  en_1659 ls H locs hj0_1659 hj_1659 hfu_1659 hI_1659 hf_1659 i0_1659 hl hh
            refine lv_iload hx hb dX12_multiply_13 (lv_at hl 0 rfl) ?_
            refine lv_aload_n hx hb dX12_multiply_15 rfl (lv_at hl 2 rfl) ?_
            have es1655_1660 : en_1659 0 = .inr (11, [.int fa, .int hi, .int (nI wd), .int (nI mo), .int (nI tb), .ref (ad 1), .ref (ad 2), .ref (ad 3), .ref (ad 4), .ref (ad 5), .ref (ad 6), .ref (ad 7), .ref (ad 8), .ref (ad 9), .int dp, .long many, .long grt, .long lst, .long nou, .ref (ad 10), .ref (ad 11), .ref (ad 12), .int rm, .long rb, .ref (ad 13), .int pr, .ref (ad 14), .ref (ad 15), .ref (ad 16), .ref (ad 17), .int (nI wo), .ref (ad 18), .ref (ad 19)]) := (hf_1659 0 (by omega)).trans es1655
            refine hp_get hx hb hts ix12 hown hK hh (q := 0) rfl (hI.1 _ (by decide)) es1655_1660 rfl 2 (by decide) (hts _ tw_881) (fun _ h9 => h9) rfl dX12_multiply_16 ?_
            refine lv_icmp_ge (tgt := 117) hx hb dX12_multiply_19 (by decide) (fun c_1661 => ?_) (fun c_1661 => ?_)
            · have n_1661 : wd ≤ j1659 := n_le (a := wd) (b := j1659) c_1661 (by omega) (by omega)
              refine lv_iinc (v := (nI (j1656 + 1))) (lv' := [(3, .int (nI (j1656 + 1))), (4, .int (nI j1659)), (0, .ref (ad 0)), (1, .int (nI p9)), (2, .int (nI q9))]) hx hb dX12_multiply_117 hl (k := 1) rfl (nI_1 _) (by decide) rfl (fun ls hl => ?_)
              refine lv_goto (tgt := 2) hx hb dX12_multiply_120 (by decide) ?_
              exact ih_1656 ((j1656 + 1))  en_1659 ls H locs (by omega) (by omega) (by omega) hI_1659 hf_1659 (fun x => by have e9 : j1659 = wd := (by omega); have h9 := i0_1659 x; rw [e9] at h9; rw [Nat.mul_add, Nat.mul_one]; exact h9) (lv_sub hl [0, 2, 3, 4] rfl) hh
            · have n_1661 : j1659 < wd := n_nle (a := wd) (b := j1659) c_1661 (by omega) (by omega)
              refine lv_lconst (v := 0) hx hb dX12_multiply_22 (by decide) ?_
              refine lv_lstore (lv' := [(5, .long 0), (4, .int (nI j1659)), (3, .int (nI j1656)), (0, .ref (ad 0)), (1, .int (nI p9)), (2, .int (nI q9))]) hx hb dX12_multiply_23 hl (by decide) rfl (fun ls hl => ?_)
              refine lv_iconst (v := 0) hx hb dX12_multiply_25 (by decide) ?_
              refine lv_istore (lv' := [(7, .int 0), (5, .long 0), (4, .int (nI j1659)), (3, .int (nI j1656)), (0, .ref (ad 0)), (1, .int (nI p9)), (2, .int (nI q9))]) hx hb dX12_multiply_26 hl (by decide) rfl (fun ls hl => ?_)
              have loop_1662 : ∀ (fu j1662 : Nat) (ac1662 : Int64)  (ls : Array Slot) (H : Heap) (locs : List Loc), 0 ≤ j1662 → j1662 ≤ wd → wd < j1662 + fu →  (ac1662 = sumTo (fun k => rdL (en 14) (9 * p9 + wd * j1656 + k) * rdL (en 14) (9 * q9 + wd * k + j1659)) j1662) → lv_has ls 8 [(7, .int (nI j1662)), (5, .long ac1662), (4, .int (nI j1659)), (3, .int (nI j1656)), (0, .ref (ad 0)), (1, .int (nI p9)), (2, .int (nI q9))] → Hp D (Af cs ad sz) (Af cs ad sz) s.heap H locs cs ad en_1659 → W p l e (headSpec (Cond.code yX12_multiply cX12_multiply 8 none :: TB) (rmN 1)).room s m ([.ref (ad 0), .int (nI p9), .int (nI q9)] : List Value).toArray below meth c H locs 0 0 (MQ below (va_Qv (S := Nat → va_E) (fun en1 => RX cy cs ad en1 ∧ (∀ c, (c ≠ 6) → en1 c = en c) ∧ (∀ i, i < dQ en * dQ en → rdL (en1 6) (9 + i) = muP (dQ en) (mQ en) p9 q9 (rdL (en 14)) i)) (PostM D cs ad) (Af cs ad sz)) ([.ref (ad 0), .int (nI p9), .int (nI q9)] : List Value).toArray s 0 0 (Af cs ad sz)) (F0 m 28 ls []) := by
                intro fu
                induction fu with
                | zero => intro j1662 ac1662 ls H locs h0 h1 h2; exact absurd h2 (by omega)
                | succ fu ih_1662 =>
                  intro j1662 ac1662 ls H locs hj0_1662 hj_1662 hfu_1662 i0_1662 hl hh
                  refine lv_iload hx hb dX12_multiply_28 (lv_at hl 0 rfl) ?_
                  refine lv_aload_n hx hb dX12_multiply_30 rfl (lv_at hl 4 rfl) ?_
                  refine hp_get hx hb hts ix12 hown hK hh (q := 0) rfl (hI.1 _ (by decide)) es1655_1660 rfl 2 (by decide) (hts _ tw_881) (fun _ h9 => h9) rfl dX12_multiply_31 ?_
                  refine lv_icmp_ge (tgt := 88) hx hb dX12_multiply_34 (by decide) (fun c_1663 => ?_) (fun c_1663 => ?_)
                  · have n_1663 : wd ≤ j1662 := n_le (a := wd) (b := j1662) c_1663 (by omega) (by omega)
                    refine lv_aload_n hx hb dX12_multiply_88 rfl (lv_at hl 4 rfl) ?_
                    refine hp_get hx hb hts ix12 hown hK hh (q := 0) rfl (hI.1 _ (by decide)) es1655_1660 rfl 10 (by decide) (hts _ tw_889) (fun _ h9 => h9) rfl dX12_multiply_89 ?_
                    refine lv_bipush (v := 9) hx hb dX12_multiply_92 (by decide) ?_
                    refine lv_aload_n hx hb dX12_multiply_94 rfl (lv_at hl 4 rfl) ?_
                    refine hp_get hx hb hts ix12 hown hK hh (q := 0) rfl (hI.1 _ (by decide)) es1655_1660 rfl 2 (by decide) (hts _ tw_881) (fun _ h9 => h9) rfl dX12_multiply_95 ?_
                    refine lv_iload_n hx hb dX12_multiply_98 rfl (lv_at hl 3 rfl) ?_
                    refine lv_imul hx hb dX12_multiply_99 ?_
                    rw [pk_mul wd j1656]
                    refine lv_iadd hx hb dX12_multiply_100 ?_
                    rw [show (9 : Int32) = nI 9 from rfl, nI_add 9 (wd * j1656)]
                    refine lv_iload hx hb dX12_multiply_101 (lv_at hl 2 rfl) ?_
                    refine lv_iadd hx hb dX12_multiply_103 ?_
                    rw [nI_add (9 + (wd * j1656)) j1659]
                    refine lv_aload_n hx hb dX12_multiply_104 rfl (lv_at hl 4 rfl) ?_
                    refine lv_lload hx hb dX12_multiply_105 (lv_at hl 1 rfl) ?_
                    refine hp_callRl (va_runV (As := [.long ac1662]) (rest := [.int (nI ((9 + (wd * j1656)) + j1659)), .ref (ad 6)]) ⟨hx, hb, hml, hown, hts⟩ (c_X12_rest l D cy _ cs ad en_1659 hI_1659 ac1662 ) (kw_X12_rest hts tw_1054 ⟨by decide, by decide⟩) (preV_of hh hK (hI.1 _ (by decide)) es1655_1660 rfl) rfl rfl hl.1 rfl (lv_room (Nat.le_of_ble_eq_true rfl)) dX12_multiply_107 ⟨Nat.le_of_ble_eq_true rfl, Nat.le_of_ble_eq_true rfl⟩) hh hA (fun r_1664 H locs hw_1664 hh => ?_)
                    rw [show rdI (en_1659 0) 3 = nI mo from by rw [es1655_1660]; rfl, nI_clamp (n := mo) (by omega)] at hw_1664
                    obtain ⟨f_1665, es1665⟩ := getr_lv hI_1659
                    have hi_1666 : wd * j1656 + j1659 < 9 := mdr (by omega) (by omega) (by omega)
                    refine hp_last hx hb hK hh (q := 6) rfl (hI.1 _ (by decide)) es1665 (vp_in_nI (n := ((9 + (wd * j1656)) + j1659)) (by omega) (by decide)) dX12_multiply_110 (fun H locs en_1667 hen_1667 hh => ?_)
                    rw [nI_clamp (n := ((9 + (wd * j1656)) + j1659)) (by omega)] at hen_1667
                    have es1655_1667 : en_1667 0 = .inr (11, [.int fa, .int hi, .int (nI wd), .int (nI mo), .int (nI tb), .ref (ad 1), .ref (ad 2), .ref (ad 3), .ref (ad 4), .ref (ad 5), .ref (ad 6), .ref (ad 7), .ref (ad 8), .ref (ad 9), .int dp, .long many, .long grt, .long lst, .long nou, .ref (ad 10), .ref (ad 11), .ref (ad 12), .int rm, .long rb, .ref (ad 13), .int pr, .ref (ad 14), .ref (ad 15), .ref (ad 16), .ref (ad 17), .int (nI wo), .ref (ad 18), .ref (ad 19)]) := by rw [hen_1667, va_up_ne _ _ (by decide)]; exact es1655_1660
                    have es1665_1667 : en_1667 6 = .inl (cy 1, 117, .inr (.inl (vp_updL f_1665 ((9 + (wd * j1656)) + j1659) r_1664))) := by rw [hen_1667]; exact va_up_self _ _ _
                    have hI_1667 : RX cy cs ad en_1667 := by rw [hen_1667]; exact upr_lv hI_1659 ⟨(vp_updL f_1665 ((9 + (wd * j1656)) + j1659) r_1664), rfl⟩
                    have hf_1667 : ∀ c, (c ≠ 6) → en_1667 c = en c := fun c hc => Eq.trans (show en_1667 c = en_1659 c from by rw [hen_1667, va_up_ne _ _ (by omega)]) (hf_1659 c hc)
                    refine lv_iinc (v := (nI (j1659 + 1))) (lv' := [(4, .int (nI (j1659 + 1))), (7, .int (nI j1662)), (5, .long ac1662), (3, .int (nI j1656)), (0, .ref (ad 0)), (1, .int (nI p9)), (2, .int (nI q9))]) hx hb dX12_multiply_111 hl (k := 2) rfl (nI_1 _) (by decide) rfl (fun ls hl => ?_)
                    refine lv_goto (tgt := 13) hx hb dX12_multiply_114 (by decide) ?_
                    exact ih_1659 ((j1659 + 1))  en_1667 ls H locs (by omega) (by omega) (by omega) hI_1667 hf_1667 (fun x => by rw [es1665_1667]; exact cpL_upd (c := muP wd mo p9 q9 (rdL (en 14))) (j := wd * j1656 + j1659) (fun x => (show f_1665 x = rdL (en_1659 6) x from by rw [es1665]; rfl).trans (i0_1659 x)) (by omega) (by omega) (by rw [muP_at (by omega), hw_1664]; have e9 : j1662 = wd := (by omega); rw [e9] at i0_1662; rw [i0_1662]) x) (lv_sub hl [0, 3, 4, 5, 6] rfl) hh
                  · have n_1663 : j1662 < wd := n_nle (a := wd) (b := j1662) c_1663 (by omega) (by omega)
                    refine lv_lload hx hb dX12_multiply_37 (lv_at hl 1 rfl) ?_
                    refine lv_aload_n hx hb dX12_multiply_39 rfl (lv_at hl 4 rfl) ?_
                    refine hp_get hx hb hts ix12 hown hK hh (q := 0) rfl (hI.1 _ (by decide)) es1655_1660 rfl 26 (by decide) (hts _ tw_905) (fun _ h9 => h9) rfl dX12_multiply_40 ?_
                    refine lv_bipush (v := 9) hx hb dX12_multiply_43 (by decide) ?_
                    refine lv_iload_n hx hb dX12_multiply_45 rfl (lv_at hl 5 rfl) ?_
                    refine lv_imul hx hb dX12_multiply_46 ?_
                    rw [show (9 : Int32) = nI 9 from rfl, pk_mul 9 p9]
                    refine lv_aload_n hx hb dX12_multiply_47 rfl (lv_at hl 4 rfl) ?_
                    refine hp_get hx hb hts ix12 hown hK hh (q := 0) rfl (hI.1 _ (by decide)) es1655_1660 rfl 2 (by decide) (hts _ tw_881) (fun _ h9 => h9) rfl dX12_multiply_48 ?_
                    refine lv_iload_n hx hb dX12_multiply_51 rfl (lv_at hl 3 rfl) ?_
                    refine lv_imul hx hb dX12_multiply_52 ?_
                    rw [pk_mul wd j1656]
                    refine lv_iadd hx hb dX12_multiply_53 ?_
                    rw [nI_add (9 * p9) (wd * j1656)]
                    refine lv_iload hx hb dX12_multiply_54 (lv_at hl 0 rfl) ?_
                    refine lv_iadd hx hb dX12_multiply_56 ?_
                    rw [nI_add ((9 * p9) + (wd * j1656)) j1662]
                    obtain ⟨f_1668, es1668⟩ := getr_pd hI_1659
                    have hi_1669 : wd * j1656 + j1662 < 9 := mdr (by omega) (by omega) (by omega)
                    refine hp_lald hx hb hK hh (q := 14) rfl (hI.1 _ (by decide)) es1668 (vp_in_nI (n := (((9 * p9) + (wd * j1656)) + j1662)) (by omega) (by decide)) dX12_multiply_57 ?_
                    rw [nI_clamp (n := (((9 * p9) + (wd * j1656)) + j1662)) (by omega)]
                    refine lv_aload_n hx hb dX12_multiply_58 rfl (lv_at hl 4 rfl) ?_
                    refine hp_get hx hb hts ix12 hown hK hh (q := 0) rfl (hI.1 _ (by decide)) es1655_1660 rfl 26 (by decide) (hts _ tw_905) (fun _ h9 => h9) rfl dX12_multiply_59 ?_
                    refine lv_bipush (v := 9) hx hb dX12_multiply_62 (by decide) ?_
                    refine lv_iload_n hx hb dX12_multiply_64 rfl (lv_at hl 6 rfl) ?_
                    refine lv_imul hx hb dX12_multiply_65 ?_
                    rw [show (9 : Int32) = nI 9 from rfl, pk_mul 9 q9]
                    refine lv_aload_n hx hb dX12_multiply_66 rfl (lv_at hl 4 rfl) ?_
                    refine hp_get hx hb hts ix12 hown hK hh (q := 0) rfl (hI.1 _ (by decide)) es1655_1660 rfl 2 (by decide) (hts _ tw_881) (fun _ h9 => h9) rfl dX12_multiply_67 ?_
                    refine lv_iload hx hb dX12_multiply_70 (lv_at hl 0 rfl) ?_
                    refine lv_imul hx hb dX12_multiply_72 ?_
                    rw [pk_mul wd j1662]
                    refine lv_iadd hx hb dX12_multiply_73 ?_
                    rw [nI_add (9 * q9) (wd * j1662)]
                    refine lv_iload hx hb dX12_multiply_74 (lv_at hl 2 rfl) ?_
                    refine lv_iadd hx hb dX12_multiply_76 ?_
                    rw [nI_add ((9 * q9) + (wd * j1662)) j1659]
                    have hi_1670 : wd * j1662 + j1659 < 9 := mdr (by omega) (by omega) (by omega)
                    refine hp_lald hx hb hK hh (q := 14) rfl (hI.1 _ (by decide)) es1668 (vp_in_nI (n := (((9 * q9) + (wd * j1662)) + j1659)) (by omega) (by decide)) dX12_multiply_77 ?_
                    rw [nI_clamp (n := (((9 * q9) + (wd * j1662)) + j1659)) (by omega)]
                    refine lv_lmul hx hb dX12_multiply_78 ?_
                    refine lv_ladd hx hb dX12_multiply_79 ?_
                    refine lv_lstore (lv' := [(5, .long (ac1662 + ((f_1668 (((9 * p9) + (wd * j1656)) + j1662)) * (f_1668 (((9 * q9) + (wd * j1662)) + j1659))))), (7, .int (nI j1662)), (4, .int (nI j1659)), (3, .int (nI j1656)), (0, .ref (ad 0)), (1, .int (nI p9)), (2, .int (nI q9))]) hx hb dX12_multiply_80 hl (by decide) rfl (fun ls hl => ?_)
                    refine lv_iinc (v := (nI (j1662 + 1))) (lv' := [(7, .int (nI (j1662 + 1))), (5, .long (ac1662 + ((f_1668 (((9 * p9) + (wd * j1656)) + j1662)) * (f_1668 (((9 * q9) + (wd * j1662)) + j1659))))), (4, .int (nI j1659)), (3, .int (nI j1656)), (0, .ref (ad 0)), (1, .int (nI p9)), (2, .int (nI q9))]) hx hb dX12_multiply_82 hl (k := 1) rfl (nI_1 _) (by decide) rfl (fun ls hl => ?_)
                    refine lv_goto (tgt := 28) hx hb dX12_multiply_85 (by decide) ?_
                    exact ih_1662 ((j1662 + 1)) (ac1662 + ((f_1668 (((9 * p9) + (wd * j1656)) + j1662)) * (f_1668 (((9 * q9) + (wd * j1662)) + j1659)))) ls H locs (by omega) (by omega) (by omega) (by rw [i0_1662, show f_1668 = rdL (en 14) from by rw [← hf_1659 14 (by omega), es1668]; rfl]; rfl) (lv_sub hl [0, 1, 2, 3, 4, 5, 6] rfl) hh
              exact loop_1662 (wd + 1) 0 0 ls _ _ (Nat.le_refl _) (by omega) (by omega) (rfl) (lv_sub hl [0, 1, 2, 3, 4, 5, 6] rfl) hh
        exact loop_1659 (wd + 1) 0  en_1656 ls _ _ (Nat.le_refl _) (by omega) (by omega) hI_1656 hf_1656 (fun x => by rw [Nat.add_zero]; exact i0_1656 x) (lv_sub hl [0, 1, 2, 3, 4] rfl) hh
  exact loop_1656 (wd + 1) 0  en ls _ _ (Nat.le_refl _) (by omega) (by omega) hI hf0 (fun x => by rw [Nat.mul_zero, if_neg (by omega)]) (lv_sub hl [0, 1, 2, 3] rfl) hh
theorem kw_X12_multiply {R : Room} {s : State} {args : Array Value} {own : String} {idx : Nat} (hts : ∀ w ∈ TB, w.before args s = true) (hl : Cond.methodLink own idx yX12_multiply ∈ TB) (hR : 1 + 1 ≤ R.frames ∧ 8 + (8 + 11) + 40 * 1 ≤ R.locals) : CallW R s args own RX12 idx yX12_multiply cX12_multiply 8 none (Cond.code yX12_multiply cX12_multiply 8 none :: TB) (rmN 1) 0 0 2 := cwV 2 hts (TB_V hl tw_1152 ts_56 tw_9 tw_1153) rfl rfl rfl (by decide +kernel) hR
set_option maxHeartbeats 4000000 in
set_option maxRecDepth 100000 in
/-- isNought -/
theorem c_X12_isNought (l : Launch) (D : va_G) (cy : Nat → ClassId) (sz : Nat) (cs : List Nat) (ad : Nat → Nat) (en : Nat → va_E) (hI : RX cy cs ad en) (p9 : Nat) (hp : p9 < 2001)   : Met l yX12_isNought (Cond.code yX12_isNought cX12_isNought 4 (some .boolean) :: TB) (rmN 0) (va_Pc [.ref (ad 0), .int (nI p9)] (Pre D cy cs ad en sz)) (va_Qi (S := Unit) (fun r _ => bI r (∀ i, i < dQ en * dQ en → rdL (en 14) (9 * p9 + i) = 0)) (fun _ _ => True) (Nf sz)) 0 0 (Nf sz) := by
  refine Met.ofW (cc := cX12_isNought) (maxL := 4) (ret := (some .boolean)) (by decide) rfl ?_
  intro p e s m args below meth c s₁ B hml hv
  obtain ⟨rfl, hsz, hP, hK, hD0⟩ := hv
  have hx := B.exec
  have hb := B.bytes
  have hr := B.returns
  have hts : ∀ w ∈ TB, w.before _ s = true := fun w h => atoms_spec (ws := _ :: TB) B.pre w (List.mem_cons_of_mem _ h)
  have hown : s.vm.findClass RX12 = some m.cls := findClass_of_methodNamed B.named
  have hlocks := B.notSynchronized
  have hh : Hp D (Nf sz) (fun _ => True) s.heap s.heap [] cs ad en := ⟨hP, hD0, va_S.rf⟩
  have hA : ∀ q : Nat, s.heap.size ≤ q → Nf sz q := fun q h => by rw [hsz] at h; exact h
  have hl := lv_entry ([.ref (ad 0), .int (nI p9)]) (n := 4) (Nat.le_of_ble_eq_true rfl)
  rw [lg_entry_eq]
  generalize (lg_sl ([.ref (ad 0), .int (nI p9)]) ++ List.replicate (4 - (lg_sl ([.ref (ad 0), .int (nI p9)])).length) Slot.unset).toArray = ls at hl ⊢
  have hl : lv_has ls 4 [(0, .ref (ad 0)), (1, .int (nI p9))] := hl
  obtain ⟨fa, hi, wd, mo, tb, dp, many, grt, lst, nou, rm, rb, pr, wo, es1671, hwd2, hwd3, hmo, htb, hwo⟩ := getr_M hI
  have hww : wd * wd ≤ 9 := mww (by omega)
  refine lv_iconst (v := 1) hx hb dX12_isNought_0 (by decide) ?_
  refine lv_istore_n (lv' := [(2, .int 1), (0, .ref (ad 0)), (1, .int (nI p9))]) hx hb dX12_isNought_1 rfl hl (by decide) rfl (fun ls hl => ?_)
  refine lv_iconst (v := 0) hx hb dX12_isNought_2 (by decide) ?_
  refine lv_istore_n (lv' := [(3, .int 0), (2, .int 1), (0, .ref (ad 0)), (1, .int (nI p9))]) hx hb dX12_isNought_3 rfl hl (by decide) rfl (fun ls hl => ?_)
  have loop_1672 : ∀ (fu j1672 : Nat) (no1672 : Int32)  (ls : Array Slot) (H : Heap) (locs : List Loc), 0 ≤ j1672 → j1672 ≤ (wd * wd) → (wd * wd) < j1672 + fu →  (bI no1672 (∀ i, i < j1672 → rdL (en 14) (9 * p9 + i) = 0)) → lv_has ls 4 [(3, .int (nI j1672)), (2, .int no1672), (0, .ref (ad 0)), (1, .int (nI p9))] → Hp D (Nf sz) (fun _ => True) s.heap H locs cs ad en → W p l e (headSpec (Cond.code yX12_isNought cX12_isNought 4 (some .boolean) :: TB) (rmN 0)).room s m ([.ref (ad 0), .int (nI p9)] : List Value).toArray below meth c H locs 0 0 (MQ below (va_Qi (S := Unit) (fun r _ => bI r (∀ i, i < dQ en * dQ en → rdL (en 14) (9 * p9 + i) = 0)) (fun _ _ => True) (Nf sz)) ([.ref (ad 0), .int (nI p9)] : List Value).toArray s 0 0 (Nf sz)) (F0 m 4 ls []) := by
    intro fu
    induction fu with
    | zero => intro j1672 no1672 ls H locs h0 h1 h2; exact absurd h2 (by omega)
    | succ fu ih_1672 =>
      intro j1672 no1672 ls H locs hj0_1672 hj_1672 hfu_1672 i0_1672 hl hh
      refine lv_iload_n hx hb dX12_isNought_4 rfl (lv_at hl 0 rfl) ?_
      refine lv_aload_n hx hb dX12_isNought_5 rfl (lv_at hl 2 rfl) ?_
      refine hp_get hx hb hts ix12 hown hK hh (q := 0) rfl (hI.1 _ (by decide)) es1671 rfl 2 (by decide) (hts _ tw_881) (fun _ h9 => h9) rfl dX12_isNought_6 ?_
      refine lv_aload_n hx hb dX12_isNought_9 rfl (lv_at hl 2 rfl) ?_
      refine hp_get hx hb hts ix12 hown hK hh (q := 0) rfl (hI.1 _ (by decide)) es1671 rfl 2 (by decide) (hts _ tw_881) (fun _ h9 => h9) rfl dX12_isNought_10 ?_
      refine lv_imul hx hb dX12_isNought_13 ?_
      rw [pk_mul wd wd]
      have hw2_1673 : wd * wd ≤ 9 := mww (by omega)
      refine lv_icmp_ge (tgt := 47) hx hb dX12_isNought_14 (by decide) (fun c_1674 => ?_) (fun c_1674 => ?_)
      · have n_1674 : (wd * wd) ≤ j1672 := n_le (a := (wd * wd)) (b := j1672) c_1674 (by omega) (by omega)
        refine lv_iload_n hx hb dX12_isNought_47 rfl (lv_at hl 1 rfl) ?_
        have hdq : dQ en = wd := by unfold dQ; rw [show rdI (en 0) 2 = nI wd from by rw [es1671]; rfl]; exact nI_clamp (by omega)
        have hmq : mQ en = mo := by unfold mQ; rw [show rdI (en 0) 3 = nI mo from by rw [es1671]; rfl]; exact nI_clamp (by omega)
        have hkq : kQ en = tb := by unfold kQ; rw [show rdI (en 0) 4 = nI tb from by rw [es1671]; rfl]; exact nI_clamp (by omega)
        exact hp_iretR hx hb hr (nar_bit (bI_bit i0_1672)) hlocks hsz hh (by rw [hdq]; have e9 : j1672 = wd * wd := (by omega); rw [e9] at i0_1672; exact i0_1672) dX12_isNought_48
      · have n_1674 : j1672 < (wd * wd) := n_nle (a := (wd * wd)) (b := j1672) c_1674 (by omega) (by omega)
        refine lv_iload_n hx hb dX12_isNought_17 rfl (lv_at hl 1 rfl) ?_
        refine lv_aload_n hx hb dX12_isNought_18 rfl (lv_at hl 2 rfl) ?_
        refine hp_get hx hb hts ix12 hown hK hh (q := 0) rfl (hI.1 _ (by decide)) es1671 rfl 26 (by decide) (hts _ tw_905) (fun _ h9 => h9) rfl dX12_isNought_19 ?_
        refine lv_bipush (v := 9) hx hb dX12_isNought_22 (by decide) ?_
        refine lv_iload_n hx hb dX12_isNought_24 rfl (lv_at hl 3 rfl) ?_
        refine lv_imul hx hb dX12_isNought_25 ?_
        rw [show (9 : Int32) = nI 9 from rfl, pk_mul 9 p9]
        refine lv_iload_n hx hb dX12_isNought_26 rfl (lv_at hl 0 rfl) ?_
        refine lv_iadd hx hb dX12_isNought_27 ?_
        rw [nI_add (9 * p9) j1672]
        obtain ⟨f_1675, es1675⟩ := getr_pd hI
        refine hp_lald hx hb hK hh (q := 14) rfl (hI.1 _ (by decide)) es1675 (vp_in_nI (n := ((9 * p9) + j1672)) (by omega) (by decide)) dX12_isNought_28 ?_
        rw [nI_clamp (n := ((9 * p9) + j1672)) (by omega)]
        refine lv_lconst (v := 0) hx hb dX12_isNought_29 (by decide) ?_
        refine W.lcmp hx hb dX12_isNought_30 ?_
        refine lv_if_ne (tgt := 38) hx hb dX12_isNought_31 (by decide) (fun c_1676 => ?_) (fun c_1676 => ?_)
        · refine lv_iconst (v := 0) hx hb dX12_isNought_38 (by decide) ?_
          refine lv_iand hx hb dX12_isNought_39 ?_
          refine lv_istore_n (lv' := [(2, .int (no1672 &&& 0)), (3, .int (nI j1672)), (0, .ref (ad 0)), (1, .int (nI p9))]) hx hb dX12_isNought_40 rfl hl (by decide) rfl (fun ls hl => ?_)
          refine lv_iinc (v := (nI (j1672 + 1))) (lv' := [(3, .int (nI (j1672 + 1))), (2, .int (no1672 &&& 0)), (0, .ref (ad 0)), (1, .int (nI p9))]) hx hb dX12_isNought_41 hl (k := 1) rfl (nI_1 _) (by decide) rfl (fun ls hl => ?_)
          refine lv_goto (tgt := 4) hx hb dX12_isNought_44 (by decide) ?_
          exact ih_1672 ((j1672 + 1)) (no1672 &&& 0) ls H locs (by omega) (by omega) (by omega) (bA0 i0_1672 (up_not (Q := fun i => rdL (en 14) (9 * p9 + i) = 0) (fun q => c_1676 ((lg_cmp_eq _ _).mpr ((show rdL (en 14) (9 * p9 + j1672) = f_1675 (9 * p9 + j1672) from by rw [es1675]; rfl).symm.trans q))))) (lv_sub hl [0, 1, 2, 3] rfl) hh
        · refine lv_iconst (v := 1) hx hb dX12_isNought_34 (by decide) ?_
          refine lv_goto (tgt := 39) hx hb dX12_isNought_35 (by decide) ?_
          refine lv_iand hx hb dX12_isNought_39 ?_
          refine lv_istore_n (lv' := [(2, .int (no1672 &&& 1)), (3, .int (nI j1672)), (0, .ref (ad 0)), (1, .int (nI p9))]) hx hb dX12_isNought_40 rfl hl (by decide) rfl (fun ls hl => ?_)
          refine lv_iinc (v := (nI (j1672 + 1))) (lv' := [(3, .int (nI (j1672 + 1))), (2, .int (no1672 &&& 1)), (0, .ref (ad 0)), (1, .int (nI p9))]) hx hb dX12_isNought_41 hl (k := 1) rfl (nI_1 _) (by decide) rfl (fun ls hl => ?_)
          refine lv_goto (tgt := 4) hx hb dX12_isNought_44 (by decide) ?_
          exact ih_1672 ((j1672 + 1)) (no1672 &&& 1) ls H locs (by omega) (by omega) (by omega) (bA1 i0_1672 (up_iff (Q := fun i => rdL (en 14) (9 * p9 + i) = 0) ((show rdL (en 14) (9 * p9 + j1672) = f_1675 (9 * p9 + j1672) from by rw [es1675]; rfl).trans ((lg_cmp_eq _ _).mp c_1676)))) (lv_sub hl [0, 1, 2, 3] rfl) hh
  exact loop_1672 ((wd * wd) + 1) 0 1 ls _ _ (Nat.le_refl _) (by omega) (by omega) (Or.inl ⟨rfl, fun i h => absurd h (Nat.not_lt_zero i)⟩) (lv_sub hl [0, 1, 2, 3] rfl) hh
theorem kw_X12_isNought {R : Room} {s : State} {args : Array Value} {own : String} {idx : Nat} (hts : ∀ w ∈ TB, w.before args s = true) (hl : Cond.methodLink own idx yX12_isNought ∈ TB) (hR : 0 + 1 ≤ R.frames ∧ 8 + (4 + 11) + 40 * 0 ≤ R.locals) : CallW R s args own RX12 idx yX12_isNought cX12_isNought 4 (some .boolean) (Cond.code yX12_isNought cX12_isNought 4 (some .boolean) :: TB) (rmN 0) 0 0 1 := cwV 1 hts (TB_V hl tw_1144 ts_54 tw_9 tw_1145) rfl rfl rfl (by decide +kernel) hR
set_option maxHeartbeats 4000000 in
set_option maxRecDepth 100000 in
/-- isOne -/
theorem c_X12_isOne (l : Launch) (D : va_G) (cy : Nat → ClassId) (sz : Nat) (cs : List Nat) (ad : Nat → Nat) (en : Nat → va_E) (hI : RX cy cs ad en) (p9 : Nat) (hp : p9 < 2001)   : Met l yX12_isOne (Cond.code yX12_isOne cX12_isOne 5 (some .boolean) :: TB) (rmN 0) (va_Pc [.ref (ad 0), .int (nI p9)] (Pre D cy cs ad en sz)) (va_Qi (S := Unit) (fun r _ => bI r (∀ i, i < dQ en * dQ en → rdL (en 14) (9 * p9 + i) = uV (dQ en) i)) (fun _ _ => True) (Nf sz)) 0 0 (Nf sz) := by
  refine Met.ofW (cc := cX12_isOne) (maxL := 5) (ret := (some .boolean)) (by decide) rfl ?_
  intro p e s m args below meth c s₁ B hml hv
  obtain ⟨rfl, hsz, hP, hK, hD0⟩ := hv
  have hx := B.exec
  have hb := B.bytes
  have hr := B.returns
  have hts : ∀ w ∈ TB, w.before _ s = true := fun w h => atoms_spec (ws := _ :: TB) B.pre w (List.mem_cons_of_mem _ h)
  have hown : s.vm.findClass RX12 = some m.cls := findClass_of_methodNamed B.named
  have hlocks := B.notSynchronized
  have hh : Hp D (Nf sz) (fun _ => True) s.heap s.heap [] cs ad en := ⟨hP, hD0, va_S.rf⟩
  have hA : ∀ q : Nat, s.heap.size ≤ q → Nf sz q := fun q h => by rw [hsz] at h; exact h
  have hl := lv_entry ([.ref (ad 0), .int (nI p9)]) (n := 5) (Nat.le_of_ble_eq_true rfl)
  rw [lg_entry_eq]
  generalize (lg_sl ([.ref (ad 0), .int (nI p9)]) ++ List.replicate (5 - (lg_sl ([.ref (ad 0), .int (nI p9)])).length) Slot.unset).toArray = ls at hl ⊢
  have hl : lv_has ls 5 [(0, .ref (ad 0)), (1, .int (nI p9))] := hl
  obtain ⟨fa, hi, wd, mo, tb, dp, many, grt, lst, nou, rm, rb, pr, wo, es1677, hwd2, hwd3, hmo, htb, hwo⟩ := getr_M hI
  refine lv_iconst (v := 1) hx hb dX12_isOne_0 (by decide) ?_
  refine lv_istore_n (lv' := [(2, .int 1), (0, .ref (ad 0)), (1, .int (nI p9))]) hx hb dX12_isOne_1 rfl hl (by decide) rfl (fun ls hl => ?_)
  refine lv_iconst (v := 0) hx hb dX12_isOne_2 (by decide) ?_
  refine lv_istore_n (lv' := [(3, .int 0), (2, .int 1), (0, .ref (ad 0)), (1, .int (nI p9))]) hx hb dX12_isOne_3 rfl hl (by decide) rfl (fun ls hl => ?_)
  have loop_1678 : ∀ (fu j1678 : Nat) (no1678 : Int32)  (ls : Array Slot) (H : Heap) (locs : List Loc), 0 ≤ j1678 → j1678 ≤ wd → wd < j1678 + fu →  (bI no1678 (∀ i, i < wd * j1678 → rdL (en 14) (9 * p9 + i) = uV wd i)) → lv_has ls 5 [(3, .int (nI j1678)), (2, .int no1678), (0, .ref (ad 0)), (1, .int (nI p9))] → Hp D (Nf sz) (fun _ => True) s.heap H locs cs ad en → W p l e (headSpec (Cond.code yX12_isOne cX12_isOne 5 (some .boolean) :: TB) (rmN 0)).room s m ([.ref (ad 0), .int (nI p9)] : List Value).toArray below meth c H locs 0 0 (MQ below (va_Qi (S := Unit) (fun r _ => bI r (∀ i, i < dQ en * dQ en → rdL (en 14) (9 * p9 + i) = uV (dQ en) i)) (fun _ _ => True) (Nf sz)) ([.ref (ad 0), .int (nI p9)] : List Value).toArray s 0 0 (Nf sz)) (F0 m 4 ls []) := by
    intro fu
    induction fu with
    | zero => intro j1678 no1678 ls H locs h0 h1 h2; exact absurd h2 (by omega)
    | succ fu ih_1678 =>
      intro j1678 no1678 ls H locs hj0_1678 hj_1678 hfu_1678 i0_1678 hl hh
      refine lv_iload_n hx hb dX12_isOne_4 rfl (lv_at hl 0 rfl) ?_
      refine lv_aload_n hx hb dX12_isOne_5 rfl (lv_at hl 2 rfl) ?_
      refine hp_get hx hb hts ix12 hown hK hh (q := 0) rfl (hI.1 _ (by decide)) es1677 rfl 2 (by decide) (hts _ tw_881) (fun _ h9 => h9) rfl dX12_isOne_6 ?_
      refine lv_icmp_ge (tgt := 78) hx hb dX12_isOne_9 (by decide) (fun c_1679 => ?_) (fun c_1679 => ?_)
      · have n_1679 : wd ≤ j1678 := n_le (a := wd) (b := j1678) c_1679 (by omega) (by omega)
        refine lv_iload_n hx hb dX12_isOne_78 rfl (lv_at hl 1 rfl) ?_
        have hdq : dQ en = wd := by unfold dQ; rw [show rdI (en 0) 2 = nI wd from by rw [es1677]; rfl]; exact nI_clamp (by omega)
        have hmq : mQ en = mo := by unfold mQ; rw [show rdI (en 0) 3 = nI mo from by rw [es1677]; rfl]; exact nI_clamp (by omega)
        have hkq : kQ en = tb := by unfold kQ; rw [show rdI (en 0) 4 = nI tb from by rw [es1677]; rfl]; exact nI_clamp (by omega)
        exact hp_iretR hx hb hr (nar_bit (bI_bit i0_1678)) hlocks hsz hh (by rw [hdq]; have e9 : j1678 = wd := (by omega); rw [e9] at i0_1678; exact i0_1678) dX12_isOne_79
      · have n_1679 : j1678 < wd := n_nle (a := wd) (b := j1678) c_1679 (by omega) (by omega)
        refine lv_iconst (v := 0) hx hb dX12_isOne_12 (by decide) ?_
        refine lv_istore (lv' := [(4, .int 0), (3, .int (nI j1678)), (2, .int no1678), (0, .ref (ad 0)), (1, .int (nI p9))]) hx hb dX12_isOne_13 hl (by decide) rfl (fun ls hl => ?_)
        have loop_1680 : ∀ (fu j1680 : Nat) (no1680 : Int32)  (ls : Array Slot) (H : Heap) (locs : List Loc), 0 ≤ j1680 → j1680 ≤ wd → wd < j1680 + fu →  (bI no1680 (∀ i, i < wd * j1678 + j1680 → rdL (en 14) (9 * p9 + i) = uV wd i)) → lv_has ls 5 [(4, .int (nI j1680)), (3, .int (nI j1678)), (2, .int no1680), (0, .ref (ad 0)), (1, .int (nI p9))] → Hp D (Nf sz) (fun _ => True) s.heap H locs cs ad en → W p l e (headSpec (Cond.code yX12_isOne cX12_isOne 5 (some .boolean) :: TB) (rmN 0)).room s m ([.ref (ad 0), .int (nI p9)] : List Value).toArray below meth c H locs 0 0 (MQ below (va_Qi (S := Unit) (fun r _ => bI r (∀ i, i < dQ en * dQ en → rdL (en 14) (9 * p9 + i) = uV (dQ en) i)) (fun _ _ => True) (Nf sz)) ([.ref (ad 0), .int (nI p9)] : List Value).toArray s 0 0 (Nf sz)) (F0 m 15 ls []) := by
          intro fu
          induction fu with
          | zero => intro j1680 no1680 ls H locs h0 h1 h2; exact absurd h2 (by omega)
          | succ fu ih_1680 =>
            intro j1680 no1680 ls H locs hj0_1680 hj_1680 hfu_1680 i0_1680 hl hh
            refine lv_iload hx hb dX12_isOne_15 (lv_at hl 0 rfl) ?_
            refine lv_aload_n hx hb dX12_isOne_17 rfl (lv_at hl 3 rfl) ?_
            refine hp_get hx hb hts ix12 hown hK hh (q := 0) rfl (hI.1 _ (by decide)) es1677 rfl 2 (by decide) (hts _ tw_881) (fun _ h9 => h9) rfl dX12_isOne_18 ?_
            refine lv_icmp_ge (tgt := 72) hx hb dX12_isOne_21 (by decide) (fun c_1681 => ?_) (fun c_1681 => ?_)
            · have n_1681 : wd ≤ j1680 := n_le (a := wd) (b := j1680) c_1681 (by omega) (by omega)
              refine lv_iinc (v := (nI (j1678 + 1))) (lv' := [(3, .int (nI (j1678 + 1))), (4, .int (nI j1680)), (2, .int no1680), (0, .ref (ad 0)), (1, .int (nI p9))]) hx hb dX12_isOne_72 hl (k := 1) rfl (nI_1 _) (by decide) rfl (fun ls hl => ?_)
              refine lv_goto (tgt := 4) hx hb dX12_isOne_75 (by decide) ?_
              exact ih_1678 ((j1678 + 1)) no1680 ls H locs (by omega) (by omega) (by omega) ((by have e9 : j1680 = wd := (by omega); rw [Nat.mul_add, Nat.mul_one]; have h9 := i0_1680; rw [e9] at h9; exact h9)) (lv_sub hl [0, 2, 3, 4] rfl) hh
            · have n_1681 : j1680 < wd := n_nle (a := wd) (b := j1680) c_1681 (by omega) (by omega)
              refine lv_iload_n hx hb dX12_isOne_24 rfl (lv_at hl 2 rfl) ?_
              refine lv_aload_n hx hb dX12_isOne_25 rfl (lv_at hl 3 rfl) ?_
              refine hp_get hx hb hts ix12 hown hK hh (q := 0) rfl (hI.1 _ (by decide)) es1677 rfl 26 (by decide) (hts _ tw_905) (fun _ h9 => h9) rfl dX12_isOne_26 ?_
              refine lv_bipush (v := 9) hx hb dX12_isOne_29 (by decide) ?_
              refine lv_iload_n hx hb dX12_isOne_31 rfl (lv_at hl 4 rfl) ?_
              refine lv_imul hx hb dX12_isOne_32 ?_
              rw [show (9 : Int32) = nI 9 from rfl, pk_mul 9 p9]
              refine lv_aload_n hx hb dX12_isOne_33 rfl (lv_at hl 3 rfl) ?_
              refine hp_get hx hb hts ix12 hown hK hh (q := 0) rfl (hI.1 _ (by decide)) es1677 rfl 2 (by decide) (hts _ tw_881) (fun _ h9 => h9) rfl dX12_isOne_34 ?_
              refine lv_iload_n hx hb dX12_isOne_37 rfl (lv_at hl 1 rfl) ?_
              refine lv_imul hx hb dX12_isOne_38 ?_
              rw [pk_mul wd j1678]
              refine lv_iadd hx hb dX12_isOne_39 ?_
              rw [nI_add (9 * p9) (wd * j1678)]
              refine lv_iload hx hb dX12_isOne_40 (lv_at hl 0 rfl) ?_
              refine lv_iadd hx hb dX12_isOne_42 ?_
              rw [nI_add ((9 * p9) + (wd * j1678)) j1680]
              obtain ⟨f_1682, es1682⟩ := getr_pd hI
              have hi_1683 : wd * j1678 + j1680 < 9 := mdr (by omega) (by omega) (by omega)
              refine hp_lald hx hb hK hh (q := 14) rfl (hI.1 _ (by decide)) es1682 (vp_in_nI (n := (((9 * p9) + (wd * j1678)) + j1680)) (by omega) (by decide)) dX12_isOne_43 ?_
              rw [nI_clamp (n := (((9 * p9) + (wd * j1678)) + j1680)) (by omega)]
              refine lv_iload_n hx hb dX12_isOne_44 rfl (lv_at hl 1 rfl) ?_
              refine lv_iload hx hb dX12_isOne_45 (lv_at hl 0 rfl) ?_
              refine lv_icmp_ne (tgt := 54) hx hb dX12_isOne_47 (by decide) (fun c_1684 => ?_) (fun c_1684 => ?_)
              · have n_1684 : j1678 ≠ j1680 := n_neq (a := j1678) (b := j1680) c_1684 (by omega) (by omega)
                refine lv_lconst (v := 0) hx hb dX12_isOne_54 (by decide) ?_
                refine W.lcmp hx hb dX12_isOne_55 ?_
                refine lv_if_ne (tgt := 63) hx hb dX12_isOne_56 (by decide) (fun c_1685 => ?_) (fun c_1685 => ?_)
                · refine lv_iconst (v := 0) hx hb dX12_isOne_63 (by decide) ?_
                  refine lv_iand hx hb dX12_isOne_64 ?_
                  refine lv_istore_n (lv' := [(2, .int (no1680 &&& 0)), (4, .int (nI j1680)), (3, .int (nI j1678)), (0, .ref (ad 0)), (1, .int (nI p9))]) hx hb dX12_isOne_65 rfl hl (by decide) rfl (fun ls hl => ?_)
                  refine lv_iinc (v := (nI (j1680 + 1))) (lv' := [(4, .int (nI (j1680 + 1))), (2, .int (no1680 &&& 0)), (3, .int (nI j1678)), (0, .ref (ad 0)), (1, .int (nI p9))]) hx hb dX12_isOne_66 hl (k := 1) rfl (nI_1 _) (by decide) rfl (fun ls hl => ?_)
                  refine lv_goto (tgt := 15) hx hb dX12_isOne_69 (by decide) ?_
                  exact ih_1680 ((j1680 + 1)) (no1680 &&& 0) ls H locs (by omega) (by omega) (by omega) (bA0 i0_1680 (up_not (Q := fun i => rdL (en 14) (9 * p9 + i) = uV wd i) (fun q => c_1685 ((lg_cmp_eq _ _).mpr ((show rdL (en 14) (9 * p9 + (wd * j1678 + j1680)) = f_1682 (9 * p9 + wd * j1678 + j1680) from by rw [← Nat.add_assoc, es1682]; rfl).symm.trans (Eq.trans q (show uV wd (wd * j1678 + j1680) = 0 from by rw [uV_at (by omega), if_neg n_1684]))))))) (lv_sub hl [0, 2, 1, 3, 4] rfl) hh
                · refine lv_iconst (v := 1) hx hb dX12_isOne_59 (by decide) ?_
                  refine lv_goto (tgt := 64) hx hb dX12_isOne_60 (by decide) ?_
                  refine lv_iand hx hb dX12_isOne_64 ?_
                  refine lv_istore_n (lv' := [(2, .int (no1680 &&& 1)), (4, .int (nI j1680)), (3, .int (nI j1678)), (0, .ref (ad 0)), (1, .int (nI p9))]) hx hb dX12_isOne_65 rfl hl (by decide) rfl (fun ls hl => ?_)
                  refine lv_iinc (v := (nI (j1680 + 1))) (lv' := [(4, .int (nI (j1680 + 1))), (2, .int (no1680 &&& 1)), (3, .int (nI j1678)), (0, .ref (ad 0)), (1, .int (nI p9))]) hx hb dX12_isOne_66 hl (k := 1) rfl (nI_1 _) (by decide) rfl (fun ls hl => ?_)
                  refine lv_goto (tgt := 15) hx hb dX12_isOne_69 (by decide) ?_
                  exact ih_1680 ((j1680 + 1)) (no1680 &&& 1) ls H locs (by omega) (by omega) (by omega) (bA1 i0_1680 (up_iff (Q := fun i => rdL (en 14) (9 * p9 + i) = uV wd i) (((show rdL (en 14) (9 * p9 + (wd * j1678 + j1680)) = f_1682 (9 * p9 + wd * j1678 + j1680) from by rw [← Nat.add_assoc, es1682]; rfl).trans ((lg_cmp_eq _ _).mp c_1685)).trans (Eq.symm (show uV wd (wd * j1678 + j1680) = 0 from by rw [uV_at (by omega), if_neg n_1684]))))) (lv_sub hl [0, 2, 1, 3, 4] rfl) hh
              · have n_1684 : j1678 = j1680 := n_eq (a := j1678) (b := j1680) c_1684 (by omega) (by omega)
                refine lv_lconst (v := 1) hx hb dX12_isOne_50 (by decide) ?_
                refine lv_goto (tgt := 55) hx hb dX12_isOne_51 (by decide) ?_
                refine W.lcmp hx hb dX12_isOne_55 ?_
                refine lv_if_ne (tgt := 63) hx hb dX12_isOne_56 (by decide) (fun c_1686 => ?_) (fun c_1686 => ?_)
                · refine lv_iconst (v := 0) hx hb dX12_isOne_63 (by decide) ?_
                  refine lv_iand hx hb dX12_isOne_64 ?_
                  refine lv_istore_n (lv' := [(2, .int (no1680 &&& 0)), (4, .int (nI j1680)), (3, .int (nI j1678)), (0, .ref (ad 0)), (1, .int (nI p9))]) hx hb dX12_isOne_65 rfl hl (by decide) rfl (fun ls hl => ?_)
                  refine lv_iinc (v := (nI (j1680 + 1))) (lv' := [(4, .int (nI (j1680 + 1))), (2, .int (no1680 &&& 0)), (3, .int (nI j1678)), (0, .ref (ad 0)), (1, .int (nI p9))]) hx hb dX12_isOne_66 hl (k := 1) rfl (nI_1 _) (by decide) rfl (fun ls hl => ?_)
                  refine lv_goto (tgt := 15) hx hb dX12_isOne_69 (by decide) ?_
                  exact ih_1680 ((j1680 + 1)) (no1680 &&& 0) ls H locs (by omega) (by omega) (by omega) (bA0 i0_1680 (up_not (Q := fun i => rdL (en 14) (9 * p9 + i) = uV wd i) (fun q => c_1686 ((lg_cmp_eq _ _).mpr ((show rdL (en 14) (9 * p9 + (wd * j1678 + j1680)) = f_1682 (9 * p9 + wd * j1678 + j1680) from by rw [← Nat.add_assoc, es1682]; rfl).symm.trans (Eq.trans q (show uV wd (wd * j1678 + j1680) = 1 from by rw [uV_at (by omega), if_pos n_1684]))))))) (lv_sub hl [0, 2, 1, 3, 4] rfl) hh
                · refine lv_iconst (v := 1) hx hb dX12_isOne_59 (by decide) ?_
                  refine lv_goto (tgt := 64) hx hb dX12_isOne_60 (by decide) ?_
                  refine lv_iand hx hb dX12_isOne_64 ?_
                  refine lv_istore_n (lv' := [(2, .int (no1680 &&& 1)), (4, .int (nI j1680)), (3, .int (nI j1678)), (0, .ref (ad 0)), (1, .int (nI p9))]) hx hb dX12_isOne_65 rfl hl (by decide) rfl (fun ls hl => ?_)
                  refine lv_iinc (v := (nI (j1680 + 1))) (lv' := [(4, .int (nI (j1680 + 1))), (2, .int (no1680 &&& 1)), (3, .int (nI j1678)), (0, .ref (ad 0)), (1, .int (nI p9))]) hx hb dX12_isOne_66 hl (k := 1) rfl (nI_1 _) (by decide) rfl (fun ls hl => ?_)
                  refine lv_goto (tgt := 15) hx hb dX12_isOne_69 (by decide) ?_
                  exact ih_1680 ((j1680 + 1)) (no1680 &&& 1) ls H locs (by omega) (by omega) (by omega) (bA1 i0_1680 (up_iff (Q := fun i => rdL (en 14) (9 * p9 + i) = uV wd i) (((show rdL (en 14) (9 * p9 + (wd * j1678 + j1680)) = f_1682 (9 * p9 + wd * j1678 + j1680) from by rw [← Nat.add_assoc, es1682]; rfl).trans ((lg_cmp_eq _ _).mp c_1686)).trans (Eq.symm (show uV wd (wd * j1678 + j1680) = 1 from by rw [uV_at (by omega), if_pos n_1684]))))) (lv_sub hl [0, 2, 1, 3, 4] rfl) hh
        exact loop_1680 (wd + 1) 0 no1678 ls _ _ (Nat.le_refl _) (by omega) (by omega) (i0_1678) (lv_sub hl [0, 1, 2, 3, 4] rfl) hh
  exact loop_1678 (wd + 1) 0 1 ls _ _ (Nat.le_refl _) (by omega) (by omega) (Or.inl ⟨rfl, fun i h => absurd h (by omega)⟩) (lv_sub hl [0, 1, 2, 3] rfl) hh
theorem kw_X12_isOne {R : Room} {s : State} {args : Array Value} {own : String} {idx : Nat} (hts : ∀ w ∈ TB, w.before args s = true) (hl : Cond.methodLink own idx yX12_isOne ∈ TB) (hR : 0 + 1 ≤ R.frames ∧ 8 + (5 + 11) + 40 * 0 ≤ R.locals) : CallW R s args own RX12 idx yX12_isOne cX12_isOne 5 (some .boolean) (Cond.code yX12_isOne cX12_isOne 5 (some .boolean) :: TB) (rmN 0) 0 0 1 := cwV 1 hts (TB_V hl tw_1148 ts_55 tw_9 tw_1149) rfl rfl rfl (by decide +kernel) hR
set_option maxHeartbeats 4000000 in
set_option maxRecDepth 100000 in
/-- close -/
theorem c_X12_close (l : Launch) (D : va_G) (cy : Nat → ClassId) (sz : Nat) (cs : List Nat) (ad : Nat → Nat) (en : Nat → va_E) (hI : RX cy cs ad en) (hCX : CHX en) (hRX : RQX en)   : Met l yX12_close (Cond.code yX12_close cX12_close 4 (some .int) :: TB) (rmN 3) (va_Pc [.ref (ad 0)] (Pre D cy cs ad en sz)) (va_Qi (S := Nat → va_E) (fun r en1 => RX cy cs ad en1 ∧ (∀ c, (c ≠ 0 ∧ c ≠ 6 ∧ c ≠ 14 ∧ c ≠ 15 ∧ c ≠ 16 ∧ c ≠ 17) → en1 c = en c) ∧ CHX en1 ∧ RQX en1 ∧ RCL r en en1 ∧ KPp en en1) (PostM D cs ad) (Af cs ad sz)) 0 0 (Af cs ad sz) := by
  refine Met.ofW (cc := cX12_close) (maxL := 4) (ret := (some .int)) (by decide) rfl ?_
  intro p e s m args below meth c s₁ B hml hv
  obtain ⟨rfl, hsz, hP, hK, hD0⟩ := hv
  have hx := B.exec
  have hb := B.bytes
  have hr := B.returns
  have hts : ∀ w ∈ TB, w.before _ s = true := fun w h => atoms_spec (ws := _ :: TB) B.pre w (List.mem_cons_of_mem _ h)
  have hown : s.vm.findClass RX12 = some m.cls := findClass_of_methodNamed B.named
  have hlocks := B.notSynchronized
  have hh : Hp D (Af cs ad sz) (Af cs ad sz) s.heap s.heap [] cs ad en := ⟨hP, Af_self hD0, va_S.rf⟩
  have hA : ∀ q : Nat, s.heap.size ≤ q → Af cs ad sz q := fun q h => Or.inr (by rw [hsz] at h; exact h)
  have hl := lv_entry ([.ref (ad 0)]) (n := 4) (Nat.le_of_ble_eq_true rfl)
  rw [lg_entry_eq]
  generalize (lg_sl ([.ref (ad 0)]) ++ List.replicate (4 - (lg_sl ([.ref (ad 0)])).length) Slot.unset).toArray = ls at hl ⊢
  have hl : lv_has ls 4 [(0, .ref (ad 0))] := hl
  have hf0 : ∀ c, (c ≠ 0 ∧ c ≠ 6 ∧ c ≠ 14 ∧ c ≠ 15 ∧ c ≠ 16 ∧ c ≠ 17) → en c = en c := fun _ _ => rfl
  obtain ⟨fa, hi, wd, mo, tb, dp, many, grt, lst, nou, rm, rb, pr, wo, es1687, hwd2, hwd3, hmo, htb, hwo⟩ := getr_M hI
  have hdq : dQ en = wd := by unfold dQ; rw [show rdI (en 0) 2 = nI wd from by rw [es1687]; rfl]; exact nI_clamp (by omega)
  have hmq : mQ en = mo := by unfold mQ; rw [show rdI (en 0) 3 = nI mo from by rw [es1687]; rfl]; exact nI_clamp (by omega)
  have hkq : kQ en = tb := by unfold kQ; rw [show rdI (en 0) 4 = nI tb from by rw [es1687]; rfl]; exact nI_clamp (by omega)
  have hww : wd * wd ≤ 9 := mww (by omega)
  have hw9 : dQ en * dQ en ≤ 9 := by rw [hdq]; exact hww
  refine lv_aload_n hx hb dX12_close_0 rfl (lv_at hl 0 rfl) ?_
  refine hp_get hx hb hts ix12 hown hK hh (q := 0) rfl (hI.1 _ (by decide)) es1687 rfl 4 (by decide) (hts _ tw_883) (fun _ h9 => h9) rfl dX12_close_1 ?_
  refine lv_if_ne (tgt := 10) hx hb dX12_close_4 (by decide) (fun c_1688 => ?_) (fun c_1688 => ?_)
  · have n_1688 : tb ≠ 0 := n_neq (a := tb) (b := 0) c_1688 (by omega) (by decide)
    refine lv_aload_n hx hb dX12_close_10 rfl (lv_at hl 0 rfl) ?_
    refine lv_iconst (v := 0) hx hb dX12_close_11 (by decide) ?_
    refine hp_put hx hb hts ix12 tyX12 tyX12_ok nmX12 hown hK hh (q := 0) rfl (hI.1 _ (by decide)) es1687 rfl 25 (by decide) (hts _ tw_904) (fun _ h9 => h9) rfl (ty := .int) (by decide +kernel) rfl rfl (Nat.le_of_ble_eq_true rfl) dX12_close_12 (fun H locs en_1689 hen_1689 hh => ?_)
    have es1687_1689 : en_1689 0 = .inr (11, [.int fa, .int hi, .int (nI wd), .int (nI mo), .int (nI tb), .ref (ad 1), .ref (ad 2), .ref (ad 3), .ref (ad 4), .ref (ad 5), .ref (ad 6), .ref (ad 7), .ref (ad 8), .ref (ad 9), .int dp, .long many, .long grt, .long lst, .long nou, .ref (ad 10), .ref (ad 11), .ref (ad 12), .int rm, .long rb, .ref (ad 13), .int 0, .ref (ad 14), .ref (ad 15), .ref (ad 16), .ref (ad 17), .int (nI wo), .ref (ad 18), .ref (ad 19)]) := by rw [hen_1689]; exact va_up_self _ _ _
    have hI_1689 : RX cy cs ad en_1689 := by rw [hen_1689]; exact upr_M hI ⟨fa, hi, wd, mo, tb, dp, many, grt, lst, nou, rm, rb, 0, wo, rfl, hwd2, hwd3, hmo, htb, hwo⟩
    have hf_1689 : ∀ c, (c ≠ 0 ∧ c ≠ 6 ∧ c ≠ 14 ∧ c ≠ 15 ∧ c ≠ 16 ∧ c ≠ 17) → en_1689 c = en c := fun c hc => Eq.trans (show en_1689 c = en c from by rw [hen_1689, va_up_ne _ _ (by omega)]) (hf0 c hc)
    have hkp_1689 : KPp en en_1689 := KPp_fv (KPp_rf en) es1687 es1687_1689 hi (nI wd) (nI mo) (nI tb) (nI wo) rfl rfl rfl rfl rfl rfl rfl rfl rfl rfl
    refine lv_iconst (v := 0) hx hb dX12_close_15 (by decide) ?_
    refine lv_istore_n (lv' := [(1, .int 0), (0, .ref (ad 0))]) hx hb dX12_close_16 rfl hl (by decide) rfl (fun ls hl => ?_)
    have loop_1690 : ∀ (fu j1690 : Nat)  (en_1690 : Nat → va_E) (ls : Array Slot) (H : Heap) (locs : List Loc), 0 ≤ j1690 → j1690 ≤ 4096 → 4096 < j1690 + fu → RX cy cs ad en_1690 → (∀ c, (c ≠ 0 ∧ c ≠ 6 ∧ c ≠ 14 ∧ c ≠ 15 ∧ c ≠ 16 ∧ c ≠ 17) → en_1690 c = en c) → (∀ i, i < j1690 → rdF (en_1690 16) i = -9) → (rdI (en_1690 0) 25 = nI 0) → (KPp en en_1690) → lv_has ls 4 [(1, .int (nI j1690)), (0, .ref (ad 0))] → Hp D (Af cs ad sz) (Af cs ad sz) s.heap H locs cs ad en_1690 → W p l e (headSpec (Cond.code yX12_close cX12_close 4 (some .int) :: TB) (rmN 3)).room s m ([.ref (ad 0)] : List Value).toArray below meth c H locs 0 0 (MQ below (va_Qi (S := Nat → va_E) (fun r en1 => RX cy cs ad en1 ∧ (∀ c, (c ≠ 0 ∧ c ≠ 6 ∧ c ≠ 14 ∧ c ≠ 15 ∧ c ≠ 16 ∧ c ≠ 17) → en1 c = en c) ∧ CHX en1 ∧ RQX en1 ∧ RCL r en en1 ∧ KPp en en1) (PostM D cs ad) (Af cs ad sz)) ([.ref (ad 0)] : List Value).toArray s 0 0 (Af cs ad sz)) (F0 m 17 ls []) := by
      intro fu
      induction fu with
      | zero => intro j1690  en_1690 ls H locs h0 h1 h2; exact absurd h2 (by omega)
      | succ fu ih_1690 =>
        intro j1690  en_1690 ls H locs hj0_1690 hj_1690 hfu_1690 hI_1690 hf_1690 i0_1690 i1_1690 i2_1690 hl hh
        refine lv_iload_n hx hb dX12_close_17 rfl (lv_at hl 0 rfl) ?_
        refine lv_sipush (v := 4096) hx hb dX12_close_18 (by decide) ?_
        refine lv_icmp_ge (tgt := 38) hx hb dX12_close_21 (by decide) (fun c_1691 => ?_) (fun c_1691 => ?_)
        · have n_1691 : 4096 ≤ j1690 := n_le (a := 4096) (b := j1690) c_1691 (by decide) (by omega)
          have hRC0 : RC9 (dQ en * dQ en) en_1690 [] := RC_0 i1_1690 (fun i hi => i0_1690 i (by omega))
          refine lv_iconst (v := 1) hx hb dX12_close_38 (by decide) ?_
          refine lv_istore_n (lv' := [(1, .int 1), (0, .ref (ad 0))]) hx hb dX12_close_39 rfl hl (by decide) rfl (fun ls hl => ?_)
          refine lv_aload_n hx hb dX12_close_40 rfl (lv_at hl 1 rfl) ?_
          obtain ⟨fa_1692, hi_1692, wd_1692, mo_1692, tb_1692, dp_1692, many_1692, grt_1692, lst_1692, nou_1692, rm_1692, rb_1692, pr_1692, wo_1692, es1692, p0_1692, p1_1692, p2_1692, p3_1692, p4_1692⟩ := getr_M hI_1690
          have hfx_1693 : pr_1692 = nI 0 := (show pr_1692 = rdI (en_1690 0) 25 from by rw [es1692]; rfl).trans (i1_1690)
          rw [hfx_1693] at es1692
          have hq2_1694 : wd_1692 = wd := n_eq ((show nI wd_1692 = rdI (en_1690 0) 2 from by rw [es1692]; rfl).trans (i2_1690.2.1.trans (show rdI (en 0) 2 = nI wd from by rw [es1687]; rfl))) (by omega) (by omega)
          have hq3_1694 : mo_1692 = mo := n_eq ((show nI mo_1692 = rdI (en_1690 0) 3 from by rw [es1692]; rfl).trans (i2_1690.2.2.1.trans (show rdI (en 0) 3 = nI mo from by rw [es1687]; rfl))) (by omega) (by omega)
          have hq4_1694 : tb_1692 = tb := n_eq ((show nI tb_1692 = rdI (en_1690 0) 4 from by rw [es1692]; rfl).trans (i2_1690.2.2.2.1.trans (show rdI (en 0) 4 = nI tb from by rw [es1687]; rfl))) (by omega) (by omega)
          have hq30_1694 : wo_1692 = wo := n_eq ((show nI wo_1692 = rdI (en_1690 0) 30 from by rw [es1692]; rfl).trans (i2_1690.2.2.2.2.trans (show rdI (en 0) 30 = nI wo from by rw [es1687]; rfl))) (by omega) (by omega)
          rw [hq2_1694, hq3_1694, hq4_1694, hq30_1694] at es1692
          refine hp_callMv (va_runV (As := []) (rest := []) ⟨hx, hb, hml, hown, hts⟩ (c_X12_beginLevels l D cy _ cs ad en_1690 hI_1690  ) (kw_X12_beginLevels hts tw_1042 ⟨by decide, by decide⟩) (preV_of hh hK (hI.1 _ (by decide)) es1692 rfl) rfl rfl hl.1 rfl (lv_room (Nat.le_of_ble_eq_true rfl)) dX12_close_41 ⟨Nat.le_of_ble_eq_true rfl, Nat.le_of_ble_eq_true rfl⟩) hh hA (fun H locs en_1695 hw_1695 hh => ?_)
          obtain ⟨hI_1695, hu_1695, hx_1695⟩ := hw_1695
          have es1692_1695 : en_1695 0 = .inr (11, [.int fa_1692, .int hi_1692, .int (nI wd), .int (nI mo), .int (nI tb), .ref (ad 1), .ref (ad 2), .ref (ad 3), .ref (ad 4), .ref (ad 5), .ref (ad 6), .ref (ad 7), .ref (ad 8), .ref (ad 9), .int dp_1692, .long many_1692, .long grt_1692, .long lst_1692, .long nou_1692, .ref (ad 10), .ref (ad 11), .ref (ad 12), .int rm_1692, .long rb_1692, .ref (ad 13), .int (nI 0), .ref (ad 14), .ref (ad 15), .ref (ad 16), .ref (ad 17), .int (nI wo), .ref (ad 18), .ref (ad 19)]) := (hu_1695 0 (by omega)).trans es1692
          have hf_1695 : ∀ c, (c ≠ 0 ∧ c ≠ 6 ∧ c ≠ 14 ∧ c ≠ 15 ∧ c ≠ 16 ∧ c ≠ 17) → en_1695 c = en c := fun c hc => (hu_1695 c (by omega)).trans (hf_1690 c hc)
          have hkp_1695 : KPp en en_1695 := KPp_same i2_1690 (hu_1695 0 (by omega))
          have hRC_1695 := RC_k (e1 := en_1695) hRC0 (by rw [hu_1695 0 (by omega)]) (hu_1695 14 (by omega)) (hu_1695 15 (by omega)) (hu_1695 16 (by omega)) (hu_1695 17 (by omega))
          have hun0 : ∀ x, x < (dQ en * dQ en) → rdL (en_1695 6) x = uV (dQ en) x := fun x hx => by have h9 := hx_1695 x; rw [show (rdI (en_1690 0) 2).toNatClampNeg = dQ en from by unfold dQ; rw [i2_1690.2.1], if_pos (by omega)] at h9; exact h9
          refine lv_iconst (v := 0) hx hb dX12_close_44 (by decide) ?_
          refine lv_istore_n (lv' := [(2, .int 0), (1, .int 1), (0, .ref (ad 0))]) hx hb dX12_close_45 rfl hl (by decide) rfl (fun ls hl => ?_)
          have loop_1696 : ∀ (fu j1696 : Nat) (my1696 : Int32) (en_1696 : Nat → va_E) (ls : Array Slot) (H : Heap) (locs : List Loc), 0 ≤ j1696 → j1696 ≤ tb → tb < j1696 + fu → RX cy cs ad en_1696 → (∀ c, (c ≠ 0 ∧ c ≠ 6 ∧ c ≠ 14 ∧ c ≠ 15 ∧ c ≠ 16 ∧ c ≠ 17) → en_1696 c = en c) → (∃ S, RC9 (dQ en * dQ en) en_1696 S ∧ (∀ x, x < (dQ en * dQ en) → rdL (en_1696 6) x = uV (dQ en) x) ∧ ((my1696 = 0 ∧ cloR en = none) ∨ (my1696 = 1 ∧ lt9 beyB (RQ en) j1696 = some S))) → (KPp en en_1696) → lv_has ls 4 [(2, .int (nI j1696)), (1, .int my1696), (0, .ref (ad 0))] → Hp D (Af cs ad sz) (Af cs ad sz) s.heap H locs cs ad en_1696 → W p l e (headSpec (Cond.code yX12_close cX12_close 4 (some .int) :: TB) (rmN 3)).room s m ([.ref (ad 0)] : List Value).toArray below meth c H locs 0 0 (MQ below (va_Qi (S := Nat → va_E) (fun r en1 => RX cy cs ad en1 ∧ (∀ c, (c ≠ 0 ∧ c ≠ 6 ∧ c ≠ 14 ∧ c ≠ 15 ∧ c ≠ 16 ∧ c ≠ 17) → en1 c = en c) ∧ CHX en1 ∧ RQX en1 ∧ RCL r en en1 ∧ KPp en en1) (PostM D cs ad) (Af cs ad sz)) ([.ref (ad 0)] : List Value).toArray s 0 0 (Af cs ad sz)) (F0 m 46 ls []) := by
            intro fu
            induction fu with
            | zero => intro j1696 my1696 en_1696 ls H locs h0 h1 h2; exact absurd h2 (by omega)
            | succ fu ih_1696 =>
              intro j1696 my1696 en_1696 ls H locs hj0_1696 hj_1696 hfu_1696 hI_1696 hf_1696 i0_1696 i1_1696 hl hh
              obtain ⟨S_1696, hrc_1696, hun_1696, hPx_1696⟩ := i0_1696
              have hSb_1696 := hrc_1696.2.1.1
              refine lv_iload_n hx hb dX12_close_46 rfl (lv_at hl 0 rfl) ?_
              refine lv_aload_n hx hb dX12_close_47 rfl (lv_at hl 2 rfl) ?_
              obtain ⟨fa_1697, hi_1697, wd_1697, mo_1697, tb_1697, dp_1697, many_1697, grt_1697, lst_1697, nou_1697, rm_1697, rb_1697, pr_1697, wo_1697, es1697, p0_1697, p1_1697, p2_1697, p3_1697, p4_1697⟩ := getr_M hI_1696
              have hfx_1698 : pr_1697 = nI S_1696.length := (show pr_1697 = rdI (en_1696 0) 25 from by rw [es1697]; rfl).trans (hrc_1696.1)
              rw [hfx_1698] at es1697
              have hq2_1699 : wd_1697 = wd := n_eq ((show nI wd_1697 = rdI (en_1696 0) 2 from by rw [es1697]; rfl).trans (i1_1696.2.1.trans (show rdI (en 0) 2 = nI wd from by rw [es1687]; rfl))) (by omega) (by omega)
              have hq3_1699 : mo_1697 = mo := n_eq ((show nI mo_1697 = rdI (en_1696 0) 3 from by rw [es1697]; rfl).trans (i1_1696.2.2.1.trans (show rdI (en 0) 3 = nI mo from by rw [es1687]; rfl))) (by omega) (by omega)
              have hq4_1699 : tb_1697 = tb := n_eq ((show nI tb_1697 = rdI (en_1696 0) 4 from by rw [es1697]; rfl).trans (i1_1696.2.2.2.1.trans (show rdI (en 0) 4 = nI tb from by rw [es1687]; rfl))) (by omega) (by omega)
              have hq30_1699 : wo_1697 = wo := n_eq ((show nI wo_1697 = rdI (en_1696 0) 30 from by rw [es1697]; rfl).trans (i1_1696.2.2.2.2.trans (show rdI (en 0) 30 = nI wo from by rw [es1687]; rfl))) (by omega) (by omega)
              rw [hq2_1699, hq3_1699, hq4_1699, hq30_1699] at es1697
              refine hp_get hx hb hts ix12 hown hK hh (q := 0) rfl (hI.1 _ (by decide)) es1697 rfl 4 (by decide) (hts _ tw_883) (fun _ h9 => h9) rfl dX12_close_48 ?_
              refine lv_icmp_ge (tgt := 77) hx hb dX12_close_51 (by decide) (fun c_1700 => ?_) (fun c_1700 => ?_)
              · have n_1700 : tb ≤ j1696 := n_le (a := tb) (b := j1696) c_1700 (by omega) (by omega)
                refine lv_iconst (v := 0) hx hb dX12_close_77 (by decide) ?_
                refine lv_istore_n (lv' := [(2, .int 0), (1, .int my1696), (0, .ref (ad 0))]) hx hb dX12_close_78 rfl hl (by decide) rfl (fun ls hl => ?_)
                have loop_1701 : ∀ (fu j1701 : Nat) (my1701 : Int32) (en_1701 : Nat → va_E) (ls : Array Slot) (H : Heap) (locs : List Loc), 0 ≤ j1701 → j1701 ≤ 2000 → 2000 < j1701 + fu → RX cy cs ad en_1701 → (∀ c, (c ≠ 0 ∧ c ≠ 6 ∧ c ≠ 14 ∧ c ≠ 15 ∧ c ≠ 16 ∧ c ≠ 17) → en_1701 c = en c) → (∃ S, RC9 (dQ en * dQ en) en_1701 S ∧ ((my1701 = 0 ∧ cloR en = none) ∨ (my1701 = 1 ∧ st9 beyB (kQ en) (RQ en) (MQ9 en) j1701 = some S))) → (KPp en en_1701) → lv_has ls 4 [(2, .int (nI j1701)), (1, .int my1701), (0, .ref (ad 0))] → Hp D (Af cs ad sz) (Af cs ad sz) s.heap H locs cs ad en_1701 → W p l e (headSpec (Cond.code yX12_close cX12_close 4 (some .int) :: TB) (rmN 3)).room s m ([.ref (ad 0)] : List Value).toArray below meth c H locs 0 0 (MQ below (va_Qi (S := Nat → va_E) (fun r en1 => RX cy cs ad en1 ∧ (∀ c, (c ≠ 0 ∧ c ≠ 6 ∧ c ≠ 14 ∧ c ≠ 15 ∧ c ≠ 16 ∧ c ≠ 17) → en1 c = en c) ∧ CHX en1 ∧ RQX en1 ∧ RCL r en en1 ∧ KPp en en1) (PostM D cs ad) (Af cs ad sz)) ([.ref (ad 0)] : List Value).toArray s 0 0 (Af cs ad sz)) (F0 m 79 ls []) := by
                  intro fu
                  induction fu with
                  | zero => intro j1701 my1701 en_1701 ls H locs h0 h1 h2; exact absurd h2 (by omega)
                  | succ fu ih_1701 =>
                    intro j1701 my1701 en_1701 ls H locs hj0_1701 hj_1701 hfu_1701 hI_1701 hf_1701 i0_1701 i1_1701 hl hh
                    obtain ⟨S_1701, hrc_1701, hPx_1701⟩ := i0_1701
                    have hSb_1701 := hrc_1701.2.1.1
                    refine lv_iload_n hx hb dX12_close_79 rfl (lv_at hl 0 rfl) ?_
                    refine lv_aload_n hx hb dX12_close_80 rfl (lv_at hl 2 rfl) ?_
                    obtain ⟨fa_1702, hi_1702, wd_1702, mo_1702, tb_1702, dp_1702, many_1702, grt_1702, lst_1702, nou_1702, rm_1702, rb_1702, pr_1702, wo_1702, es1702, p0_1702, p1_1702, p2_1702, p3_1702, p4_1702⟩ := getr_M hI_1701
                    have hfx_1703 : pr_1702 = nI S_1701.length := (show pr_1702 = rdI (en_1701 0) 25 from by rw [es1702]; rfl).trans (hrc_1701.1)
                    rw [hfx_1703] at es1702
                    have hq2_1704 : wd_1702 = wd := n_eq ((show nI wd_1702 = rdI (en_1701 0) 2 from by rw [es1702]; rfl).trans (i1_1701.2.1.trans (show rdI (en 0) 2 = nI wd from by rw [es1687]; rfl))) (by omega) (by omega)
                    have hq3_1704 : mo_1702 = mo := n_eq ((show nI mo_1702 = rdI (en_1701 0) 3 from by rw [es1702]; rfl).trans (i1_1701.2.2.1.trans (show rdI (en 0) 3 = nI mo from by rw [es1687]; rfl))) (by omega) (by omega)
                    have hq4_1704 : tb_1702 = tb := n_eq ((show nI tb_1702 = rdI (en_1701 0) 4 from by rw [es1702]; rfl).trans (i1_1701.2.2.2.1.trans (show rdI (en 0) 4 = nI tb from by rw [es1687]; rfl))) (by omega) (by omega)
                    have hq30_1704 : wo_1702 = wo := n_eq ((show nI wo_1702 = rdI (en_1701 0) 30 from by rw [es1702]; rfl).trans (i1_1701.2.2.2.2.trans (show rdI (en 0) 30 = nI wo from by rw [es1687]; rfl))) (by omega) (by omega)
                    rw [hq2_1704, hq3_1704, hq4_1704, hq30_1704] at es1702
                    refine hp_get hx hb hts ix12 hown hK hh (q := 0) rfl (hI.1 _ (by decide)) es1702 rfl 25 (by decide) (hts _ tw_904) (fun _ h9 => h9) rfl dX12_close_81 ?_
                    refine lv_icmp_ge (tgt := 143) hx hb dX12_close_84 (by decide) (fun c_1705 => ?_) (fun c_1705 => ?_)
                    · have n_1705 : S_1701.length ≤ j1701 := n_le (a := S_1701.length) (b := j1701) c_1705 (by omega) (by omega)
                      refine lv_iload_n hx hb dX12_close_143 rfl (lv_at hl 1 rfl) ?_
                      refine lv_if_ne (tgt := 156) hx hb dX12_close_144 (by decide) (fun c_1706 => ?_) (fun c_1706 => ?_)
                      · refine lv_aload_n hx hb dX12_close_156 rfl (lv_at hl 2 rfl) ?_
                        refine hp_get hx hb hts ix12 hown hK hh (q := 0) rfl (hI.1 _ (by decide)) es1702 rfl 25 (by decide) (hts _ tw_904) (fun _ h9 => h9) rfl dX12_close_157 ?_
                        have hsq_1701 := (hPx_1701.resolve_left (fun q => c_1706 q.1))
                        have hcl9 : cloR en = some S_1701 := st_done hsq_1701.2 (by omega) (by omega)
                        have hpo9 : 1 ≤ S_1701.length := st_pos (by rw [hkq]; omega) _ _ hsq_1701.2
                        exact hp_iretM hx hb hr rfl hlocks hh (⟨hI_1701, hf_1701, Or.inr ⟨S_1701.length, hpo9, RC_CH hrc_1701⟩, Or.inr ⟨S_1701, hpo9, (cloR_keep (i1_1701.2.1) (i1_1701.2.2.1) (i1_1701.2.2.2.1) (hf_1701 1 (by omega))).trans hcl9, by rw [show dQ en_1701 = dQ en from by unfold dQ; rw [i1_1701.2.1]]; exact hrc_1701⟩, Or.inr ⟨(fun q => absurd (n_eq (a := tb) (b := 0) ((show rdI (en 0) 4 = nI tb from by rw [es1687]; rfl).symm.trans q) (by omega) (by decide)) (by omega)), Or.inl ⟨S_1701, hcl9, rfl, hrc_1701.1⟩⟩, i1_1701⟩) dX12_close_160
                      · refine lv_aload_n hx hb dX12_close_147 rfl (lv_at hl 2 rfl) ?_
                        refine lv_bipush (v := (-9)) hx hb dX12_close_148 (by decide) ?_
                        refine hp_put hx hb hts ix12 tyX12 tyX12_ok nmX12 hown hK hh (q := 0) rfl (hI.1 _ (by decide)) es1702 rfl 25 (by decide) (hts _ tw_904) (fun _ h9 => h9) rfl (ty := .int) (by decide +kernel) rfl rfl (Nat.le_of_ble_eq_true rfl) dX12_close_150 (fun H locs en_1707 hen_1707 hh => ?_)
                        have es1702_1707 : en_1707 0 = .inr (11, [.int fa_1702, .int hi_1702, .int (nI wd), .int (nI mo), .int (nI tb), .ref (ad 1), .ref (ad 2), .ref (ad 3), .ref (ad 4), .ref (ad 5), .ref (ad 6), .ref (ad 7), .ref (ad 8), .ref (ad 9), .int dp_1702, .long many_1702, .long grt_1702, .long lst_1702, .long nou_1702, .ref (ad 10), .ref (ad 11), .ref (ad 12), .int rm_1702, .long rb_1702, .ref (ad 13), .int (-9), .ref (ad 14), .ref (ad 15), .ref (ad 16), .ref (ad 17), .int (nI wo), .ref (ad 18), .ref (ad 19)]) := by rw [hen_1707]; exact va_up_self _ _ _
                        have hI_1707 : RX cy cs ad en_1707 := by rw [hen_1707]; exact upr_M hI_1701 ⟨fa_1702, hi_1702, wd, mo, tb, dp_1702, many_1702, grt_1702, lst_1702, nou_1702, rm_1702, rb_1702, (-9), wo, rfl, hwd2, hwd3, hmo, htb, hwo⟩
                        have hf_1707 : ∀ c, (c ≠ 0 ∧ c ≠ 6 ∧ c ≠ 14 ∧ c ≠ 15 ∧ c ≠ 16 ∧ c ≠ 17) → en_1707 c = en c := fun c hc => Eq.trans (show en_1707 c = en_1701 c from by rw [hen_1707, va_up_ne _ _ (by omega)]) (hf_1701 c hc)
                        have hkp_1707 : KPp en en_1707 := KPp_fv i1_1701 es1702 es1702_1707 hi_1702 (nI wd) (nI mo) (nI tb) (nI wo) rfl rfl rfl rfl rfl rfl rfl rfl rfl rfl
                        refine lv_bipush (v := (-6)) hx hb dX12_close_153 (by decide) ?_
                        exact hp_iretM hx hb hr rfl hlocks hh (⟨hI_1707, hf_1707, Or.inl (by rw [es1702_1707]; rfl), Or.inl (by rw [es1702_1707]; rfl), Or.inr ⟨(fun q => absurd (n_eq (a := tb) (b := 0) ((show rdI (en 0) 4 = nI tb from by rw [es1687]; rfl).symm.trans q) (by omega) (by decide)) (by omega)), Or.inr ⟨hPx_1701.elim (fun q => q.2) (fun q => absurd (q.1.symm.trans c_1706) (by decide)), rfl, by rw [es1702_1707]; rfl⟩⟩, hkp_1707⟩) dX12_close_155
                    · have n_1705 : j1701 < S_1701.length := n_nle (a := S_1701.length) (b := j1701) c_1705 (by omega) (by omega)
                      refine lv_iload_n hx hb dX12_close_87 rfl (lv_at hl 1 rfl) ?_
                      refine lv_if_eq (tgt := 143) hx hb dX12_close_88 (by decide) (fun c_1708 => ?_) (fun c_1708 => ?_)
                      · refine lv_iload_n hx hb dX12_close_143 rfl (lv_at hl 1 rfl) ?_
                        refine lv_if_ne (tgt := 156) hx hb dX12_close_144 (by decide) (fun c_0 => absurd (c_1708) c_0) (fun _ => ?_)
                        refine lv_aload_n hx hb dX12_close_147 rfl (lv_at hl 2 rfl) ?_
                        refine lv_bipush (v := (-9)) hx hb dX12_close_148 (by decide) ?_
                        refine hp_put hx hb hts ix12 tyX12 tyX12_ok nmX12 hown hK hh (q := 0) rfl (hI.1 _ (by decide)) es1702 rfl 25 (by decide) (hts _ tw_904) (fun _ h9 => h9) rfl (ty := .int) (by decide +kernel) rfl rfl (Nat.le_of_ble_eq_true rfl) dX12_close_150 (fun H locs en_1709 hen_1709 hh => ?_)
                        have es1702_1709 : en_1709 0 = .inr (11, [.int fa_1702, .int hi_1702, .int (nI wd), .int (nI mo), .int (nI tb), .ref (ad 1), .ref (ad 2), .ref (ad 3), .ref (ad 4), .ref (ad 5), .ref (ad 6), .ref (ad 7), .ref (ad 8), .ref (ad 9), .int dp_1702, .long many_1702, .long grt_1702, .long lst_1702, .long nou_1702, .ref (ad 10), .ref (ad 11), .ref (ad 12), .int rm_1702, .long rb_1702, .ref (ad 13), .int (-9), .ref (ad 14), .ref (ad 15), .ref (ad 16), .ref (ad 17), .int (nI wo), .ref (ad 18), .ref (ad 19)]) := by rw [hen_1709]; exact va_up_self _ _ _
                        have hI_1709 : RX cy cs ad en_1709 := by rw [hen_1709]; exact upr_M hI_1701 ⟨fa_1702, hi_1702, wd, mo, tb, dp_1702, many_1702, grt_1702, lst_1702, nou_1702, rm_1702, rb_1702, (-9), wo, rfl, hwd2, hwd3, hmo, htb, hwo⟩
                        have hf_1709 : ∀ c, (c ≠ 0 ∧ c ≠ 6 ∧ c ≠ 14 ∧ c ≠ 15 ∧ c ≠ 16 ∧ c ≠ 17) → en_1709 c = en c := fun c hc => Eq.trans (show en_1709 c = en_1701 c from by rw [hen_1709, va_up_ne _ _ (by omega)]) (hf_1701 c hc)
                        have hkp_1709 : KPp en en_1709 := KPp_fv i1_1701 es1702 es1702_1709 hi_1702 (nI wd) (nI mo) (nI tb) (nI wo) rfl rfl rfl rfl rfl rfl rfl rfl rfl rfl
                        refine lv_bipush (v := (-6)) hx hb dX12_close_153 (by decide) ?_
                        exact hp_iretM hx hb hr rfl hlocks hh (⟨hI_1709, hf_1709, Or.inl (by rw [es1702_1709]; rfl), Or.inl (by rw [es1702_1709]; rfl), Or.inr ⟨(fun q => absurd (n_eq (a := tb) (b := 0) ((show rdI (en 0) 4 = nI tb from by rw [es1687]; rfl).symm.trans q) (by omega) (by decide)) (by omega)), Or.inr ⟨hPx_1701.elim (fun q => q.2) (fun q => absurd (q.1.symm.trans c_1708) (by decide)), rfl, by rw [es1702_1709]; rfl⟩⟩, hkp_1709⟩) dX12_close_155
                      · have hsq_1701 := (hPx_1701.resolve_left (fun q => c_1708 q.1))
                        obtain ⟨x_1701, hgx_1701⟩ := ge_some (S := S_1701) (k := j1701) (by omega)
                        refine lv_iconst (v := 0) hx hb dX12_close_91 (by decide) ?_
                        refine lv_istore_n (lv' := [(3, .int 0), (2, .int (nI j1701)), (1, .int my1701), (0, .ref (ad 0))]) hx hb dX12_close_92 rfl hl (by decide) rfl (fun ls hl => ?_)
                        have loop_1710 : ∀ (fu j1710 : Nat) (my1710 : Int32) (en_1710 : Nat → va_E) (ls : Array Slot) (H : Heap) (locs : List Loc), 0 ≤ j1710 → j1710 ≤ tb → tb < j1710 + fu → RX cy cs ad en_1710 → (∀ c, (c ≠ 0 ∧ c ≠ 6 ∧ c ≠ 14 ∧ c ≠ 15 ∧ c ≠ 16 ∧ c ≠ 17) → en_1710 c = en c) → (∃ S, RC9 (dQ en * dQ en) en_1710 S ∧ ((my1710 = 0 ∧ cloR en = none) ∨ (my1710 = 1 ∧ ex9 beyB (MQ9 en) x_1701.1 x_1701.2 S_1701 j1710 = some S))) → (KPp en en_1710) → lv_has ls 4 [(3, .int (nI j1710)), (2, .int (nI j1701)), (1, .int my1710), (0, .ref (ad 0))] → Hp D (Af cs ad sz) (Af cs ad sz) s.heap H locs cs ad en_1710 → W p l e (headSpec (Cond.code yX12_close cX12_close 4 (some .int) :: TB) (rmN 3)).room s m ([.ref (ad 0)] : List Value).toArray below meth c H locs 0 0 (MQ below (va_Qi (S := Nat → va_E) (fun r en1 => RX cy cs ad en1 ∧ (∀ c, (c ≠ 0 ∧ c ≠ 6 ∧ c ≠ 14 ∧ c ≠ 15 ∧ c ≠ 16 ∧ c ≠ 17) → en1 c = en c) ∧ CHX en1 ∧ RQX en1 ∧ RCL r en en1 ∧ KPp en en1) (PostM D cs ad) (Af cs ad sz)) ([.ref (ad 0)] : List Value).toArray s 0 0 (Af cs ad sz)) (F0 m 93 ls []) := by
                          intro fu
                          induction fu with
                          | zero => intro j1710 my1710 en_1710 ls H locs h0 h1 h2; exact absurd h2 (by omega)
                          | succ fu ih_1710 =>
                            intro j1710 my1710 en_1710 ls H locs hj0_1710 hj_1710 hfu_1710 hI_1710 hf_1710 i0_1710 i1_1710 hl hh
                            obtain ⟨S_1710, hrc_1710, hPx_1710⟩ := i0_1710
                            have hSb_1710 := hrc_1710.2.1.1
                            refine lv_iload_n hx hb dX12_close_93 rfl (lv_at hl 0 rfl) ?_
                            refine lv_aload_n hx hb dX12_close_94 rfl (lv_at hl 3 rfl) ?_
                            obtain ⟨fa_1711, hi_1711, wd_1711, mo_1711, tb_1711, dp_1711, many_1711, grt_1711, lst_1711, nou_1711, rm_1711, rb_1711, pr_1711, wo_1711, es1711, p0_1711, p1_1711, p2_1711, p3_1711, p4_1711⟩ := getr_M hI_1710
                            have hfx_1712 : pr_1711 = nI S_1710.length := (show pr_1711 = rdI (en_1710 0) 25 from by rw [es1711]; rfl).trans (hrc_1710.1)
                            rw [hfx_1712] at es1711
                            have hq2_1713 : wd_1711 = wd := n_eq ((show nI wd_1711 = rdI (en_1710 0) 2 from by rw [es1711]; rfl).trans (i1_1710.2.1.trans (show rdI (en 0) 2 = nI wd from by rw [es1687]; rfl))) (by omega) (by omega)
                            have hq3_1713 : mo_1711 = mo := n_eq ((show nI mo_1711 = rdI (en_1710 0) 3 from by rw [es1711]; rfl).trans (i1_1710.2.2.1.trans (show rdI (en 0) 3 = nI mo from by rw [es1687]; rfl))) (by omega) (by omega)
                            have hq4_1713 : tb_1711 = tb := n_eq ((show nI tb_1711 = rdI (en_1710 0) 4 from by rw [es1711]; rfl).trans (i1_1710.2.2.2.1.trans (show rdI (en 0) 4 = nI tb from by rw [es1687]; rfl))) (by omega) (by omega)
                            have hq30_1713 : wo_1711 = wo := n_eq ((show nI wo_1711 = rdI (en_1710 0) 30 from by rw [es1711]; rfl).trans (i1_1710.2.2.2.2.trans (show rdI (en 0) 30 = nI wo from by rw [es1687]; rfl))) (by omega) (by omega)
                            rw [hq2_1713, hq3_1713, hq4_1713, hq30_1713] at es1711
                            refine hp_get hx hb hts ix12 hown hK hh (q := 0) rfl (hI.1 _ (by decide)) es1711 rfl 4 (by decide) (hts _ tw_883) (fun _ h9 => h9) rfl dX12_close_95 ?_
                            refine lv_icmp_ge (tgt := 137) hx hb dX12_close_98 (by decide) (fun c_1714 => ?_) (fun c_1714 => ?_)
                            · have n_1714 : tb ≤ j1710 := n_le (a := tb) (b := j1710) c_1714 (by omega) (by omega)
                              refine lv_iinc (v := (nI (j1701 + 1))) (lv' := [(2, .int (nI (j1701 + 1))), (3, .int (nI j1710)), (1, .int my1710), (0, .ref (ad 0))]) hx hb dX12_close_137 hl (k := 1) rfl (nI_1 _) (by decide) rfl (fun ls hl => ?_)
                              refine lv_goto (tgt := 79) hx hb dX12_close_140 (by decide) ?_
                              exact ih_1701 ((j1701 + 1)) my1710 en_1710 ls H locs (by omega) (by omega) (by omega) hI_1710 hf_1710 (⟨S_1710, hrc_1710, hPx_1710.elim Or.inl (fun q => Or.inr ⟨q.1, (st_s hsq_1701.2 hgx_1701).trans (by have e9 : j1710 = tb := (by omega); rw [hkq, ← e9]; exact q.2)⟩)⟩) (i1_1710) (lv_sub hl [0, 2, 3] rfl) hh
                            · have n_1714 : j1710 < tb := n_nle (a := tb) (b := j1710) c_1714 (by omega) (by omega)
                              refine lv_iload_n hx hb dX12_close_101 rfl (lv_at hl 2 rfl) ?_
                              refine lv_if_eq (tgt := 137) hx hb dX12_close_102 (by decide) (fun c_1715 => ?_) (fun c_1715 => ?_)
                              · refine lv_iinc (v := (nI (j1701 + 1))) (lv' := [(2, .int (nI (j1701 + 1))), (3, .int (nI j1710)), (1, .int my1710), (0, .ref (ad 0))]) hx hb dX12_close_137 hl (k := 1) rfl (nI_1 _) (by decide) rfl (fun ls hl => ?_)
                                refine lv_goto (tgt := 79) hx hb dX12_close_140 (by decide) ?_
                                exact ih_1701 ((j1701 + 1)) my1710 en_1710 ls H locs (by omega) (by omega) (by omega) hI_1710 hf_1710 (⟨S_1710, hrc_1710, hPx_1710.elim Or.inl (fun q => absurd (q.1.symm.trans c_1715) (by decide))⟩) (i1_1710) (lv_sub hl [0, 2, 3] rfl) hh
                              · have hex_1710 := (hPx_1710.resolve_left (fun q => c_1715 q.1)).2
                                have hgz_1710 := (ex_wf hrc_1701.2.1 _ _ hex_1710).2.2 j1701 x_1701 hgx_1701
                                refine lv_aload_n hx hb dX12_close_105 rfl (lv_at hl 3 rfl) ?_
                                refine lv_iload_n hx hb dX12_close_106 rfl (lv_at hl 1 rfl) ?_
                                refine lv_iconst (v := 0) hx hb dX12_close_107 (by decide) ?_
                                refine hp_callMv (va_runV (As := [.int (nI j1701), .int 0]) (rest := []) ⟨hx, hb, hml, hown, hts⟩ (c_X12_layProduct l D cy _ cs ad en_1710 hI_1710 j1701 0 (by omega) (by omega) (dQ en * dQ en) (show dQ en * dQ en = dQ en_1710 * dQ en_1710 from by unfold dQ; rw [i1_1710.2.1])) (kw_X12_layProduct hts tw_1133 ⟨by decide, by decide⟩) (preV_of hh hK (hI.1 _ (by decide)) es1711 rfl) rfl rfl hl.1 rfl (lv_room (Nat.le_of_ble_eq_true rfl)) dX12_close_108 ⟨Nat.le_of_ble_eq_true rfl, Nat.le_of_ble_eq_true rfl⟩) hh hA (fun H locs en_1716 hw_1716 hh => ?_)
                                obtain ⟨hI_1716, hu_1716, hx_1716⟩ := hw_1716
                                have es1711_1716 : en_1716 0 = .inr (11, [.int fa_1711, .int hi_1711, .int (nI wd), .int (nI mo), .int (nI tb), .ref (ad 1), .ref (ad 2), .ref (ad 3), .ref (ad 4), .ref (ad 5), .ref (ad 6), .ref (ad 7), .ref (ad 8), .ref (ad 9), .int dp_1711, .long many_1711, .long grt_1711, .long lst_1711, .long nou_1711, .ref (ad 10), .ref (ad 11), .ref (ad 12), .int rm_1711, .long rb_1711, .ref (ad 13), .int (nI S_1710.length), .ref (ad 14), .ref (ad 15), .ref (ad 16), .ref (ad 17), .int (nI wo), .ref (ad 18), .ref (ad 19)]) := (hu_1716 0 (by omega)).trans es1711
                                have hf_1716 : ∀ c, (c ≠ 0 ∧ c ≠ 6 ∧ c ≠ 14 ∧ c ≠ 15 ∧ c ≠ 16 ∧ c ≠ 17) → en_1716 c = en c := fun c hc => (hu_1716 c (by omega)).trans (hf_1710 c hc)
                                have hkp_1716 : KPp en en_1716 := KPp_same i1_1710 (hu_1716 0 (by omega))
                                have hRC_1716 := RC_k (e1 := en_1716) hrc_1710 (by rw [hu_1716 0 (by omega)]) (hu_1716 14 (by omega)) (hu_1716 15 (by omega)) (hu_1716 16 (by omega)) (hu_1716 17 (by omega))
                                refine lv_aload_n hx hb dX12_close_111 rfl (lv_at hl 3 rfl) ?_
                                refine lv_iconst (v := 0) hx hb dX12_close_112 (by decide) ?_
                                refine lv_iload_n hx hb dX12_close_113 rfl (lv_at hl 0 rfl) ?_
                                refine hp_callMv (va_runV (As := [.int 0, .int (nI j1710)]) (rest := []) ⟨hx, hb, hml, hown, hts⟩ (c_X12_goOn l D cy _ cs ad en_1716 hI_1716 0 j1710 (by omega) (by omega)) (kw_X12_goOn hts tw_1050 ⟨by decide, by decide⟩) (preV_of hh hK (hI.1 _ (by decide)) es1711_1716 rfl) rfl rfl hl.1 rfl (lv_room (Nat.le_of_ble_eq_true rfl)) dX12_close_114 ⟨Nat.le_of_ble_eq_true rfl, Nat.le_of_ble_eq_true rfl⟩) hh hA (fun H locs en_1717 hw_1717 hh => ?_)
                                obtain ⟨hI_1717, hu_1717, hx_1717⟩ := hw_1717
                                have es1711_1717 : en_1717 0 = .inr (11, [.int fa_1711, .int hi_1711, .int (nI wd), .int (nI mo), .int (nI tb), .ref (ad 1), .ref (ad 2), .ref (ad 3), .ref (ad 4), .ref (ad 5), .ref (ad 6), .ref (ad 7), .ref (ad 8), .ref (ad 9), .int dp_1711, .long many_1711, .long grt_1711, .long lst_1711, .long nou_1711, .ref (ad 10), .ref (ad 11), .ref (ad 12), .int rm_1711, .long rb_1711, .ref (ad 13), .int (nI S_1710.length), .ref (ad 14), .ref (ad 15), .ref (ad 16), .ref (ad 17), .int (nI wo), .ref (ad 18), .ref (ad 19)]) := (hu_1717 0 (by omega)).trans es1711_1716
                                have hf_1717 : ∀ c, (c ≠ 0 ∧ c ≠ 6 ∧ c ≠ 14 ∧ c ≠ 15 ∧ c ≠ 16 ∧ c ≠ 17) → en_1717 c = en c := fun c hc => (hu_1717 c (by omega)).trans (hf_1716 c hc)
                                have hkp_1717 : KPp en en_1717 := KPp_same hkp_1716 (hu_1717 0 (by omega))
                                have hRC_1717 := RC_k (e1 := en_1717) hRC_1716 (by rw [hu_1717 0 (by omega)]) (hu_1717 14 (by omega)) (hu_1717 15 (by omega)) (hu_1717 16 (by omega)) (hu_1717 17 (by omega))
                                have hlz_1710 : ∀ x, x < (dQ en * dQ en) → rdL (en_1716 6) (9 * 0 + x) = vg x_1701.1 x := fun x hx => (hx_1716 x hx).trans (RC_row hrc_1710 hgz_1710 x hx)
                                have hvc_1710 : vec (dQ en * dQ en) (lvl 1 en_1717) = MQ9 en x_1701.1 j1710 := GO_m rfl hw9 hx_1717 (hkp_1716.2.1) (hkp_1716.2.2.1) (hf_1716 1 (by omega)) hlz_1710
                                refine lv_aload_n hx hb dX12_close_117 rfl (lv_at hl 3 rfl) ?_
                                refine lv_iconst (v := 1) hx hb dX12_close_118 (by decide) ?_
                                refine lv_aload_n hx hb dX12_close_119 rfl (lv_at hl 3 rfl) ?_
                                refine hp_get hx hb hts ix12 hown hK hh (q := 0) rfl (hI.1 _ (by decide)) es1711_1717 rfl 27 (by decide) (hts _ tw_906) (fun _ h9 => h9) rfl dX12_close_120 ?_
                                refine lv_iload_n hx hb dX12_close_123 rfl (lv_at hl 1 rfl) ?_
                                obtain ⟨f_1718, es1718⟩ := getr_ln hI_1717
                                refine hp_iald hx hb hK hh (q := 15) rfl (hI.1 _ (by decide)) es1718 (vp_in_nI (n := j1701) (by omega) (by decide)) dX12_close_124 ?_
                                rw [nI_clamp (n := j1701) (by omega)]
                                refine lv_iconst (v := 1) hx hb dX12_close_125 (by decide) ?_
                                refine lv_iadd hx hb dX12_close_126 ?_
                                have hwl_1710 : f_1718 j1701 = x_1701.2 := (show f_1718 j1701 = rdF (en_1717 15) j1701 from by rw [es1718]; rfl).trans (RC_len hRC_1717 hgz_1710)
                                have hst_1710 : ex9 beyB (MQ9 en) x_1701.1 x_1701.2 S_1701 (j1710 + 1) = tk beyB S_1710 (vec (dQ en * dQ en) (lvl 1 en_1717)) (f_1718 j1701 + 1) := by rw [ex_s hex_1710, hvc_1710, hwl_1710]
                                refine hp_callMi (va_runV (As := [.int 1, .int ((f_1718 j1701) + 1)]) (rest := []) ⟨hx, hb, hml, hown, hts⟩ (c_X12_comes l D cy _ cs ad en_1717 hI_1717 1 ((f_1718 j1701) + 1) (by omega) (dQ en * dQ en) (show dQ en * dQ en = dQ en_1717 * dQ en_1717 from by unfold dQ; rw [hkp_1717.2.1]) S_1710 hRC_1717) (kw_X12_comes hts tw_1117 ⟨by decide, by decide⟩) (preV_of hh hK (hI.1 _ (by decide)) es1711_1717 rfl) rfl rfl hl.1 rfl (lv_room (Nat.le_of_ble_eq_true rfl)) dX12_close_127 ⟨Nat.le_of_ble_eq_true rfl, Nat.le_of_ble_eq_true rfl⟩) hh hA (fun r_1719 H locs en_1719 hw_1719 hh => ?_)
                                obtain ⟨hI_1719, hu_1719, hy_1719, hx_1719⟩ := hw_1719
                                have hw_1719 := (⟨hI_1719, hu_1719, hx_1719⟩ : _ ∧ _ ∧ _)
                                obtain ⟨hI_1719, hu_1719, hx_1719⟩ := hw_1719
                                have hf_1719 : ∀ c, (c ≠ 0 ∧ c ≠ 6 ∧ c ≠ 14 ∧ c ≠ 15 ∧ c ≠ 16 ∧ c ≠ 17) → en_1719 c = en c := fun c hc => (hu_1719 c (by omega)).trans (hf_1717 c hc)
                                have hkp_1719 : KPp en en_1719 := KPp_tr hkp_1717 hx_1719
                                rcases hy_1719 with ⟨hr_1719, T_1719, ht_1719, hrc_1719⟩ | ⟨hr_1719, hrc_1719, ht_1719⟩
                                · rw [hr_1719]
                                  refine lv_istore_n (lv' := [(1, .int 1), (3, .int (nI j1710)), (2, .int (nI j1701)), (0, .ref (ad 0))]) hx hb dX12_close_130 rfl hl (by decide) rfl (fun ls hl => ?_)
                                  refine lv_iinc (v := (nI (j1710 + 1))) (lv' := [(3, .int (nI (j1710 + 1))), (1, .int 1), (2, .int (nI j1701)), (0, .ref (ad 0))]) hx hb dX12_close_131 hl (k := 1) rfl (nI_1 _) (by decide) rfl (fun ls hl => ?_)
                                  refine lv_goto (tgt := 93) hx hb dX12_close_134 (by decide) ?_
                                  exact ih_1710 ((j1710 + 1)) 1 en_1719 ls H locs (by omega) (by omega) (by omega) hI_1719 hf_1719 (⟨T_1719, hrc_1719, Or.inr ⟨rfl, hst_1710.trans ht_1719⟩⟩) (hkp_1719) (lv_sub hl [0, 2, 1, 3] rfl) hh
                                · rw [hr_1719]
                                  refine lv_istore_n (lv' := [(1, .int 0), (3, .int (nI j1710)), (2, .int (nI j1701)), (0, .ref (ad 0))]) hx hb dX12_close_130 rfl hl (by decide) rfl (fun ls hl => ?_)
                                  refine lv_iinc (v := (nI (j1710 + 1))) (lv' := [(3, .int (nI (j1710 + 1))), (1, .int 0), (2, .int (nI j1701)), (0, .ref (ad 0))]) hx hb dX12_close_131 hl (k := 1) rfl (nI_1 _) (by decide) rfl (fun ls hl => ?_)
                                  refine lv_goto (tgt := 93) hx hb dX12_close_134 (by decide) ?_
                                  exact ih_1710 ((j1710 + 1)) 0 en_1719 ls H locs (by omega) (by omega) (by omega) hI_1719 hf_1719 (⟨S_1710, hrc_1719, Or.inl ⟨rfl, st_none ((st_s hsq_1701.2 hgx_1701).trans (ex_none (hst_1710.trans ht_1719) (by rw [hkq]; omega))) (by omega)⟩⟩) (hkp_1719) (lv_sub hl [0, 2, 1, 3] rfl) hh
                        exact loop_1710 (tb + 1) 0 my1701 en_1701 ls _ _ (Nat.le_refl _) (by omega) (by omega) hI_1701 hf_1701 (⟨S_1701, hrc_1701, Or.inr ⟨hsq_1701.1, rfl⟩⟩) (i1_1701) (lv_sub hl [0, 1, 2, 3] rfl) hh
                exact loop_1701 (2000 + 1) 0 my1696 en_1696 ls _ _ (Nat.le_refl _) (by omega) (by omega) hI_1696 hf_1696 (⟨S_1696, hrc_1696, hPx_1696.elim Or.inl (fun q => Or.inr ⟨q.1, by have e9 : j1696 = tb := (by omega); show lt9 beyB (RQ en) (kQ en) = some S_1696; rw [hkq, ← e9]; exact q.2⟩)⟩) (i1_1696) (lv_sub hl [0, 1, 2] rfl) hh
              · have n_1700 : j1696 < tb := n_nle (a := tb) (b := j1696) c_1700 (by omega) (by omega)
                refine lv_iload_n hx hb dX12_close_54 rfl (lv_at hl 1 rfl) ?_
                refine lv_if_eq (tgt := 77) hx hb dX12_close_55 (by decide) (fun c_1720 => ?_) (fun c_1720 => ?_)
                · refine lv_iconst (v := 0) hx hb dX12_close_77 (by decide) ?_
                  refine lv_istore_n (lv' := [(2, .int 0), (1, .int my1696), (0, .ref (ad 0))]) hx hb dX12_close_78 rfl hl (by decide) rfl (fun ls hl => ?_)
                  have loop_1721 : ∀ (fu j1721 : Nat) (my1721 : Int32) (en_1721 : Nat → va_E) (ls : Array Slot) (H : Heap) (locs : List Loc), 0 ≤ j1721 → j1721 ≤ 2000 → 2000 < j1721 + fu → RX cy cs ad en_1721 → (∀ c, (c ≠ 0 ∧ c ≠ 6 ∧ c ≠ 14 ∧ c ≠ 15 ∧ c ≠ 16 ∧ c ≠ 17) → en_1721 c = en c) → (∃ S, RC9 (dQ en * dQ en) en_1721 S ∧ ((my1721 = 0 ∧ cloR en = none) ∨ (my1721 = 1 ∧ st9 beyB (kQ en) (RQ en) (MQ9 en) j1721 = some S))) → (KPp en en_1721) → lv_has ls 4 [(2, .int (nI j1721)), (1, .int my1721), (0, .ref (ad 0))] → Hp D (Af cs ad sz) (Af cs ad sz) s.heap H locs cs ad en_1721 → W p l e (headSpec (Cond.code yX12_close cX12_close 4 (some .int) :: TB) (rmN 3)).room s m ([.ref (ad 0)] : List Value).toArray below meth c H locs 0 0 (MQ below (va_Qi (S := Nat → va_E) (fun r en1 => RX cy cs ad en1 ∧ (∀ c, (c ≠ 0 ∧ c ≠ 6 ∧ c ≠ 14 ∧ c ≠ 15 ∧ c ≠ 16 ∧ c ≠ 17) → en1 c = en c) ∧ CHX en1 ∧ RQX en1 ∧ RCL r en en1 ∧ KPp en en1) (PostM D cs ad) (Af cs ad sz)) ([.ref (ad 0)] : List Value).toArray s 0 0 (Af cs ad sz)) (F0 m 79 ls []) := by
                    intro fu
                    induction fu with
                    | zero => intro j1721 my1721 en_1721 ls H locs h0 h1 h2; exact absurd h2 (by omega)
                    | succ fu ih_1721 =>
                      intro j1721 my1721 en_1721 ls H locs hj0_1721 hj_1721 hfu_1721 hI_1721 hf_1721 i0_1721 i1_1721 hl hh
                      obtain ⟨S_1721, hrc_1721, hPx_1721⟩ := i0_1721
                      have hSb_1721 := hrc_1721.2.1.1
                      refine lv_iload_n hx hb dX12_close_79 rfl (lv_at hl 0 rfl) ?_
                      refine lv_aload_n hx hb dX12_close_80 rfl (lv_at hl 2 rfl) ?_
                      obtain ⟨fa_1722, hi_1722, wd_1722, mo_1722, tb_1722, dp_1722, many_1722, grt_1722, lst_1722, nou_1722, rm_1722, rb_1722, pr_1722, wo_1722, es1722, p0_1722, p1_1722, p2_1722, p3_1722, p4_1722⟩ := getr_M hI_1721
                      have hfx_1723 : pr_1722 = nI S_1721.length := (show pr_1722 = rdI (en_1721 0) 25 from by rw [es1722]; rfl).trans (hrc_1721.1)
                      rw [hfx_1723] at es1722
                      have hq2_1724 : wd_1722 = wd := n_eq ((show nI wd_1722 = rdI (en_1721 0) 2 from by rw [es1722]; rfl).trans (i1_1721.2.1.trans (show rdI (en 0) 2 = nI wd from by rw [es1687]; rfl))) (by omega) (by omega)
                      have hq3_1724 : mo_1722 = mo := n_eq ((show nI mo_1722 = rdI (en_1721 0) 3 from by rw [es1722]; rfl).trans (i1_1721.2.2.1.trans (show rdI (en 0) 3 = nI mo from by rw [es1687]; rfl))) (by omega) (by omega)
                      have hq4_1724 : tb_1722 = tb := n_eq ((show nI tb_1722 = rdI (en_1721 0) 4 from by rw [es1722]; rfl).trans (i1_1721.2.2.2.1.trans (show rdI (en 0) 4 = nI tb from by rw [es1687]; rfl))) (by omega) (by omega)
                      have hq30_1724 : wo_1722 = wo := n_eq ((show nI wo_1722 = rdI (en_1721 0) 30 from by rw [es1722]; rfl).trans (i1_1721.2.2.2.2.trans (show rdI (en 0) 30 = nI wo from by rw [es1687]; rfl))) (by omega) (by omega)
                      rw [hq2_1724, hq3_1724, hq4_1724, hq30_1724] at es1722
                      refine hp_get hx hb hts ix12 hown hK hh (q := 0) rfl (hI.1 _ (by decide)) es1722 rfl 25 (by decide) (hts _ tw_904) (fun _ h9 => h9) rfl dX12_close_81 ?_
                      refine lv_icmp_ge (tgt := 143) hx hb dX12_close_84 (by decide) (fun c_1725 => ?_) (fun c_1725 => ?_)
                      · have n_1725 : S_1721.length ≤ j1721 := n_le (a := S_1721.length) (b := j1721) c_1725 (by omega) (by omega)
                        refine lv_iload_n hx hb dX12_close_143 rfl (lv_at hl 1 rfl) ?_
                        refine lv_if_ne (tgt := 156) hx hb dX12_close_144 (by decide) (fun c_1726 => ?_) (fun c_1726 => ?_)
                        · refine lv_aload_n hx hb dX12_close_156 rfl (lv_at hl 2 rfl) ?_
                          refine hp_get hx hb hts ix12 hown hK hh (q := 0) rfl (hI.1 _ (by decide)) es1722 rfl 25 (by decide) (hts _ tw_904) (fun _ h9 => h9) rfl dX12_close_157 ?_
                          have hsq_1721 := (hPx_1721.resolve_left (fun q => c_1726 q.1))
                          have hcl9 : cloR en = some S_1721 := st_done hsq_1721.2 (by omega) (by omega)
                          have hpo9 : 1 ≤ S_1721.length := st_pos (by rw [hkq]; omega) _ _ hsq_1721.2
                          exact hp_iretM hx hb hr rfl hlocks hh (⟨hI_1721, hf_1721, Or.inr ⟨S_1721.length, hpo9, RC_CH hrc_1721⟩, Or.inr ⟨S_1721, hpo9, (cloR_keep (i1_1721.2.1) (i1_1721.2.2.1) (i1_1721.2.2.2.1) (hf_1721 1 (by omega))).trans hcl9, by rw [show dQ en_1721 = dQ en from by unfold dQ; rw [i1_1721.2.1]]; exact hrc_1721⟩, Or.inr ⟨(fun q => absurd (n_eq (a := tb) (b := 0) ((show rdI (en 0) 4 = nI tb from by rw [es1687]; rfl).symm.trans q) (by omega) (by decide)) (by omega)), Or.inl ⟨S_1721, hcl9, rfl, hrc_1721.1⟩⟩, i1_1721⟩) dX12_close_160
                        · refine lv_aload_n hx hb dX12_close_147 rfl (lv_at hl 2 rfl) ?_
                          refine lv_bipush (v := (-9)) hx hb dX12_close_148 (by decide) ?_
                          refine hp_put hx hb hts ix12 tyX12 tyX12_ok nmX12 hown hK hh (q := 0) rfl (hI.1 _ (by decide)) es1722 rfl 25 (by decide) (hts _ tw_904) (fun _ h9 => h9) rfl (ty := .int) (by decide +kernel) rfl rfl (Nat.le_of_ble_eq_true rfl) dX12_close_150 (fun H locs en_1727 hen_1727 hh => ?_)
                          have es1722_1727 : en_1727 0 = .inr (11, [.int fa_1722, .int hi_1722, .int (nI wd), .int (nI mo), .int (nI tb), .ref (ad 1), .ref (ad 2), .ref (ad 3), .ref (ad 4), .ref (ad 5), .ref (ad 6), .ref (ad 7), .ref (ad 8), .ref (ad 9), .int dp_1722, .long many_1722, .long grt_1722, .long lst_1722, .long nou_1722, .ref (ad 10), .ref (ad 11), .ref (ad 12), .int rm_1722, .long rb_1722, .ref (ad 13), .int (-9), .ref (ad 14), .ref (ad 15), .ref (ad 16), .ref (ad 17), .int (nI wo), .ref (ad 18), .ref (ad 19)]) := by rw [hen_1727]; exact va_up_self _ _ _
                          have hI_1727 : RX cy cs ad en_1727 := by rw [hen_1727]; exact upr_M hI_1721 ⟨fa_1722, hi_1722, wd, mo, tb, dp_1722, many_1722, grt_1722, lst_1722, nou_1722, rm_1722, rb_1722, (-9), wo, rfl, hwd2, hwd3, hmo, htb, hwo⟩
                          have hf_1727 : ∀ c, (c ≠ 0 ∧ c ≠ 6 ∧ c ≠ 14 ∧ c ≠ 15 ∧ c ≠ 16 ∧ c ≠ 17) → en_1727 c = en c := fun c hc => Eq.trans (show en_1727 c = en_1721 c from by rw [hen_1727, va_up_ne _ _ (by omega)]) (hf_1721 c hc)
                          have hkp_1727 : KPp en en_1727 := KPp_fv i1_1721 es1722 es1722_1727 hi_1722 (nI wd) (nI mo) (nI tb) (nI wo) rfl rfl rfl rfl rfl rfl rfl rfl rfl rfl
                          refine lv_bipush (v := (-6)) hx hb dX12_close_153 (by decide) ?_
                          exact hp_iretM hx hb hr rfl hlocks hh (⟨hI_1727, hf_1727, Or.inl (by rw [es1722_1727]; rfl), Or.inl (by rw [es1722_1727]; rfl), Or.inr ⟨(fun q => absurd (n_eq (a := tb) (b := 0) ((show rdI (en 0) 4 = nI tb from by rw [es1687]; rfl).symm.trans q) (by omega) (by decide)) (by omega)), Or.inr ⟨hPx_1721.elim (fun q => q.2) (fun q => absurd (q.1.symm.trans c_1726) (by decide)), rfl, by rw [es1722_1727]; rfl⟩⟩, hkp_1727⟩) dX12_close_155
                      · have n_1725 : j1721 < S_1721.length := n_nle (a := S_1721.length) (b := j1721) c_1725 (by omega) (by omega)
                        refine lv_iload_n hx hb dX12_close_87 rfl (lv_at hl 1 rfl) ?_
                        refine lv_if_eq (tgt := 143) hx hb dX12_close_88 (by decide) (fun c_1728 => ?_) (fun c_1728 => ?_)
                        · refine lv_iload_n hx hb dX12_close_143 rfl (lv_at hl 1 rfl) ?_
                          refine lv_if_ne (tgt := 156) hx hb dX12_close_144 (by decide) (fun c_0 => absurd (c_1728) c_0) (fun _ => ?_)
                          refine lv_aload_n hx hb dX12_close_147 rfl (lv_at hl 2 rfl) ?_
                          refine lv_bipush (v := (-9)) hx hb dX12_close_148 (by decide) ?_
                          refine hp_put hx hb hts ix12 tyX12 tyX12_ok nmX12 hown hK hh (q := 0) rfl (hI.1 _ (by decide)) es1722 rfl 25 (by decide) (hts _ tw_904) (fun _ h9 => h9) rfl (ty := .int) (by decide +kernel) rfl rfl (Nat.le_of_ble_eq_true rfl) dX12_close_150 (fun H locs en_1729 hen_1729 hh => ?_)
                          have es1722_1729 : en_1729 0 = .inr (11, [.int fa_1722, .int hi_1722, .int (nI wd), .int (nI mo), .int (nI tb), .ref (ad 1), .ref (ad 2), .ref (ad 3), .ref (ad 4), .ref (ad 5), .ref (ad 6), .ref (ad 7), .ref (ad 8), .ref (ad 9), .int dp_1722, .long many_1722, .long grt_1722, .long lst_1722, .long nou_1722, .ref (ad 10), .ref (ad 11), .ref (ad 12), .int rm_1722, .long rb_1722, .ref (ad 13), .int (-9), .ref (ad 14), .ref (ad 15), .ref (ad 16), .ref (ad 17), .int (nI wo), .ref (ad 18), .ref (ad 19)]) := by rw [hen_1729]; exact va_up_self _ _ _
                          have hI_1729 : RX cy cs ad en_1729 := by rw [hen_1729]; exact upr_M hI_1721 ⟨fa_1722, hi_1722, wd, mo, tb, dp_1722, many_1722, grt_1722, lst_1722, nou_1722, rm_1722, rb_1722, (-9), wo, rfl, hwd2, hwd3, hmo, htb, hwo⟩
                          have hf_1729 : ∀ c, (c ≠ 0 ∧ c ≠ 6 ∧ c ≠ 14 ∧ c ≠ 15 ∧ c ≠ 16 ∧ c ≠ 17) → en_1729 c = en c := fun c hc => Eq.trans (show en_1729 c = en_1721 c from by rw [hen_1729, va_up_ne _ _ (by omega)]) (hf_1721 c hc)
                          have hkp_1729 : KPp en en_1729 := KPp_fv i1_1721 es1722 es1722_1729 hi_1722 (nI wd) (nI mo) (nI tb) (nI wo) rfl rfl rfl rfl rfl rfl rfl rfl rfl rfl
                          refine lv_bipush (v := (-6)) hx hb dX12_close_153 (by decide) ?_
                          exact hp_iretM hx hb hr rfl hlocks hh (⟨hI_1729, hf_1729, Or.inl (by rw [es1722_1729]; rfl), Or.inl (by rw [es1722_1729]; rfl), Or.inr ⟨(fun q => absurd (n_eq (a := tb) (b := 0) ((show rdI (en 0) 4 = nI tb from by rw [es1687]; rfl).symm.trans q) (by omega) (by decide)) (by omega)), Or.inr ⟨hPx_1721.elim (fun q => q.2) (fun q => absurd (q.1.symm.trans c_1728) (by decide)), rfl, by rw [es1722_1729]; rfl⟩⟩, hkp_1729⟩) dX12_close_155
                        · have hsq_1721 := (hPx_1721.resolve_left (fun q => c_1728 q.1))
                          obtain ⟨x_1721, hgx_1721⟩ := ge_some (S := S_1721) (k := j1721) (by omega)
                          refine lv_iconst (v := 0) hx hb dX12_close_91 (by decide) ?_
                          refine lv_istore_n (lv' := [(3, .int 0), (2, .int (nI j1721)), (1, .int my1721), (0, .ref (ad 0))]) hx hb dX12_close_92 rfl hl (by decide) rfl (fun ls hl => ?_)
                          have loop_1730 : ∀ (fu j1730 : Nat) (my1730 : Int32) (en_1730 : Nat → va_E) (ls : Array Slot) (H : Heap) (locs : List Loc), 0 ≤ j1730 → j1730 ≤ tb → tb < j1730 + fu → RX cy cs ad en_1730 → (∀ c, (c ≠ 0 ∧ c ≠ 6 ∧ c ≠ 14 ∧ c ≠ 15 ∧ c ≠ 16 ∧ c ≠ 17) → en_1730 c = en c) → (∃ S, RC9 (dQ en * dQ en) en_1730 S ∧ ((my1730 = 0 ∧ cloR en = none) ∨ (my1730 = 1 ∧ ex9 beyB (MQ9 en) x_1721.1 x_1721.2 S_1721 j1730 = some S))) → (KPp en en_1730) → lv_has ls 4 [(3, .int (nI j1730)), (2, .int (nI j1721)), (1, .int my1730), (0, .ref (ad 0))] → Hp D (Af cs ad sz) (Af cs ad sz) s.heap H locs cs ad en_1730 → W p l e (headSpec (Cond.code yX12_close cX12_close 4 (some .int) :: TB) (rmN 3)).room s m ([.ref (ad 0)] : List Value).toArray below meth c H locs 0 0 (MQ below (va_Qi (S := Nat → va_E) (fun r en1 => RX cy cs ad en1 ∧ (∀ c, (c ≠ 0 ∧ c ≠ 6 ∧ c ≠ 14 ∧ c ≠ 15 ∧ c ≠ 16 ∧ c ≠ 17) → en1 c = en c) ∧ CHX en1 ∧ RQX en1 ∧ RCL r en en1 ∧ KPp en en1) (PostM D cs ad) (Af cs ad sz)) ([.ref (ad 0)] : List Value).toArray s 0 0 (Af cs ad sz)) (F0 m 93 ls []) := by
                            intro fu
                            induction fu with
                            | zero => intro j1730 my1730 en_1730 ls H locs h0 h1 h2; exact absurd h2 (by omega)
                            | succ fu ih_1730 =>
                              intro j1730 my1730 en_1730 ls H locs hj0_1730 hj_1730 hfu_1730 hI_1730 hf_1730 i0_1730 i1_1730 hl hh
                              obtain ⟨S_1730, hrc_1730, hPx_1730⟩ := i0_1730
                              have hSb_1730 := hrc_1730.2.1.1
                              refine lv_iload_n hx hb dX12_close_93 rfl (lv_at hl 0 rfl) ?_
                              refine lv_aload_n hx hb dX12_close_94 rfl (lv_at hl 3 rfl) ?_
                              obtain ⟨fa_1731, hi_1731, wd_1731, mo_1731, tb_1731, dp_1731, many_1731, grt_1731, lst_1731, nou_1731, rm_1731, rb_1731, pr_1731, wo_1731, es1731, p0_1731, p1_1731, p2_1731, p3_1731, p4_1731⟩ := getr_M hI_1730
                              have hfx_1732 : pr_1731 = nI S_1730.length := (show pr_1731 = rdI (en_1730 0) 25 from by rw [es1731]; rfl).trans (hrc_1730.1)
                              rw [hfx_1732] at es1731
                              have hq2_1733 : wd_1731 = wd := n_eq ((show nI wd_1731 = rdI (en_1730 0) 2 from by rw [es1731]; rfl).trans (i1_1730.2.1.trans (show rdI (en 0) 2 = nI wd from by rw [es1687]; rfl))) (by omega) (by omega)
                              have hq3_1733 : mo_1731 = mo := n_eq ((show nI mo_1731 = rdI (en_1730 0) 3 from by rw [es1731]; rfl).trans (i1_1730.2.2.1.trans (show rdI (en 0) 3 = nI mo from by rw [es1687]; rfl))) (by omega) (by omega)
                              have hq4_1733 : tb_1731 = tb := n_eq ((show nI tb_1731 = rdI (en_1730 0) 4 from by rw [es1731]; rfl).trans (i1_1730.2.2.2.1.trans (show rdI (en 0) 4 = nI tb from by rw [es1687]; rfl))) (by omega) (by omega)
                              have hq30_1733 : wo_1731 = wo := n_eq ((show nI wo_1731 = rdI (en_1730 0) 30 from by rw [es1731]; rfl).trans (i1_1730.2.2.2.2.trans (show rdI (en 0) 30 = nI wo from by rw [es1687]; rfl))) (by omega) (by omega)
                              rw [hq2_1733, hq3_1733, hq4_1733, hq30_1733] at es1731
                              refine hp_get hx hb hts ix12 hown hK hh (q := 0) rfl (hI.1 _ (by decide)) es1731 rfl 4 (by decide) (hts _ tw_883) (fun _ h9 => h9) rfl dX12_close_95 ?_
                              refine lv_icmp_ge (tgt := 137) hx hb dX12_close_98 (by decide) (fun c_1734 => ?_) (fun c_1734 => ?_)
                              · have n_1734 : tb ≤ j1730 := n_le (a := tb) (b := j1730) c_1734 (by omega) (by omega)
                                refine lv_iinc (v := (nI (j1721 + 1))) (lv' := [(2, .int (nI (j1721 + 1))), (3, .int (nI j1730)), (1, .int my1730), (0, .ref (ad 0))]) hx hb dX12_close_137 hl (k := 1) rfl (nI_1 _) (by decide) rfl (fun ls hl => ?_)
                                refine lv_goto (tgt := 79) hx hb dX12_close_140 (by decide) ?_
                                exact ih_1721 ((j1721 + 1)) my1730 en_1730 ls H locs (by omega) (by omega) (by omega) hI_1730 hf_1730 (⟨S_1730, hrc_1730, hPx_1730.elim Or.inl (fun q => Or.inr ⟨q.1, (st_s hsq_1721.2 hgx_1721).trans (by have e9 : j1730 = tb := (by omega); rw [hkq, ← e9]; exact q.2)⟩)⟩) (i1_1730) (lv_sub hl [0, 2, 3] rfl) hh
                              · have n_1734 : j1730 < tb := n_nle (a := tb) (b := j1730) c_1734 (by omega) (by omega)
                                refine lv_iload_n hx hb dX12_close_101 rfl (lv_at hl 2 rfl) ?_
                                refine lv_if_eq (tgt := 137) hx hb dX12_close_102 (by decide) (fun c_1735 => ?_) (fun c_1735 => ?_)
                                · refine lv_iinc (v := (nI (j1721 + 1))) (lv' := [(2, .int (nI (j1721 + 1))), (3, .int (nI j1730)), (1, .int my1730), (0, .ref (ad 0))]) hx hb dX12_close_137 hl (k := 1) rfl (nI_1 _) (by decide) rfl (fun ls hl => ?_)
                                  refine lv_goto (tgt := 79) hx hb dX12_close_140 (by decide) ?_
                                  exact ih_1721 ((j1721 + 1)) my1730 en_1730 ls H locs (by omega) (by omega) (by omega) hI_1730 hf_1730 (⟨S_1730, hrc_1730, hPx_1730.elim Or.inl (fun q => absurd (q.1.symm.trans c_1735) (by decide))⟩) (i1_1730) (lv_sub hl [0, 2, 3] rfl) hh
                                · have hex_1730 := (hPx_1730.resolve_left (fun q => c_1735 q.1)).2
                                  have hgz_1730 := (ex_wf hrc_1721.2.1 _ _ hex_1730).2.2 j1721 x_1721 hgx_1721
                                  refine lv_aload_n hx hb dX12_close_105 rfl (lv_at hl 3 rfl) ?_
                                  refine lv_iload_n hx hb dX12_close_106 rfl (lv_at hl 1 rfl) ?_
                                  refine lv_iconst (v := 0) hx hb dX12_close_107 (by decide) ?_
                                  refine hp_callMv (va_runV (As := [.int (nI j1721), .int 0]) (rest := []) ⟨hx, hb, hml, hown, hts⟩ (c_X12_layProduct l D cy _ cs ad en_1730 hI_1730 j1721 0 (by omega) (by omega) (dQ en * dQ en) (show dQ en * dQ en = dQ en_1730 * dQ en_1730 from by unfold dQ; rw [i1_1730.2.1])) (kw_X12_layProduct hts tw_1133 ⟨by decide, by decide⟩) (preV_of hh hK (hI.1 _ (by decide)) es1731 rfl) rfl rfl hl.1 rfl (lv_room (Nat.le_of_ble_eq_true rfl)) dX12_close_108 ⟨Nat.le_of_ble_eq_true rfl, Nat.le_of_ble_eq_true rfl⟩) hh hA (fun H locs en_1736 hw_1736 hh => ?_)
                                  obtain ⟨hI_1736, hu_1736, hx_1736⟩ := hw_1736
                                  have es1731_1736 : en_1736 0 = .inr (11, [.int fa_1731, .int hi_1731, .int (nI wd), .int (nI mo), .int (nI tb), .ref (ad 1), .ref (ad 2), .ref (ad 3), .ref (ad 4), .ref (ad 5), .ref (ad 6), .ref (ad 7), .ref (ad 8), .ref (ad 9), .int dp_1731, .long many_1731, .long grt_1731, .long lst_1731, .long nou_1731, .ref (ad 10), .ref (ad 11), .ref (ad 12), .int rm_1731, .long rb_1731, .ref (ad 13), .int (nI S_1730.length), .ref (ad 14), .ref (ad 15), .ref (ad 16), .ref (ad 17), .int (nI wo), .ref (ad 18), .ref (ad 19)]) := (hu_1736 0 (by omega)).trans es1731
                                  have hf_1736 : ∀ c, (c ≠ 0 ∧ c ≠ 6 ∧ c ≠ 14 ∧ c ≠ 15 ∧ c ≠ 16 ∧ c ≠ 17) → en_1736 c = en c := fun c hc => (hu_1736 c (by omega)).trans (hf_1730 c hc)
                                  have hkp_1736 : KPp en en_1736 := KPp_same i1_1730 (hu_1736 0 (by omega))
                                  have hRC_1736 := RC_k (e1 := en_1736) hrc_1730 (by rw [hu_1736 0 (by omega)]) (hu_1736 14 (by omega)) (hu_1736 15 (by omega)) (hu_1736 16 (by omega)) (hu_1736 17 (by omega))
                                  refine lv_aload_n hx hb dX12_close_111 rfl (lv_at hl 3 rfl) ?_
                                  refine lv_iconst (v := 0) hx hb dX12_close_112 (by decide) ?_
                                  refine lv_iload_n hx hb dX12_close_113 rfl (lv_at hl 0 rfl) ?_
                                  refine hp_callMv (va_runV (As := [.int 0, .int (nI j1730)]) (rest := []) ⟨hx, hb, hml, hown, hts⟩ (c_X12_goOn l D cy _ cs ad en_1736 hI_1736 0 j1730 (by omega) (by omega)) (kw_X12_goOn hts tw_1050 ⟨by decide, by decide⟩) (preV_of hh hK (hI.1 _ (by decide)) es1731_1736 rfl) rfl rfl hl.1 rfl (lv_room (Nat.le_of_ble_eq_true rfl)) dX12_close_114 ⟨Nat.le_of_ble_eq_true rfl, Nat.le_of_ble_eq_true rfl⟩) hh hA (fun H locs en_1737 hw_1737 hh => ?_)
                                  obtain ⟨hI_1737, hu_1737, hx_1737⟩ := hw_1737
                                  have es1731_1737 : en_1737 0 = .inr (11, [.int fa_1731, .int hi_1731, .int (nI wd), .int (nI mo), .int (nI tb), .ref (ad 1), .ref (ad 2), .ref (ad 3), .ref (ad 4), .ref (ad 5), .ref (ad 6), .ref (ad 7), .ref (ad 8), .ref (ad 9), .int dp_1731, .long many_1731, .long grt_1731, .long lst_1731, .long nou_1731, .ref (ad 10), .ref (ad 11), .ref (ad 12), .int rm_1731, .long rb_1731, .ref (ad 13), .int (nI S_1730.length), .ref (ad 14), .ref (ad 15), .ref (ad 16), .ref (ad 17), .int (nI wo), .ref (ad 18), .ref (ad 19)]) := (hu_1737 0 (by omega)).trans es1731_1736
                                  have hf_1737 : ∀ c, (c ≠ 0 ∧ c ≠ 6 ∧ c ≠ 14 ∧ c ≠ 15 ∧ c ≠ 16 ∧ c ≠ 17) → en_1737 c = en c := fun c hc => (hu_1737 c (by omega)).trans (hf_1736 c hc)
                                  have hkp_1737 : KPp en en_1737 := KPp_same hkp_1736 (hu_1737 0 (by omega))
                                  have hRC_1737 := RC_k (e1 := en_1737) hRC_1736 (by rw [hu_1737 0 (by omega)]) (hu_1737 14 (by omega)) (hu_1737 15 (by omega)) (hu_1737 16 (by omega)) (hu_1737 17 (by omega))
                                  have hlz_1730 : ∀ x, x < (dQ en * dQ en) → rdL (en_1736 6) (9 * 0 + x) = vg x_1721.1 x := fun x hx => (hx_1736 x hx).trans (RC_row hrc_1730 hgz_1730 x hx)
                                  have hvc_1730 : vec (dQ en * dQ en) (lvl 1 en_1737) = MQ9 en x_1721.1 j1730 := GO_m rfl hw9 hx_1737 (hkp_1736.2.1) (hkp_1736.2.2.1) (hf_1736 1 (by omega)) hlz_1730
                                  refine lv_aload_n hx hb dX12_close_117 rfl (lv_at hl 3 rfl) ?_
                                  refine lv_iconst (v := 1) hx hb dX12_close_118 (by decide) ?_
                                  refine lv_aload_n hx hb dX12_close_119 rfl (lv_at hl 3 rfl) ?_
                                  refine hp_get hx hb hts ix12 hown hK hh (q := 0) rfl (hI.1 _ (by decide)) es1731_1737 rfl 27 (by decide) (hts _ tw_906) (fun _ h9 => h9) rfl dX12_close_120 ?_
                                  refine lv_iload_n hx hb dX12_close_123 rfl (lv_at hl 1 rfl) ?_
                                  obtain ⟨f_1738, es1738⟩ := getr_ln hI_1737
                                  refine hp_iald hx hb hK hh (q := 15) rfl (hI.1 _ (by decide)) es1738 (vp_in_nI (n := j1721) (by omega) (by decide)) dX12_close_124 ?_
                                  rw [nI_clamp (n := j1721) (by omega)]
                                  refine lv_iconst (v := 1) hx hb dX12_close_125 (by decide) ?_
                                  refine lv_iadd hx hb dX12_close_126 ?_
                                  have hwl_1730 : f_1738 j1721 = x_1721.2 := (show f_1738 j1721 = rdF (en_1737 15) j1721 from by rw [es1738]; rfl).trans (RC_len hRC_1737 hgz_1730)
                                  have hst_1730 : ex9 beyB (MQ9 en) x_1721.1 x_1721.2 S_1721 (j1730 + 1) = tk beyB S_1730 (vec (dQ en * dQ en) (lvl 1 en_1737)) (f_1738 j1721 + 1) := by rw [ex_s hex_1730, hvc_1730, hwl_1730]
                                  refine hp_callMi (va_runV (As := [.int 1, .int ((f_1738 j1721) + 1)]) (rest := []) ⟨hx, hb, hml, hown, hts⟩ (c_X12_comes l D cy _ cs ad en_1737 hI_1737 1 ((f_1738 j1721) + 1) (by omega) (dQ en * dQ en) (show dQ en * dQ en = dQ en_1737 * dQ en_1737 from by unfold dQ; rw [hkp_1737.2.1]) S_1730 hRC_1737) (kw_X12_comes hts tw_1117 ⟨by decide, by decide⟩) (preV_of hh hK (hI.1 _ (by decide)) es1731_1737 rfl) rfl rfl hl.1 rfl (lv_room (Nat.le_of_ble_eq_true rfl)) dX12_close_127 ⟨Nat.le_of_ble_eq_true rfl, Nat.le_of_ble_eq_true rfl⟩) hh hA (fun r_1739 H locs en_1739 hw_1739 hh => ?_)
                                  obtain ⟨hI_1739, hu_1739, hy_1739, hx_1739⟩ := hw_1739
                                  have hw_1739 := (⟨hI_1739, hu_1739, hx_1739⟩ : _ ∧ _ ∧ _)
                                  obtain ⟨hI_1739, hu_1739, hx_1739⟩ := hw_1739
                                  have hf_1739 : ∀ c, (c ≠ 0 ∧ c ≠ 6 ∧ c ≠ 14 ∧ c ≠ 15 ∧ c ≠ 16 ∧ c ≠ 17) → en_1739 c = en c := fun c hc => (hu_1739 c (by omega)).trans (hf_1737 c hc)
                                  have hkp_1739 : KPp en en_1739 := KPp_tr hkp_1737 hx_1739
                                  rcases hy_1739 with ⟨hr_1739, T_1739, ht_1739, hrc_1739⟩ | ⟨hr_1739, hrc_1739, ht_1739⟩
                                  · rw [hr_1739]
                                    refine lv_istore_n (lv' := [(1, .int 1), (3, .int (nI j1730)), (2, .int (nI j1721)), (0, .ref (ad 0))]) hx hb dX12_close_130 rfl hl (by decide) rfl (fun ls hl => ?_)
                                    refine lv_iinc (v := (nI (j1730 + 1))) (lv' := [(3, .int (nI (j1730 + 1))), (1, .int 1), (2, .int (nI j1721)), (0, .ref (ad 0))]) hx hb dX12_close_131 hl (k := 1) rfl (nI_1 _) (by decide) rfl (fun ls hl => ?_)
                                    refine lv_goto (tgt := 93) hx hb dX12_close_134 (by decide) ?_
                                    exact ih_1730 ((j1730 + 1)) 1 en_1739 ls H locs (by omega) (by omega) (by omega) hI_1739 hf_1739 (⟨T_1739, hrc_1739, Or.inr ⟨rfl, hst_1730.trans ht_1739⟩⟩) (hkp_1739) (lv_sub hl [0, 2, 1, 3] rfl) hh
                                  · rw [hr_1739]
                                    refine lv_istore_n (lv' := [(1, .int 0), (3, .int (nI j1730)), (2, .int (nI j1721)), (0, .ref (ad 0))]) hx hb dX12_close_130 rfl hl (by decide) rfl (fun ls hl => ?_)
                                    refine lv_iinc (v := (nI (j1730 + 1))) (lv' := [(3, .int (nI (j1730 + 1))), (1, .int 0), (2, .int (nI j1721)), (0, .ref (ad 0))]) hx hb dX12_close_131 hl (k := 1) rfl (nI_1 _) (by decide) rfl (fun ls hl => ?_)
                                    refine lv_goto (tgt := 93) hx hb dX12_close_134 (by decide) ?_
                                    exact ih_1730 ((j1730 + 1)) 0 en_1739 ls H locs (by omega) (by omega) (by omega) hI_1739 hf_1739 (⟨S_1730, hrc_1739, Or.inl ⟨rfl, st_none ((st_s hsq_1721.2 hgx_1721).trans (ex_none (hst_1730.trans ht_1739) (by rw [hkq]; omega))) (by omega)⟩⟩) (hkp_1739) (lv_sub hl [0, 2, 1, 3] rfl) hh
                          exact loop_1730 (tb + 1) 0 my1721 en_1721 ls _ _ (Nat.le_refl _) (by omega) (by omega) hI_1721 hf_1721 (⟨S_1721, hrc_1721, Or.inr ⟨hsq_1721.1, rfl⟩⟩) (i1_1721) (lv_sub hl [0, 1, 2, 3] rfl) hh
                  exact loop_1721 (2000 + 1) 0 my1696 en_1696 ls _ _ (Nat.le_refl _) (by omega) (by omega) hI_1696 hf_1696 (⟨S_1696, hrc_1696, hPx_1696.elim Or.inl (fun q => absurd (q.1.symm.trans c_1720) (by decide))⟩) (i1_1696) (lv_sub hl [0, 1, 2] rfl) hh
                · have hlt_1696 := (hPx_1696.resolve_left (fun q => c_1720 q.1)).2
                  refine lv_aload_n hx hb dX12_close_58 rfl (lv_at hl 2 rfl) ?_
                  refine lv_iconst (v := 0) hx hb dX12_close_59 (by decide) ?_
                  refine lv_iload_n hx hb dX12_close_60 rfl (lv_at hl 0 rfl) ?_
                  refine hp_callMv (va_runV (As := [.int 0, .int (nI j1696)]) (rest := []) ⟨hx, hb, hml, hown, hts⟩ (c_X12_goOn l D cy _ cs ad en_1696 hI_1696 0 j1696 (by omega) (by omega)) (kw_X12_goOn hts tw_1050 ⟨by decide, by decide⟩) (preV_of hh hK (hI.1 _ (by decide)) es1697 rfl) rfl rfl hl.1 rfl (lv_room (Nat.le_of_ble_eq_true rfl)) dX12_close_61 ⟨Nat.le_of_ble_eq_true rfl, Nat.le_of_ble_eq_true rfl⟩) hh hA (fun H locs en_1740 hw_1740 hh => ?_)
                  obtain ⟨hI_1740, hu_1740, hx_1740⟩ := hw_1740
                  have es1697_1740 : en_1740 0 = .inr (11, [.int fa_1697, .int hi_1697, .int (nI wd), .int (nI mo), .int (nI tb), .ref (ad 1), .ref (ad 2), .ref (ad 3), .ref (ad 4), .ref (ad 5), .ref (ad 6), .ref (ad 7), .ref (ad 8), .ref (ad 9), .int dp_1697, .long many_1697, .long grt_1697, .long lst_1697, .long nou_1697, .ref (ad 10), .ref (ad 11), .ref (ad 12), .int rm_1697, .long rb_1697, .ref (ad 13), .int (nI S_1696.length), .ref (ad 14), .ref (ad 15), .ref (ad 16), .ref (ad 17), .int (nI wo), .ref (ad 18), .ref (ad 19)]) := (hu_1740 0 (by omega)).trans es1697
                  have hf_1740 : ∀ c, (c ≠ 0 ∧ c ≠ 6 ∧ c ≠ 14 ∧ c ≠ 15 ∧ c ≠ 16 ∧ c ≠ 17) → en_1740 c = en c := fun c hc => (hu_1740 c (by omega)).trans (hf_1696 c hc)
                  have hkp_1740 : KPp en en_1740 := KPp_same i1_1696 (hu_1740 0 (by omega))
                  have hRC_1740 := RC_k (e1 := en_1740) hrc_1696 (by rw [hu_1740 0 (by omega)]) (hu_1740 14 (by omega)) (hu_1740 15 (by omega)) (hu_1740 16 (by omega)) (hu_1740 17 (by omega))
                  have hvc_1696 : vec (dQ en * dQ en) (lvl 1 en_1740) = RQ en j1696 := GO_r rfl hw9 hx_1740 (i1_1696.2.1) (i1_1696.2.2.1) (hf_1696 1 (by omega)) hun_1696
                  have hst_1696 : lt9 beyB (RQ en) (j1696 + 1) = tk beyB S_1696 (vec (dQ en * dQ en) (lvl 1 en_1740)) 1 := by rw [ltk_s hlt_1696, hvc_1696]
                  refine lv_aload_n hx hb dX12_close_64 rfl (lv_at hl 2 rfl) ?_
                  refine lv_iconst (v := 1) hx hb dX12_close_65 (by decide) ?_
                  refine lv_iconst (v := 1) hx hb dX12_close_66 (by decide) ?_
                  refine hp_callMi (va_runV (As := [.int 1, .int 1]) (rest := []) ⟨hx, hb, hml, hown, hts⟩ (c_X12_comes l D cy _ cs ad en_1740 hI_1740 1 1 (by omega) (dQ en * dQ en) (show dQ en * dQ en = dQ en_1740 * dQ en_1740 from by unfold dQ; rw [hkp_1740.2.1]) S_1696 hRC_1740) (kw_X12_comes hts tw_1117 ⟨by decide, by decide⟩) (preV_of hh hK (hI.1 _ (by decide)) es1697_1740 rfl) rfl rfl hl.1 rfl (lv_room (Nat.le_of_ble_eq_true rfl)) dX12_close_67 ⟨Nat.le_of_ble_eq_true rfl, Nat.le_of_ble_eq_true rfl⟩) hh hA (fun r_1741 H locs en_1741 hw_1741 hh => ?_)
                  obtain ⟨hI_1741, hu_1741, hy_1741, hx_1741⟩ := hw_1741
                  have hw_1741 := (⟨hI_1741, hu_1741, hx_1741⟩ : _ ∧ _ ∧ _)
                  obtain ⟨hI_1741, hu_1741, hx_1741⟩ := hw_1741
                  have hf_1741 : ∀ c, (c ≠ 0 ∧ c ≠ 6 ∧ c ≠ 14 ∧ c ≠ 15 ∧ c ≠ 16 ∧ c ≠ 17) → en_1741 c = en c := fun c hc => (hu_1741 c (by omega)).trans (hf_1740 c hc)
                  have hkp_1741 : KPp en en_1741 := KPp_tr hkp_1740 hx_1741
                  rcases hy_1741 with ⟨hr_1741, T_1741, ht_1741, hrc_1741⟩ | ⟨hr_1741, hrc_1741, ht_1741⟩
                  · rw [hr_1741]
                    refine lv_istore_n (lv' := [(1, .int 1), (2, .int (nI j1696)), (0, .ref (ad 0))]) hx hb dX12_close_70 rfl hl (by decide) rfl (fun ls hl => ?_)
                    refine lv_iinc (v := (nI (j1696 + 1))) (lv' := [(2, .int (nI (j1696 + 1))), (1, .int 1), (0, .ref (ad 0))]) hx hb dX12_close_71 hl (k := 1) rfl (nI_1 _) (by decide) rfl (fun ls hl => ?_)
                    refine lv_goto (tgt := 46) hx hb dX12_close_74 (by decide) ?_
                    exact ih_1696 ((j1696 + 1)) 1 en_1741 ls H locs (by omega) (by omega) (by omega) hI_1741 hf_1741 (⟨T_1741, hrc_1741, (fun x hx => by rw [hu_1741 6 (by omega)]; exact (GO_k hx_1740 (by omega)).trans (hun_1696 x hx)), Or.inr ⟨rfl, hst_1696.trans ht_1741⟩⟩) (hkp_1741) (lv_sub hl [0, 1, 2] rfl) hh
                  · rw [hr_1741]
                    refine lv_istore_n (lv' := [(1, .int 0), (2, .int (nI j1696)), (0, .ref (ad 0))]) hx hb dX12_close_70 rfl hl (by decide) rfl (fun ls hl => ?_)
                    refine lv_iinc (v := (nI (j1696 + 1))) (lv' := [(2, .int (nI (j1696 + 1))), (1, .int 0), (0, .ref (ad 0))]) hx hb dX12_close_71 hl (k := 1) rfl (nI_1 _) (by decide) rfl (fun ls hl => ?_)
                    refine lv_goto (tgt := 46) hx hb dX12_close_74 (by decide) ?_
                    exact ih_1696 ((j1696 + 1)) 0 en_1741 ls H locs (by omega) (by omega) (by omega) hI_1741 hf_1741 (⟨S_1696, hrc_1741, (fun x hx => by rw [hu_1741 6 (by omega)]; exact (GO_k hx_1740 (by omega)).trans (hun_1696 x hx)), Or.inl ⟨rfl, clo_l0 (hst_1696.trans ht_1741) (by rw [hkq]; omega)⟩⟩) (hkp_1741) (lv_sub hl [0, 1, 2] rfl) hh
          exact loop_1696 (tb + 1) 0 1 en_1695 ls _ _ (Nat.le_refl _) (by omega) (by omega) hI_1695 hf_1695 (⟨[], hRC_1695, hun0, Or.inr ⟨rfl, rfl⟩⟩) (hkp_1695) (lv_sub hl [0, 1, 2] rfl) hh
        · have n_1691 : j1690 < 4096 := n_nle (a := 4096) (b := j1690) c_1691 (by decide) (by omega)
          refine lv_aload_n hx hb dX12_close_24 rfl (lv_at hl 1 rfl) ?_
          obtain ⟨fa_1742, hi_1742, wd_1742, mo_1742, tb_1742, dp_1742, many_1742, grt_1742, lst_1742, nou_1742, rm_1742, rb_1742, pr_1742, wo_1742, es1742, p0_1742, p1_1742, p2_1742, p3_1742, p4_1742⟩ := getr_M hI_1690
          have hfx_1743 : pr_1742 = nI 0 := (show pr_1742 = rdI (en_1690 0) 25 from by rw [es1742]; rfl).trans (i1_1690)
          rw [hfx_1743] at es1742
          have hq2_1744 : wd_1742 = wd := n_eq ((show nI wd_1742 = rdI (en_1690 0) 2 from by rw [es1742]; rfl).trans (i2_1690.2.1.trans (show rdI (en 0) 2 = nI wd from by rw [es1687]; rfl))) (by omega) (by omega)
          have hq3_1744 : mo_1742 = mo := n_eq ((show nI mo_1742 = rdI (en_1690 0) 3 from by rw [es1742]; rfl).trans (i2_1690.2.2.1.trans (show rdI (en 0) 3 = nI mo from by rw [es1687]; rfl))) (by omega) (by omega)
          have hq4_1744 : tb_1742 = tb := n_eq ((show nI tb_1742 = rdI (en_1690 0) 4 from by rw [es1742]; rfl).trans (i2_1690.2.2.2.1.trans (show rdI (en 0) 4 = nI tb from by rw [es1687]; rfl))) (by omega) (by omega)
          have hq30_1744 : wo_1742 = wo := n_eq ((show nI wo_1742 = rdI (en_1690 0) 30 from by rw [es1742]; rfl).trans (i2_1690.2.2.2.2.trans (show rdI (en 0) 30 = nI wo from by rw [es1687]; rfl))) (by omega) (by omega)
          rw [hq2_1744, hq3_1744, hq4_1744, hq30_1744] at es1742
          refine hp_get hx hb hts ix12 hown hK hh (q := 0) rfl (hI.1 _ (by decide)) es1742 rfl 28 (by decide) (hts _ tw_907) (fun _ h9 => h9) rfl dX12_close_25 ?_
          refine lv_iload_n hx hb dX12_close_28 rfl (lv_at hl 0 rfl) ?_
          refine lv_bipush (v := (-9)) hx hb dX12_close_29 (by decide) ?_
          obtain ⟨f_1745, es1745⟩ := getr_hd hI_1690
          refine hp_iast hx hb hK hh (q := 16) rfl (hI.1 _ (by decide)) es1745 (vp_in_nI (n := j1690) (by omega) (by decide)) dX12_close_31 (fun H locs en_1746 hen_1746 hh => ?_)
          rw [nI_clamp (n := j1690) (by omega)] at hen_1746
          have es1742_1746 : en_1746 0 = .inr (11, [.int fa_1742, .int hi_1742, .int (nI wd), .int (nI mo), .int (nI tb), .ref (ad 1), .ref (ad 2), .ref (ad 3), .ref (ad 4), .ref (ad 5), .ref (ad 6), .ref (ad 7), .ref (ad 8), .ref (ad 9), .int dp_1742, .long many_1742, .long grt_1742, .long lst_1742, .long nou_1742, .ref (ad 10), .ref (ad 11), .ref (ad 12), .int rm_1742, .long rb_1742, .ref (ad 13), .int (nI 0), .ref (ad 14), .ref (ad 15), .ref (ad 16), .ref (ad 17), .int (nI wo), .ref (ad 18), .ref (ad 19)]) := by rw [hen_1746, va_up_ne _ _ (by decide)]; exact es1742
          have es1745_1746 : en_1746 16 = .inl (cy 0, 4096, .inl (upd f_1745 j1690 (-9))) := by rw [hen_1746]; exact va_up_self _ _ _
          have hI_1746 : RX cy cs ad en_1746 := by rw [hen_1746]; exact upr_hd hI_1690 ⟨(upd f_1745 j1690 (-9)), rfl⟩
          have hf_1746 : ∀ c, (c ≠ 0 ∧ c ≠ 6 ∧ c ≠ 14 ∧ c ≠ 15 ∧ c ≠ 16 ∧ c ≠ 17) → en_1746 c = en c := fun c hc => Eq.trans (show en_1746 c = en_1690 c from by rw [hen_1746, va_up_ne _ _ (by omega)]) (hf_1690 c hc)
          have hkp_1746 : KPp en en_1746 := KPp_same i2_1690 (show en_1746 0 = en_1690 0 from by rw [hen_1746, va_up_ne _ _ (by decide)])
          refine lv_iinc (v := (nI (j1690 + 1))) (lv' := [(1, .int (nI (j1690 + 1))), (0, .ref (ad 0))]) hx hb dX12_close_32 hl (k := 0) rfl (nI_1 _) (by decide) rfl (fun ls hl => ?_)
          refine lv_goto (tgt := 17) hx hb dX12_close_35 (by decide) ?_
          exact ih_1690 ((j1690 + 1))  en_1746 ls H locs (by omega) (by omega) (by omega) hI_1746 hf_1746 (fun i hi => by rw [es1745_1746]; exact z_upd hi rfl (fun h9 => (show f_1745 i = rdF (en_1690 16) i from by rw [es1745]; rfl).trans (i0_1690 i h9))) (by rw [es1742_1746]; rfl) (hkp_1746) (lv_sub hl [0, 1] rfl) hh
    exact loop_1690 (4096 + 1) 0  en_1689 ls _ _ (Nat.le_refl _) (by omega) (by omega) hI_1689 hf_1689 (fun i h => absurd h (Nat.not_lt_zero i)) (by rw [es1687_1689]; rfl) (hkp_1689) (lv_sub hl [0, 1] rfl) hh
  · have n_1688 : tb = 0 := n_eq (a := tb) (b := 0) c_1688 (by omega) (by decide)
    refine lv_bipush (v := (-3)) hx hb dX12_close_7 (by decide) ?_
    exact hp_iretM hx hb hr rfl hlocks hh (⟨hI, hf0, hCX, hRX, Or.inl ⟨(show rdI (en 0) 4 = nI tb from by rw [es1687]; rfl).trans (congrArg nI (show tb = 0 by omega)), rfl, rfl⟩, (KPp_rf en)⟩) dX12_close_9
theorem kw_X12_close {R : Room} {s : State} {args : Array Value} {own : String} {idx : Nat} (hts : ∀ w ∈ TB, w.before args s = true) (hl : Cond.methodLink own idx yX12_close ∈ TB) (hR : 3 + 1 ≤ R.frames ∧ 8 + (4 + 11) + 40 * 3 ≤ R.locals) : CallW R s args own RX12 idx yX12_close cX12_close 4 (some .int) (Cond.code yX12_close cX12_close 4 (some .int) :: TB) (rmN 3) 0 0 0 := cwV 0 hts (TB_V hl tw_1114 tw_1115 tw_9 tw_1116) rfl rfl rfl (by decide +kernel) hR
