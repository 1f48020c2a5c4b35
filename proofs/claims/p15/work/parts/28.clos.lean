set_option maxHeartbeats 4000000 in
set_option maxRecDepth 100000 in
/-- isBeyond -/
theorem c_X0_isBeyond (l : Launch) (D : va_G) (cy : Nat → ClassId) (sz : Nat) (cs : List Nat) (ad : Nat → Nat) (en : Nat → va_E) {ka kb kc : Nat} (hI : SC cy cs ad ka kb kc en) (q : Nat) (hq : q ∈ cs) (hq9 : q < 115) (fa : Nat → Int64) (n : Nat) (hn9 : n ≤ 9) (hn8 : rdI (en 70) 8 = nI n) (eq : en q = .inl (cy 1, 9, .inr (.inl fa)))  : Met l yX0_isBeyond (Cond.code yX0_isBeyond cX0_isBeyond 3 (some .boolean) :: TB) (rmN 1) (va_Pc [.ref (ad 70), .ref (ad q)] (Pre D cy cs ad en sz)) (va_Qi (S := Unit) (fun r _ => bI r (bX (vec n fa) = true)) (fun _ _ => True) (Nf sz)) 0 0 (Nf sz) := by
  refine Met.ofW (cc := cX0_isBeyond) (maxL := 3) (ret := (some .boolean)) (by decide) rfl ?_
  intro p e s m args below meth c s₁ B hml hv
  obtain ⟨rfl, hsz, hP, hK, hD0⟩ := hv
  have hx := B.exec
  have hb := B.bytes
  have hr := B.returns
  have hts : ∀ w ∈ TB, w.before _ s = true := fun w h => atoms_spec (ws := _ :: TB) B.pre w (List.mem_cons_of_mem _ h)
  have hown : s.vm.findClass RX0 = some m.cls := findClass_of_methodNamed B.named
  have hlocks := B.notSynchronized
  have hh : Hp D (Nf sz) (fun _ => True) s.heap s.heap [] cs ad en := ⟨hP, hD0, va_S.rf⟩
  have hA : ∀ q : Nat, s.heap.size ≤ q → Nf sz q := fun q h => by rw [hsz] at h; exact h
  have hl := lv_entry ([.ref (ad 70), .ref (ad q)]) (n := 3) (Nat.le_of_ble_eq_true rfl)
  rw [lg_entry_eq]
  generalize (lg_sl ([.ref (ad 70), .ref (ad q)]) ++ List.replicate (3 - (lg_sl ([.ref (ad 70), .ref (ad q)])).length) Slot.unset).toArray = ls at hl ⊢
  have hl : lv_has ls 3 [(0, .ref (ad 70)), (1, .ref (ad q))] := hl
  have hka1 : 115 ≤ ka := hI.2.1.2.2.2.1
  have hka2 : ka < kb := hI.2.1.2.2.2.2.1
  have hka3 : kb < kc := hI.2.1.2.2.2.2.2
  obtain ⟨sta_633, cc_633, ct_633, un_633, ow_633, hn_633, es633, p0_633, p1_633, p2_633, p3_633⟩ := get2_C hI
  have hcc9 : cc_633 = n := n_eq ((show nI cc_633 = rdI (en 70) 8 from by rw [es633]; rfl).trans hn8) (by omega) (by omega)
  refine lv_iconst (v := 0) hx hb dX0_isBeyond_0 (by decide) ?_
  refine lv_istore_n (lv' := [(2, .int 0), (0, .ref (ad 70)), (1, .ref (ad q))]) hx hb dX0_isBeyond_1 rfl hl (by decide) rfl (fun ls hl => ?_)
  have loop_634 : ∀ (fu j634 : Nat)   (ls : Array Slot) (H : Heap) (locs : List Loc), 0 ≤ j634 → j634 ≤ cc_633 → cc_633 < j634 + fu →  (∀ i, i < j634 → ¬ (1000000 : Int64).toInt < (absL (fa i)).toInt) → lv_has ls 3 [(2, .int (nI j634)), (0, .ref (ad 70)), (1, .ref (ad q))] → Hp D (Nf sz) (fun _ => True) s.heap H locs cs ad en → W p l e (headSpec (Cond.code yX0_isBeyond cX0_isBeyond 3 (some .boolean) :: TB) (rmN 1)).room s m ([.ref (ad 70), .ref (ad q)] : List Value).toArray below meth c H locs 0 0 (MQ below (va_Qi (S := Unit) (fun r _ => bI r (bX (vec n fa) = true)) (fun _ _ => True) (Nf sz)) ([.ref (ad 70), .ref (ad q)] : List Value).toArray s 0 0 (Nf sz)) (F0 m 2 ls []) := by
    intro fu
    induction fu with
    | zero => intro j634  ls H locs h0 h1 h2; exact absurd h2 (by omega)
    | succ fu ih_634 =>
      intro j634  ls H locs hj0_634 hj_634 hfu_634 i0_634 hl hh
      refine lv_iload_n hx hb dX0_isBeyond_2 rfl (lv_at hl 0 rfl) ?_
      refine lv_aload_n hx hb dX0_isBeyond_3 rfl (lv_at hl 1 rfl) ?_
      refine hp_get hx hb hts ix0 hown hK hh (q := 70) rfl (hI.1.1 _ (by decide)) es633 rfl 8 (by decide) (hts _ tw_155) (fun _ h9 => h9) rfl dX0_isBeyond_4 ?_
      refine lv_icmp_ge (tgt := 31) hx hb dX0_isBeyond_7 (by decide) (fun c_635 => ?_) (fun c_635 => ?_)
      · have n_635 : cc_633 ≤ j634 := n_le (a := cc_633) (b := j634) c_635 (by omega) (by omega)
        refine lv_iconst (v := 0) hx hb dX0_isBeyond_31 (by decide) ?_
        exact hp_iretR hx hb hr rfl hlocks hsz hh (Or.inr ⟨rfl, fun q => by obtain ⟨i, hi, h9⟩ := bX_vec.1 q; exact i0_634 i (by omega) h9⟩) dX0_isBeyond_32
      · have n_635 : j634 < cc_633 := n_nle (a := cc_633) (b := j634) c_635 (by omega) (by omega)
        refine lv_aload_n hx hb dX0_isBeyond_10 rfl (lv_at hl 2 rfl) ?_
        refine lv_iload_n hx hb dX0_isBeyond_11 rfl (lv_at hl 0 rfl) ?_
        refine hp_lald hx hb hK hh (q := q) rfl hq eq (vp_in_nI (n := j634) (by omega) (by decide)) dX0_isBeyond_12 ?_
        rw [nI_clamp (n := j634) (by omega)]
        refine va_mabs_long hx hb (hml.trans hl.1.symm) hown (hts _ tw_602) (hts _ tw_489) (hts _ tw_11) (hts _ tw_490) (Nat.le_of_ble_eq_true rfl) (Nat.le_of_ble_eq_true rfl) (Nat.le_of_ble_eq_true rfl) (Nat.le_of_ble_eq_true rfl) dX0_isBeyond_13 ?_
        refine W.eq (g2 := F0 m 16 ls [.long (absL (fa j634))]) rfl ?_
        refine lv_ldc2 hx hb hown (hts _ tw_603) dX0_isBeyond_16 ?_
        refine W.lcmp hx hb dX0_isBeyond_19 ?_
        refine lv_if_le (tgt := 25) hx hb dX0_isBeyond_20 (by decide) (fun c_636 => ?_) (fun c_636 => ?_)
        · refine lv_iinc (v := (nI (j634 + 1))) (lv' := [(2, .int (nI (j634 + 1))), (0, .ref (ad 70)), (1, .ref (ad q))]) hx hb dX0_isBeyond_25 hl (k := 0) rfl (nI_1 _) (by decide) rfl (fun ls hl => ?_)
          refine lv_goto (tgt := 2) hx hb dX0_isBeyond_28 (by decide) ?_
          exact ih_634 ((j634 + 1))  ls H locs (by omega) (by omega) (by omega) (fun i hi => (Nat.lt_or_ge i j634).elim (fun h9 => i0_634 i h9) (fun h9 => by obtain rfl : i = j634 := (by omega); exact Int.not_lt.mpr (g_le c_636))) (lv_sub hl [0, 1, 2] rfl) hh
        · refine lv_iconst (v := 1) hx hb dX0_isBeyond_23 (by decide) ?_
          exact hp_iretR hx hb hr rfl hlocks hsz hh (Or.inl ⟨rfl, bX_vec.2 ⟨j634, by omega, g_nle c_636⟩⟩) dX0_isBeyond_24
  exact loop_634 (cc_633 + 1) 0  ls _ _ (Nat.le_refl _) (by omega) (by omega) (fun i h => absurd h (Nat.not_lt_zero i)) (lv_sub hl [0, 1, 2] rfl) hh
theorem kw_X0_isBeyond {R : Room} {s : State} {args : Array Value} {own : String} {idx : Nat} (hts : ∀ w ∈ TB, w.before args s = true) (hl : Cond.methodLink own idx yX0_isBeyond ∈ TB) (hR : 1 + 1 ≤ R.frames ∧ 8 + (3 + 11) + 40 * 1 ≤ R.locals) : CallW R s args own RX0 idx yX0_isBeyond cX0_isBeyond 3 (some .boolean) (Cond.code yX0_isBeyond cX0_isBeyond 3 (some .boolean) :: TB) (rmN 1) 0 0 1 := cwV 1 hts (TB_V hl tw_600 ts_16 tw_5 tw_601) rfl rfl rfl (by decide +kernel) hR
set_option maxHeartbeats 4000000 in
set_option maxRecDepth 100000 in
/-- firstSlotOf -/
theorem c_X0_firstSlotOf (l : Launch) (D : va_G) (cy : Nat → ClassId) (sz : Nat) (cs : List Nat) (ad : Nat → Nat) (en : Nat → va_E) {ka kb kc : Nat} (hI : SC cy cs ad ka kb kc en) (q : Nat) (hq : q ∈ cs) (hq9 : q < 115) (fa : Nat → Int64) (n : Nat) (hn9 : n ≤ 9) (hn8 : rdI (en 70) 8 = nI n) (eq : en q = .inl (cy 1, 9, .inr (.inl fa)))  : Met l yX0_firstSlotOf (Cond.code yX0_firstSlotOf cX0_firstSlotOf 4 (some .int) :: TB) (rmN 0) (va_Pc [.ref (ad 70), .ref (ad q)] (Pre D cy cs ad en sz)) (va_Qi (S := Unit) (fun r _ => r = nI (hX (vec n fa))) (fun _ _ => True) (Nf sz)) 0 0 (Nf sz) := by
  refine Met.ofW (cc := cX0_firstSlotOf) (maxL := 4) (ret := (some .int)) (by decide) rfl ?_
  intro p e s m args below meth c s₁ B hml hv
  obtain ⟨rfl, hsz, hP, hK, hD0⟩ := hv
  have hx := B.exec
  have hb := B.bytes
  have hr := B.returns
  have hts : ∀ w ∈ TB, w.before _ s = true := fun w h => atoms_spec (ws := _ :: TB) B.pre w (List.mem_cons_of_mem _ h)
  have hown : s.vm.findClass RX0 = some m.cls := findClass_of_methodNamed B.named
  have hlocks := B.notSynchronized
  have hh : Hp D (Nf sz) (fun _ => True) s.heap s.heap [] cs ad en := ⟨hP, hD0, va_S.rf⟩
  have hA : ∀ q : Nat, s.heap.size ≤ q → Nf sz q := fun q h => by rw [hsz] at h; exact h
  have hl := lv_entry ([.ref (ad 70), .ref (ad q)]) (n := 4) (Nat.le_of_ble_eq_true rfl)
  rw [lg_entry_eq]
  generalize (lg_sl ([.ref (ad 70), .ref (ad q)]) ++ List.replicate (4 - (lg_sl ([.ref (ad 70), .ref (ad q)])).length) Slot.unset).toArray = ls at hl ⊢
  have hl : lv_has ls 4 [(0, .ref (ad 70)), (1, .ref (ad q))] := hl
  have hka1 : 115 ≤ ka := hI.2.1.2.2.2.1
  have hka2 : ka < kb := hI.2.1.2.2.2.2.1
  have hka3 : kb < kc := hI.2.1.2.2.2.2.2
  obtain ⟨sta_637, cc_637, ct_637, un_637, ow_637, hn_637, es637, p0_637, p1_637, p2_637, p3_637⟩ := get2_C hI
  have hcc9 : cc_637 = n := n_eq ((show nI cc_637 = rdI (en 70) 8 from by rw [es637]; rfl).trans hn8) (by omega) (by omega)
  refine lv_iconst (v := 0) hx hb dX0_firstSlotOf_0 (by decide) ?_
  refine lv_istore_n (lv' := [(2, .int 0), (0, .ref (ad 70)), (1, .ref (ad q))]) hx hb dX0_firstSlotOf_1 rfl hl (by decide) rfl (fun ls hl => ?_)
  refine lv_iconst (v := 0) hx hb dX0_firstSlotOf_2 (by decide) ?_
  refine lv_istore_n (lv' := [(3, .int 0), (2, .int 0), (0, .ref (ad 70)), (1, .ref (ad q))]) hx hb dX0_firstSlotOf_3 rfl hl (by decide) rfl (fun ls hl => ?_)
  have loop_638 : ∀ (fu j638 : Nat) (mx638 : Int32)  (ls : Array Slot) (H : Heap) (locs : List Loc), 0 ≤ j638 → j638 ≤ cc_637 → cc_637 < j638 + fu →  (mx638 = (vec j638 fa).foldl hst9 0) → lv_has ls 4 [(3, .int (nI j638)), (2, .int mx638), (0, .ref (ad 70)), (1, .ref (ad q))] → Hp D (Nf sz) (fun _ => True) s.heap H locs cs ad en → W p l e (headSpec (Cond.code yX0_firstSlotOf cX0_firstSlotOf 4 (some .int) :: TB) (rmN 0)).room s m ([.ref (ad 70), .ref (ad q)] : List Value).toArray below meth c H locs 0 0 (MQ below (va_Qi (S := Unit) (fun r _ => r = nI (hX (vec n fa))) (fun _ _ => True) (Nf sz)) ([.ref (ad 70), .ref (ad q)] : List Value).toArray s 0 0 (Nf sz)) (F0 m 4 ls []) := by
    intro fu
    induction fu with
    | zero => intro j638 mx638 ls H locs h0 h1 h2; exact absurd h2 (by omega)
    | succ fu ih_638 =>
      intro j638 mx638 ls H locs hj0_638 hj_638 hfu_638 i0_638 hl hh
      refine lv_iload_n hx hb dX0_firstSlotOf_4 rfl (lv_at hl 0 rfl) ?_
      refine lv_aload_n hx hb dX0_firstSlotOf_5 rfl (lv_at hl 2 rfl) ?_
      refine hp_get hx hb hts ix0 hown hK hh (q := 70) rfl (hI.1.1 _ (by decide)) es637 rfl 8 (by decide) (hts _ tw_155) (fun _ h9 => h9) rfl dX0_firstSlotOf_6 ?_
      refine lv_icmp_ge (tgt := 28) hx hb dX0_firstSlotOf_9 (by decide) (fun c_639 => ?_) (fun c_639 => ?_)
      · have n_639 : cc_637 ≤ j638 := n_le (a := cc_637) (b := j638) c_639 (by omega) (by omega)
        refine lv_iload_n hx hb dX0_firstSlotOf_28 rfl (lv_at hl 1 rfl) ?_
        refine lv_iload_n hx hb dX0_firstSlotOf_29 rfl (lv_at hl 1 rfl) ?_
        refine lv_bipush (v := 15) hx hb dX0_firstSlotOf_30 (by decide) ?_
        refine lv_iushr hx hb dX0_firstSlotOf_32 rfl ?_
        refine lv_ixor hx hb dX0_firstSlotOf_33 ?_
        refine lv_istore_n (lv' := [(2, .int (mx638 ^^^ ((mx638).toUInt32 >>> ((15 : Int32).toUInt32 &&& Int32.toUInt32 31)).toInt32)), (3, .int (nI j638)), (0, .ref (ad 70)), (1, .ref (ad q))]) hx hb dX0_firstSlotOf_34 rfl hl (by decide) rfl (fun ls hl => ?_)
        refine lv_iload_n hx hb dX0_firstSlotOf_35 rfl (lv_at hl 0 rfl) ?_
        refine lv_iload_n hx hb dX0_firstSlotOf_36 rfl (lv_at hl 0 rfl) ?_
        refine lv_bipush (v := 7) hx hb dX0_firstSlotOf_37 (by decide) ?_
        refine lv_iushr hx hb dX0_firstSlotOf_39 rfl ?_
        refine lv_ixor hx hb dX0_firstSlotOf_40 ?_
        refine lv_sipush (v := 4095) hx hb dX0_firstSlotOf_41 (by decide) ?_
        refine lv_iand hx hb dX0_firstSlotOf_44 ?_
        rw [a4095 ((mx638 ^^^ ((mx638).toUInt32 >>> ((15 : Int32).toUInt32 &&& Int32.toUInt32 31)).toInt32) ^^^ (((mx638 ^^^ ((mx638).toUInt32 >>> ((15 : Int32).toUInt32 &&& Int32.toUInt32 31)).toInt32)).toUInt32 >>> ((7 : Int32).toUInt32 &&& Int32.toUInt32 31)).toInt32)]
        have hq_640 : (((mx638 ^^^ ((mx638).toUInt32 >>> ((15 : Int32).toUInt32 &&& Int32.toUInt32 31)).toInt32) ^^^ (((mx638 ^^^ ((mx638).toUInt32 >>> ((15 : Int32).toUInt32 &&& Int32.toUInt32 31)).toInt32)).toUInt32 >>> ((7 : Int32).toUInt32 &&& Int32.toUInt32 31)).toInt32).toBitVec.toNat % 4096) < 4096 := Nat.mod_lt _ (by decide)
        exact hp_iretR hx hb hr rfl hlocks hsz hh (by have e9 : j638 = n := (by omega); rw [e9] at i0_638; exact congrArg (fun z => nI (hE9 z)) i0_638) dX0_firstSlotOf_45
      · have n_639 : j638 < cc_637 := n_nle (a := cc_637) (b := j638) c_639 (by omega) (by omega)
        refine lv_iload_n hx hb dX0_firstSlotOf_12 rfl (lv_at hl 1 rfl) ?_
        refine lv_ldc hx hb hown (hts _ tw_612) dX0_firstSlotOf_13 ?_
        refine lv_imul hx hb dX0_firstSlotOf_15 ?_
        refine lv_aload_n hx hb dX0_firstSlotOf_16 rfl (lv_at hl 3 rfl) ?_
        refine lv_iload_n hx hb dX0_firstSlotOf_17 rfl (lv_at hl 0 rfl) ?_
        refine hp_lald hx hb hK hh (q := q) rfl hq eq (vp_in_nI (n := j638) (by omega) (by decide)) dX0_firstSlotOf_18 ?_
        rw [nI_clamp (n := j638) (by omega)]
        refine lv_l2i hx hb dX0_firstSlotOf_19 rfl ?_
        refine lv_iadd hx hb dX0_firstSlotOf_20 ?_
        refine lv_istore_n (lv' := [(2, .int ((mx638 * 1000003) + (fa j638).toInt32)), (3, .int (nI j638)), (0, .ref (ad 70)), (1, .ref (ad q))]) hx hb dX0_firstSlotOf_21 rfl hl (by decide) rfl (fun ls hl => ?_)
        refine lv_iinc (v := (nI (j638 + 1))) (lv' := [(3, .int (nI (j638 + 1))), (2, .int ((mx638 * 1000003) + (fa j638).toInt32)), (0, .ref (ad 70)), (1, .ref (ad q))]) hx hb dX0_firstSlotOf_22 hl (k := 1) rfl (nI_1 _) (by decide) rfl (fun ls hl => ?_)
        refine lv_goto (tgt := 4) hx hb dX0_firstSlotOf_25 (by decide) ?_
        exact ih_638 ((j638 + 1)) ((mx638 * 1000003) + (fa j638).toInt32) ls H locs (by omega) (by omega) (by omega) (by rw [hs_s, ← i0_638]) (lv_sub hl [0, 1, 2, 3] rfl) hh
  exact loop_638 (cc_637 + 1) 0 0 ls _ _ (Nat.le_refl _) (by omega) (by omega) (rfl) (lv_sub hl [0, 1, 2, 3] rfl) hh
theorem kw_X0_firstSlotOf {R : Room} {s : State} {args : Array Value} {own : String} {idx : Nat} (hts : ∀ w ∈ TB, w.before args s = true) (hl : Cond.methodLink own idx yX0_firstSlotOf ∈ TB) (hR : 0 + 1 ≤ R.frames ∧ 8 + (4 + 11) + 40 * 0 ≤ R.locals) : CallW R s args own RX0 idx yX0_firstSlotOf cX0_firstSlotOf 4 (some .int) (Cond.code yX0_firstSlotOf cX0_firstSlotOf 4 (some .int) :: TB) (rmN 0) 0 0 1 := cwV 1 hts (TB_V hl tw_610 ts_18 tw_5 tw_611) rfl rfl rfl (by decide +kernel) hR
set_option maxHeartbeats 4000000 in
set_option maxRecDepth 100000 in
/-- isSame -/
theorem c_X0_isSame (l : Launch) (D : va_G) (cy : Nat → ClassId) (sz : Nat) (cs : List Nat) (ad : Nat → Nat) (en : Nat → va_E) {ka kb kc : Nat} (hI : SC cy cs ad ka kb kc en) (k : Nat) (hk : k < 2000) (q : Nat) (hq : q ∈ cs) (hq9 : q < 115) (fa : Nat → Int64) (n : Nat) (hn9 : n ≤ 9) (hn8 : rdI (en 70) 8 = nI n) (eq : en q = .inl (cy 1, 9, .inr (.inl fa)))  : Met l yX0_isSame (Cond.code yX0_isSame cX0_isSame 4 (some .boolean) :: TB) (rmN 0) (va_Pc [.ref (ad 70), .int (nI k), .ref (ad q)] (Pre D cy cs ad en sz)) (va_Qi (S := Unit) (fun r _ => bI r (∀ i, i < n → rdL (en ka) (k * 9 + i) = fa i)) (fun _ _ => True) (Nf sz)) 0 0 (Nf sz) := by
  refine Met.ofW (cc := cX0_isSame) (maxL := 4) (ret := (some .boolean)) (by decide) rfl ?_
  intro p e s m args below meth c s₁ B hml hv
  obtain ⟨rfl, hsz, hP, hK, hD0⟩ := hv
  have hx := B.exec
  have hb := B.bytes
  have hr := B.returns
  have hts : ∀ w ∈ TB, w.before _ s = true := fun w h => atoms_spec (ws := _ :: TB) B.pre w (List.mem_cons_of_mem _ h)
  have hown : s.vm.findClass RX0 = some m.cls := findClass_of_methodNamed B.named
  have hlocks := B.notSynchronized
  have hh : Hp D (Nf sz) (fun _ => True) s.heap s.heap [] cs ad en := ⟨hP, hD0, va_S.rf⟩
  have hA : ∀ q : Nat, s.heap.size ≤ q → Nf sz q := fun q h => by rw [hsz] at h; exact h
  have hl := lv_entry ([.ref (ad 70), .int (nI k), .ref (ad q)]) (n := 4) (Nat.le_of_ble_eq_true rfl)
  rw [lg_entry_eq]
  generalize (lg_sl ([.ref (ad 70), .int (nI k), .ref (ad q)]) ++ List.replicate (4 - (lg_sl ([.ref (ad 70), .int (nI k), .ref (ad q)])).length) Slot.unset).toArray = ls at hl ⊢
  have hl : lv_has ls 4 [(0, .ref (ad 70)), (1, .int (nI k)), (2, .ref (ad q))] := hl
  have hka1 : 115 ≤ ka := hI.2.1.2.2.2.1
  have hka2 : ka < kb := hI.2.1.2.2.2.2.1
  have hka3 : kb < kc := hI.2.1.2.2.2.2.2
  obtain ⟨sta_641, cc_641, ct_641, un_641, ow_641, hn_641, es641, p0_641, p1_641, p2_641, p3_641⟩ := get2_C hI
  obtain ⟨f_642, es642⟩ := get2_ea hI
  have hcc9 : cc_641 = n := n_eq ((show nI cc_641 = rdI (en 70) 8 from by rw [es641]; rfl).trans hn8) (by omega) (by omega)
  have hka9 : rdL (en ka) = f_642 := by rw [es642]; rfl
  refine lv_iconst (v := 0) hx hb dX0_isSame_0 (by decide) ?_
  refine lv_istore_n (lv' := [(3, .int 0), (0, .ref (ad 70)), (1, .int (nI k)), (2, .ref (ad q))]) hx hb dX0_isSame_1 rfl hl (by decide) rfl (fun ls hl => ?_)
  have loop_643 : ∀ (fu j643 : Nat)   (ls : Array Slot) (H : Heap) (locs : List Loc), 0 ≤ j643 → j643 ≤ cc_641 → cc_641 < j643 + fu →  (∀ i, i < j643 → f_642 (k * 9 + i) = fa i) → lv_has ls 4 [(3, .int (nI j643)), (0, .ref (ad 70)), (1, .int (nI k)), (2, .ref (ad q))] → Hp D (Nf sz) (fun _ => True) s.heap H locs cs ad en → W p l e (headSpec (Cond.code yX0_isSame cX0_isSame 4 (some .boolean) :: TB) (rmN 0)).room s m ([.ref (ad 70), .int (nI k), .ref (ad q)] : List Value).toArray below meth c H locs 0 0 (MQ below (va_Qi (S := Unit) (fun r _ => bI r (∀ i, i < n → rdL (en ka) (k * 9 + i) = fa i)) (fun _ _ => True) (Nf sz)) ([.ref (ad 70), .int (nI k), .ref (ad q)] : List Value).toArray s 0 0 (Nf sz)) (F0 m 2 ls []) := by
    intro fu
    induction fu with
    | zero => intro j643  ls H locs h0 h1 h2; exact absurd h2 (by omega)
    | succ fu ih_643 =>
      intro j643  ls H locs hj0_643 hj_643 hfu_643 i0_643 hl hh
      refine lv_iload_n hx hb dX0_isSame_2 rfl (lv_at hl 0 rfl) ?_
      refine lv_aload_n hx hb dX0_isSame_3 rfl (lv_at hl 1 rfl) ?_
      refine hp_get hx hb hts ix0 hown hK hh (q := 70) rfl (hI.1.1 _ (by decide)) es641 rfl 8 (by decide) (hts _ tw_155) (fun _ h9 => h9) rfl dX0_isSame_4 ?_
      refine lv_icmp_ge (tgt := 36) hx hb dX0_isSame_7 (by decide) (fun c_644 => ?_) (fun c_644 => ?_)
      · have n_644 : cc_641 ≤ j643 := n_le (a := cc_641) (b := j643) c_644 (by omega) (by omega)
        refine lv_iconst (v := 1) hx hb dX0_isSame_36 (by decide) ?_
        exact hp_iretR hx hb hr rfl hlocks hsz hh (Or.inl ⟨rfl, fun i hi => by rw [hka9]; exact i0_643 i (by omega)⟩) dX0_isSame_37
      · have n_644 : j643 < cc_641 := n_nle (a := cc_641) (b := j643) c_644 (by omega) (by omega)
        refine lv_aload_n hx hb dX0_isSame_10 rfl (lv_at hl 1 rfl) ?_
        refine hp_get hx hb hts ix0 hown hK hh (q := 70) rfl (hI.1.1 _ (by decide)) es641 rfl 4 (by decide) (hts _ tw_151) (fun _ h9 => h9) rfl dX0_isSame_11 ?_
        refine lv_iload_n hx hb dX0_isSame_14 rfl (lv_at hl 2 rfl) ?_
        refine lv_bipush (v := 9) hx hb dX0_isSame_15 (by decide) ?_
        refine lv_imul hx hb dX0_isSame_17 ?_
        rw [show (9 : Int32) = nI 9 from rfl, pk_mul k 9]
        refine lv_iload_n hx hb dX0_isSame_18 rfl (lv_at hl 0 rfl) ?_
        refine lv_iadd hx hb dX0_isSame_19 ?_
        rw [nI_add (k * 9) j643]
        refine hp_lald hx hb hK hh (q := ka) rfl hI.2.1.1 es642 (vp_in_nI (n := ((k * 9) + j643)) (by omega) (by decide)) dX0_isSame_20 ?_
        rw [nI_clamp (n := ((k * 9) + j643)) (by omega)]
        refine lv_aload_n hx hb dX0_isSame_21 rfl (lv_at hl 3 rfl) ?_
        refine lv_iload_n hx hb dX0_isSame_22 rfl (lv_at hl 0 rfl) ?_
        refine hp_lald hx hb hK hh (q := q) rfl hq eq (vp_in_nI (n := j643) (by omega) (by decide)) dX0_isSame_23 ?_
        rw [nI_clamp (n := j643) (by omega)]
        refine W.lcmp hx hb dX0_isSame_24 ?_
        refine lv_if_eq (tgt := 30) hx hb dX0_isSame_25 (by decide) (fun c_645 => ?_) (fun c_645 => ?_)
        · refine lv_iinc (v := (nI (j643 + 1))) (lv' := [(3, .int (nI (j643 + 1))), (0, .ref (ad 70)), (1, .int (nI k)), (2, .ref (ad q))]) hx hb dX0_isSame_30 hl (k := 0) rfl (nI_1 _) (by decide) rfl (fun ls hl => ?_)
          refine lv_goto (tgt := 2) hx hb dX0_isSame_33 (by decide) ?_
          exact ih_643 ((j643 + 1))  ls H locs (by omega) (by omega) (by omega) (fun i hi => (Nat.lt_or_ge i j643).elim (fun h9 => i0_643 i h9) (fun h9 => by obtain rfl : i = j643 := (by omega); exact Int64.toInt_inj.mp (g_eq c_645))) (lv_sub hl [0, 1, 2, 3] rfl) hh
        · refine lv_iconst (v := 0) hx hb dX0_isSame_28 (by decide) ?_
          exact hp_iretR hx hb hr rfl hlocks hsz hh (Or.inr ⟨rfl, fun q => g_neq c_645 (congrArg Int64.toInt (by have h9 := q j643 (by omega); rw [hka9] at h9; exact h9))⟩) dX0_isSame_29
  exact loop_643 (cc_641 + 1) 0  ls _ _ (Nat.le_refl _) (by omega) (by omega) (fun i h => absurd h (Nat.not_lt_zero i)) (lv_sub hl [0, 1, 2, 3] rfl) hh
theorem kw_X0_isSame {R : Room} {s : State} {args : Array Value} {own : String} {idx : Nat} (hts : ∀ w ∈ TB, w.before args s = true) (hl : Cond.methodLink own idx yX0_isSame ∈ TB) (hR : 0 + 1 ≤ R.frames ∧ 8 + (4 + 11) + 40 * 0 ≤ R.locals) : CallW R s args own RX0 idx yX0_isSame cX0_isSame 4 (some .boolean) (Cond.code yX0_isSame cX0_isSame 4 (some .boolean) :: TB) (rmN 0) 0 0 2 := cwV 2 hts (TB_V hl tw_615 ts_19 tw_5 tw_616) rfl rfl rfl (by decide +kernel) hR
set_option maxHeartbeats 4000000 in
set_option maxRecDepth 100000 in
/-- slotOf -/
theorem c_X0_slotOf (l : Launch) (D : va_G) (cy : Nat → ClassId) (sz : Nat) (cs : List Nat) (ad : Nat → Nat) (en : Nat → va_E) {ka kb kc : Nat} (hI : SC cy cs ad ka kb kc en) (q : Nat) (hq : q ∈ cs) (hq9 : q < 115) (fa : Nat → Int64) (n : Nat) (S : CR) (hCL : CL9 ka kb kc n en S) (eq : en q = .inl (cy 1, 9, .inr (.inl fa)))  : Met l yX0_slotOf (Cond.code yX0_slotOf cX0_slotOf 4 (some .int) :: TB) (rmN 1) (va_Pc [.ref (ad 70), .ref (ad q)] (Pre D cy cs ad en sz)) (va_Qi (S := Unit) (fun r _ => ∃ s, s < 4096 ∧ r = nI s ∧ SO9 hX (rdF (en kc)) S (vec n fa) s) (fun _ _ => True) (Nf sz)) 0 0 (Nf sz) := by
  refine Met.ofW (cc := cX0_slotOf) (maxL := 4) (ret := (some .int)) (by decide) rfl ?_
  intro p e s m args below meth c s₁ B hml hv
  obtain ⟨rfl, hsz, hP, hK, hD0⟩ := hv
  have hx := B.exec
  have hb := B.bytes
  have hr := B.returns
  have hts : ∀ w ∈ TB, w.before _ s = true := fun w h => atoms_spec (ws := _ :: TB) B.pre w (List.mem_cons_of_mem _ h)
  have hown : s.vm.findClass RX0 = some m.cls := findClass_of_methodNamed B.named
  have hlocks := B.notSynchronized
  have hh : Hp D (Nf sz) (fun _ => True) s.heap s.heap [] cs ad en := ⟨hP, hD0, va_S.rf⟩
  have hA : ∀ q : Nat, s.heap.size ≤ q → Nf sz q := fun q h => by rw [hsz] at h; exact h
  have hl := lv_entry ([.ref (ad 70), .ref (ad q)]) (n := 4) (Nat.le_of_ble_eq_true rfl)
  rw [lg_entry_eq]
  generalize (lg_sl ([.ref (ad 70), .ref (ad q)]) ++ List.replicate (4 - (lg_sl ([.ref (ad 70), .ref (ad q)])).length) Slot.unset).toArray = ls at hl ⊢
  have hl : lv_has ls 4 [(0, .ref (ad 70)), (1, .ref (ad q))] := hl
  have hka1 : 115 ≤ ka := hI.2.1.2.2.2.1
  have hka2 : ka < kb := hI.2.1.2.2.2.2.1
  have hka3 : kb < kc := hI.2.1.2.2.2.2.2
  obtain ⟨sta_646, cc_646, ct_646, un_646, ow_646, hn_646, es646, p0_646, p1_646, p2_646, p3_646⟩ := get2_C hI
  obtain ⟨f_647, es647, p0_647⟩ := get2_ec hI
  have hn9 := hCL.1
  have hS2 := hCL.2.2.2.1.1
  have hcc9 : cc_646 = n := n_eq ((show nI cc_646 = rdI (en 70) 8 from by rw [es646]; rfl).trans hCL.2.1) (by omega) (by omega)
  have hkc9 : rdF (en kc) = f_647 := by rw [es647]; rfl
  refine lv_aload_n hx hb dX0_slotOf_0 rfl (lv_at hl 0 rfl) ?_
  refine lv_aload_n hx hb dX0_slotOf_1 rfl (lv_at hl 1 rfl) ?_
  refine hp_callRi (va_runV (As := [.ref (ad q)]) (rest := []) ⟨hx, hb, hml, hown, hts⟩ (c_X0_firstSlotOf l D cy _ cs ad en hI  q hq (by omega) fa n hCL.1 hCL.2.1 eq) (kw_X0_firstSlotOf hts tw_608 ⟨by decide, by decide⟩) (preV_of hh hK (hI.1.1 _ (by decide)) es646 rfl) rfl rfl hl.1 rfl (lv_room (Nat.le_of_ble_eq_true rfl)) dX0_slotOf_2 ⟨Nat.le_of_ble_eq_true rfl, Nat.le_of_ble_eq_true rfl⟩) hh hA (fun r_648 H locs hw_648 hh => ?_)
  obtain rfl : r_648 = nI (hX (vec n fa)) := hw_648
  have hxl_648 : hX (vec n fa) < 4096 := hX_lt _
  refine lv_istore_n (lv' := [(2, .int (nI (hX (vec n fa)))), (0, .ref (ad 70)), (1, .ref (ad q))]) hx hb dX0_slotOf_5 rfl hl (by decide) rfl (fun ls hl => ?_)
  refine lv_iconst (v := 0) hx hb dX0_slotOf_6 (by decide) ?_
  refine lv_istore_n (lv' := [(3, .int 0), (2, .int (nI (hX (vec n fa)))), (0, .ref (ad 70)), (1, .ref (ad q))]) hx hb dX0_slotOf_7 rfl hl (by decide) rfl (fun ls hl => ?_)
  have loop_649 : ∀ (fu j649 : Nat) (sl649 : Nat)  (ls : Array Slot) (H : Heap) (locs : List Loc), 0 ≤ j649 → j649 ≤ 4096 → 4096 < j649 + fu →  (sl649 < 4096) → (sl649 = (hX (vec n fa) + j649) % 4096) → (SI9 hX (rdF (en kc)) S (vec n fa) j649) → lv_has ls 4 [(3, .int (nI j649)), (2, .int (nI sl649)), (0, .ref (ad 70)), (1, .ref (ad q))] → Hp D (Nf sz) (fun _ => True) s.heap H locs cs ad en → W p l e (headSpec (Cond.code yX0_slotOf cX0_slotOf 4 (some .int) :: TB) (rmN 1)).room s m ([.ref (ad 70), .ref (ad q)] : List Value).toArray below meth c H locs 0 0 (MQ below (va_Qi (S := Unit) (fun r _ => ∃ s, s < 4096 ∧ r = nI s ∧ SO9 hX (rdF (en kc)) S (vec n fa) s) (fun _ _ => True) (Nf sz)) ([.ref (ad 70), .ref (ad q)] : List Value).toArray s 0 0 (Nf sz)) (F0 m 8 ls []) := by
    intro fu
    induction fu with
    | zero => intro j649 sl649 ls H locs h0 h1 h2; exact absurd h2 (by omega)
    | succ fu ih_649 =>
      intro j649 sl649 ls H locs hj0_649 hj_649 hfu_649 i0_649 i1_649 i2_649 hl hh
      refine lv_iload_n hx hb dX0_slotOf_8 rfl (lv_at hl 0 rfl) ?_
      refine lv_sipush (v := 4096) hx hb dX0_slotOf_9 (by decide) ?_
      refine lv_icmp_ge (tgt := 56) hx hb dX0_slotOf_12 (by decide) (fun c_650 => ?_) (fun c_650 => ?_)
      · have n_650 : 4096 ≤ j649 := n_le (a := 4096) (b := j649) c_650 (by decide) (by omega)
        refine lv_iload_n hx hb dX0_slotOf_56 rfl (lv_at hl 1 rfl) ?_
        exact hp_iretR hx hb hr rfl hlocks hsz hh ((SI_full (v := vec n fa) hS2 hCL.2.2.2.2.2 (by have e9 : j649 = 4096 := (by omega); rw [e9] at i2_649; exact i2_649)).elim) dX0_slotOf_57
      · have n_650 : j649 < 4096 := n_nle (a := 4096) (b := j649) c_650 (by decide) (by omega)
        refine lv_aload_n hx hb dX0_slotOf_15 rfl (lv_at hl 2 rfl) ?_
        refine hp_get hx hb hts ix0 hown hK hh (q := 70) rfl (hI.1.1 _ (by decide)) es646 rfl 6 (by decide) (hts _ tw_153) (fun _ h9 => h9) rfl dX0_slotOf_16 ?_
        refine lv_iload_n hx hb dX0_slotOf_19 rfl (lv_at hl 1 rfl) ?_
        refine hp_iald hx hb hK hh (q := kc) rfl hI.2.1.2.2.1 es647 (vp_in_nI (n := sl649) (by omega) (by decide)) dX0_slotOf_20 ?_
        rw [nI_clamp (n := sl649) (by omega)]
        obtain ⟨v_651, hv_651, hfv_651⟩ := p0_647 sl649 (by omega)
        rw [hfv_651]
        refine lv_if_eq (tgt := 40) hx hb dX0_slotOf_21 (by decide) (fun c_652 => ?_) (fun c_652 => ?_)
        · have n_652 : v_651 = 0 := n_eq (a := v_651) (b := 0) c_652 (by omega) (by decide)
          refine lv_iload_n hx hb dX0_slotOf_40 rfl (lv_at hl 1 rfl) ?_
          exact hp_iretR hx hb hr rfl hlocks hsz hh (⟨_, i0_649, rfl, SO_empty hS2 hCL.2.2.2.2.2 i2_649 (by omega) i1_649 (by rw [hkc9, hfv_651, n_652]; rfl)⟩) dX0_slotOf_41
        · have n_652 : v_651 ≠ 0 := n_neq (a := v_651) (b := 0) c_652 (by omega) (by decide)
          refine lv_aload_n hx hb dX0_slotOf_24 rfl (lv_at hl 2 rfl) ?_
          refine lv_aload_n hx hb dX0_slotOf_25 rfl (lv_at hl 2 rfl) ?_
          refine hp_get hx hb hts ix0 hown hK hh (q := 70) rfl (hI.1.1 _ (by decide)) es646 rfl 6 (by decide) (hts _ tw_153) (fun _ h9 => h9) rfl dX0_slotOf_26 ?_
          refine lv_iload_n hx hb dX0_slotOf_29 rfl (lv_at hl 1 rfl) ?_
          refine hp_iald hx hb hK hh (q := kc) rfl hI.2.1.2.2.1 es647 (vp_in_nI (n := sl649) (by omega) (by decide)) dX0_slotOf_30 ?_
          rw [nI_clamp (n := sl649) (by omega)]
          rw [hfv_651]
          refine lv_iconst (v := 1) hx hb dX0_slotOf_31 (by decide) ?_
          refine lv_isub hx hb dX0_slotOf_32 ?_
          rw [show (1 : Int32) = nI 1 from rfl, pk_sub (a := v_651) (b := 1) (by omega)]
          refine lv_aload_n hx hb dX0_slotOf_33 rfl (lv_at hl 3 rfl) ?_
          refine hp_callRi (va_runV (As := [.int (nI (v_651 - 1)), .ref (ad q)]) (rest := []) ⟨hx, hb, hml, hown, hts⟩ (c_X0_isSame l D cy _ cs ad en hI (v_651 - 1) (by omega) q hq (by omega) fa n hCL.1 hCL.2.1 eq) (kw_X0_isSame hts tw_613 ⟨by decide, by decide⟩) (preV_of hh hK (hI.1.1 _ (by decide)) es646 rfl) rfl rfl hl.1 rfl (lv_room (Nat.le_of_ble_eq_true rfl)) dX0_slotOf_34 ⟨Nat.le_of_ble_eq_true rfl, Nat.le_of_ble_eq_true rfl⟩) hh hA (fun r_653 H locs hw_653 hh => ?_)
          rcases hw_653 with ⟨hb_653, hy_653⟩ | ⟨hb_653, hy_653⟩
          · obtain rfl : r_653 = 1 := hb_653
            refine lv_if_eq (tgt := 42) hx hb dX0_slotOf_37 (by decide) (fun c_0 => absurd c_0 (by decide)) (fun _ => ?_)
            refine lv_iload_n hx hb dX0_slotOf_40 rfl (lv_at hl 1 rfl) ?_
            exact hp_iretR hx hb hr rfl hlocks hsz hh (⟨_, i0_649, rfl, SO_same hS2 hCL.2.2.2.2.1 hCL.2.2.2.2.2 i0_649 (show rdF (en kc) sl649 = nI v_651 from by rw [hkc9]; exact hfv_651) (by omega) (by omega) hy_653⟩) dX0_slotOf_41
          · obtain rfl : r_653 = 0 := hb_653
            refine lv_if_eq (tgt := 42) hx hb dX0_slotOf_37 (by decide) (fun _ => ?_) (fun c_0 => absurd c_0 (by decide))
            refine lv_iload_n hx hb dX0_slotOf_42 rfl (lv_at hl 1 rfl) ?_
            refine lv_iconst (v := 1) hx hb dX0_slotOf_43 (by decide) ?_
            refine lv_iadd hx hb dX0_slotOf_44 ?_
            rw [show (1 : Int32) = nI 1 from rfl, nI_add sl649 1]
            refine lv_sipush (v := 4095) hx hb dX0_slotOf_45 (by decide) ?_
            refine lv_iand hx hb dX0_slotOf_48 ?_
            rw [m4095]
            have hq_654 : ((sl649 + 1) % 4096) < 4096 := Nat.mod_lt _ (by decide)
            refine lv_istore_n (lv' := [(2, .int (nI ((sl649 + 1) % 4096))), (3, .int (nI j649)), (0, .ref (ad 70)), (1, .ref (ad q))]) hx hb dX0_slotOf_49 rfl hl (by decide) rfl (fun ls hl => ?_)
            refine lv_iinc (v := (nI (j649 + 1))) (lv' := [(3, .int (nI (j649 + 1))), (2, .int (nI ((sl649 + 1) % 4096))), (0, .ref (ad 70)), (1, .ref (ad q))]) hx hb dX0_slotOf_50 hl (k := 1) rfl (nI_1 _) (by decide) rfl (fun ls hl => ?_)
            refine lv_goto (tgt := 8) hx hb dX0_slotOf_53 (by decide) ?_
            exact ih_649 ((j649 + 1)) ((sl649 + 1) % 4096) ls H locs (by omega) (by omega) (by omega) ((by omega)) ((by omega)) (SI_s i2_649 i1_649 (fun q9 => absurd (n_eq (a := v_651) (b := 0) (by rw [hkc9, hfv_651] at q9; exact q9) (by omega) (by decide)) (by omega)) (SI_ns hS2 hCL.2.2.2.2.1 (show rdF (en kc) sl649 = nI v_651 from by rw [hkc9]; exact hfv_651) (by omega) hy_653)) (lv_sub hl [0, 1, 2, 3] rfl) hh
  exact loop_649 (4096 + 1) 0 (hX (vec n fa)) ls _ _ (Nat.le_refl _) (by omega) (by omega) ((by omega)) ((by rw [Nat.add_zero]; exact (Nat.mod_eq_of_lt (hX_lt _)).symm)) (SI_0) (lv_sub hl [0, 1, 2, 3] rfl) hh
theorem kw_X0_slotOf {R : Room} {s : State} {args : Array Value} {own : String} {idx : Nat} (hts : ∀ w ∈ TB, w.before args s = true) (hl : Cond.methodLink own idx yX0_slotOf ∈ TB) (hR : 1 + 1 ≤ R.frames ∧ 8 + (4 + 11) + 40 * 1 ≤ R.locals) : CallW R s args own RX0 idx yX0_slotOf cX0_slotOf 4 (some .int) (Cond.code yX0_slotOf cX0_slotOf 4 (some .int) :: TB) (rmN 1) 0 0 1 := cwV 1 hts (TB_V hl tw_606 ts_17 tw_5 tw_607) rfl rfl rfl (by decide +kernel) hR
set_option maxHeartbeats 4000000 in
set_option maxRecDepth 100000 in
/-- load -/
theorem c_X0_load (l : Launch) (D : va_G) (cy : Nat → ClassId) (sz : Nat) (cs : List Nat) (ad : Nat → Nat) (en : Nat → va_E) (ka kb kc : Nat) (k : Nat) (hk : k < 2000) (hm70 : 70 ∈ cs) (hka : ka ∈ cs) (q : Nat) (hq : q ∈ cs) (hq7 : q ≠ 70) (hqk : q ≠ ka) (sta cc ct : Nat) (un ow : Int32) (hn : Nat) (fa fq : Nat → Int64) (e70 : en 70 = .inr (0, [.ref (ad 1), .ref (ad 71), .ref (ad 72), .ref (ad 73), .ref (ad ka), .ref (ad kb), .ref (ad kc), .int (nI sta), .int (nI cc), .int (nI ct), .int un, .int ow, .int (nI hn)])) (eka : en ka = .inl (cy 1, 18000, .inr (.inl fa))) (eq : en q = .inl (cy 1, 9, .inr (.inl fq)))  : Met l yX0_load (Cond.code yX0_load cX0_load 3 none :: TB) (rmN 1) (va_Pc [.ref (ad 70), .int (nI k), .ref (ad q)] (Pre D cy cs ad en sz)) (va_Qv (S := Nat → va_E) (fun en1 => en1 = va_up en q (.inl (cy 1, 9, .inr (.inl (va_cpy fa fq (k * 9) 0 9))))) (PostM D cs ad) (Af cs ad sz)) 0 0 (Af cs ad sz) := by
  refine Met.ofW (cc := cX0_load) (maxL := 3) (ret := none) (by decide) rfl ?_
  intro p e s m args below meth c s₁ B hml hv
  obtain ⟨rfl, hsz, hP, hK, hD0⟩ := hv
  have hx := B.exec
  have hb := B.bytes
  have hr := B.returns
  have hts : ∀ w ∈ TB, w.before _ s = true := fun w h => atoms_spec (ws := _ :: TB) B.pre w (List.mem_cons_of_mem _ h)
  have hown : s.vm.findClass RX0 = some m.cls := findClass_of_methodNamed B.named
  have hlocks := B.notSynchronized
  have hh : Hp D (Af cs ad sz) (Af cs ad sz) s.heap s.heap [] cs ad en := ⟨hP, Af_self hD0, va_S.rf⟩
  have hA : ∀ q : Nat, s.heap.size ≤ q → Af cs ad sz q := fun q h => Or.inr (by rw [hsz] at h; exact h)
  have hl := lv_entry ([.ref (ad 70), .int (nI k), .ref (ad q)]) (n := 3) (Nat.le_of_ble_eq_true rfl)
  rw [lg_entry_eq]
  generalize (lg_sl ([.ref (ad 70), .int (nI k), .ref (ad q)]) ++ List.replicate (3 - (lg_sl ([.ref (ad 70), .int (nI k), .ref (ad q)])).length) Slot.unset).toArray = ls at hl ⊢
  have hl : lv_has ls 3 [(0, .ref (ad 70)), (1, .int (nI k)), (2, .ref (ad q))] := hl
  refine lv_aload_n hx hb dX0_load_0 rfl (lv_at hl 0 rfl) ?_
  refine hp_get hx hb hts ix0 hown hK hh (q := 70) rfl hm70 e70 rfl 4 (by decide) (hts _ tw_151) (fun _ h9 => h9) rfl dX0_load_1 ?_
  refine lv_iload_n hx hb dX0_load_4 rfl (lv_at hl 1 rfl) ?_
  refine lv_bipush (v := 9) hx hb dX0_load_5 (by decide) ?_
  refine lv_imul hx hb dX0_load_7 ?_
  rw [show (9 : Int32) = nI 9 from rfl, pk_mul k 9]
  refine lv_aload_n hx hb dX0_load_8 rfl (lv_at hl 2 rfl) ?_
  refine lv_iconst (v := 0) hx hb dX0_load_9 (by decide) ?_
  refine lv_bipush (v := 9) hx hb dX0_load_10 (by decide) ?_
  refine W.eq (g2 := F0 m 12 ls [.int (nI 9), .int (nI 0), .ref (ad q), .int (nI (k * 9)), .ref (ad ka)]) rfl ?_
  refine hp_copyl hx hb (hml.trans hl.1.symm) hown (hts _ tw_617) (hts _ tw_340) (hts _ tw_339) (hts _ tw_12) hK hh hka hq eka eq (k * 9) 0 9 (by omega) (by decide) (by decide) (by omega) (by decide) (Nat.le_of_ble_eq_true rfl) (Nat.le_of_ble_eq_true rfl) dX0_load_12 (fun H locs en_655 hen_655 hh => ?_)
  have e70_655 : en_655 70 = .inr (0, [.ref (ad 1), .ref (ad 71), .ref (ad 72), .ref (ad 73), .ref (ad ka), .ref (ad kb), .ref (ad kc), .int (nI sta), .int (nI cc), .int (nI ct), .int un, .int ow, .int (nI hn)]) := by rw [hen_655, va_up_ne _ _ (by omega)]; exact e70
  have eka_655 : en_655 ka = .inl (cy 1, 18000, .inr (.inl fa)) := by rw [hen_655, va_up_ne _ _ (by omega)]; exact eka
  have eq_655 : en_655 q = .inl (cy 1, 9, .inr (.inl (va_cpy fa fq (k * 9) 0 9))) := by rw [hen_655]; exact va_up_self _ _ _
  exact hp_vretM hx hb hr hlocks hh (hen_655) dX0_load_15
theorem kw_X0_load {R : Room} {s : State} {args : Array Value} {own : String} {idx : Nat} (hts : ∀ w ∈ TB, w.before args s = true) (hl : Cond.methodLink own idx yX0_load ∈ TB) (hR : 1 + 1 ≤ R.frames ∧ 8 + (3 + 11) + 40 * 1 ≤ R.locals) : CallW R s args own RX0 idx yX0_load cX0_load 3 none (Cond.code yX0_load cX0_load 3 none :: TB) (rmN 1) 0 0 2 := cwV 2 hts (TB_V hl tw_624 ts_21 tw_5 tw_625) rfl rfl rfl (by decide +kernel) hR
set_option maxHeartbeats 4000000 in
set_option maxRecDepth 100000 in
/-- multiplyNumbered -/
theorem c_X0_multiplyNumbered (l : Launch) (D : va_G) (cy : Nat → ClassId) (sz : Nat) (cs : List Nat) (ad : Nat → Nat) (en : Nat → va_E) {ka kb kc : Nat} (hI : SC cy cs ad ka kb kc en) (k j : Nat) (hk : k < 2000) (hj : j < 2000) (n : Nat) (S : CR) (hCL : CL9 ka kb kc n en S) (hnd : n = dC en * dC en) (x y : List Int64 × Int32) (hgx : S[k]? = some x) (hgy : S[j]? = some y)   : Met l yX0_multiplyNumbered (Cond.code yX0_multiplyNumbered cX0_multiplyNumbered 3 none :: TB) (rmN 2) (va_Pc [.ref (ad 70), .int (nI k), .int (nI j)] (Pre D cy cs ad en sz)) (va_Qv (S := Nat → va_E) (fun en1 => SC cy cs ad ka kb kc en1 ∧ (∀ c, (c < 71 ∨ 74 ≤ c) → en1 c = en c) ∧ (∀ i, i < n → rdL (en1 71) i = vg x.1 i) ∧ vec n (rdL (en1 73)) = vec n (mulV (dC en) (mC en) (vg x.1) (vg y.1))) (PostM D cs ad) (Af cs ad sz)) 0 0 (Af cs ad sz) := by
  refine Met.ofW (cc := cX0_multiplyNumbered) (maxL := 3) (ret := none) (by decide) rfl ?_
  intro p e s m args below meth c s₁ B hml hv
  obtain ⟨rfl, hsz, hP, hK, hD0⟩ := hv
  have hx := B.exec
  have hb := B.bytes
  have hr := B.returns
  have hts : ∀ w ∈ TB, w.before _ s = true := fun w h => atoms_spec (ws := _ :: TB) B.pre w (List.mem_cons_of_mem _ h)
  have hown : s.vm.findClass RX0 = some m.cls := findClass_of_methodNamed B.named
  have hlocks := B.notSynchronized
  have hh : Hp D (Af cs ad sz) (Af cs ad sz) s.heap s.heap [] cs ad en := ⟨hP, Af_self hD0, va_S.rf⟩
  have hA : ∀ q : Nat, s.heap.size ≤ q → Af cs ad sz q := fun q h => Or.inr (by rw [hsz] at h; exact h)
  have hl := lv_entry ([.ref (ad 70), .int (nI k), .int (nI j)]) (n := 3) (Nat.le_of_ble_eq_true rfl)
  rw [lg_entry_eq]
  generalize (lg_sl ([.ref (ad 70), .int (nI k), .int (nI j)]) ++ List.replicate (3 - (lg_sl ([.ref (ad 70), .int (nI k), .int (nI j)])).length) Slot.unset).toArray = ls at hl ⊢
  have hl : lv_has ls 3 [(0, .ref (ad 70)), (1, .int (nI k)), (2, .int (nI j))] := hl
  have hka1 : 115 ≤ ka := hI.2.1.2.2.2.1
  have hka2 : ka < kb := hI.2.1.2.2.2.2.1
  have hka3 : kb < kc := hI.2.1.2.2.2.2.2
  have hf0 : ∀ c, (c < 71 ∨ 74 ≤ c) → en c = en c := fun _ _ => rfl
  obtain ⟨cnt, d, mm, es656, hcnt, hd2, hd3, hmm⟩ := get2_T hI
  obtain ⟨sta_657, cc_657, ct_657, un_657, ow_657, hn_657, es657, p0_657, p1_657, p2_657, p3_657⟩ := get2_C hI
  obtain ⟨f_658, es658⟩ := get2_ea hI
  have hk9 : kC en = cnt := by unfold kC; rw [show rdI (en 1) 4 = nI cnt from by rw [es656]; rfl]; exact nI_clamp (by omega)
  have hd9 : dC en = d := by unfold dC; rw [show rdI (en 1) 5 = nI d from by rw [es656]; rfl]; exact nI_clamp (by omega)
  have hm9 : mC en = mm := by unfold mC; rw [show rdI (en 1) 6 = nI mm from by rw [es656]; rfl]; exact nI_clamp (by omega)
  have hka9 : rdL (en ka) = f_658 := by rw [es658]; rfl
  have hnd9 : n = d * d := by rw [hnd, hd9]
  refine lv_aload_n hx hb dX0_multiplyNumbered_0 rfl (lv_at hl 0 rfl) ?_
  refine lv_iload_n hx hb dX0_multiplyNumbered_1 rfl (lv_at hl 1 rfl) ?_
  refine lv_aload_n hx hb dX0_multiplyNumbered_2 rfl (lv_at hl 0 rfl) ?_
  refine hp_get hx hb hts ix0 hown hK hh (q := 70) rfl (hI.1.1 _ (by decide)) es657 rfl 1 (by decide) (hts _ tw_148) (fun _ h9 => h9) rfl dX0_multiplyNumbered_3 ?_
  obtain ⟨f_659, es659⟩ := get2_cl hI
  refine hp_callMv (va_runV (As := [.int (nI k), .ref (ad 71)]) (rest := []) ⟨hx, hb, hml, hown, hts⟩ (c_X0_load l D cy _ cs ad en ka kb kc k (by omega) (hI.1.1 _ (by decide)) hI.2.1.1 71 (hI.1.1 _ (by decide)) (by omega) (by omega) sta_657 cc_657 ct_657 un_657 ow_657 hn_657 f_658 f_659 es657 es658 es659   ) (kw_X0_load hts tw_622 ⟨by decide, by decide⟩) (preV_of hh hK (hI.1.1 _ (by decide)) es657 rfl) rfl rfl hl.1 rfl (lv_room (Nat.le_of_ble_eq_true rfl)) dX0_multiplyNumbered_6 ⟨Nat.le_of_ble_eq_true rfl, Nat.le_of_ble_eq_true rfl⟩) hh hA (fun H locs en_660 hw_660 hh => ?_)
  have hen_660 := hw_660
  have es656_660 : en_660 1 = .inr (7, [.ref (ad 2), .ref (ad 3), .ref (ad 10), .ref (ad 11), .int (nI cnt), .int (nI d), .int (nI mm)]) := by rw [hen_660, va_up_ne _ _ (by decide)]; exact es656
  have es657_660 : en_660 70 = .inr (0, [.ref (ad 1), .ref (ad 71), .ref (ad 72), .ref (ad 73), .ref (ad ka), .ref (ad kb), .ref (ad kc), .int (nI sta_657), .int (nI cc_657), .int (nI ct_657), .int un_657, .int ow_657, .int (nI hn_657)]) := by rw [hen_660, va_up_ne _ _ (by decide)]; exact es657
  have es658_660 : en_660 ka = .inl (cy 1, 18000, .inr (.inl f_658)) := by rw [hen_660, va_up_ne _ _ (by omega)]; exact es658
  have es659_660 : en_660 71 = .inl (cy 1, 9, .inr (.inl (va_cpy f_658 f_659 (k * 9) 0 9))) := by rw [hen_660]; exact va_up_self _ _ _
  have hI_660 : SC cy cs ad ka kb kc en_660 := by rw [hen_660]; exact up2_cl hI ⟨(va_cpy f_658 f_659 (k * 9) 0 9), rfl⟩
  have hf_660 : ∀ c, (c < 71 ∨ 74 ≤ c) → en_660 c = en c := fun c hc => Eq.trans (show en_660 c = en c from by rw [hen_660, va_up_ne _ _ (by omega)]) (hf0 c hc)
  refine lv_aload_n hx hb dX0_multiplyNumbered_9 rfl (lv_at hl 0 rfl) ?_
  refine lv_iload_n hx hb dX0_multiplyNumbered_10 rfl (lv_at hl 2 rfl) ?_
  refine lv_aload_n hx hb dX0_multiplyNumbered_11 rfl (lv_at hl 0 rfl) ?_
  refine hp_get hx hb hts ix0 hown hK hh (q := 70) rfl (hI.1.1 _ (by decide)) es657_660 rfl 2 (by decide) (hts _ tw_149) (fun _ h9 => h9) rfl dX0_multiplyNumbered_12 ?_
  obtain ⟨f_661, es661⟩ := get2_cr hI_660
  refine hp_callMv (va_runV (As := [.int (nI j), .ref (ad 72)]) (rest := []) ⟨hx, hb, hml, hown, hts⟩ (c_X0_load l D cy _ cs ad en_660 ka kb kc j (by omega) (hI.1.1 _ (by decide)) hI.2.1.1 72 (hI.1.1 _ (by decide)) (by omega) (by omega) sta_657 cc_657 ct_657 un_657 ow_657 hn_657 f_658 f_661 es657_660 es658_660 es661   ) (kw_X0_load hts tw_622 ⟨by decide, by decide⟩) (preV_of hh hK (hI.1.1 _ (by decide)) es657_660 rfl) rfl rfl hl.1 rfl (lv_room (Nat.le_of_ble_eq_true rfl)) dX0_multiplyNumbered_15 ⟨Nat.le_of_ble_eq_true rfl, Nat.le_of_ble_eq_true rfl⟩) hh hA (fun H locs en_662 hw_662 hh => ?_)
  have hen_662 := hw_662
  have es656_662 : en_662 1 = .inr (7, [.ref (ad 2), .ref (ad 3), .ref (ad 10), .ref (ad 11), .int (nI cnt), .int (nI d), .int (nI mm)]) := by rw [hen_662, va_up_ne _ _ (by decide)]; exact es656_660
  have es657_662 : en_662 70 = .inr (0, [.ref (ad 1), .ref (ad 71), .ref (ad 72), .ref (ad 73), .ref (ad ka), .ref (ad kb), .ref (ad kc), .int (nI sta_657), .int (nI cc_657), .int (nI ct_657), .int un_657, .int ow_657, .int (nI hn_657)]) := by rw [hen_662, va_up_ne _ _ (by decide)]; exact es657_660
  have es658_662 : en_662 ka = .inl (cy 1, 18000, .inr (.inl f_658)) := by rw [hen_662, va_up_ne _ _ (by omega)]; exact es658_660
  have es659_662 : en_662 71 = .inl (cy 1, 9, .inr (.inl (va_cpy f_658 f_659 (k * 9) 0 9))) := by rw [hen_662, va_up_ne _ _ (by decide)]; exact es659_660
  have es661_662 : en_662 72 = .inl (cy 1, 9, .inr (.inl (va_cpy f_658 f_661 (j * 9) 0 9))) := by rw [hen_662]; exact va_up_self _ _ _
  have hI_662 : SC cy cs ad ka kb kc en_662 := by rw [hen_662]; exact up2_cr hI_660 ⟨(va_cpy f_658 f_661 (j * 9) 0 9), rfl⟩
  have hf_662 : ∀ c, (c < 71 ∨ 74 ≤ c) → en_662 c = en c := fun c hc => Eq.trans (show en_662 c = en_660 c from by rw [hen_662, va_up_ne _ _ (by omega)]) (hf_660 c hc)
  refine lv_aload_n hx hb dX0_multiplyNumbered_18 rfl (lv_at hl 0 rfl) ?_
  refine hp_get hx hb hts ix0 hown hK hh (q := 70) rfl (hI.1.1 _ (by decide)) es657_662 rfl 0 (by decide) (hts _ tw_147) (fun _ h9 => h9) rfl dX0_multiplyNumbered_19 ?_
  refine lv_aload_n hx hb dX0_multiplyNumbered_22 rfl (lv_at hl 0 rfl) ?_
  refine hp_get hx hb hts ix0 hown hK hh (q := 70) rfl (hI.1.1 _ (by decide)) es657_662 rfl 1 (by decide) (hts _ tw_148) (fun _ h9 => h9) rfl dX0_multiplyNumbered_23 ?_
  refine lv_aload_n hx hb dX0_multiplyNumbered_26 rfl (lv_at hl 0 rfl) ?_
  refine hp_get hx hb hts ix0 hown hK hh (q := 70) rfl (hI.1.1 _ (by decide)) es657_662 rfl 2 (by decide) (hts _ tw_149) (fun _ h9 => h9) rfl dX0_multiplyNumbered_27 ?_
  refine lv_aload_n hx hb dX0_multiplyNumbered_30 rfl (lv_at hl 0 rfl) ?_
  refine hp_get hx hb hts ix0 hown hK hh (q := 70) rfl (hI.1.1 _ (by decide)) es657_662 rfl 3 (by decide) (hts _ tw_150) (fun _ h9 => h9) rfl dX0_multiplyNumbered_31 ?_
  obtain ⟨f_663, es663⟩ := get2_cd hI_662
  refine hp_callMv (va_runV (As := [.ref (ad 71), .ref (ad 72), .ref (ad 73)]) (rest := []) ⟨hx, hb, hml, hown, hts⟩ (c_X8_multiply l D cy _ cs ad en_662 (hI.1.1 _ (by decide)) cnt d mm hcnt hd2 hd3 hmm 71 72 73 (hI.1.1 _ (by decide)) (hI.1.1 _ (by decide)) (hI.1.1 _ (by decide)) (by omega) (by omega) (by omega) (va_cpy f_658 f_659 (k * 9) 0 9) (va_cpy f_658 f_661 (j * 9) 0 9) f_663 es656_662 es659_662 es661_662 es663) (kw_X8_multiply hts tw_626 ⟨by decide, by decide⟩) (preV_of hh hK (hI.1.1 _ (by decide)) es656_662 rfl) rfl rfl hl.1 rfl (lv_room (Nat.le_of_ble_eq_true rfl)) dX0_multiplyNumbered_34 ⟨Nat.le_of_ble_eq_true rfl, Nat.le_of_ble_eq_true rfl⟩) hh hA (fun H locs en_664 hw_664 hh => ?_)
  obtain ⟨g_664, hen_664, hg_664⟩ := hw_664
  have es656_664 : en_664 1 = .inr (7, [.ref (ad 2), .ref (ad 3), .ref (ad 10), .ref (ad 11), .int (nI cnt), .int (nI d), .int (nI mm)]) := by rw [hen_664, va_up_ne _ _ (by decide)]; exact es656_662
  have es657_664 : en_664 70 = .inr (0, [.ref (ad 1), .ref (ad 71), .ref (ad 72), .ref (ad 73), .ref (ad ka), .ref (ad kb), .ref (ad kc), .int (nI sta_657), .int (nI cc_657), .int (nI ct_657), .int un_657, .int ow_657, .int (nI hn_657)]) := by rw [hen_664, va_up_ne _ _ (by decide)]; exact es657_662
  have es658_664 : en_664 ka = .inl (cy 1, 18000, .inr (.inl f_658)) := by rw [hen_664, va_up_ne _ _ (by omega)]; exact es658_662
  have es659_664 : en_664 71 = .inl (cy 1, 9, .inr (.inl (va_cpy f_658 f_659 (k * 9) 0 9))) := by rw [hen_664, va_up_ne _ _ (by decide)]; exact es659_662
  have es661_664 : en_664 72 = .inl (cy 1, 9, .inr (.inl (va_cpy f_658 f_661 (j * 9) 0 9))) := by rw [hen_664, va_up_ne _ _ (by decide)]; exact es661_662
  have es663_664 : en_664 73 = .inl (cy 1, 9, .inr (.inl g_664)) := by rw [hen_664]; exact va_up_self _ _ _
  have hI_664 : SC cy cs ad ka kb kc en_664 := by rw [hen_664]; exact up2_cd hI_662 ⟨g_664, rfl⟩
  have hf_664 : ∀ c, (c < 71 ∨ 74 ≤ c) → en_664 c = en c := fun c hc => Eq.trans (show en_664 c = en_662 c from by rw [hen_664, va_up_ne _ _ (by omega)]) (hf_662 c hc)
  have hl71 : ∀ i, i < n → rdL (en_664 71) i = vg x.1 i := CL_ld hCL hgx (by rw [es659_664, hka9]; rfl)
  have hl72 : ∀ i, i < n → rdL (en_664 72) i = vg y.1 i := CL_ld hCL hgy (by rw [es661_664, hka9]; rfl)
  exact hp_vretM hx hb hr hlocks hh (⟨hI_664, hf_664, hl71, (by rw [show rdL (en_664 73) = g_664 from by rw [es663_664]; rfl, hd9, hm9]; exact MC_mul hnd9 hg_664 (fun i hi => (show (va_cpy f_658 f_659 (k * 9) 0 9) i = rdL (en_664 71) i from by rw [es659_664]; rfl).trans (hl71 i hi)) (fun i hi => (show (va_cpy f_658 f_661 (j * 9) 0 9) i = rdL (en_664 72) i from by rw [es661_664]; rfl).trans (hl72 i hi)))⟩) dX0_multiplyNumbered_37
theorem kw_X0_multiplyNumbered {R : Room} {s : State} {args : Array Value} {own : String} {idx : Nat} (hts : ∀ w ∈ TB, w.before args s = true) (hl : Cond.methodLink own idx yX0_multiplyNumbered ∈ TB) (hR : 2 + 1 ≤ R.frames ∧ 8 + (3 + 11) + 40 * 2 ≤ R.locals) : CallW R s args own RX0 idx yX0_multiplyNumbered cX0_multiplyNumbered 3 none (Cond.code yX0_multiplyNumbered cX0_multiplyNumbered 3 none :: TB) (rmN 2) 0 0 2 := cwV 2 hts (TB_V hl tw_633 ts_23 tw_5 tw_634) rfl rfl rfl (by decide +kernel) hR
