set_option maxHeartbeats 4000000 in
set_option maxRecDepth 100000 in
/-- isBeyond -/
theorem c_X0_isBeyond (l : Launch) (D : va_G) (cy : Nat → ClassId) (sz : Nat) (cs : List Nat) (ad : Nat → Nat) (en : Nat → va_E) {ka kb kc : Nat} (hI : SC cy cs ad ka kb kc en) (q : Nat) (hq : q ∈ cs) (hq9 : q < 115) (fa : Nat → Int64) (eq : en q = .inl (cy 1, 9, .inr (.inl fa)))  : Met l yX0_isBeyond (Cond.code yX0_isBeyond cX0_isBeyond 3 (some .boolean) :: TB) (rmN 1) (va_Pc [.ref (ad 70), .ref (ad q)] (Pre D cy cs ad en sz)) (va_Qi (S := Unit) (fun r _ => r = 0 ∨ r = 1) (fun _ _ => True) (Nf sz)) 0 0 (Nf sz) := by
  refine Met.ofW (cc := cX0_isBeyond) (maxL := 3) (ret := (some .boolean)) (by decide) rfl ?_
  intro p e s m args below meth c s₁ B hml hv
  obtain ⟨rfl, hsz, hP, hK, hD0⟩ := hv
  have hx := B.exec
  have hb := B.bytes
  have hr := B.returns
  have hts : ∀ w ∈ TB, w.before _ s = true := fun w h => atoms_spec (ws := _ :: TB) B.pre w (List.mem_cons_of_mem _ h)
  have hown : s.vm.findClass RX0 = some m.cls := findClass_of_methodNamed B.named
  have hlocks := B.notSynchronized
  have hh : Hp D (Nf sz) (fun _ => True) s.heap s.heap [] cs ad en := ⟨hP, hD0, va_S.rf⟩
  have hA : ∀ q : Nat, s.heap.size ≤ q → Nf sz q := fun q h => by rw [hsz] at h; exact h
  have hl := lv_entry ([.ref (ad 70), .ref (ad q)]) (n := 3) (Nat.le_of_ble_eq_true rfl)
  rw [lg_entry_eq]
  generalize (lg_sl ([.ref (ad 70), .ref (ad q)]) ++ List.replicate (3 - (lg_sl ([.ref (ad 70), .ref (ad q)])).length) Slot.unset).toArray = ls at hl ⊢
  have hl : lv_has ls 3 [(0, .ref (ad 70)), (1, .ref (ad q))] := hl
  have hka1 : 115 ≤ ka := hI.2.1.2.2.2.1
  have hka2 : ka < kb := hI.2.1.2.2.2.2.1
  have hka3 : kb < kc := hI.2.1.2.2.2.2.2
  obtain ⟨sta_624, cc_624, ct_624, un_624, ow_624, hn_624, es624, p0_624, p1_624, p2_624, p3_624⟩ := get2_C hI
  refine lv_iconst (v := 0) hx hb dX0_isBeyond_0 (by decide) ?_
  refine lv_istore_n (lv' := [(2, .int 0), (0, .ref (ad 70)), (1, .ref (ad q))]) hx hb dX0_isBeyond_1 rfl hl (by decide) rfl (fun ls hl => ?_)
  have loop_625 : ∀ (fu j625 : Nat)   (ls : Array Slot) (H : Heap) (locs : List Loc), 0 ≤ j625 → j625 ≤ cc_624 → cc_624 < j625 + fu →   lv_has ls 3 [(2, .int (nI j625)), (0, .ref (ad 70)), (1, .ref (ad q))] → Hp D (Nf sz) (fun _ => True) s.heap H locs cs ad en → W p l e (headSpec (Cond.code yX0_isBeyond cX0_isBeyond 3 (some .boolean) :: TB) (rmN 1)).room s m ([.ref (ad 70), .ref (ad q)] : List Value).toArray below meth c H locs 0 0 (MQ below (va_Qi (S := Unit) (fun r _ => r = 0 ∨ r = 1) (fun _ _ => True) (Nf sz)) ([.ref (ad 70), .ref (ad q)] : List Value).toArray s 0 0 (Nf sz)) (F0 m 2 ls []) := by
    intro fu
    induction fu with
    | zero => intro j625  ls H locs h0 h1 h2; exact absurd h2 (by omega)
    | succ fu ih_625 =>
      intro j625  ls H locs hj0_625 hj_625 hfu_625  hl hh
      refine lv_iload_n hx hb dX0_isBeyond_2 rfl (lv_at hl 0 rfl) ?_
      refine lv_aload_n hx hb dX0_isBeyond_3 rfl (lv_at hl 1 rfl) ?_
      refine hp_get hx hb hts ix0 hown hK hh (q := 70) rfl (hI.1.1 _ (by decide)) es624 rfl 8 (by decide) (hts _ tw_155) (fun _ h9 => h9) rfl dX0_isBeyond_4 ?_
      refine lv_icmp_ge (tgt := 31) hx hb dX0_isBeyond_7 (by decide) (fun c_626 => ?_) (fun c_626 => ?_)
      · have n_626 : cc_624 ≤ j625 := n_le (a := cc_624) (b := j625) c_626 (by omega) (by omega)
        refine lv_iconst (v := 0) hx hb dX0_isBeyond_31 (by decide) ?_
        exact hp_iretR hx hb hr rfl hlocks hsz hh (Or.inl rfl) dX0_isBeyond_32
      · have n_626 : j625 < cc_624 := n_nle (a := cc_624) (b := j625) c_626 (by omega) (by omega)
        refine lv_aload_n hx hb dX0_isBeyond_10 rfl (lv_at hl 2 rfl) ?_
        refine lv_iload_n hx hb dX0_isBeyond_11 rfl (lv_at hl 0 rfl) ?_
        refine hp_lald hx hb hK hh (q := q) rfl hq eq (vp_in_nI (n := j625) (by omega) (by decide)) dX0_isBeyond_12 ?_
        rw [nI_clamp (n := j625) (by omega)]
        refine va_mabs_long hx hb (hml.trans hl.1.symm) hown (hts _ tw_602) (hts _ tw_489) (hts _ tw_11) (hts _ tw_490) (Nat.le_of_ble_eq_true rfl) (Nat.le_of_ble_eq_true rfl) (Nat.le_of_ble_eq_true rfl) (Nat.le_of_ble_eq_true rfl) dX0_isBeyond_13 ?_
        refine W.eq (g2 := F0 m 16 ls [.long (absL (fa j625))]) rfl ?_
        refine lv_ldc2 hx hb hown (hts _ tw_603) dX0_isBeyond_16 ?_
        refine W.lcmp hx hb dX0_isBeyond_19 ?_
        refine lv_if_le (tgt := 25) hx hb dX0_isBeyond_20 (by decide) (fun c_627 => ?_) (fun c_627 => ?_)
        · refine lv_iinc (v := (nI (j625 + 1))) (lv' := [(2, .int (nI (j625 + 1))), (0, .ref (ad 70)), (1, .ref (ad q))]) hx hb dX0_isBeyond_25 hl (k := 0) rfl (nI_1 _) (by decide) rfl (fun ls hl => ?_)
          refine lv_goto (tgt := 2) hx hb dX0_isBeyond_28 (by decide) ?_
          exact ih_625 ((j625 + 1))  ls H locs (by omega) (by omega) (by omega)  (lv_sub hl [0, 1, 2] rfl) hh
        · refine lv_iconst (v := 1) hx hb dX0_isBeyond_23 (by decide) ?_
          exact hp_iretR hx hb hr rfl hlocks hsz hh (Or.inr rfl) dX0_isBeyond_24
  exact loop_625 (cc_624 + 1) 0  ls _ _ (Nat.le_refl _) (by omega) (by omega)  (lv_sub hl [0, 1, 2] rfl) hh
theorem kw_X0_isBeyond {R : Room} {s : State} {args : Array Value} {own : String} {idx : Nat} (hts : ∀ w ∈ TB, w.before args s = true) (hl : Cond.methodLink own idx yX0_isBeyond ∈ TB) (hR : 1 + 1 ≤ R.frames ∧ 8 + (3 + 11) + 40 * 1 ≤ R.locals) : CallW R s args own RX0 idx yX0_isBeyond cX0_isBeyond 3 (some .boolean) (Cond.code yX0_isBeyond cX0_isBeyond 3 (some .boolean) :: TB) (rmN 1) 0 0 1 := cwV 1 hts (TB_V hl tw_600 ts_16 tw_5 tw_601) rfl rfl rfl (by decide +kernel) hR
set_option maxHeartbeats 4000000 in
set_option maxRecDepth 100000 in
/-- firstSlotOf -/
theorem c_X0_firstSlotOf (l : Launch) (D : va_G) (cy : Nat → ClassId) (sz : Nat) (cs : List Nat) (ad : Nat → Nat) (en : Nat → va_E) {ka kb kc : Nat} (hI : SC cy cs ad ka kb kc en) (q : Nat) (hq : q ∈ cs) (hq9 : q < 115) (fa : Nat → Int64) (eq : en q = .inl (cy 1, 9, .inr (.inl fa)))  : Met l yX0_firstSlotOf (Cond.code yX0_firstSlotOf cX0_firstSlotOf 4 (some .int) :: TB) (rmN 0) (va_Pc [.ref (ad 70), .ref (ad q)] (Pre D cy cs ad en sz)) (va_Qi (S := Unit) (fun r _ => ∃ S, S < 4096 ∧ r = nI S) (fun _ _ => True) (Nf sz)) 0 0 (Nf sz) := by
  refine Met.ofW (cc := cX0_firstSlotOf) (maxL := 4) (ret := (some .int)) (by decide) rfl ?_
  intro p e s m args below meth c s₁ B hml hv
  obtain ⟨rfl, hsz, hP, hK, hD0⟩ := hv
  have hx := B.exec
  have hb := B.bytes
  have hr := B.returns
  have hts : ∀ w ∈ TB, w.before _ s = true := fun w h => atoms_spec (ws := _ :: TB) B.pre w (List.mem_cons_of_mem _ h)
  have hown : s.vm.findClass RX0 = some m.cls := findClass_of_methodNamed B.named
  have hlocks := B.notSynchronized
  have hh : Hp D (Nf sz) (fun _ => True) s.heap s.heap [] cs ad en := ⟨hP, hD0, va_S.rf⟩
  have hA : ∀ q : Nat, s.heap.size ≤ q → Nf sz q := fun q h => by rw [hsz] at h; exact h
  have hl := lv_entry ([.ref (ad 70), .ref (ad q)]) (n := 4) (Nat.le_of_ble_eq_true rfl)
  rw [lg_entry_eq]
  generalize (lg_sl ([.ref (ad 70), .ref (ad q)]) ++ List.replicate (4 - (lg_sl ([.ref (ad 70), .ref (ad q)])).length) Slot.unset).toArray = ls at hl ⊢
  have hl : lv_has ls 4 [(0, .ref (ad 70)), (1, .ref (ad q))] := hl
  have hka1 : 115 ≤ ka := hI.2.1.2.2.2.1
  have hka2 : ka < kb := hI.2.1.2.2.2.2.1
  have hka3 : kb < kc := hI.2.1.2.2.2.2.2
  obtain ⟨sta_628, cc_628, ct_628, un_628, ow_628, hn_628, es628, p0_628, p1_628, p2_628, p3_628⟩ := get2_C hI
  refine lv_iconst (v := 0) hx hb dX0_firstSlotOf_0 (by decide) ?_
  refine lv_istore_n (lv' := [(2, .int 0), (0, .ref (ad 70)), (1, .ref (ad q))]) hx hb dX0_firstSlotOf_1 rfl hl (by decide) rfl (fun ls hl => ?_)
  refine lv_iconst (v := 0) hx hb dX0_firstSlotOf_2 (by decide) ?_
  refine lv_istore_n (lv' := [(3, .int 0), (2, .int 0), (0, .ref (ad 70)), (1, .ref (ad q))]) hx hb dX0_firstSlotOf_3 rfl hl (by decide) rfl (fun ls hl => ?_)
  have loop_629 : ∀ (fu j629 : Nat) (mx629 : Int32)  (ls : Array Slot) (H : Heap) (locs : List Loc), 0 ≤ j629 → j629 ≤ cc_628 → cc_628 < j629 + fu →   lv_has ls 4 [(3, .int (nI j629)), (2, .int mx629), (0, .ref (ad 70)), (1, .ref (ad q))] → Hp D (Nf sz) (fun _ => True) s.heap H locs cs ad en → W p l e (headSpec (Cond.code yX0_firstSlotOf cX0_firstSlotOf 4 (some .int) :: TB) (rmN 0)).room s m ([.ref (ad 70), .ref (ad q)] : List Value).toArray below meth c H locs 0 0 (MQ below (va_Qi (S := Unit) (fun r _ => ∃ S, S < 4096 ∧ r = nI S) (fun _ _ => True) (Nf sz)) ([.ref (ad 70), .ref (ad q)] : List Value).toArray s 0 0 (Nf sz)) (F0 m 4 ls []) := by
    intro fu
    induction fu with
    | zero => intro j629 mx629 ls H locs h0 h1 h2; exact absurd h2 (by omega)
    | succ fu ih_629 =>
      intro j629 mx629 ls H locs hj0_629 hj_629 hfu_629  hl hh
      refine lv_iload_n hx hb dX0_firstSlotOf_4 rfl (lv_at hl 0 rfl) ?_
      refine lv_aload_n hx hb dX0_firstSlotOf_5 rfl (lv_at hl 2 rfl) ?_
      refine hp_get hx hb hts ix0 hown hK hh (q := 70) rfl (hI.1.1 _ (by decide)) es628 rfl 8 (by decide) (hts _ tw_155) (fun _ h9 => h9) rfl dX0_firstSlotOf_6 ?_
      refine lv_icmp_ge (tgt := 28) hx hb dX0_firstSlotOf_9 (by decide) (fun c_630 => ?_) (fun c_630 => ?_)
      · have n_630 : cc_628 ≤ j629 := n_le (a := cc_628) (b := j629) c_630 (by omega) (by omega)
        refine lv_iload_n hx hb dX0_firstSlotOf_28 rfl (lv_at hl 1 rfl) ?_
        refine lv_iload_n hx hb dX0_firstSlotOf_29 rfl (lv_at hl 1 rfl) ?_
        refine lv_bipush (v := 15) hx hb dX0_firstSlotOf_30 (by decide) ?_
        refine lv_iushr hx hb dX0_firstSlotOf_32 rfl ?_
        refine lv_ixor hx hb dX0_firstSlotOf_33 ?_
        refine lv_istore_n (lv' := [(2, .int (mx629 ^^^ ((mx629).toUInt32 >>> ((15 : Int32).toUInt32 &&& Int32.toUInt32 31)).toInt32)), (3, .int (nI j629)), (0, .ref (ad 70)), (1, .ref (ad q))]) hx hb dX0_firstSlotOf_34 rfl hl (by decide) rfl (fun ls hl => ?_)
        refine lv_iload_n hx hb dX0_firstSlotOf_35 rfl (lv_at hl 0 rfl) ?_
        refine lv_iload_n hx hb dX0_firstSlotOf_36 rfl (lv_at hl 0 rfl) ?_
        refine lv_bipush (v := 7) hx hb dX0_firstSlotOf_37 (by decide) ?_
        refine lv_iushr hx hb dX0_firstSlotOf_39 rfl ?_
        refine lv_ixor hx hb dX0_firstSlotOf_40 ?_
        refine lv_sipush (v := 4095) hx hb dX0_firstSlotOf_41 (by decide) ?_
        refine lv_iand hx hb dX0_firstSlotOf_44 ?_
        obtain ⟨S_631, hS_631, hSe_631⟩ := and4095 ((mx629 ^^^ ((mx629).toUInt32 >>> ((15 : Int32).toUInt32 &&& Int32.toUInt32 31)).toInt32) ^^^ (((mx629 ^^^ ((mx629).toUInt32 >>> ((15 : Int32).toUInt32 &&& Int32.toUInt32 31)).toInt32)).toUInt32 >>> ((7 : Int32).toUInt32 &&& Int32.toUInt32 31)).toInt32)
        rw [hSe_631]
        exact hp_iretR hx hb hr rfl hlocks hsz hh (⟨_, hS_631, rfl⟩) dX0_firstSlotOf_45
      · have n_630 : j629 < cc_628 := n_nle (a := cc_628) (b := j629) c_630 (by omega) (by omega)
        refine lv_iload_n hx hb dX0_firstSlotOf_12 rfl (lv_at hl 1 rfl) ?_
        refine lv_ldc hx hb hown (hts _ tw_612) dX0_firstSlotOf_13 ?_
        refine lv_imul hx hb dX0_firstSlotOf_15 ?_
        refine lv_aload_n hx hb dX0_firstSlotOf_16 rfl (lv_at hl 3 rfl) ?_
        refine lv_iload_n hx hb dX0_firstSlotOf_17 rfl (lv_at hl 0 rfl) ?_
        refine hp_lald hx hb hK hh (q := q) rfl hq eq (vp_in_nI (n := j629) (by omega) (by decide)) dX0_firstSlotOf_18 ?_
        rw [nI_clamp (n := j629) (by omega)]
        refine lv_l2i hx hb dX0_firstSlotOf_19 rfl ?_
        refine lv_iadd hx hb dX0_firstSlotOf_20 ?_
        refine lv_istore_n (lv' := [(2, .int ((mx629 * 1000003) + (fa j629).toInt32)), (3, .int (nI j629)), (0, .ref (ad 70)), (1, .ref (ad q))]) hx hb dX0_firstSlotOf_21 rfl hl (by decide) rfl (fun ls hl => ?_)
        refine lv_iinc (v := (nI (j629 + 1))) (lv' := [(3, .int (nI (j629 + 1))), (2, .int ((mx629 * 1000003) + (fa j629).toInt32)), (0, .ref (ad 70)), (1, .ref (ad q))]) hx hb dX0_firstSlotOf_22 hl (k := 1) rfl (nI_1 _) (by decide) rfl (fun ls hl => ?_)
        refine lv_goto (tgt := 4) hx hb dX0_firstSlotOf_25 (by decide) ?_
        exact ih_629 ((j629 + 1)) ((mx629 * 1000003) + (fa j629).toInt32) ls H locs (by omega) (by omega) (by omega)  (lv_sub hl [0, 1, 2, 3] rfl) hh
  exact loop_629 (cc_628 + 1) 0 0 ls _ _ (Nat.le_refl _) (by omega) (by omega)  (lv_sub hl [0, 1, 2, 3] rfl) hh
theorem kw_X0_firstSlotOf {R : Room} {s : State} {args : Array Value} {own : String} {idx : Nat} (hts : ∀ w ∈ TB, w.before args s = true) (hl : Cond.methodLink own idx yX0_firstSlotOf ∈ TB) (hR : 0 + 1 ≤ R.frames ∧ 8 + (4 + 11) + 40 * 0 ≤ R.locals) : CallW R s args own RX0 idx yX0_firstSlotOf cX0_firstSlotOf 4 (some .int) (Cond.code yX0_firstSlotOf cX0_firstSlotOf 4 (some .int) :: TB) (rmN 0) 0 0 1 := cwV 1 hts (TB_V hl tw_610 ts_18 tw_5 tw_611) rfl rfl rfl (by decide +kernel) hR
set_option maxHeartbeats 4000000 in
set_option maxRecDepth 100000 in
/-- isSame -/
theorem c_X0_isSame (l : Launch) (D : va_G) (cy : Nat → ClassId) (sz : Nat) (cs : List Nat) (ad : Nat → Nat) (en : Nat → va_E) {ka kb kc : Nat} (hI : SC cy cs ad ka kb kc en) (k : Nat) (hk : k < 2000) (q : Nat) (hq : q ∈ cs) (hq9 : q < 115) (fa : Nat → Int64) (eq : en q = .inl (cy 1, 9, .inr (.inl fa)))  : Met l yX0_isSame (Cond.code yX0_isSame cX0_isSame 4 (some .boolean) :: TB) (rmN 0) (va_Pc [.ref (ad 70), .int (nI k), .ref (ad q)] (Pre D cy cs ad en sz)) (va_Qi (S := Unit) (fun r _ => r = 0 ∨ r = 1) (fun _ _ => True) (Nf sz)) 0 0 (Nf sz) := by
  refine Met.ofW (cc := cX0_isSame) (maxL := 4) (ret := (some .boolean)) (by decide) rfl ?_
  intro p e s m args below meth c s₁ B hml hv
  obtain ⟨rfl, hsz, hP, hK, hD0⟩ := hv
  have hx := B.exec
  have hb := B.bytes
  have hr := B.returns
  have hts : ∀ w ∈ TB, w.before _ s = true := fun w h => atoms_spec (ws := _ :: TB) B.pre w (List.mem_cons_of_mem _ h)
  have hown : s.vm.findClass RX0 = some m.cls := findClass_of_methodNamed B.named
  have hlocks := B.notSynchronized
  have hh : Hp D (Nf sz) (fun _ => True) s.heap s.heap [] cs ad en := ⟨hP, hD0, va_S.rf⟩
  have hA : ∀ q : Nat, s.heap.size ≤ q → Nf sz q := fun q h => by rw [hsz] at h; exact h
  have hl := lv_entry ([.ref (ad 70), .int (nI k), .ref (ad q)]) (n := 4) (Nat.le_of_ble_eq_true rfl)
  rw [lg_entry_eq]
  generalize (lg_sl ([.ref (ad 70), .int (nI k), .ref (ad q)]) ++ List.replicate (4 - (lg_sl ([.ref (ad 70), .int (nI k), .ref (ad q)])).length) Slot.unset).toArray = ls at hl ⊢
  have hl : lv_has ls 4 [(0, .ref (ad 70)), (1, .int (nI k)), (2, .ref (ad q))] := hl
  have hka1 : 115 ≤ ka := hI.2.1.2.2.2.1
  have hka2 : ka < kb := hI.2.1.2.2.2.2.1
  have hka3 : kb < kc := hI.2.1.2.2.2.2.2
  obtain ⟨sta_632, cc_632, ct_632, un_632, ow_632, hn_632, es632, p0_632, p1_632, p2_632, p3_632⟩ := get2_C hI
  refine lv_iconst (v := 0) hx hb dX0_isSame_0 (by decide) ?_
  refine lv_istore_n (lv' := [(3, .int 0), (0, .ref (ad 70)), (1, .int (nI k)), (2, .ref (ad q))]) hx hb dX0_isSame_1 rfl hl (by decide) rfl (fun ls hl => ?_)
  have loop_633 : ∀ (fu j633 : Nat)   (ls : Array Slot) (H : Heap) (locs : List Loc), 0 ≤ j633 → j633 ≤ cc_632 → cc_632 < j633 + fu →   lv_has ls 4 [(3, .int (nI j633)), (0, .ref (ad 70)), (1, .int (nI k)), (2, .ref (ad q))] → Hp D (Nf sz) (fun _ => True) s.heap H locs cs ad en → W p l e (headSpec (Cond.code yX0_isSame cX0_isSame 4 (some .boolean) :: TB) (rmN 0)).room s m ([.ref (ad 70), .int (nI k), .ref (ad q)] : List Value).toArray below meth c H locs 0 0 (MQ below (va_Qi (S := Unit) (fun r _ => r = 0 ∨ r = 1) (fun _ _ => True) (Nf sz)) ([.ref (ad 70), .int (nI k), .ref (ad q)] : List Value).toArray s 0 0 (Nf sz)) (F0 m 2 ls []) := by
    intro fu
    induction fu with
    | zero => intro j633  ls H locs h0 h1 h2; exact absurd h2 (by omega)
    | succ fu ih_633 =>
      intro j633  ls H locs hj0_633 hj_633 hfu_633  hl hh
      refine lv_iload_n hx hb dX0_isSame_2 rfl (lv_at hl 0 rfl) ?_
      refine lv_aload_n hx hb dX0_isSame_3 rfl (lv_at hl 1 rfl) ?_
      refine hp_get hx hb hts ix0 hown hK hh (q := 70) rfl (hI.1.1 _ (by decide)) es632 rfl 8 (by decide) (hts _ tw_155) (fun _ h9 => h9) rfl dX0_isSame_4 ?_
      refine lv_icmp_ge (tgt := 36) hx hb dX0_isSame_7 (by decide) (fun c_634 => ?_) (fun c_634 => ?_)
      · have n_634 : cc_632 ≤ j633 := n_le (a := cc_632) (b := j633) c_634 (by omega) (by omega)
        refine lv_iconst (v := 1) hx hb dX0_isSame_36 (by decide) ?_
        exact hp_iretR hx hb hr rfl hlocks hsz hh (Or.inr rfl) dX0_isSame_37
      · have n_634 : j633 < cc_632 := n_nle (a := cc_632) (b := j633) c_634 (by omega) (by omega)
        refine lv_aload_n hx hb dX0_isSame_10 rfl (lv_at hl 1 rfl) ?_
        refine hp_get hx hb hts ix0 hown hK hh (q := 70) rfl (hI.1.1 _ (by decide)) es632 rfl 4 (by decide) (hts _ tw_151) (fun _ h9 => h9) rfl dX0_isSame_11 ?_
        refine lv_iload_n hx hb dX0_isSame_14 rfl (lv_at hl 2 rfl) ?_
        refine lv_bipush (v := 9) hx hb dX0_isSame_15 (by decide) ?_
        refine lv_imul hx hb dX0_isSame_17 ?_
        rw [show (9 : Int32) = nI 9 from rfl, pk_mul k 9]
        refine lv_iload_n hx hb dX0_isSame_18 rfl (lv_at hl 0 rfl) ?_
        refine lv_iadd hx hb dX0_isSame_19 ?_
        rw [nI_add (k * 9) j633]
        obtain ⟨f_635, es635⟩ := get2_ea hI
        refine hp_lald hx hb hK hh (q := ka) rfl hI.2.1.1 es635 (vp_in_nI (n := ((k * 9) + j633)) (by omega) (by decide)) dX0_isSame_20 ?_
        rw [nI_clamp (n := ((k * 9) + j633)) (by omega)]
        refine lv_aload_n hx hb dX0_isSame_21 rfl (lv_at hl 3 rfl) ?_
        refine lv_iload_n hx hb dX0_isSame_22 rfl (lv_at hl 0 rfl) ?_
        refine hp_lald hx hb hK hh (q := q) rfl hq eq (vp_in_nI (n := j633) (by omega) (by decide)) dX0_isSame_23 ?_
        rw [nI_clamp (n := j633) (by omega)]
        refine W.lcmp hx hb dX0_isSame_24 ?_
        refine lv_if_eq (tgt := 30) hx hb dX0_isSame_25 (by decide) (fun c_636 => ?_) (fun c_636 => ?_)
        · refine lv_iinc (v := (nI (j633 + 1))) (lv' := [(3, .int (nI (j633 + 1))), (0, .ref (ad 70)), (1, .int (nI k)), (2, .ref (ad q))]) hx hb dX0_isSame_30 hl (k := 0) rfl (nI_1 _) (by decide) rfl (fun ls hl => ?_)
          refine lv_goto (tgt := 2) hx hb dX0_isSame_33 (by decide) ?_
          exact ih_633 ((j633 + 1))  ls H locs (by omega) (by omega) (by omega)  (lv_sub hl [0, 1, 2, 3] rfl) hh
        · refine lv_iconst (v := 0) hx hb dX0_isSame_28 (by decide) ?_
          exact hp_iretR hx hb hr rfl hlocks hsz hh (Or.inl rfl) dX0_isSame_29
  exact loop_633 (cc_632 + 1) 0  ls _ _ (Nat.le_refl _) (by omega) (by omega)  (lv_sub hl [0, 1, 2, 3] rfl) hh
theorem kw_X0_isSame {R : Room} {s : State} {args : Array Value} {own : String} {idx : Nat} (hts : ∀ w ∈ TB, w.before args s = true) (hl : Cond.methodLink own idx yX0_isSame ∈ TB) (hR : 0 + 1 ≤ R.frames ∧ 8 + (4 + 11) + 40 * 0 ≤ R.locals) : CallW R s args own RX0 idx yX0_isSame cX0_isSame 4 (some .boolean) (Cond.code yX0_isSame cX0_isSame 4 (some .boolean) :: TB) (rmN 0) 0 0 2 := cwV 2 hts (TB_V hl tw_615 ts_19 tw_5 tw_616) rfl rfl rfl (by decide +kernel) hR
set_option maxHeartbeats 4000000 in
set_option maxRecDepth 100000 in
/-- slotOf -/
theorem c_X0_slotOf (l : Launch) (D : va_G) (cy : Nat → ClassId) (sz : Nat) (cs : List Nat) (ad : Nat → Nat) (en : Nat → va_E) {ka kb kc : Nat} (hI : SC cy cs ad ka kb kc en) (q : Nat) (hq : q ∈ cs) (hq9 : q < 115) (fa : Nat → Int64) (eq : en q = .inl (cy 1, 9, .inr (.inl fa)))  : Met l yX0_slotOf (Cond.code yX0_slotOf cX0_slotOf 4 (some .int) :: TB) (rmN 1) (va_Pc [.ref (ad 70), .ref (ad q)] (Pre D cy cs ad en sz)) (va_Qi (S := Unit) (fun r _ => ∃ S, S < 4096 ∧ r = nI S) (fun _ _ => True) (Nf sz)) 0 0 (Nf sz) := by
  refine Met.ofW (cc := cX0_slotOf) (maxL := 4) (ret := (some .int)) (by decide) rfl ?_
  intro p e s m args below meth c s₁ B hml hv
  obtain ⟨rfl, hsz, hP, hK, hD0⟩ := hv
  have hx := B.exec
  have hb := B.bytes
  have hr := B.returns
  have hts : ∀ w ∈ TB, w.before _ s = true := fun w h => atoms_spec (ws := _ :: TB) B.pre w (List.mem_cons_of_mem _ h)
  have hown : s.vm.findClass RX0 = some m.cls := findClass_of_methodNamed B.named
  have hlocks := B.notSynchronized
  have hh : Hp D (Nf sz) (fun _ => True) s.heap s.heap [] cs ad en := ⟨hP, hD0, va_S.rf⟩
  have hA : ∀ q : Nat, s.heap.size ≤ q → Nf sz q := fun q h => by rw [hsz] at h; exact h
  have hl := lv_entry ([.ref (ad 70), .ref (ad q)]) (n := 4) (Nat.le_of_ble_eq_true rfl)
  rw [lg_entry_eq]
  generalize (lg_sl ([.ref (ad 70), .ref (ad q)]) ++ List.replicate (4 - (lg_sl ([.ref (ad 70), .ref (ad q)])).length) Slot.unset).toArray = ls at hl ⊢
  have hl : lv_has ls 4 [(0, .ref (ad 70)), (1, .ref (ad q))] := hl
  have hka1 : 115 ≤ ka := hI.2.1.2.2.2.1
  have hka2 : ka < kb := hI.2.1.2.2.2.2.1
  have hka3 : kb < kc := hI.2.1.2.2.2.2.2
  obtain ⟨sta_637, cc_637, ct_637, un_637, ow_637, hn_637, es637, p0_637, p1_637, p2_637, p3_637⟩ := get2_C hI
  obtain ⟨f_638, es638, p0_638⟩ := get2_ec hI
  refine lv_aload_n hx hb dX0_slotOf_0 rfl (lv_at hl 0 rfl) ?_
  refine lv_aload_n hx hb dX0_slotOf_1 rfl (lv_at hl 1 rfl) ?_
  refine hp_callRi (va_runV (As := [.ref (ad q)]) (rest := []) ⟨hx, hb, hml, hown, hts⟩ (c_X0_firstSlotOf l D cy _ cs ad en hI  q hq (by omega) fa  eq) (kw_X0_firstSlotOf hts tw_608 ⟨by decide, by decide⟩) (preV_of hh hK (hI.1.1 _ (by decide)) es637 rfl) rfl rfl hl.1 rfl (lv_room (Nat.le_of_ble_eq_true rfl)) dX0_slotOf_2 ⟨Nat.le_of_ble_eq_true rfl, Nat.le_of_ble_eq_true rfl⟩) hh hA (fun r_639 H locs hw_639 hh => ?_)
  obtain ⟨S_639, hS_639, rfl⟩ := hw_639
  refine lv_istore_n (lv' := [(2, .int (nI S_639)), (0, .ref (ad 70)), (1, .ref (ad q))]) hx hb dX0_slotOf_5 rfl hl (by decide) rfl (fun ls hl => ?_)
  refine lv_iconst (v := 0) hx hb dX0_slotOf_6 (by decide) ?_
  refine lv_istore_n (lv' := [(3, .int 0), (2, .int (nI S_639)), (0, .ref (ad 70)), (1, .ref (ad q))]) hx hb dX0_slotOf_7 rfl hl (by decide) rfl (fun ls hl => ?_)
  have loop_640 : ∀ (fu j640 : Nat) (sl640 : Nat)  (ls : Array Slot) (H : Heap) (locs : List Loc), 0 ≤ j640 → j640 ≤ 4096 → 4096 < j640 + fu →  (sl640 < 4096) → lv_has ls 4 [(3, .int (nI j640)), (2, .int (nI sl640)), (0, .ref (ad 70)), (1, .ref (ad q))] → Hp D (Nf sz) (fun _ => True) s.heap H locs cs ad en → W p l e (headSpec (Cond.code yX0_slotOf cX0_slotOf 4 (some .int) :: TB) (rmN 1)).room s m ([.ref (ad 70), .ref (ad q)] : List Value).toArray below meth c H locs 0 0 (MQ below (va_Qi (S := Unit) (fun r _ => ∃ S, S < 4096 ∧ r = nI S) (fun _ _ => True) (Nf sz)) ([.ref (ad 70), .ref (ad q)] : List Value).toArray s 0 0 (Nf sz)) (F0 m 8 ls []) := by
    intro fu
    induction fu with
    | zero => intro j640 sl640 ls H locs h0 h1 h2; exact absurd h2 (by omega)
    | succ fu ih_640 =>
      intro j640 sl640 ls H locs hj0_640 hj_640 hfu_640 i0_640 hl hh
      refine lv_iload_n hx hb dX0_slotOf_8 rfl (lv_at hl 0 rfl) ?_
      refine lv_sipush (v := 4096) hx hb dX0_slotOf_9 (by decide) ?_
      refine lv_icmp_ge (tgt := 56) hx hb dX0_slotOf_12 (by decide) (fun c_641 => ?_) (fun c_641 => ?_)
      · have n_641 : 4096 ≤ j640 := n_le (a := 4096) (b := j640) c_641 (by decide) (by omega)
        refine lv_iload_n hx hb dX0_slotOf_56 rfl (lv_at hl 1 rfl) ?_
        exact hp_iretR hx hb hr rfl hlocks hsz hh (⟨_, i0_640, rfl⟩) dX0_slotOf_57
      · have n_641 : j640 < 4096 := n_nle (a := 4096) (b := j640) c_641 (by decide) (by omega)
        refine lv_aload_n hx hb dX0_slotOf_15 rfl (lv_at hl 2 rfl) ?_
        refine hp_get hx hb hts ix0 hown hK hh (q := 70) rfl (hI.1.1 _ (by decide)) es637 rfl 6 (by decide) (hts _ tw_153) (fun _ h9 => h9) rfl dX0_slotOf_16 ?_
        refine lv_iload_n hx hb dX0_slotOf_19 rfl (lv_at hl 1 rfl) ?_
        refine hp_iald hx hb hK hh (q := kc) rfl hI.2.1.2.2.1 es638 (vp_in_nI (n := sl640) (by omega) (by decide)) dX0_slotOf_20 ?_
        rw [nI_clamp (n := sl640) (by omega)]
        obtain ⟨v_642, hv_642, hfv_642⟩ := p0_638 sl640 (by omega)
        rw [hfv_642]
        refine lv_if_eq (tgt := 40) hx hb dX0_slotOf_21 (by decide) (fun c_643 => ?_) (fun c_643 => ?_)
        · have n_643 : v_642 = 0 := n_eq (a := v_642) (b := 0) c_643 (by omega) (by decide)
          refine lv_iload_n hx hb dX0_slotOf_40 rfl (lv_at hl 1 rfl) ?_
          exact hp_iretR hx hb hr rfl hlocks hsz hh (⟨_, i0_640, rfl⟩) dX0_slotOf_41
        · have n_643 : v_642 ≠ 0 := n_neq (a := v_642) (b := 0) c_643 (by omega) (by decide)
          refine lv_aload_n hx hb dX0_slotOf_24 rfl (lv_at hl 2 rfl) ?_
          refine lv_aload_n hx hb dX0_slotOf_25 rfl (lv_at hl 2 rfl) ?_
          refine hp_get hx hb hts ix0 hown hK hh (q := 70) rfl (hI.1.1 _ (by decide)) es637 rfl 6 (by decide) (hts _ tw_153) (fun _ h9 => h9) rfl dX0_slotOf_26 ?_
          refine lv_iload_n hx hb dX0_slotOf_29 rfl (lv_at hl 1 rfl) ?_
          refine hp_iald hx hb hK hh (q := kc) rfl hI.2.1.2.2.1 es638 (vp_in_nI (n := sl640) (by omega) (by decide)) dX0_slotOf_30 ?_
          rw [nI_clamp (n := sl640) (by omega)]
          rw [hfv_642]
          refine lv_iconst (v := 1) hx hb dX0_slotOf_31 (by decide) ?_
          refine lv_isub hx hb dX0_slotOf_32 ?_
          rw [show (1 : Int32) = nI 1 from rfl, pk_sub (a := v_642) (b := 1) (by omega)]
          refine lv_aload_n hx hb dX0_slotOf_33 rfl (lv_at hl 3 rfl) ?_
          refine hp_callRi (va_runV (As := [.int (nI (v_642 - 1)), .ref (ad q)]) (rest := []) ⟨hx, hb, hml, hown, hts⟩ (c_X0_isSame l D cy _ cs ad en hI (v_642 - 1) (by omega) q hq (by omega) fa  eq) (kw_X0_isSame hts tw_613 ⟨by decide, by decide⟩) (preV_of hh hK (hI.1.1 _ (by decide)) es637 rfl) rfl rfl hl.1 rfl (lv_room (Nat.le_of_ble_eq_true rfl)) dX0_slotOf_34 ⟨Nat.le_of_ble_eq_true rfl, Nat.le_of_ble_eq_true rfl⟩) hh hA (fun r_644 H locs hw_644 hh => ?_)
          rcases hw_644 with hb_644 | hb_644
          · obtain rfl : r_644 = 0 := hb_644
            refine lv_if_eq (tgt := 42) hx hb dX0_slotOf_37 (by decide) (fun _ => ?_) (fun c_0 => absurd c_0 (by decide))
            refine lv_iload_n hx hb dX0_slotOf_42 rfl (lv_at hl 1 rfl) ?_
            refine lv_iconst (v := 1) hx hb dX0_slotOf_43 (by decide) ?_
            refine lv_iadd hx hb dX0_slotOf_44 ?_
            rw [show (1 : Int32) = nI 1 from rfl, nI_add sl640 1]
            refine lv_sipush (v := 4095) hx hb dX0_slotOf_45 (by decide) ?_
            refine lv_iand hx hb dX0_slotOf_48 ?_
            rw [m4095]
            have hq_645 : ((sl640 + 1) % 4096) < 4096 := Nat.mod_lt _ (by decide)
            refine lv_istore_n (lv' := [(2, .int (nI ((sl640 + 1) % 4096))), (3, .int (nI j640)), (0, .ref (ad 70)), (1, .ref (ad q))]) hx hb dX0_slotOf_49 rfl hl (by decide) rfl (fun ls hl => ?_)
            refine lv_iinc (v := (nI (j640 + 1))) (lv' := [(3, .int (nI (j640 + 1))), (2, .int (nI ((sl640 + 1) % 4096))), (0, .ref (ad 70)), (1, .ref (ad q))]) hx hb dX0_slotOf_50 hl (k := 1) rfl (nI_1 _) (by decide) rfl (fun ls hl => ?_)
            refine lv_goto (tgt := 8) hx hb dX0_slotOf_53 (by decide) ?_
            exact ih_640 ((j640 + 1)) ((sl640 + 1) % 4096) ls H locs (by omega) (by omega) (by omega) ((by omega)) (lv_sub hl [0, 1, 2, 3] rfl) hh
          · obtain rfl : r_644 = 1 := hb_644
            refine lv_if_eq (tgt := 42) hx hb dX0_slotOf_37 (by decide) (fun c_0 => absurd c_0 (by decide)) (fun _ => ?_)
            refine lv_iload_n hx hb dX0_slotOf_40 rfl (lv_at hl 1 rfl) ?_
            exact hp_iretR hx hb hr rfl hlocks hsz hh (⟨_, i0_640, rfl⟩) dX0_slotOf_41
  exact loop_640 (4096 + 1) 0 S_639 ls _ _ (Nat.le_refl _) (by omega) (by omega) ((by omega)) (lv_sub hl [0, 1, 2, 3] rfl) hh
theorem kw_X0_slotOf {R : Room} {s : State} {args : Array Value} {own : String} {idx : Nat} (hts : ∀ w ∈ TB, w.before args s = true) (hl : Cond.methodLink own idx yX0_slotOf ∈ TB) (hR : 1 + 1 ≤ R.frames ∧ 8 + (4 + 11) + 40 * 1 ≤ R.locals) : CallW R s args own RX0 idx yX0_slotOf cX0_slotOf 4 (some .int) (Cond.code yX0_slotOf cX0_slotOf 4 (some .int) :: TB) (rmN 1) 0 0 1 := cwV 1 hts (TB_V hl tw_606 ts_17 tw_5 tw_607) rfl rfl rfl (by decide +kernel) hR
set_option maxHeartbeats 4000000 in
set_option maxRecDepth 100000 in
/-- load -/
theorem c_X0_load (l : Launch) (D : va_G) (cy : Nat → ClassId) (sz : Nat) (cs : List Nat) (ad : Nat → Nat) (en : Nat → va_E) (ka kb kc : Nat) (k : Nat) (hk : k < 2000) (hm70 : 70 ∈ cs) (hka : ka ∈ cs) (q : Nat) (hq : q ∈ cs) (hq7 : q ≠ 70) (hqk : q ≠ ka) (sta cc ct : Nat) (un ow : Int32) (hn : Nat) (fa fq : Nat → Int64) (e70 : en 70 = .inr (0, [.ref (ad 1), .ref (ad 71), .ref (ad 72), .ref (ad 73), .ref (ad ka), .ref (ad kb), .ref (ad kc), .int (nI sta), .int (nI cc), .int (nI ct), .int un, .int ow, .int (nI hn)])) (eka : en ka = .inl (cy 1, 18000, .inr (.inl fa))) (eq : en q = .inl (cy 1, 9, .inr (.inl fq)))  : Met l yX0_load (Cond.code yX0_load cX0_load 3 none :: TB) (rmN 1) (va_Pc [.ref (ad 70), .int (nI k), .ref (ad q)] (Pre D cy cs ad en sz)) (va_Qv (S := Nat → va_E) (fun en1 => en1 = va_up en q (.inl (cy 1, 9, .inr (.inl (va_cpy fa fq (k * 9) 0 9))))) (PostM D cs ad) (Af cs ad sz)) 0 0 (Af cs ad sz) := by
  refine Met.ofW (cc := cX0_load) (maxL := 3) (ret := none) (by decide) rfl ?_
  intro p e s m args below meth c s₁ B hml hv
  obtain ⟨rfl, hsz, hP, hK, hD0⟩ := hv
  have hx := B.exec
  have hb := B.bytes
  have hr := B.returns
  have hts : ∀ w ∈ TB, w.before _ s = true := fun w h => atoms_spec (ws := _ :: TB) B.pre w (List.mem_cons_of_mem _ h)
  have hown : s.vm.findClass RX0 = some m.cls := findClass_of_methodNamed B.named
  have hlocks := B.notSynchronized
  have hh : Hp D (Af cs ad sz) (Af cs ad sz) s.heap s.heap [] cs ad en := ⟨hP, Af_self hD0, va_S.rf⟩
  have hA : ∀ q : Nat, s.heap.size ≤ q → Af cs ad sz q := fun q h => Or.inr (by rw [hsz] at h; exact h)
  have hl := lv_entry ([.ref (ad 70), .int (nI k), .ref (ad q)]) (n := 3) (Nat.le_of_ble_eq_true rfl)
  rw [lg_entry_eq]
  generalize (lg_sl ([.ref (ad 70), .int (nI k), .ref (ad q)]) ++ List.replicate (3 - (lg_sl ([.ref (ad 70), .int (nI k), .ref (ad q)])).length) Slot.unset).toArray = ls at hl ⊢
  have hl : lv_has ls 3 [(0, .ref (ad 70)), (1, .int (nI k)), (2, .ref (ad q))] := hl
  refine lv_aload_n hx hb dX0_load_0 rfl (lv_at hl 0 rfl) ?_
  refine hp_get hx hb hts ix0 hown hK hh (q := 70) rfl hm70 e70 rfl 4 (by decide) (hts _ tw_151) (fun _ h9 => h9) rfl dX0_load_1 ?_
  refine lv_iload_n hx hb dX0_load_4 rfl (lv_at hl 1 rfl) ?_
  refine lv_bipush (v := 9) hx hb dX0_load_5 (by decide) ?_
  refine lv_imul hx hb dX0_load_7 ?_
  rw [show (9 : Int32) = nI 9 from rfl, pk_mul k 9]
  refine lv_aload_n hx hb dX0_load_8 rfl (lv_at hl 2 rfl) ?_
  refine lv_iconst (v := 0) hx hb dX0_load_9 (by decide) ?_
  refine lv_bipush (v := 9) hx hb dX0_load_10 (by decide) ?_
  refine W.eq (g2 := F0 m 12 ls [.int (nI 9), .int (nI 0), .ref (ad q), .int (nI (k * 9)), .ref (ad ka)]) rfl ?_
  refine hp_copyl hx hb (hml.trans hl.1.symm) hown (hts _ tw_617) (hts _ tw_340) (hts _ tw_339) (hts _ tw_12) hK hh hka hq eka eq (k * 9) 0 9 (by omega) (by decide) (by decide) (by omega) (by decide) (Nat.le_of_ble_eq_true rfl) (Nat.le_of_ble_eq_true rfl) dX0_load_12 (fun H locs en_646 hen_646 hh => ?_)
  have e70_646 : en_646 70 = .inr (0, [.ref (ad 1), .ref (ad 71), .ref (ad 72), .ref (ad 73), .ref (ad ka), .ref (ad kb), .ref (ad kc), .int (nI sta), .int (nI cc), .int (nI ct), .int un, .int ow, .int (nI hn)]) := by rw [hen_646, va_up_ne _ _ (by omega)]; exact e70
  have eka_646 : en_646 ka = .inl (cy 1, 18000, .inr (.inl fa)) := by rw [hen_646, va_up_ne _ _ (by omega)]; exact eka
  have eq_646 : en_646 q = .inl (cy 1, 9, .inr (.inl (va_cpy fa fq (k * 9) 0 9))) := by rw [hen_646]; exact va_up_self _ _ _
  exact hp_vretM hx hb hr hlocks hh (hen_646) dX0_load_15
theorem kw_X0_load {R : Room} {s : State} {args : Array Value} {own : String} {idx : Nat} (hts : ∀ w ∈ TB, w.before args s = true) (hl : Cond.methodLink own idx yX0_load ∈ TB) (hR : 1 + 1 ≤ R.frames ∧ 8 + (3 + 11) + 40 * 1 ≤ R.locals) : CallW R s args own RX0 idx yX0_load cX0_load 3 none (Cond.code yX0_load cX0_load 3 none :: TB) (rmN 1) 0 0 2 := cwV 2 hts (TB_V hl tw_624 ts_21 tw_5 tw_625) rfl rfl rfl (by decide +kernel) hR
set_option maxHeartbeats 4000000 in
set_option maxRecDepth 100000 in
/-- multiplyNumbered -/
theorem c_X0_multiplyNumbered (l : Launch) (D : va_G) (cy : Nat → ClassId) (sz : Nat) (cs : List Nat) (ad : Nat → Nat) (en : Nat → va_E) {ka kb kc : Nat} (hI : SC cy cs ad ka kb kc en) (k j : Nat) (hk : k < 2000) (hj : j < 2000)   : Met l yX0_multiplyNumbered (Cond.code yX0_multiplyNumbered cX0_multiplyNumbered 3 none :: TB) (rmN 2) (va_Pc [.ref (ad 70), .int (nI k), .int (nI j)] (Pre D cy cs ad en sz)) (va_Qv (S := Nat → va_E) (fun en1 => SC cy cs ad ka kb kc en1 ∧ (∀ c, (c < 71 ∨ 74 ≤ c) → en1 c = en c)) (PostM D cs ad) (Af cs ad sz)) 0 0 (Af cs ad sz) := by
  refine Met.ofW (cc := cX0_multiplyNumbered) (maxL := 3) (ret := none) (by decide) rfl ?_
  intro p e s m args below meth c s₁ B hml hv
  obtain ⟨rfl, hsz, hP, hK, hD0⟩ := hv
  have hx := B.exec
  have hb := B.bytes
  have hr := B.returns
  have hts : ∀ w ∈ TB, w.before _ s = true := fun w h => atoms_spec (ws := _ :: TB) B.pre w (List.mem_cons_of_mem _ h)
  have hown : s.vm.findClass RX0 = some m.cls := findClass_of_methodNamed B.named
  have hlocks := B.notSynchronized
  have hh : Hp D (Af cs ad sz) (Af cs ad sz) s.heap s.heap [] cs ad en := ⟨hP, Af_self hD0, va_S.rf⟩
  have hA : ∀ q : Nat, s.heap.size ≤ q → Af cs ad sz q := fun q h => Or.inr (by rw [hsz] at h; exact h)
  have hl := lv_entry ([.ref (ad 70), .int (nI k), .int (nI j)]) (n := 3) (Nat.le_of_ble_eq_true rfl)
  rw [lg_entry_eq]
  generalize (lg_sl ([.ref (ad 70), .int (nI k), .int (nI j)]) ++ List.replicate (3 - (lg_sl ([.ref (ad 70), .int (nI k), .int (nI j)])).length) Slot.unset).toArray = ls at hl ⊢
  have hl : lv_has ls 3 [(0, .ref (ad 70)), (1, .int (nI k)), (2, .int (nI j))] := hl
  have hka1 : 115 ≤ ka := hI.2.1.2.2.2.1
  have hka2 : ka < kb := hI.2.1.2.2.2.2.1
  have hka3 : kb < kc := hI.2.1.2.2.2.2.2
  have hf0 : ∀ c, (c < 71 ∨ 74 ≤ c) → en c = en c := fun _ _ => rfl
  obtain ⟨cnt, d, mm, es647, hcnt, hd2, hd3, hmm⟩ := get2_T hI
  obtain ⟨sta_648, cc_648, ct_648, un_648, ow_648, hn_648, es648, p0_648, p1_648, p2_648, p3_648⟩ := get2_C hI
  refine lv_aload_n hx hb dX0_multiplyNumbered_0 rfl (lv_at hl 0 rfl) ?_
  refine lv_iload_n hx hb dX0_multiplyNumbered_1 rfl (lv_at hl 1 rfl) ?_
  refine lv_aload_n hx hb dX0_multiplyNumbered_2 rfl (lv_at hl 0 rfl) ?_
  refine hp_get hx hb hts ix0 hown hK hh (q := 70) rfl (hI.1.1 _ (by decide)) es648 rfl 1 (by decide) (hts _ tw_148) (fun _ h9 => h9) rfl dX0_multiplyNumbered_3 ?_
  obtain ⟨f_649, es649⟩ := get2_cl hI
  obtain ⟨f_651, es651⟩ := get2_ea hI
  refine hp_callMv (va_runV (As := [.int (nI k), .ref (ad 71)]) (rest := []) ⟨hx, hb, hml, hown, hts⟩ (c_X0_load l D cy _ cs ad en ka kb kc k (by omega) (hI.1.1 _ (by decide)) hI.2.1.1 71 (hI.1.1 _ (by decide)) (by omega) (by omega) sta_648 cc_648 ct_648 un_648 ow_648 hn_648 f_651 f_649 es648 es651 es649   ) (kw_X0_load hts tw_622 ⟨by decide, by decide⟩) (preV_of hh hK (hI.1.1 _ (by decide)) es648 rfl) rfl rfl hl.1 rfl (lv_room (Nat.le_of_ble_eq_true rfl)) dX0_multiplyNumbered_6 ⟨Nat.le_of_ble_eq_true rfl, Nat.le_of_ble_eq_true rfl⟩) hh hA (fun H locs en_650 hw_650 hh => ?_)
  have hen_650 := hw_650
  have es647_650 : en_650 1 = .inr (7, [.ref (ad 2), .ref (ad 3), .ref (ad 10), .ref (ad 11), .int (nI cnt), .int (nI d), .int (nI mm)]) := by rw [hen_650, va_up_ne _ _ (by decide)]; exact es647
  have es648_650 : en_650 70 = .inr (0, [.ref (ad 1), .ref (ad 71), .ref (ad 72), .ref (ad 73), .ref (ad ka), .ref (ad kb), .ref (ad kc), .int (nI sta_648), .int (nI cc_648), .int (nI ct_648), .int un_648, .int ow_648, .int (nI hn_648)]) := by rw [hen_650, va_up_ne _ _ (by decide)]; exact es648
  have es651_650 : en_650 ka = .inl (cy 1, 18000, .inr (.inl f_651)) := by rw [hen_650, va_up_ne _ _ (by omega)]; exact es651
  have es649_650 : en_650 71 = .inl (cy 1, 9, .inr (.inl (va_cpy f_651 f_649 (k * 9) 0 9))) := by rw [hen_650]; exact va_up_self _ _ _
  have hI_650 : SC cy cs ad ka kb kc en_650 := by rw [hen_650]; exact up2_cl hI ⟨(va_cpy f_651 f_649 (k * 9) 0 9), rfl⟩
  have hf_650 : ∀ c, (c < 71 ∨ 74 ≤ c) → en_650 c = en c := fun c hc => Eq.trans (show en_650 c = en c from by rw [hen_650, va_up_ne _ _ (by omega)]) (hf0 c hc)
  refine lv_aload_n hx hb dX0_multiplyNumbered_9 rfl (lv_at hl 0 rfl) ?_
  refine lv_iload_n hx hb dX0_multiplyNumbered_10 rfl (lv_at hl 2 rfl) ?_
  refine lv_aload_n hx hb dX0_multiplyNumbered_11 rfl (lv_at hl 0 rfl) ?_
  refine hp_get hx hb hts ix0 hown hK hh (q := 70) rfl (hI.1.1 _ (by decide)) es648_650 rfl 2 (by decide) (hts _ tw_149) (fun _ h9 => h9) rfl dX0_multiplyNumbered_12 ?_
  obtain ⟨f_652, es652⟩ := get2_cr hI_650
  refine hp_callMv (va_runV (As := [.int (nI j), .ref (ad 72)]) (rest := []) ⟨hx, hb, hml, hown, hts⟩ (c_X0_load l D cy _ cs ad en_650 ka kb kc j (by omega) (hI.1.1 _ (by decide)) hI.2.1.1 72 (hI.1.1 _ (by decide)) (by omega) (by omega) sta_648 cc_648 ct_648 un_648 ow_648 hn_648 f_651 f_652 es648_650 es651_650 es652   ) (kw_X0_load hts tw_622 ⟨by decide, by decide⟩) (preV_of hh hK (hI.1.1 _ (by decide)) es648_650 rfl) rfl rfl hl.1 rfl (lv_room (Nat.le_of_ble_eq_true rfl)) dX0_multiplyNumbered_15 ⟨Nat.le_of_ble_eq_true rfl, Nat.le_of_ble_eq_true rfl⟩) hh hA (fun H locs en_653 hw_653 hh => ?_)
  have hen_653 := hw_653
  have es647_653 : en_653 1 = .inr (7, [.ref (ad 2), .ref (ad 3), .ref (ad 10), .ref (ad 11), .int (nI cnt), .int (nI d), .int (nI mm)]) := by rw [hen_653, va_up_ne _ _ (by decide)]; exact es647_650
  have es648_653 : en_653 70 = .inr (0, [.ref (ad 1), .ref (ad 71), .ref (ad 72), .ref (ad 73), .ref (ad ka), .ref (ad kb), .ref (ad kc), .int (nI sta_648), .int (nI cc_648), .int (nI ct_648), .int un_648, .int ow_648, .int (nI hn_648)]) := by rw [hen_653, va_up_ne _ _ (by decide)]; exact es648_650
  have es651_653 : en_653 ka = .inl (cy 1, 18000, .inr (.inl f_651)) := by rw [hen_653, va_up_ne _ _ (by omega)]; exact es651_650
  have es649_653 : en_653 71 = .inl (cy 1, 9, .inr (.inl (va_cpy f_651 f_649 (k * 9) 0 9))) := by rw [hen_653, va_up_ne _ _ (by decide)]; exact es649_650
  have es652_653 : en_653 72 = .inl (cy 1, 9, .inr (.inl (va_cpy f_651 f_652 (j * 9) 0 9))) := by rw [hen_653]; exact va_up_self _ _ _
  have hI_653 : SC cy cs ad ka kb kc en_653 := by rw [hen_653]; exact up2_cr hI_650 ⟨(va_cpy f_651 f_652 (j * 9) 0 9), rfl⟩
  have hf_653 : ∀ c, (c < 71 ∨ 74 ≤ c) → en_653 c = en c := fun c hc => Eq.trans (show en_653 c = en_650 c from by rw [hen_653, va_up_ne _ _ (by omega)]) (hf_650 c hc)
  refine lv_aload_n hx hb dX0_multiplyNumbered_18 rfl (lv_at hl 0 rfl) ?_
  refine hp_get hx hb hts ix0 hown hK hh (q := 70) rfl (hI.1.1 _ (by decide)) es648_653 rfl 0 (by decide) (hts _ tw_147) (fun _ h9 => h9) rfl dX0_multiplyNumbered_19 ?_
  refine lv_aload_n hx hb dX0_multiplyNumbered_22 rfl (lv_at hl 0 rfl) ?_
  refine hp_get hx hb hts ix0 hown hK hh (q := 70) rfl (hI.1.1 _ (by decide)) es648_653 rfl 1 (by decide) (hts _ tw_148) (fun _ h9 => h9) rfl dX0_multiplyNumbered_23 ?_
  refine lv_aload_n hx hb dX0_multiplyNumbered_26 rfl (lv_at hl 0 rfl) ?_
  refine hp_get hx hb hts ix0 hown hK hh (q := 70) rfl (hI.1.1 _ (by decide)) es648_653 rfl 2 (by decide) (hts _ tw_149) (fun _ h9 => h9) rfl dX0_multiplyNumbered_27 ?_
  refine lv_aload_n hx hb dX0_multiplyNumbered_30 rfl (lv_at hl 0 rfl) ?_
  refine hp_get hx hb hts ix0 hown hK hh (q := 70) rfl (hI.1.1 _ (by decide)) es648_653 rfl 3 (by decide) (hts _ tw_150) (fun _ h9 => h9) rfl dX0_multiplyNumbered_31 ?_
  obtain ⟨f_654, es654⟩ := get2_cd hI_653
  refine hp_callMv (va_runV (As := [.ref (ad 71), .ref (ad 72), .ref (ad 73)]) (rest := []) ⟨hx, hb, hml, hown, hts⟩ (c_X8_multiply l D cy _ cs ad en_653 (hI.1.1 _ (by decide)) cnt d mm hcnt hd2 hd3 hmm 71 72 73 (hI.1.1 _ (by decide)) (hI.1.1 _ (by decide)) (hI.1.1 _ (by decide)) (by omega) (by omega) (by omega) (va_cpy f_651 f_649 (k * 9) 0 9) (va_cpy f_651 f_652 (j * 9) 0 9) f_654 es647_653 es649_653 es652_653 es654) (kw_X8_multiply hts tw_626 ⟨by decide, by decide⟩) (preV_of hh hK (hI.1.1 _ (by decide)) es647_653 rfl) rfl rfl hl.1 rfl (lv_room (Nat.le_of_ble_eq_true rfl)) dX0_multiplyNumbered_34 ⟨Nat.le_of_ble_eq_true rfl, Nat.le_of_ble_eq_true rfl⟩) hh hA (fun H locs en_655 hw_655 hh => ?_)
  obtain ⟨g_655, hen_655, hg_655⟩ := hw_655
  have es647_655 : en_655 1 = .inr (7, [.ref (ad 2), .ref (ad 3), .ref (ad 10), .ref (ad 11), .int (nI cnt), .int (nI d), .int (nI mm)]) := by rw [hen_655, va_up_ne _ _ (by decide)]; exact es647_653
  have es648_655 : en_655 70 = .inr (0, [.ref (ad 1), .ref (ad 71), .ref (ad 72), .ref (ad 73), .ref (ad ka), .ref (ad kb), .ref (ad kc), .int (nI sta_648), .int (nI cc_648), .int (nI ct_648), .int un_648, .int ow_648, .int (nI hn_648)]) := by rw [hen_655, va_up_ne _ _ (by decide)]; exact es648_653
  have es651_655 : en_655 ka = .inl (cy 1, 18000, .inr (.inl f_651)) := by rw [hen_655, va_up_ne _ _ (by omega)]; exact es651_653
  have es649_655 : en_655 71 = .inl (cy 1, 9, .inr (.inl (va_cpy f_651 f_649 (k * 9) 0 9))) := by rw [hen_655, va_up_ne _ _ (by decide)]; exact es649_653
  have es652_655 : en_655 72 = .inl (cy 1, 9, .inr (.inl (va_cpy f_651 f_652 (j * 9) 0 9))) := by rw [hen_655, va_up_ne _ _ (by decide)]; exact es652_653
  have es654_655 : en_655 73 = .inl (cy 1, 9, .inr (.inl g_655)) := by rw [hen_655]; exact va_up_self _ _ _
  have hI_655 : SC cy cs ad ka kb kc en_655 := by rw [hen_655]; exact up2_cd hI_653 ⟨g_655, rfl⟩
  have hf_655 : ∀ c, (c < 71 ∨ 74 ≤ c) → en_655 c = en c := fun c hc => Eq.trans (show en_655 c = en_653 c from by rw [hen_655, va_up_ne _ _ (by omega)]) (hf_653 c hc)
  exact hp_vretM hx hb hr hlocks hh (⟨hI_655, hf_655⟩) dX0_multiplyNumbered_37
theorem kw_X0_multiplyNumbered {R : Room} {s : State} {args : Array Value} {own : String} {idx : Nat} (hts : ∀ w ∈ TB, w.before args s = true) (hl : Cond.methodLink own idx yX0_multiplyNumbered ∈ TB) (hR : 2 + 1 ≤ R.frames ∧ 8 + (3 + 11) + 40 * 2 ≤ R.locals) : CallW R s args own RX0 idx yX0_multiplyNumbered cX0_multiplyNumbered 3 none (Cond.code yX0_multiplyNumbered cX0_multiplyNumbered 3 none :: TB) (rmN 2) 0 0 2 := cwV 2 hts (TB_V hl tw_633 ts_23 tw_5 tw_634) rfl rfl rfl (by decide +kernel) hR
