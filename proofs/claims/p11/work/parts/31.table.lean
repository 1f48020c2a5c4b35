set_option maxHeartbeats 4000000 in
set_option maxRecDepth 100000 in
/-- leave -/
theorem c_X9_leave (l : Launch) (D : va_G) (cy : Nat → ClassId) (sz : Nat) (cs : List Nat) (ad : Nat → Nat) (en : Nat → va_E) (hm76 : 76 ∈ cs) (hi : Int32) (v : Int32) (e76 : en 76 = .inr (8, [.int hi]))  : Met l yX9_leave (Cond.code yX9_leave cX9_leave 2 none :: TB) (rmN 0) (va_Pc [.ref (ad 76), .int v] (Pre D cy cs ad en sz)) (va_Qv (S := Nat → va_E) (fun en1 => en1 = va_up en 76 (.inr (8, [.int (31 * hi + v)]))) (PostM D cs ad) (Af cs ad sz)) 0 0 (Af cs ad sz) := by
  refine Met.ofW (cc := cX9_leave) (maxL := 2) (ret := none) (by decide) rfl ?_
  intro p e s m args below meth c s₁ B hml hv
  obtain ⟨rfl, hsz, hP, hK, hD0⟩ := hv
  have hx := B.exec
  have hb := B.bytes
  have hr := B.returns
  have hts : ∀ w ∈ TB, w.before _ s = true := fun w h => atoms_spec (ws := _ :: TB) B.pre w (List.mem_cons_of_mem _ h)
  have hown : s.vm.findClass RX9 = some m.cls := findClass_of_methodNamed B.named
  have hlocks := B.notSynchronized
  have hh : Hp D (Af cs ad sz) (Af cs ad sz) s.heap s.heap [] cs ad en := ⟨hP, Af_self hD0, va_S.rf⟩
  have hA : ∀ q : Nat, s.heap.size ≤ q → Af cs ad sz q := fun q h => Or.inr (by rw [hsz] at h; exact h)
  have hl := lv_entry ([.ref (ad 76), .int v]) (n := 2) (Nat.le_of_ble_eq_true rfl)
  rw [lg_entry_eq]
  generalize (lg_sl ([.ref (ad 76), .int v]) ++ List.replicate (2 - (lg_sl ([.ref (ad 76), .int v])).length) Slot.unset).toArray = ls at hl ⊢
  have hl : lv_has ls 2 [(0, .ref (ad 76)), (1, .int v)] := hl
  refine lv_aload_n hx hb dX9_leave_0 rfl (lv_at hl 0 rfl) ?_
  refine lv_bipush (v := 31) hx hb dX9_leave_1 (by decide) ?_
  refine lv_aload_n hx hb dX9_leave_3 rfl (lv_at hl 0 rfl) ?_
  refine hp_get hx hb hts ix9 hown hK hh (q := 76) rfl hm76 e76 rfl 0 (by decide) (hts _ tw_201) (fun _ h9 => h9) rfl dX9_leave_4 ?_
  refine lv_imul hx hb dX9_leave_7 ?_
  refine lv_iload_n hx hb dX9_leave_8 rfl (lv_at hl 1 rfl) ?_
  refine lv_iadd hx hb dX9_leave_9 ?_
  refine hp_put hx hb hts ix9 tyX9 tyX9_ok nmX9 hown hK hh (q := 76) rfl hm76 e76 rfl 0 (by decide) (hts _ tw_201) (fun _ h9 => h9) rfl (ty := .int) (by decide +kernel) rfl rfl (Nat.le_of_ble_eq_true rfl) dX9_leave_10 (fun H locs en_804 hen_804 hh => ?_)
  have e76_804 : en_804 76 = .inr (8, [.int ((31 * hi) + v)]) := by rw [hen_804]; exact va_up_self _ _ _
  exact hp_vretM hx hb hr hlocks hh (hen_804) dX9_leave_13
theorem kw_X9_leave {R : Room} {s : State} {args : Array Value} {own : String} {idx : Nat} (hts : ∀ w ∈ TB, w.before args s = true) (hl : Cond.methodLink own idx yX9_leave ∈ TB) (hR : 0 + 1 ≤ R.frames ∧ 8 + (2 + 11) + 40 * 0 ≤ R.locals) : CallW R s args own RX9 idx yX9_leave cX9_leave 2 none (Cond.code yX9_leave cX9_leave 2 none :: TB) (rmN 0) 0 0 1 := cwV 1 hts (TB_V hl tw_795 tw_796 tw_6 tw_797) rfl rfl rfl (by decide +kernel) hR
set_option maxHeartbeats 4000000 in
set_option maxRecDepth 100000 in
/-- X7_plainTelling -/
theorem c_X7_plainTelling_6 (l : Launch) (D : va_G) (cy : Nat → ClassId) (sz : Nat) (cs : List Nat) (ad : Nat → Nat) (en : Nat → va_E) (tb te t d : Nat) (htb : tb ∈ cs) (hte : te ∈ cs) (h115a : 115 ≤ tb) (h115b : 115 ≤ te) (hd2 : 2 ≤ d) (hd3 : d ≤ 3) (hdd : d * d ≤ 9) (f0 : Nat → Int32) (hm76 : 76 ∈ cs) (hi : Int32) (etb : en tb = .inr (6, [.int (nI t), .int (nI d), .ref (ad te)])) (ete : en te = .inl (cy 0, (d * d), .inl f0)) (e76 : en 76 = .inr (8, [.int hi]))  : Met l yX7_plainTelling (Cond.code yX7_plainTelling cX7_plainTelling 4 (some .int) :: TB) (rmN 1) (va_Pc [.ref (ad tb), .ref (ad 76)] (Pre D cy cs ad en sz)) (va_Qi (S := Nat → va_E) (fun r en1 => r = (sumI (fun i => f0 (i * d + i)) d) ∧ en1 = va_up en 76 (.inr (8, [.int (31 * hi + 1)]))) (PostM D cs ad) (Af cs ad sz)) 0 0 (Af cs ad sz) := by
  refine Met.ofW (cc := cX7_plainTelling) (maxL := 4) (ret := (some .int)) (by decide) rfl ?_
  intro p e s m args below meth c s₁ B hml hv
  obtain ⟨rfl, hsz, hP, hK, hD0⟩ := hv
  have hx := B.exec
  have hb := B.bytes
  have hr := B.returns
  have hts : ∀ w ∈ TB, w.before _ s = true := fun w h => atoms_spec (ws := _ :: TB) B.pre w (List.mem_cons_of_mem _ h)
  have hown : s.vm.findClass RX7 = some m.cls := findClass_of_methodNamed B.named
  have hlocks := B.notSynchronized
  have hh : Hp D (Af cs ad sz) (Af cs ad sz) s.heap s.heap [] cs ad en := ⟨hP, Af_self hD0, va_S.rf⟩
  have hA : ∀ q : Nat, s.heap.size ≤ q → Af cs ad sz q := fun q h => Or.inr (by rw [hsz] at h; exact h)
  have hl := lv_entry ([.ref (ad tb), .ref (ad 76)]) (n := 4) (Nat.le_of_ble_eq_true rfl)
  rw [lg_entry_eq]
  generalize (lg_sl ([.ref (ad tb), .ref (ad 76)]) ++ List.replicate (4 - (lg_sl ([.ref (ad tb), .ref (ad 76)])).length) Slot.unset).toArray = ls at hl ⊢
  have hl : lv_has ls 4 [(0, .ref (ad tb)), (1, .ref (ad 76))] := hl
  refine lv_aload_n hx hb dX7_plainTelling_0 rfl (lv_at hl 1 rfl) ?_
  refine lv_iconst (v := 1) hx hb dX7_plainTelling_1 (by decide) ?_
  refine hp_callMv (va_runV (As := [.int 1]) (rest := []) ⟨hx, hb, hml, hown, hts⟩ (c_X9_leave l D cy _ cs ad en hm76 hi 1 e76) (kw_X9_leave hts tw_819 ⟨by decide, by decide⟩) (preV_of hh hK hm76 e76 rfl) rfl rfl hl.1 rfl (lv_room (Nat.le_of_ble_eq_true rfl)) dX7_plainTelling_2 ⟨Nat.le_of_ble_eq_true rfl, Nat.le_of_ble_eq_true rfl⟩) hh hA (fun H locs en_805 hw_805 hh => ?_)
  have hen_805 := hw_805
  have etb_805 : en_805 tb = .inr (6, [.int (nI t), .int (nI d), .ref (ad te)]) := by rw [hen_805, va_up_ne _ _ (by omega)]; exact etb
  have ete_805 : en_805 te = .inl (cy 0, (d * d), .inl f0) := by rw [hen_805, va_up_ne _ _ (by omega)]; exact ete
  have e76_805 : en_805 76 = .inr (8, [.int (31 * hi + 1)]) := by rw [hen_805]; exact va_up_self _ _ _
  refine lv_iconst (v := 0) hx hb dX7_plainTelling_5 (by decide) ?_
  refine lv_istore_n (lv' := [(2, .int 0), (0, .ref (ad tb)), (1, .ref (ad 76))]) hx hb dX7_plainTelling_6 rfl hl (by decide) rfl (fun ls hl => ?_)
  refine lv_iconst (v := 0) hx hb dX7_plainTelling_7 (by decide) ?_
  refine lv_istore_n (lv' := [(3, .int 0), (2, .int 0), (0, .ref (ad tb)), (1, .ref (ad 76))]) hx hb dX7_plainTelling_8 rfl hl (by decide) rfl (fun ls hl => ?_)
  have loop_806 : ∀ (fu j806 : Nat) (ac806 : Int32)  (ls : Array Slot) (H : Heap) (locs : List Loc), 0 ≤ j806 → j806 ≤ d → d < j806 + fu → (ac806 = sumI (fun i => f0 (i * d + i)) j806) → lv_has ls 4 [(3, .int (nI j806)), (2, .int ac806), (0, .ref (ad tb)), (1, .ref (ad 76))] → Hp D (Af cs ad sz) (Af cs ad sz) s.heap H locs cs ad en_805 → W p l e (headSpec (Cond.code yX7_plainTelling cX7_plainTelling 4 (some .int) :: TB) (rmN 1)).room s m ([.ref (ad tb), .ref (ad 76)] : List Value).toArray below meth c H locs 0 0 (MQ below (va_Qi (S := Nat → va_E) (fun r en1 => r = (sumI (fun i => f0 (i * d + i)) d) ∧ en1 = va_up en 76 (.inr (8, [.int (31 * hi + 1)]))) (PostM D cs ad) (Af cs ad sz)) ([.ref (ad tb), .ref (ad 76)] : List Value).toArray s 0 0 (Af cs ad sz)) (F0 m 9 ls []) := by
    intro fu
    induction fu with
    | zero => intro j806 ac806 ls H locs h0 h1 h2; exact absurd h2 (by omega)
    | succ fu ih_806 =>
      intro j806 ac806 ls H locs hj0_806 hj_806 hfu_806 i0_806 hl hh
      refine lv_iload_n hx hb dX7_plainTelling_9 rfl (lv_at hl 0 rfl) ?_
      refine lv_aload_n hx hb dX7_plainTelling_10 rfl (lv_at hl 2 rfl) ?_
      refine hp_get hx hb hts ix7 hown hK hh (q := tb) rfl htb etb_805 rfl 1 (by decide) (hts _ tw_377) (fun _ h9 => h9) rfl dX7_plainTelling_11 ?_
      refine lv_icmp_ge (tgt := 39) hx hb dX7_plainTelling_14 (by decide) (fun c_807 => ?_) (fun c_807 => ?_)
      · have n_807 : d ≤ j806 := n_le (a := d) (b := j806) c_807 (by omega) (by omega)
        refine lv_iload_n hx hb dX7_plainTelling_39 rfl (lv_at hl 1 rfl) ?_
        exact hp_iretM hx hb hr rfl hlocks hh (⟨by have e : j806 = d := (by omega); rw [e] at i0_806; exact i0_806, by rw [hen_805]⟩) dX7_plainTelling_40
      · have n_807 : j806 < d := n_nle (a := d) (b := j806) c_807 (by omega) (by omega)
        refine lv_iload_n hx hb dX7_plainTelling_17 rfl (lv_at hl 1 rfl) ?_
        refine lv_aload_n hx hb dX7_plainTelling_18 rfl (lv_at hl 2 rfl) ?_
        refine hp_get hx hb hts ix7 hown hK hh (q := tb) rfl htb etb_805 rfl 2 (by decide) (hts _ tw_380) (fun _ h9 => h9) rfl dX7_plainTelling_19 ?_
        refine lv_iload_n hx hb dX7_plainTelling_22 rfl (lv_at hl 0 rfl) ?_
        refine lv_aload_n hx hb dX7_plainTelling_23 rfl (lv_at hl 2 rfl) ?_
        refine hp_get hx hb hts ix7 hown hK hh (q := tb) rfl htb etb_805 rfl 1 (by decide) (hts _ tw_377) (fun _ h9 => h9) rfl dX7_plainTelling_24 ?_
        refine lv_imul hx hb dX7_plainTelling_27 ?_
        rw [pk_mul j806 d]
        refine lv_iload_n hx hb dX7_plainTelling_28 rfl (lv_at hl 0 rfl) ?_
        refine lv_iadd hx hb dX7_plainTelling_29 ?_
        rw [nI_add (j806 * d) j806]
        have hi_808 : ((j806 * d) + j806) < d * d := md3' (by omega) (by omega) hd3
        refine hp_iald hx hb hK hh (q := te) rfl hte ete_805 (vp_in_nI (n := ((j806 * d) + j806)) (by omega) (by omega)) dX7_plainTelling_30 ?_
        rw [nI_clamp (n := ((j806 * d) + j806)) (by omega)]
        refine lv_iadd hx hb dX7_plainTelling_31 ?_
        refine lv_istore_n (lv' := [(2, .int (ac806 + (f0 ((j806 * d) + j806)))), (3, .int (nI j806)), (0, .ref (ad tb)), (1, .ref (ad 76))]) hx hb dX7_plainTelling_32 rfl hl (by decide) rfl (fun ls hl => ?_)
        refine lv_iinc (v := (nI (j806 + 1))) (lv' := [(3, .int (nI (j806 + 1))), (2, .int (ac806 + (f0 ((j806 * d) + j806)))), (0, .ref (ad tb)), (1, .ref (ad 76))]) hx hb dX7_plainTelling_33 hl (k := 1) rfl (nI_1 _) (by decide) rfl (fun ls hl => ?_)
        refine lv_goto (tgt := 9) hx hb dX7_plainTelling_36 (by decide) ?_
        exact ih_806 ((j806 + 1)) (ac806 + (f0 ((j806 * d) + j806))) ls H locs (by omega) (by omega) (by omega) (by rw [i0_806]; rfl) (lv_sub hl [0, 1, 2, 3] rfl) hh
  exact loop_806 (d + 1) 0 0 ls _ _ (Nat.le_refl _) (by omega) (by omega) (rfl) (lv_sub hl [0, 1, 2, 3] rfl) hh
set_option maxHeartbeats 4000000 in
set_option maxRecDepth 100000 in
/-- X7_plainTelling -/
theorem c_X7_plainTelling_1 (l : Launch) (D : va_G) (cy : Nat → ClassId) (sz : Nat) (cs : List Nat) (ad : Nat → Nat) (en : Nat → va_E) (tb te t d : Nat) (htb : tb ∈ cs) (hte : te ∈ cs) (h115a : 115 ≤ tb) (h115b : 115 ≤ te) (hd2 : 2 ≤ d) (hd3 : d ≤ 3) (hdd : d * d ≤ 9) (f0 : Nat → Int32) (hm76 : 76 ∈ cs) (hi : Int32) (etb : en tb = .inr (1, [.int (nI t), .int (nI d), .ref (ad te)])) (ete : en te = .inl (cy 0, (d * d), .inl f0)) (e76 : en 76 = .inr (8, [.int hi]))  : Met l yX7_plainTelling (Cond.code yX7_plainTelling cX7_plainTelling 4 (some .int) :: TB) (rmN 1) (va_Pc [.ref (ad tb), .ref (ad 76)] (Pre D cy cs ad en sz)) (va_Qi (S := Nat → va_E) (fun r en1 => r = (sumI (fun i => f0 (i * d + i)) d) ∧ en1 = va_up en 76 (.inr (8, [.int (31 * hi + 1)]))) (PostM D cs ad) (Af cs ad sz)) 0 0 (Af cs ad sz) := by
  refine Met.ofW (cc := cX7_plainTelling) (maxL := 4) (ret := (some .int)) (by decide) rfl ?_
  intro p e s m args below meth c s₁ B hml hv
  obtain ⟨rfl, hsz, hP, hK, hD0⟩ := hv
  have hx := B.exec
  have hb := B.bytes
  have hr := B.returns
  have hts : ∀ w ∈ TB, w.before _ s = true := fun w h => atoms_spec (ws := _ :: TB) B.pre w (List.mem_cons_of_mem _ h)
  have hown : s.vm.findClass RX7 = some m.cls := findClass_of_methodNamed B.named
  have hlocks := B.notSynchronized
  have hh : Hp D (Af cs ad sz) (Af cs ad sz) s.heap s.heap [] cs ad en := ⟨hP, Af_self hD0, va_S.rf⟩
  have hA : ∀ q : Nat, s.heap.size ≤ q → Af cs ad sz q := fun q h => Or.inr (by rw [hsz] at h; exact h)
  have hl := lv_entry ([.ref (ad tb), .ref (ad 76)]) (n := 4) (Nat.le_of_ble_eq_true rfl)
  rw [lg_entry_eq]
  generalize (lg_sl ([.ref (ad tb), .ref (ad 76)]) ++ List.replicate (4 - (lg_sl ([.ref (ad tb), .ref (ad 76)])).length) Slot.unset).toArray = ls at hl ⊢
  have hl : lv_has ls 4 [(0, .ref (ad tb)), (1, .ref (ad 76))] := hl
  refine lv_aload_n hx hb dX7_plainTelling_0 rfl (lv_at hl 1 rfl) ?_
  refine lv_iconst (v := 1) hx hb dX7_plainTelling_1 (by decide) ?_
  refine hp_callMv (va_runV (As := [.int 1]) (rest := []) ⟨hx, hb, hml, hown, hts⟩ (c_X9_leave l D cy _ cs ad en hm76 hi 1 e76) (kw_X9_leave hts tw_819 ⟨by decide, by decide⟩) (preV_of hh hK hm76 e76 rfl) rfl rfl hl.1 rfl (lv_room (Nat.le_of_ble_eq_true rfl)) dX7_plainTelling_2 ⟨Nat.le_of_ble_eq_true rfl, Nat.le_of_ble_eq_true rfl⟩) hh hA (fun H locs en_809 hw_809 hh => ?_)
  have hen_809 := hw_809
  have etb_809 : en_809 tb = .inr (1, [.int (nI t), .int (nI d), .ref (ad te)]) := by rw [hen_809, va_up_ne _ _ (by omega)]; exact etb
  have ete_809 : en_809 te = .inl (cy 0, (d * d), .inl f0) := by rw [hen_809, va_up_ne _ _ (by omega)]; exact ete
  have e76_809 : en_809 76 = .inr (8, [.int (31 * hi + 1)]) := by rw [hen_809]; exact va_up_self _ _ _
  refine lv_iconst (v := 0) hx hb dX7_plainTelling_5 (by decide) ?_
  refine lv_istore_n (lv' := [(2, .int 0), (0, .ref (ad tb)), (1, .ref (ad 76))]) hx hb dX7_plainTelling_6 rfl hl (by decide) rfl (fun ls hl => ?_)
  refine lv_iconst (v := 0) hx hb dX7_plainTelling_7 (by decide) ?_
  refine lv_istore_n (lv' := [(3, .int 0), (2, .int 0), (0, .ref (ad tb)), (1, .ref (ad 76))]) hx hb dX7_plainTelling_8 rfl hl (by decide) rfl (fun ls hl => ?_)
  have loop_810 : ∀ (fu j810 : Nat) (ac810 : Int32)  (ls : Array Slot) (H : Heap) (locs : List Loc), 0 ≤ j810 → j810 ≤ d → d < j810 + fu → (ac810 = sumI (fun i => f0 (i * d + i)) j810) → lv_has ls 4 [(3, .int (nI j810)), (2, .int ac810), (0, .ref (ad tb)), (1, .ref (ad 76))] → Hp D (Af cs ad sz) (Af cs ad sz) s.heap H locs cs ad en_809 → W p l e (headSpec (Cond.code yX7_plainTelling cX7_plainTelling 4 (some .int) :: TB) (rmN 1)).room s m ([.ref (ad tb), .ref (ad 76)] : List Value).toArray below meth c H locs 0 0 (MQ below (va_Qi (S := Nat → va_E) (fun r en1 => r = (sumI (fun i => f0 (i * d + i)) d) ∧ en1 = va_up en 76 (.inr (8, [.int (31 * hi + 1)]))) (PostM D cs ad) (Af cs ad sz)) ([.ref (ad tb), .ref (ad 76)] : List Value).toArray s 0 0 (Af cs ad sz)) (F0 m 9 ls []) := by
    intro fu
    induction fu with
    | zero => intro j810 ac810 ls H locs h0 h1 h2; exact absurd h2 (by omega)
    | succ fu ih_810 =>
      intro j810 ac810 ls H locs hj0_810 hj_810 hfu_810 i0_810 hl hh
      refine lv_iload_n hx hb dX7_plainTelling_9 rfl (lv_at hl 0 rfl) ?_
      refine lv_aload_n hx hb dX7_plainTelling_10 rfl (lv_at hl 2 rfl) ?_
      refine hp_get hx hb hts ix1 hown hK hh (q := tb) rfl htb etb_809 rfl 1 (by decide) (hts _ tw_377) (fun _ h9 => h9) rfl dX7_plainTelling_11 ?_
      refine lv_icmp_ge (tgt := 39) hx hb dX7_plainTelling_14 (by decide) (fun c_811 => ?_) (fun c_811 => ?_)
      · have n_811 : d ≤ j810 := n_le (a := d) (b := j810) c_811 (by omega) (by omega)
        refine lv_iload_n hx hb dX7_plainTelling_39 rfl (lv_at hl 1 rfl) ?_
        exact hp_iretM hx hb hr rfl hlocks hh (⟨by have e : j810 = d := (by omega); rw [e] at i0_810; exact i0_810, by rw [hen_809]⟩) dX7_plainTelling_40
      · have n_811 : j810 < d := n_nle (a := d) (b := j810) c_811 (by omega) (by omega)
        refine lv_iload_n hx hb dX7_plainTelling_17 rfl (lv_at hl 1 rfl) ?_
        refine lv_aload_n hx hb dX7_plainTelling_18 rfl (lv_at hl 2 rfl) ?_
        refine hp_get hx hb hts ix1 hown hK hh (q := tb) rfl htb etb_809 rfl 2 (by decide) (hts _ tw_380) (fun _ h9 => h9) rfl dX7_plainTelling_19 ?_
        refine lv_iload_n hx hb dX7_plainTelling_22 rfl (lv_at hl 0 rfl) ?_
        refine lv_aload_n hx hb dX7_plainTelling_23 rfl (lv_at hl 2 rfl) ?_
        refine hp_get hx hb hts ix1 hown hK hh (q := tb) rfl htb etb_809 rfl 1 (by decide) (hts _ tw_377) (fun _ h9 => h9) rfl dX7_plainTelling_24 ?_
        refine lv_imul hx hb dX7_plainTelling_27 ?_
        rw [pk_mul j810 d]
        refine lv_iload_n hx hb dX7_plainTelling_28 rfl (lv_at hl 0 rfl) ?_
        refine lv_iadd hx hb dX7_plainTelling_29 ?_
        rw [nI_add (j810 * d) j810]
        have hi_812 : ((j810 * d) + j810) < d * d := md3' (by omega) (by omega) hd3
        refine hp_iald hx hb hK hh (q := te) rfl hte ete_809 (vp_in_nI (n := ((j810 * d) + j810)) (by omega) (by omega)) dX7_plainTelling_30 ?_
        rw [nI_clamp (n := ((j810 * d) + j810)) (by omega)]
        refine lv_iadd hx hb dX7_plainTelling_31 ?_
        refine lv_istore_n (lv' := [(2, .int (ac810 + (f0 ((j810 * d) + j810)))), (3, .int (nI j810)), (0, .ref (ad tb)), (1, .ref (ad 76))]) hx hb dX7_plainTelling_32 rfl hl (by decide) rfl (fun ls hl => ?_)
        refine lv_iinc (v := (nI (j810 + 1))) (lv' := [(3, .int (nI (j810 + 1))), (2, .int (ac810 + (f0 ((j810 * d) + j810)))), (0, .ref (ad tb)), (1, .ref (ad 76))]) hx hb dX7_plainTelling_33 hl (k := 1) rfl (nI_1 _) (by decide) rfl (fun ls hl => ?_)
        refine lv_goto (tgt := 9) hx hb dX7_plainTelling_36 (by decide) ?_
        exact ih_810 ((j810 + 1)) (ac810 + (f0 ((j810 * d) + j810))) ls H locs (by omega) (by omega) (by omega) (by rw [i0_810]; rfl) (lv_sub hl [0, 1, 2, 3] rfl) hh
  exact loop_810 (d + 1) 0 0 ls _ _ (Nat.le_refl _) (by omega) (by omega) (rfl) (lv_sub hl [0, 1, 2, 3] rfl) hh
set_option maxHeartbeats 4000000 in
set_option maxRecDepth 100000 in
/-- X7_plainTelling -/
theorem c_X7_plainTelling_4 (l : Launch) (D : va_G) (cy : Nat → ClassId) (sz : Nat) (cs : List Nat) (ad : Nat → Nat) (en : Nat → va_E) (tb te t d : Nat) (htb : tb ∈ cs) (hte : te ∈ cs) (h115a : 115 ≤ tb) (h115b : 115 ≤ te) (hd2 : 2 ≤ d) (hd3 : d ≤ 3) (hdd : d * d ≤ 9) (f0 : Nat → Int32) (hm76 : 76 ∈ cs) (hi : Int32) (etb : en tb = .inr (4, [.int (nI t), .int (nI d), .ref (ad te)])) (ete : en te = .inl (cy 0, (d * d), .inl f0)) (e76 : en 76 = .inr (8, [.int hi]))  : Met l yX7_plainTelling (Cond.code yX7_plainTelling cX7_plainTelling 4 (some .int) :: TB) (rmN 1) (va_Pc [.ref (ad tb), .ref (ad 76)] (Pre D cy cs ad en sz)) (va_Qi (S := Nat → va_E) (fun r en1 => r = (sumI (fun i => f0 (i * d + i)) d) ∧ en1 = va_up en 76 (.inr (8, [.int (31 * hi + 1)]))) (PostM D cs ad) (Af cs ad sz)) 0 0 (Af cs ad sz) := by
  refine Met.ofW (cc := cX7_plainTelling) (maxL := 4) (ret := (some .int)) (by decide) rfl ?_
  intro p e s m args below meth c s₁ B hml hv
  obtain ⟨rfl, hsz, hP, hK, hD0⟩ := hv
  have hx := B.exec
  have hb := B.bytes
  have hr := B.returns
  have hts : ∀ w ∈ TB, w.before _ s = true := fun w h => atoms_spec (ws := _ :: TB) B.pre w (List.mem_cons_of_mem _ h)
  have hown : s.vm.findClass RX7 = some m.cls := findClass_of_methodNamed B.named
  have hlocks := B.notSynchronized
  have hh : Hp D (Af cs ad sz) (Af cs ad sz) s.heap s.heap [] cs ad en := ⟨hP, Af_self hD0, va_S.rf⟩
  have hA : ∀ q : Nat, s.heap.size ≤ q → Af cs ad sz q := fun q h => Or.inr (by rw [hsz] at h; exact h)
  have hl := lv_entry ([.ref (ad tb), .ref (ad 76)]) (n := 4) (Nat.le_of_ble_eq_true rfl)
  rw [lg_entry_eq]
  generalize (lg_sl ([.ref (ad tb), .ref (ad 76)]) ++ List.replicate (4 - (lg_sl ([.ref (ad tb), .ref (ad 76)])).length) Slot.unset).toArray = ls at hl ⊢
  have hl : lv_has ls 4 [(0, .ref (ad tb)), (1, .ref (ad 76))] := hl
  refine lv_aload_n hx hb dX7_plainTelling_0 rfl (lv_at hl 1 rfl) ?_
  refine lv_iconst (v := 1) hx hb dX7_plainTelling_1 (by decide) ?_
  refine hp_callMv (va_runV (As := [.int 1]) (rest := []) ⟨hx, hb, hml, hown, hts⟩ (c_X9_leave l D cy _ cs ad en hm76 hi 1 e76) (kw_X9_leave hts tw_819 ⟨by decide, by decide⟩) (preV_of hh hK hm76 e76 rfl) rfl rfl hl.1 rfl (lv_room (Nat.le_of_ble_eq_true rfl)) dX7_plainTelling_2 ⟨Nat.le_of_ble_eq_true rfl, Nat.le_of_ble_eq_true rfl⟩) hh hA (fun H locs en_813 hw_813 hh => ?_)
  have hen_813 := hw_813
  have etb_813 : en_813 tb = .inr (4, [.int (nI t), .int (nI d), .ref (ad te)]) := by rw [hen_813, va_up_ne _ _ (by omega)]; exact etb
  have ete_813 : en_813 te = .inl (cy 0, (d * d), .inl f0) := by rw [hen_813, va_up_ne _ _ (by omega)]; exact ete
  have e76_813 : en_813 76 = .inr (8, [.int (31 * hi + 1)]) := by rw [hen_813]; exact va_up_self _ _ _
  refine lv_iconst (v := 0) hx hb dX7_plainTelling_5 (by decide) ?_
  refine lv_istore_n (lv' := [(2, .int 0), (0, .ref (ad tb)), (1, .ref (ad 76))]) hx hb dX7_plainTelling_6 rfl hl (by decide) rfl (fun ls hl => ?_)
  refine lv_iconst (v := 0) hx hb dX7_plainTelling_7 (by decide) ?_
  refine lv_istore_n (lv' := [(3, .int 0), (2, .int 0), (0, .ref (ad tb)), (1, .ref (ad 76))]) hx hb dX7_plainTelling_8 rfl hl (by decide) rfl (fun ls hl => ?_)
  have loop_814 : ∀ (fu j814 : Nat) (ac814 : Int32)  (ls : Array Slot) (H : Heap) (locs : List Loc), 0 ≤ j814 → j814 ≤ d → d < j814 + fu → (ac814 = sumI (fun i => f0 (i * d + i)) j814) → lv_has ls 4 [(3, .int (nI j814)), (2, .int ac814), (0, .ref (ad tb)), (1, .ref (ad 76))] → Hp D (Af cs ad sz) (Af cs ad sz) s.heap H locs cs ad en_813 → W p l e (headSpec (Cond.code yX7_plainTelling cX7_plainTelling 4 (some .int) :: TB) (rmN 1)).room s m ([.ref (ad tb), .ref (ad 76)] : List Value).toArray below meth c H locs 0 0 (MQ below (va_Qi (S := Nat → va_E) (fun r en1 => r = (sumI (fun i => f0 (i * d + i)) d) ∧ en1 = va_up en 76 (.inr (8, [.int (31 * hi + 1)]))) (PostM D cs ad) (Af cs ad sz)) ([.ref (ad tb), .ref (ad 76)] : List Value).toArray s 0 0 (Af cs ad sz)) (F0 m 9 ls []) := by
    intro fu
    induction fu with
    | zero => intro j814 ac814 ls H locs h0 h1 h2; exact absurd h2 (by omega)
    | succ fu ih_814 =>
      intro j814 ac814 ls H locs hj0_814 hj_814 hfu_814 i0_814 hl hh
      refine lv_iload_n hx hb dX7_plainTelling_9 rfl (lv_at hl 0 rfl) ?_
      refine lv_aload_n hx hb dX7_plainTelling_10 rfl (lv_at hl 2 rfl) ?_
      refine hp_get hx hb hts ix4 hown hK hh (q := tb) rfl htb etb_813 rfl 1 (by decide) (hts _ tw_377) (fun _ h9 => h9) rfl dX7_plainTelling_11 ?_
      refine lv_icmp_ge (tgt := 39) hx hb dX7_plainTelling_14 (by decide) (fun c_815 => ?_) (fun c_815 => ?_)
      · have n_815 : d ≤ j814 := n_le (a := d) (b := j814) c_815 (by omega) (by omega)
        refine lv_iload_n hx hb dX7_plainTelling_39 rfl (lv_at hl 1 rfl) ?_
        exact hp_iretM hx hb hr rfl hlocks hh (⟨by have e : j814 = d := (by omega); rw [e] at i0_814; exact i0_814, by rw [hen_813]⟩) dX7_plainTelling_40
      · have n_815 : j814 < d := n_nle (a := d) (b := j814) c_815 (by omega) (by omega)
        refine lv_iload_n hx hb dX7_plainTelling_17 rfl (lv_at hl 1 rfl) ?_
        refine lv_aload_n hx hb dX7_plainTelling_18 rfl (lv_at hl 2 rfl) ?_
        refine hp_get hx hb hts ix4 hown hK hh (q := tb) rfl htb etb_813 rfl 2 (by decide) (hts _ tw_380) (fun _ h9 => h9) rfl dX7_plainTelling_19 ?_
        refine lv_iload_n hx hb dX7_plainTelling_22 rfl (lv_at hl 0 rfl) ?_
        refine lv_aload_n hx hb dX7_plainTelling_23 rfl (lv_at hl 2 rfl) ?_
        refine hp_get hx hb hts ix4 hown hK hh (q := tb) rfl htb etb_813 rfl 1 (by decide) (hts _ tw_377) (fun _ h9 => h9) rfl dX7_plainTelling_24 ?_
        refine lv_imul hx hb dX7_plainTelling_27 ?_
        rw [pk_mul j814 d]
        refine lv_iload_n hx hb dX7_plainTelling_28 rfl (lv_at hl 0 rfl) ?_
        refine lv_iadd hx hb dX7_plainTelling_29 ?_
        rw [nI_add (j814 * d) j814]
        have hi_816 : ((j814 * d) + j814) < d * d := md3' (by omega) (by omega) hd3
        refine hp_iald hx hb hK hh (q := te) rfl hte ete_813 (vp_in_nI (n := ((j814 * d) + j814)) (by omega) (by omega)) dX7_plainTelling_30 ?_
        rw [nI_clamp (n := ((j814 * d) + j814)) (by omega)]
        refine lv_iadd hx hb dX7_plainTelling_31 ?_
        refine lv_istore_n (lv' := [(2, .int (ac814 + (f0 ((j814 * d) + j814)))), (3, .int (nI j814)), (0, .ref (ad tb)), (1, .ref (ad 76))]) hx hb dX7_plainTelling_32 rfl hl (by decide) rfl (fun ls hl => ?_)
        refine lv_iinc (v := (nI (j814 + 1))) (lv' := [(3, .int (nI (j814 + 1))), (2, .int (ac814 + (f0 ((j814 * d) + j814)))), (0, .ref (ad tb)), (1, .ref (ad 76))]) hx hb dX7_plainTelling_33 hl (k := 1) rfl (nI_1 _) (by decide) rfl (fun ls hl => ?_)
        refine lv_goto (tgt := 9) hx hb dX7_plainTelling_36 (by decide) ?_
        exact ih_814 ((j814 + 1)) (ac814 + (f0 ((j814 * d) + j814))) ls H locs (by omega) (by omega) (by omega) (by rw [i0_814]; rfl) (lv_sub hl [0, 1, 2, 3] rfl) hh
  exact loop_814 (d + 1) 0 0 ls _ _ (Nat.le_refl _) (by omega) (by omega) (rfl) (lv_sub hl [0, 1, 2, 3] rfl) hh
set_option maxHeartbeats 4000000 in
set_option maxRecDepth 100000 in
/-- X7_telling -/
theorem c_X7_telling_6 (l : Launch) (D : va_G) (cy : Nat → ClassId) (sz : Nat) (cs : List Nat) (ad : Nat → Nat) (en : Nat → va_E) (tb te t d : Nat) (htb : tb ∈ cs) (hte : te ∈ cs) (h115a : 115 ≤ tb) (h115b : 115 ≤ te) (hd2 : 2 ≤ d) (hd3 : d ≤ 3) (hdd : d * d ≤ 9) (f0 : Nat → Int32) (hm76 : 76 ∈ cs) (hi : Int32) (etb : en tb = .inr (6, [.int (nI t), .int (nI d), .ref (ad te)])) (ete : en te = .inl (cy 0, (d * d), .inl f0)) (e76 : en 76 = .inr (8, [.int hi]))  : Met l yX7_telling (Cond.code yX7_telling cX7_telling 2 (some .int) :: TB) (rmN 2) (va_Pc [.ref (ad tb), .ref (ad 76)] (Pre D cy cs ad en sz)) (va_Qi (S := Nat → va_E) (fun r en1 => r = (sumI (fun i => f0 (i * d + i)) d) ∧ en1 = va_up en 76 (.inr (8, [.int (31 * hi + 1)]))) (PostM D cs ad) (Af cs ad sz)) 0 0 (Af cs ad sz) := by
  refine Met.ofW (cc := cX7_telling) (maxL := 2) (ret := (some .int)) (by decide) rfl ?_
  intro p e s m args below meth c s₁ B hml hv
  obtain ⟨rfl, hsz, hP, hK, hD0⟩ := hv
  have hx := B.exec
  have hb := B.bytes
  have hr := B.returns
  have hts : ∀ w ∈ TB, w.before _ s = true := fun w h => atoms_spec (ws := _ :: TB) B.pre w (List.mem_cons_of_mem _ h)
  have hown : s.vm.findClass RX7 = some m.cls := findClass_of_methodNamed B.named
  have hlocks := B.notSynchronized
  have hh : Hp D (Af cs ad sz) (Af cs ad sz) s.heap s.heap [] cs ad en := ⟨hP, Af_self hD0, va_S.rf⟩
  have hA : ∀ q : Nat, s.heap.size ≤ q → Af cs ad sz q := fun q h => Or.inr (by rw [hsz] at h; exact h)
  have hl := lv_entry ([.ref (ad tb), .ref (ad 76)]) (n := 2) (Nat.le_of_ble_eq_true rfl)
  rw [lg_entry_eq]
  generalize (lg_sl ([.ref (ad tb), .ref (ad 76)]) ++ List.replicate (2 - (lg_sl ([.ref (ad tb), .ref (ad 76)])).length) Slot.unset).toArray = ls at hl ⊢
  have hl : lv_has ls 2 [(0, .ref (ad tb)), (1, .ref (ad 76))] := hl
  refine lv_aload_n hx hb dX7_telling_0 rfl (lv_at hl 0 rfl) ?_
  refine lv_aload_n hx hb dX7_telling_1 rfl (lv_at hl 1 rfl) ?_
  refine hp_callMi (va_runU (As := [.ref (ad 76)]) (rest := []) ⟨hx, hb, hml, hown, hts⟩ (c_X7_plainTelling_6 l D cy _ cs ad en tb te t d htb hte (by omega) (by omega) (by omega) (by omega) (by omega) f0 hm76 hi etb ete e76) (va_cwU 1 hts (TB_U tw_821 tw_1260 tw_1263 tw_817 tw_13 tw_818) rfl rfl rfl rfl (by decide +kernel) ⟨by decide, by decide⟩) (preV_of hh hK htb etb rfl) rfl rfl hl.1 rfl (lv_room (Nat.le_of_ble_eq_true rfl)) dX7_telling_2 ⟨Nat.le_of_ble_eq_true rfl, Nat.le_of_ble_eq_true rfl⟩) hh hA (fun r_817 H locs en_817 hw_817 hh => ?_)
  obtain ⟨hr_817, hen_817⟩ := hw_817
  have etb_817 : en_817 tb = .inr (6, [.int (nI t), .int (nI d), .ref (ad te)]) := by rw [hen_817, va_up_ne _ _ (by omega)]; exact etb
  have ete_817 : en_817 te = .inl (cy 0, (d * d), .inl f0) := by rw [hen_817, va_up_ne _ _ (by omega)]; exact ete
  have e76_817 : en_817 76 = .inr (8, [.int (31 * hi + 1)]) := by rw [hen_817]; exact va_up_self _ _ _
  rw [hr_817]
  exact hp_iretM hx hb hr rfl hlocks hh (⟨rfl, by rw [hen_817]⟩) dX7_telling_5
set_option maxHeartbeats 4000000 in
set_option maxRecDepth 100000 in
/-- X7_telling -/
theorem c_X7_telling_1 (l : Launch) (D : va_G) (cy : Nat → ClassId) (sz : Nat) (cs : List Nat) (ad : Nat → Nat) (en : Nat → va_E) (tb te t d : Nat) (htb : tb ∈ cs) (hte : te ∈ cs) (h115a : 115 ≤ tb) (h115b : 115 ≤ te) (hd2 : 2 ≤ d) (hd3 : d ≤ 3) (hdd : d * d ≤ 9) (f0 : Nat → Int32) (hm76 : 76 ∈ cs) (hi : Int32) (etb : en tb = .inr (1, [.int (nI t), .int (nI d), .ref (ad te)])) (ete : en te = .inl (cy 0, (d * d), .inl f0)) (e76 : en 76 = .inr (8, [.int hi]))  : Met l yX7_telling (Cond.code yX7_telling cX7_telling 2 (some .int) :: TB) (rmN 2) (va_Pc [.ref (ad tb), .ref (ad 76)] (Pre D cy cs ad en sz)) (va_Qi (S := Nat → va_E) (fun r en1 => r = (sumI (fun i => f0 (i * d + i)) d) ∧ en1 = va_up en 76 (.inr (8, [.int (31 * hi + 1)]))) (PostM D cs ad) (Af cs ad sz)) 0 0 (Af cs ad sz) := by
  refine Met.ofW (cc := cX7_telling) (maxL := 2) (ret := (some .int)) (by decide) rfl ?_
  intro p e s m args below meth c s₁ B hml hv
  obtain ⟨rfl, hsz, hP, hK, hD0⟩ := hv
  have hx := B.exec
  have hb := B.bytes
  have hr := B.returns
  have hts : ∀ w ∈ TB, w.before _ s = true := fun w h => atoms_spec (ws := _ :: TB) B.pre w (List.mem_cons_of_mem _ h)
  have hown : s.vm.findClass RX7 = some m.cls := findClass_of_methodNamed B.named
  have hlocks := B.notSynchronized
  have hh : Hp D (Af cs ad sz) (Af cs ad sz) s.heap s.heap [] cs ad en := ⟨hP, Af_self hD0, va_S.rf⟩
  have hA : ∀ q : Nat, s.heap.size ≤ q → Af cs ad sz q := fun q h => Or.inr (by rw [hsz] at h; exact h)
  have hl := lv_entry ([.ref (ad tb), .ref (ad 76)]) (n := 2) (Nat.le_of_ble_eq_true rfl)
  rw [lg_entry_eq]
  generalize (lg_sl ([.ref (ad tb), .ref (ad 76)]) ++ List.replicate (2 - (lg_sl ([.ref (ad tb), .ref (ad 76)])).length) Slot.unset).toArray = ls at hl ⊢
  have hl : lv_has ls 2 [(0, .ref (ad tb)), (1, .ref (ad 76))] := hl
  refine lv_aload_n hx hb dX7_telling_0 rfl (lv_at hl 0 rfl) ?_
  refine lv_aload_n hx hb dX7_telling_1 rfl (lv_at hl 1 rfl) ?_
  refine hp_callMi (va_runU (As := [.ref (ad 76)]) (rest := []) ⟨hx, hb, hml, hown, hts⟩ (c_X7_plainTelling_1 l D cy _ cs ad en tb te t d htb hte (by omega) (by omega) (by omega) (by omega) (by omega) f0 hm76 hi etb ete e76) (va_cwU 1 hts (TB_U tw_821 tw_1260 tw_1261 tw_817 tw_13 tw_818) rfl rfl rfl rfl (by decide +kernel) ⟨by decide, by decide⟩) (preV_of hh hK htb etb rfl) rfl rfl hl.1 rfl (lv_room (Nat.le_of_ble_eq_true rfl)) dX7_telling_2 ⟨Nat.le_of_ble_eq_true rfl, Nat.le_of_ble_eq_true rfl⟩) hh hA (fun r_818 H locs en_818 hw_818 hh => ?_)
  obtain ⟨hr_818, hen_818⟩ := hw_818
  have etb_818 : en_818 tb = .inr (1, [.int (nI t), .int (nI d), .ref (ad te)]) := by rw [hen_818, va_up_ne _ _ (by omega)]; exact etb
  have ete_818 : en_818 te = .inl (cy 0, (d * d), .inl f0) := by rw [hen_818, va_up_ne _ _ (by omega)]; exact ete
  have e76_818 : en_818 76 = .inr (8, [.int (31 * hi + 1)]) := by rw [hen_818]; exact va_up_self _ _ _
  rw [hr_818]
  exact hp_iretM hx hb hr rfl hlocks hh (⟨rfl, by rw [hen_818]⟩) dX7_telling_5
set_option maxHeartbeats 4000000 in
set_option maxRecDepth 100000 in
/-- X7_telling -/
theorem c_X7_telling_4 (l : Launch) (D : va_G) (cy : Nat → ClassId) (sz : Nat) (cs : List Nat) (ad : Nat → Nat) (en : Nat → va_E) (tb te t d : Nat) (htb : tb ∈ cs) (hte : te ∈ cs) (h115a : 115 ≤ tb) (h115b : 115 ≤ te) (hd2 : 2 ≤ d) (hd3 : d ≤ 3) (hdd : d * d ≤ 9) (f0 : Nat → Int32) (hm76 : 76 ∈ cs) (hi : Int32) (etb : en tb = .inr (4, [.int (nI t), .int (nI d), .ref (ad te)])) (ete : en te = .inl (cy 0, (d * d), .inl f0)) (e76 : en 76 = .inr (8, [.int hi]))  : Met l yX7_telling (Cond.code yX7_telling cX7_telling 2 (some .int) :: TB) (rmN 2) (va_Pc [.ref (ad tb), .ref (ad 76)] (Pre D cy cs ad en sz)) (va_Qi (S := Nat → va_E) (fun r en1 => r = (sumI (fun i => f0 (i * d + i)) d) ∧ en1 = va_up en 76 (.inr (8, [.int (31 * hi + 1)]))) (PostM D cs ad) (Af cs ad sz)) 0 0 (Af cs ad sz) := by
  refine Met.ofW (cc := cX7_telling) (maxL := 2) (ret := (some .int)) (by decide) rfl ?_
  intro p e s m args below meth c s₁ B hml hv
  obtain ⟨rfl, hsz, hP, hK, hD0⟩ := hv
  have hx := B.exec
  have hb := B.bytes
  have hr := B.returns
  have hts : ∀ w ∈ TB, w.before _ s = true := fun w h => atoms_spec (ws := _ :: TB) B.pre w (List.mem_cons_of_mem _ h)
  have hown : s.vm.findClass RX7 = some m.cls := findClass_of_methodNamed B.named
  have hlocks := B.notSynchronized
  have hh : Hp D (Af cs ad sz) (Af cs ad sz) s.heap s.heap [] cs ad en := ⟨hP, Af_self hD0, va_S.rf⟩
  have hA : ∀ q : Nat, s.heap.size ≤ q → Af cs ad sz q := fun q h => Or.inr (by rw [hsz] at h; exact h)
  have hl := lv_entry ([.ref (ad tb), .ref (ad 76)]) (n := 2) (Nat.le_of_ble_eq_true rfl)
  rw [lg_entry_eq]
  generalize (lg_sl ([.ref (ad tb), .ref (ad 76)]) ++ List.replicate (2 - (lg_sl ([.ref (ad tb), .ref (ad 76)])).length) Slot.unset).toArray = ls at hl ⊢
  have hl : lv_has ls 2 [(0, .ref (ad tb)), (1, .ref (ad 76))] := hl
  refine lv_aload_n hx hb dX7_telling_0 rfl (lv_at hl 0 rfl) ?_
  refine lv_aload_n hx hb dX7_telling_1 rfl (lv_at hl 1 rfl) ?_
  refine hp_callMi (va_runU (As := [.ref (ad 76)]) (rest := []) ⟨hx, hb, hml, hown, hts⟩ (c_X7_plainTelling_4 l D cy _ cs ad en tb te t d htb hte (by omega) (by omega) (by omega) (by omega) (by omega) f0 hm76 hi etb ete e76) (va_cwU 1 hts (TB_U tw_821 tw_1260 tw_1262 tw_817 tw_13 tw_818) rfl rfl rfl rfl (by decide +kernel) ⟨by decide, by decide⟩) (preV_of hh hK htb etb rfl) rfl rfl hl.1 rfl (lv_room (Nat.le_of_ble_eq_true rfl)) dX7_telling_2 ⟨Nat.le_of_ble_eq_true rfl, Nat.le_of_ble_eq_true rfl⟩) hh hA (fun r_819 H locs en_819 hw_819 hh => ?_)
  obtain ⟨hr_819, hen_819⟩ := hw_819
  have etb_819 : en_819 tb = .inr (4, [.int (nI t), .int (nI d), .ref (ad te)]) := by rw [hen_819, va_up_ne _ _ (by omega)]; exact etb
  have ete_819 : en_819 te = .inl (cy 0, (d * d), .inl f0) := by rw [hen_819, va_up_ne _ _ (by omega)]; exact ete
  have e76_819 : en_819 76 = .inr (8, [.int (31 * hi + 1)]) := by rw [hen_819]; exact va_up_self _ _ _
  rw [hr_819]
  exact hp_iretM hx hb hr rfl hlocks hh (⟨rfl, by rw [hen_819]⟩) dX7_telling_5
set_option maxHeartbeats 4000000 in
set_option maxRecDepth 100000 in
/-- X7_weight -/
theorem c_X7_weight_6 (l : Launch) (D : va_G) (cy : Nat → ClassId) (sz : Nat) (cs : List Nat) (ad : Nat → Nat) (en : Nat → va_E) (tb te t d : Nat) (htb : tb ∈ cs) (hte : te ∈ cs) (h115a : 115 ≤ tb) (h115b : 115 ≤ te) (hd2 : 2 ≤ d) (hd3 : d ≤ 3) (hdd : d * d ≤ 9) (f0 : Nat → Int32) (hm76 : 76 ∈ cs) (hi : Int32) (etb : en tb = .inr (6, [.int (nI t), .int (nI d), .ref (ad te)])) (ete : en te = .inl (cy 0, (d * d), .inl f0)) (e76 : en 76 = .inr (8, [.int hi]))  : Met l yX7_weight (Cond.code yX7_weight cX7_weight 2 (some .int) :: TB) (rmN 1) (va_Pc [.ref (ad tb), .ref (ad 76)] (Pre D cy cs ad en sz)) (va_Qi (S := Nat → va_E) (fun r en1 => r = nI t ∧ en1 = va_up en 76 (.inr (8, [.int (31 * hi + 4)]))) (PostM D cs ad) (Af cs ad sz)) 0 0 (Af cs ad sz) := by
  refine Met.ofW (cc := cX7_weight) (maxL := 2) (ret := (some .int)) (by decide) rfl ?_
  intro p e s m args below meth c s₁ B hml hv
  obtain ⟨rfl, hsz, hP, hK, hD0⟩ := hv
  have hx := B.exec
  have hb := B.bytes
  have hr := B.returns
  have hts : ∀ w ∈ TB, w.before _ s = true := fun w h => atoms_spec (ws := _ :: TB) B.pre w (List.mem_cons_of_mem _ h)
  have hown : s.vm.findClass RX7 = some m.cls := findClass_of_methodNamed B.named
  have hlocks := B.notSynchronized
  have hh : Hp D (Af cs ad sz) (Af cs ad sz) s.heap s.heap [] cs ad en := ⟨hP, Af_self hD0, va_S.rf⟩
  have hA : ∀ q : Nat, s.heap.size ≤ q → Af cs ad sz q := fun q h => Or.inr (by rw [hsz] at h; exact h)
  have hl := lv_entry ([.ref (ad tb), .ref (ad 76)]) (n := 2) (Nat.le_of_ble_eq_true rfl)
  rw [lg_entry_eq]
  generalize (lg_sl ([.ref (ad tb), .ref (ad 76)]) ++ List.replicate (2 - (lg_sl ([.ref (ad tb), .ref (ad 76)])).length) Slot.unset).toArray = ls at hl ⊢
  have hl : lv_has ls 2 [(0, .ref (ad tb)), (1, .ref (ad 76))] := hl
  refine lv_aload_n hx hb dX7_weight_0 rfl (lv_at hl 1 rfl) ?_
  refine lv_iconst (v := 4) hx hb dX7_weight_1 (by decide) ?_
  refine hp_callMv (va_runV (As := [.int 4]) (rest := []) ⟨hx, hb, hml, hown, hts⟩ (c_X9_leave l D cy _ cs ad en hm76 hi 4 e76) (kw_X9_leave hts tw_819 ⟨by decide, by decide⟩) (preV_of hh hK hm76 e76 rfl) rfl rfl hl.1 rfl (lv_room (Nat.le_of_ble_eq_true rfl)) dX7_weight_2 ⟨Nat.le_of_ble_eq_true rfl, Nat.le_of_ble_eq_true rfl⟩) hh hA (fun H locs en_820 hw_820 hh => ?_)
  have hen_820 := hw_820
  have etb_820 : en_820 tb = .inr (6, [.int (nI t), .int (nI d), .ref (ad te)]) := by rw [hen_820, va_up_ne _ _ (by omega)]; exact etb
  have ete_820 : en_820 te = .inl (cy 0, (d * d), .inl f0) := by rw [hen_820, va_up_ne _ _ (by omega)]; exact ete
  have e76_820 : en_820 76 = .inr (8, [.int (31 * hi + 4)]) := by rw [hen_820]; exact va_up_self _ _ _
  refine lv_aload_n hx hb dX7_weight_5 rfl (lv_at hl 0 rfl) ?_
  refine hp_get hx hb hts ix7 hown hK hh (q := tb) rfl htb etb_820 rfl 0 (by decide) (hts _ tw_376) (fun _ h9 => h9) rfl dX7_weight_6 ?_
  exact hp_iretM hx hb hr rfl hlocks hh (⟨rfl, by rw [hen_820]⟩) dX7_weight_9
set_option maxHeartbeats 4000000 in
set_option maxRecDepth 100000 in
/-- X7_weight -/
theorem c_X7_weight_1 (l : Launch) (D : va_G) (cy : Nat → ClassId) (sz : Nat) (cs : List Nat) (ad : Nat → Nat) (en : Nat → va_E) (tb te t d : Nat) (htb : tb ∈ cs) (hte : te ∈ cs) (h115a : 115 ≤ tb) (h115b : 115 ≤ te) (hd2 : 2 ≤ d) (hd3 : d ≤ 3) (hdd : d * d ≤ 9) (f0 : Nat → Int32) (hm76 : 76 ∈ cs) (hi : Int32) (etb : en tb = .inr (1, [.int (nI t), .int (nI d), .ref (ad te)])) (ete : en te = .inl (cy 0, (d * d), .inl f0)) (e76 : en 76 = .inr (8, [.int hi]))  : Met l yX7_weight (Cond.code yX7_weight cX7_weight 2 (some .int) :: TB) (rmN 1) (va_Pc [.ref (ad tb), .ref (ad 76)] (Pre D cy cs ad en sz)) (va_Qi (S := Nat → va_E) (fun r en1 => r = nI t ∧ en1 = va_up en 76 (.inr (8, [.int (31 * hi + 4)]))) (PostM D cs ad) (Af cs ad sz)) 0 0 (Af cs ad sz) := by
  refine Met.ofW (cc := cX7_weight) (maxL := 2) (ret := (some .int)) (by decide) rfl ?_
  intro p e s m args below meth c s₁ B hml hv
  obtain ⟨rfl, hsz, hP, hK, hD0⟩ := hv
  have hx := B.exec
  have hb := B.bytes
  have hr := B.returns
  have hts : ∀ w ∈ TB, w.before _ s = true := fun w h => atoms_spec (ws := _ :: TB) B.pre w (List.mem_cons_of_mem _ h)
  have hown : s.vm.findClass RX7 = some m.cls := findClass_of_methodNamed B.named
  have hlocks := B.notSynchronized
  have hh : Hp D (Af cs ad sz) (Af cs ad sz) s.heap s.heap [] cs ad en := ⟨hP, Af_self hD0, va_S.rf⟩
  have hA : ∀ q : Nat, s.heap.size ≤ q → Af cs ad sz q := fun q h => Or.inr (by rw [hsz] at h; exact h)
  have hl := lv_entry ([.ref (ad tb), .ref (ad 76)]) (n := 2) (Nat.le_of_ble_eq_true rfl)
  rw [lg_entry_eq]
  generalize (lg_sl ([.ref (ad tb), .ref (ad 76)]) ++ List.replicate (2 - (lg_sl ([.ref (ad tb), .ref (ad 76)])).length) Slot.unset).toArray = ls at hl ⊢
  have hl : lv_has ls 2 [(0, .ref (ad tb)), (1, .ref (ad 76))] := hl
  refine lv_aload_n hx hb dX7_weight_0 rfl (lv_at hl 1 rfl) ?_
  refine lv_iconst (v := 4) hx hb dX7_weight_1 (by decide) ?_
  refine hp_callMv (va_runV (As := [.int 4]) (rest := []) ⟨hx, hb, hml, hown, hts⟩ (c_X9_leave l D cy _ cs ad en hm76 hi 4 e76) (kw_X9_leave hts tw_819 ⟨by decide, by decide⟩) (preV_of hh hK hm76 e76 rfl) rfl rfl hl.1 rfl (lv_room (Nat.le_of_ble_eq_true rfl)) dX7_weight_2 ⟨Nat.le_of_ble_eq_true rfl, Nat.le_of_ble_eq_true rfl⟩) hh hA (fun H locs en_821 hw_821 hh => ?_)
  have hen_821 := hw_821
  have etb_821 : en_821 tb = .inr (1, [.int (nI t), .int (nI d), .ref (ad te)]) := by rw [hen_821, va_up_ne _ _ (by omega)]; exact etb
  have ete_821 : en_821 te = .inl (cy 0, (d * d), .inl f0) := by rw [hen_821, va_up_ne _ _ (by omega)]; exact ete
  have e76_821 : en_821 76 = .inr (8, [.int (31 * hi + 4)]) := by rw [hen_821]; exact va_up_self _ _ _
  refine lv_aload_n hx hb dX7_weight_5 rfl (lv_at hl 0 rfl) ?_
  refine hp_get hx hb hts ix1 hown hK hh (q := tb) rfl htb etb_821 rfl 0 (by decide) (hts _ tw_376) (fun _ h9 => h9) rfl dX7_weight_6 ?_
  exact hp_iretM hx hb hr rfl hlocks hh (⟨rfl, by rw [hen_821]⟩) dX7_weight_9
set_option maxHeartbeats 4000000 in
set_option maxRecDepth 100000 in
/-- X4_weight -/
theorem c_X4_weight_4 (l : Launch) (D : va_G) (cy : Nat → ClassId) (sz : Nat) (cs : List Nat) (ad : Nat → Nat) (en : Nat → va_E) (tb te t d : Nat) (htb : tb ∈ cs) (hte : te ∈ cs) (h115a : 115 ≤ tb) (h115b : 115 ≤ te) (hd2 : 2 ≤ d) (hd3 : d ≤ 3) (hdd : d * d ≤ 9) (f0 : Nat → Int32) (hm76 : 76 ∈ cs) (hi : Int32) (etb : en tb = .inr (4, [.int (nI t), .int (nI d), .ref (ad te)])) (ete : en te = .inl (cy 0, (d * d), .inl f0)) (e76 : en 76 = .inr (8, [.int hi]))  : Met l yX4_weight (Cond.code yX4_weight cX4_weight 2 (some .int) :: TB) (rmN 1) (va_Pc [.ref (ad tb), .ref (ad 76)] (Pre D cy cs ad en sz)) (va_Qi (S := Nat → va_E) (fun r en1 => r = 60 ∧ en1 = va_up en 76 (.inr (8, [.int (31 * hi + 5)]))) (PostM D cs ad) (Af cs ad sz)) 0 0 (Af cs ad sz) := by
  refine Met.ofW (cc := cX4_weight) (maxL := 2) (ret := (some .int)) (by decide) rfl ?_
  intro p e s m args below meth c s₁ B hml hv
  obtain ⟨rfl, hsz, hP, hK, hD0⟩ := hv
  have hx := B.exec
  have hb := B.bytes
  have hr := B.returns
  have hts : ∀ w ∈ TB, w.before _ s = true := fun w h => atoms_spec (ws := _ :: TB) B.pre w (List.mem_cons_of_mem _ h)
  have hown : s.vm.findClass RX4 = some m.cls := findClass_of_methodNamed B.named
  have hlocks := B.notSynchronized
  have hh : Hp D (Af cs ad sz) (Af cs ad sz) s.heap s.heap [] cs ad en := ⟨hP, Af_self hD0, va_S.rf⟩
  have hA : ∀ q : Nat, s.heap.size ≤ q → Af cs ad sz q := fun q h => Or.inr (by rw [hsz] at h; exact h)
  have hl := lv_entry ([.ref (ad tb), .ref (ad 76)]) (n := 2) (Nat.le_of_ble_eq_true rfl)
  rw [lg_entry_eq]
  generalize (lg_sl ([.ref (ad tb), .ref (ad 76)]) ++ List.replicate (2 - (lg_sl ([.ref (ad tb), .ref (ad 76)])).length) Slot.unset).toArray = ls at hl ⊢
  have hl : lv_has ls 2 [(0, .ref (ad tb)), (1, .ref (ad 76))] := hl
  refine lv_aload_n hx hb dX4_weight_0 rfl (lv_at hl 1 rfl) ?_
  refine lv_iconst (v := 5) hx hb dX4_weight_1 (by decide) ?_
  refine hp_callMv (va_runV (As := [.int 5]) (rest := []) ⟨hx, hb, hml, hown, hts⟩ (c_X9_leave l D cy _ cs ad en hm76 hi 5 e76) (kw_X9_leave hts tw_811 ⟨by decide, by decide⟩) (preV_of hh hK hm76 e76 rfl) rfl rfl hl.1 rfl (lv_room (Nat.le_of_ble_eq_true rfl)) dX4_weight_2 ⟨Nat.le_of_ble_eq_true rfl, Nat.le_of_ble_eq_true rfl⟩) hh hA (fun H locs en_822 hw_822 hh => ?_)
  have hen_822 := hw_822
  have etb_822 : en_822 tb = .inr (4, [.int (nI t), .int (nI d), .ref (ad te)]) := by rw [hen_822, va_up_ne _ _ (by omega)]; exact etb
  have ete_822 : en_822 te = .inl (cy 0, (d * d), .inl f0) := by rw [hen_822, va_up_ne _ _ (by omega)]; exact ete
  have e76_822 : en_822 76 = .inr (8, [.int (31 * hi + 5)]) := by rw [hen_822]; exact va_up_self _ _ _
  refine lv_bipush (v := 60) hx hb dX4_weight_5 (by decide) ?_
  exact hp_iretM hx hb hr rfl hlocks hh (⟨rfl, by rw [hen_822]⟩) dX4_weight_7
set_option maxHeartbeats 4000000 in
set_option maxRecDepth 100000 in
/-- X1_greatestEntry -/
theorem c_X1_greatestEntry_1 (l : Launch) (D : va_G) (cy : Nat → ClassId) (sz : Nat) (cs : List Nat) (ad : Nat → Nat) (en : Nat → va_E) (tb te t d : Nat) (htb : tb ∈ cs) (hte : te ∈ cs) (h115a : 115 ≤ tb) (h115b : 115 ≤ te) (hd2 : 2 ≤ d) (hd3 : d ≤ 3) (hdd : d * d ≤ 9) (f0 : Nat → Int32) (etb : en tb = .inr (1, [.int (nI t), .int (nI d), .ref (ad te)])) (ete : en te = .inl (cy 0, (d * d), .inl f0))  : Met l yX1_greatestEntry (Cond.code yX1_greatestEntry cX1_greatestEntry 3 (some .int) :: TB) (rmN 1) (va_Pc [.ref (ad tb)] (Pre D cy cs ad en sz)) (va_Qi (S := Unit) (fun r _ => r = gmx f0 (d * d)) (fun _ _ => True) (Nf sz)) 0 0 (Nf sz) := by
  refine Met.ofW (cc := cX1_greatestEntry) (maxL := 3) (ret := (some .int)) (by decide) rfl ?_
  intro p e s m args below meth c s₁ B hml hv
  obtain ⟨rfl, hsz, hP, hK, hD0⟩ := hv
  have hx := B.exec
  have hb := B.bytes
  have hr := B.returns
  have hts : ∀ w ∈ TB, w.before _ s = true := fun w h => atoms_spec (ws := _ :: TB) B.pre w (List.mem_cons_of_mem _ h)
  have hown : s.vm.findClass RX1 = some m.cls := findClass_of_methodNamed B.named
  have hlocks := B.notSynchronized
  have hh : Hp D (Nf sz) (fun _ => True) s.heap s.heap [] cs ad en := ⟨hP, hD0, va_S.rf⟩
  have hA : ∀ q : Nat, s.heap.size ≤ q → Nf sz q := fun q h => by rw [hsz] at h; exact h
  have hl := lv_entry ([.ref (ad tb)]) (n := 3) (Nat.le_of_ble_eq_true rfl)
  rw [lg_entry_eq]
  generalize (lg_sl ([.ref (ad tb)]) ++ List.replicate (3 - (lg_sl ([.ref (ad tb)])).length) Slot.unset).toArray = ls at hl ⊢
  have hl : lv_has ls 3 [(0, .ref (ad tb))] := hl
  refine lv_iconst (v := 0) hx hb dX1_greatestEntry_0 (by decide) ?_
  refine lv_istore_n (lv' := [(1, .int 0), (0, .ref (ad tb))]) hx hb dX1_greatestEntry_1 rfl hl (by decide) rfl (fun ls hl => ?_)
  refine lv_iconst (v := 0) hx hb dX1_greatestEntry_2 (by decide) ?_
  refine lv_istore_n (lv' := [(2, .int 0), (1, .int 0), (0, .ref (ad tb))]) hx hb dX1_greatestEntry_3 rfl hl (by decide) rfl (fun ls hl => ?_)
  have loop_823 : ∀ (fu j823 : Nat) (ac823 : Int32)  (ls : Array Slot) (H : Heap) (locs : List Loc), 0 ≤ j823 → j823 ≤ (d * d) → (d * d) < j823 + fu → (ac823 = gmx f0 j823) → lv_has ls 3 [(2, .int (nI j823)), (1, .int ac823), (0, .ref (ad tb))] → Hp D (Nf sz) (fun _ => True) s.heap H locs cs ad en → W p l e (headSpec (Cond.code yX1_greatestEntry cX1_greatestEntry 3 (some .int) :: TB) (rmN 1)).room s m ([.ref (ad tb)] : List Value).toArray below meth c H locs 0 0 (MQ below (va_Qi (S := Unit) (fun r _ => r = gmx f0 (d * d)) (fun _ _ => True) (Nf sz)) ([.ref (ad tb)] : List Value).toArray s 0 0 (Nf sz)) (F0 m 4 ls []) := by
    intro fu
    induction fu with
    | zero => intro j823 ac823 ls H locs h0 h1 h2; exact absurd h2 (by omega)
    | succ fu ih_823 =>
      intro j823 ac823 ls H locs hj0_823 hj_823 hfu_823 i0_823 hl hh
      refine lv_iload_n hx hb dX1_greatestEntry_4 rfl (lv_at hl 0 rfl) ?_
      refine lv_aload_n hx hb dX1_greatestEntry_5 rfl (lv_at hl 2 rfl) ?_
      refine hp_get hx hb hts ix1 hown hK hh (q := tb) rfl htb etb rfl 1 (by decide) (hts _ tw_378) (fun x9 h9 => u_same (hts _ tw_379) x9 h9) rfl dX1_greatestEntry_6 ?_
      refine lv_aload_n hx hb dX1_greatestEntry_9 rfl (lv_at hl 2 rfl) ?_
      refine hp_get hx hb hts ix1 hown hK hh (q := tb) rfl htb etb rfl 1 (by decide) (hts _ tw_378) (fun x9 h9 => u_same (hts _ tw_379) x9 h9) rfl dX1_greatestEntry_10 ?_
      refine lv_imul hx hb dX1_greatestEntry_13 ?_
      rw [pk_mul d d]
      refine lv_icmp_ge (tgt := 34) hx hb dX1_greatestEntry_14 (by decide) (fun c_824 => ?_) (fun c_824 => ?_)
      · have n_824 : (d * d) ≤ j823 := n_le (a := (d * d)) (b := j823) c_824 (by omega) (by omega)
        refine lv_iload_n hx hb dX1_greatestEntry_34 rfl (lv_at hl 1 rfl) ?_
        exact hp_iretR hx hb hr rfl hlocks hsz hh (by have e : j823 = d * d := (by omega); rw [e] at i0_823; exact i0_823) dX1_greatestEntry_35
      · have n_824 : j823 < (d * d) := n_nle (a := (d * d)) (b := j823) c_824 (by omega) (by omega)
        refine lv_iload_n hx hb dX1_greatestEntry_17 rfl (lv_at hl 1 rfl) ?_
        refine lv_aload_n hx hb dX1_greatestEntry_18 rfl (lv_at hl 2 rfl) ?_
        refine hp_get hx hb hts ix1 hown hK hh (q := tb) rfl htb etb rfl 2 (by decide) (hts _ tw_381) (fun x9 h9 => u_same (hts _ tw_382) x9 h9) rfl dX1_greatestEntry_19 ?_
        refine lv_iload_n hx hb dX1_greatestEntry_22 rfl (lv_at hl 0 rfl) ?_
        refine hp_iald hx hb hK hh (q := te) rfl hte ete (vp_in_nI (n := j823) (by omega) (by omega)) dX1_greatestEntry_23 ?_
        rw [nI_clamp (n := j823) (by omega)]
        refine va_mmax hx hb (hml.trans hl.1.symm) hown (hts _ tw_805) (hts _ tw_806) (hts _ tw_11) (hts _ tw_807) (Nat.le_of_ble_eq_true rfl) (Nat.le_of_ble_eq_true rfl) (Nat.le_of_ble_eq_true rfl) (Nat.le_of_ble_eq_true rfl) dX1_greatestEntry_24 ?_
        refine W.eq (g2 := F0 m 27 ls [.int (maxI ac823 (f0 j823))]) rfl ?_
        refine lv_istore_n (lv' := [(1, .int (maxI ac823 (f0 j823))), (2, .int (nI j823)), (0, .ref (ad tb))]) hx hb dX1_greatestEntry_27 rfl hl (by decide) rfl (fun ls hl => ?_)
        refine lv_iinc (v := (nI (j823 + 1))) (lv' := [(2, .int (nI (j823 + 1))), (1, .int (maxI ac823 (f0 j823))), (0, .ref (ad tb))]) hx hb dX1_greatestEntry_28 hl (k := 1) rfl (nI_1 _) (by decide) rfl (fun ls hl => ?_)
        refine lv_goto (tgt := 4) hx hb dX1_greatestEntry_31 (by decide) ?_
        exact ih_823 ((j823 + 1)) (maxI ac823 (f0 j823)) ls H locs (by omega) (by omega) (by omega) (by rw [i0_823]; rfl) (lv_sub hl [0, 1, 2] rfl) hh
  exact loop_823 ((d * d) + 1) 0 0 ls _ _ (Nat.le_refl _) (by omega) (by omega) (rfl) (lv_sub hl [0, 1, 2] rfl) hh
set_option maxHeartbeats 4000000 in
set_option maxRecDepth 100000 in
/-- X1_greatestEntry -/
theorem c_X1_greatestEntry_4 (l : Launch) (D : va_G) (cy : Nat → ClassId) (sz : Nat) (cs : List Nat) (ad : Nat → Nat) (en : Nat → va_E) (tb te t d : Nat) (htb : tb ∈ cs) (hte : te ∈ cs) (h115a : 115 ≤ tb) (h115b : 115 ≤ te) (hd2 : 2 ≤ d) (hd3 : d ≤ 3) (hdd : d * d ≤ 9) (f0 : Nat → Int32) (etb : en tb = .inr (4, [.int (nI t), .int (nI d), .ref (ad te)])) (ete : en te = .inl (cy 0, (d * d), .inl f0))  : Met l yX1_greatestEntry (Cond.code yX1_greatestEntry cX1_greatestEntry 3 (some .int) :: TB) (rmN 1) (va_Pc [.ref (ad tb)] (Pre D cy cs ad en sz)) (va_Qi (S := Unit) (fun r _ => r = gmx f0 (d * d)) (fun _ _ => True) (Nf sz)) 0 0 (Nf sz) := by
  refine Met.ofW (cc := cX1_greatestEntry) (maxL := 3) (ret := (some .int)) (by decide) rfl ?_
  intro p e s m args below meth c s₁ B hml hv
  obtain ⟨rfl, hsz, hP, hK, hD0⟩ := hv
  have hx := B.exec
  have hb := B.bytes
  have hr := B.returns
  have hts : ∀ w ∈ TB, w.before _ s = true := fun w h => atoms_spec (ws := _ :: TB) B.pre w (List.mem_cons_of_mem _ h)
  have hown : s.vm.findClass RX1 = some m.cls := findClass_of_methodNamed B.named
  have hlocks := B.notSynchronized
  have hh : Hp D (Nf sz) (fun _ => True) s.heap s.heap [] cs ad en := ⟨hP, hD0, va_S.rf⟩
  have hA : ∀ q : Nat, s.heap.size ≤ q → Nf sz q := fun q h => by rw [hsz] at h; exact h
  have hl := lv_entry ([.ref (ad tb)]) (n := 3) (Nat.le_of_ble_eq_true rfl)
  rw [lg_entry_eq]
  generalize (lg_sl ([.ref (ad tb)]) ++ List.replicate (3 - (lg_sl ([.ref (ad tb)])).length) Slot.unset).toArray = ls at hl ⊢
  have hl : lv_has ls 3 [(0, .ref (ad tb))] := hl
  refine lv_iconst (v := 0) hx hb dX1_greatestEntry_0 (by decide) ?_
  refine lv_istore_n (lv' := [(1, .int 0), (0, .ref (ad tb))]) hx hb dX1_greatestEntry_1 rfl hl (by decide) rfl (fun ls hl => ?_)
  refine lv_iconst (v := 0) hx hb dX1_greatestEntry_2 (by decide) ?_
  refine lv_istore_n (lv' := [(2, .int 0), (1, .int 0), (0, .ref (ad tb))]) hx hb dX1_greatestEntry_3 rfl hl (by decide) rfl (fun ls hl => ?_)
  have loop_825 : ∀ (fu j825 : Nat) (ac825 : Int32)  (ls : Array Slot) (H : Heap) (locs : List Loc), 0 ≤ j825 → j825 ≤ (d * d) → (d * d) < j825 + fu → (ac825 = gmx f0 j825) → lv_has ls 3 [(2, .int (nI j825)), (1, .int ac825), (0, .ref (ad tb))] → Hp D (Nf sz) (fun _ => True) s.heap H locs cs ad en → W p l e (headSpec (Cond.code yX1_greatestEntry cX1_greatestEntry 3 (some .int) :: TB) (rmN 1)).room s m ([.ref (ad tb)] : List Value).toArray below meth c H locs 0 0 (MQ below (va_Qi (S := Unit) (fun r _ => r = gmx f0 (d * d)) (fun _ _ => True) (Nf sz)) ([.ref (ad tb)] : List Value).toArray s 0 0 (Nf sz)) (F0 m 4 ls []) := by
    intro fu
    induction fu with
    | zero => intro j825 ac825 ls H locs h0 h1 h2; exact absurd h2 (by omega)
    | succ fu ih_825 =>
      intro j825 ac825 ls H locs hj0_825 hj_825 hfu_825 i0_825 hl hh
      refine lv_iload_n hx hb dX1_greatestEntry_4 rfl (lv_at hl 0 rfl) ?_
      refine lv_aload_n hx hb dX1_greatestEntry_5 rfl (lv_at hl 2 rfl) ?_
      refine hp_get hx hb hts ix4 hown hK hh (q := tb) rfl htb etb rfl 1 (by decide) (hts _ tw_378) (fun x9 h9 => u_same (hts _ tw_379) x9 h9) rfl dX1_greatestEntry_6 ?_
      refine lv_aload_n hx hb dX1_greatestEntry_9 rfl (lv_at hl 2 rfl) ?_
      refine hp_get hx hb hts ix4 hown hK hh (q := tb) rfl htb etb rfl 1 (by decide) (hts _ tw_378) (fun x9 h9 => u_same (hts _ tw_379) x9 h9) rfl dX1_greatestEntry_10 ?_
      refine lv_imul hx hb dX1_greatestEntry_13 ?_
      rw [pk_mul d d]
      refine lv_icmp_ge (tgt := 34) hx hb dX1_greatestEntry_14 (by decide) (fun c_826 => ?_) (fun c_826 => ?_)
      · have n_826 : (d * d) ≤ j825 := n_le (a := (d * d)) (b := j825) c_826 (by omega) (by omega)
        refine lv_iload_n hx hb dX1_greatestEntry_34 rfl (lv_at hl 1 rfl) ?_
        exact hp_iretR hx hb hr rfl hlocks hsz hh (by have e : j825 = d * d := (by omega); rw [e] at i0_825; exact i0_825) dX1_greatestEntry_35
      · have n_826 : j825 < (d * d) := n_nle (a := (d * d)) (b := j825) c_826 (by omega) (by omega)
        refine lv_iload_n hx hb dX1_greatestEntry_17 rfl (lv_at hl 1 rfl) ?_
        refine lv_aload_n hx hb dX1_greatestEntry_18 rfl (lv_at hl 2 rfl) ?_
        refine hp_get hx hb hts ix4 hown hK hh (q := tb) rfl htb etb rfl 2 (by decide) (hts _ tw_381) (fun x9 h9 => u_same (hts _ tw_382) x9 h9) rfl dX1_greatestEntry_19 ?_
        refine lv_iload_n hx hb dX1_greatestEntry_22 rfl (lv_at hl 0 rfl) ?_
        refine hp_iald hx hb hK hh (q := te) rfl hte ete (vp_in_nI (n := j825) (by omega) (by omega)) dX1_greatestEntry_23 ?_
        rw [nI_clamp (n := j825) (by omega)]
        refine va_mmax hx hb (hml.trans hl.1.symm) hown (hts _ tw_805) (hts _ tw_806) (hts _ tw_11) (hts _ tw_807) (Nat.le_of_ble_eq_true rfl) (Nat.le_of_ble_eq_true rfl) (Nat.le_of_ble_eq_true rfl) (Nat.le_of_ble_eq_true rfl) dX1_greatestEntry_24 ?_
        refine W.eq (g2 := F0 m 27 ls [.int (maxI ac825 (f0 j825))]) rfl ?_
        refine lv_istore_n (lv' := [(1, .int (maxI ac825 (f0 j825))), (2, .int (nI j825)), (0, .ref (ad tb))]) hx hb dX1_greatestEntry_27 rfl hl (by decide) rfl (fun ls hl => ?_)
        refine lv_iinc (v := (nI (j825 + 1))) (lv' := [(2, .int (nI (j825 + 1))), (1, .int (maxI ac825 (f0 j825))), (0, .ref (ad tb))]) hx hb dX1_greatestEntry_28 hl (k := 1) rfl (nI_1 _) (by decide) rfl (fun ls hl => ?_)
        refine lv_goto (tgt := 4) hx hb dX1_greatestEntry_31 (by decide) ?_
        exact ih_825 ((j825 + 1)) (maxI ac825 (f0 j825)) ls H locs (by omega) (by omega) (by omega) (by rw [i0_825]; rfl) (lv_sub hl [0, 1, 2] rfl) hh
  exact loop_825 ((d * d) + 1) 0 0 ls _ _ (Nat.le_refl _) (by omega) (by omega) (rfl) (lv_sub hl [0, 1, 2] rfl) hh
set_option maxHeartbeats 4000000 in
set_option maxRecDepth 100000 in
/-- X1_telling -/
theorem c_X1_telling_1 (l : Launch) (D : va_G) (cy : Nat → ClassId) (sz : Nat) (cs : List Nat) (ad : Nat → Nat) (en : Nat → va_E) (tb te t d : Nat) (htb : tb ∈ cs) (hte : te ∈ cs) (h115a : 115 ≤ tb) (h115b : 115 ≤ te) (hd2 : 2 ≤ d) (hd3 : d ≤ 3) (hdd : d * d ≤ 9) (f0 : Nat → Int32) (hm76 : 76 ∈ cs) (hi : Int32) (etb : en tb = .inr (1, [.int (nI t), .int (nI d), .ref (ad te)])) (ete : en te = .inl (cy 0, (d * d), .inl f0)) (e76 : en 76 = .inr (8, [.int hi]))  : Met l yX1_telling (Cond.code yX1_telling cX1_telling 2 (some .int) :: TB) (rmN 3) (va_Pc [.ref (ad tb), .ref (ad 76)] (Pre D cy cs ad en sz)) (va_Qi (S := Nat → va_E) (fun r en1 => r = (sumI (fun i => f0 (i * d + i)) d) + (gmx f0 (d * d)) ∧ en1 = va_up en 76 (.inr (8, [.int (31 * (31 * hi + 2) + 1)]))) (PostM D cs ad) (Af cs ad sz)) 0 0 (Af cs ad sz) := by
  refine Met.ofW (cc := cX1_telling) (maxL := 2) (ret := (some .int)) (by decide) rfl ?_
  intro p e s m args below meth c s₁ B hml hv
  obtain ⟨rfl, hsz, hP, hK, hD0⟩ := hv
  have hx := B.exec
  have hb := B.bytes
  have hr := B.returns
  have hts : ∀ w ∈ TB, w.before _ s = true := fun w h => atoms_spec (ws := _ :: TB) B.pre w (List.mem_cons_of_mem _ h)
  have hown : s.vm.findClass RX1 = some m.cls := findClass_of_methodNamed B.named
  have hlocks := B.notSynchronized
  have hh : Hp D (Af cs ad sz) (Af cs ad sz) s.heap s.heap [] cs ad en := ⟨hP, Af_self hD0, va_S.rf⟩
  have hA : ∀ q : Nat, s.heap.size ≤ q → Af cs ad sz q := fun q h => Or.inr (by rw [hsz] at h; exact h)
  have hl := lv_entry ([.ref (ad tb), .ref (ad 76)]) (n := 2) (Nat.le_of_ble_eq_true rfl)
  rw [lg_entry_eq]
  generalize (lg_sl ([.ref (ad tb), .ref (ad 76)]) ++ List.replicate (2 - (lg_sl ([.ref (ad tb), .ref (ad 76)])).length) Slot.unset).toArray = ls at hl ⊢
  have hl : lv_has ls 2 [(0, .ref (ad tb)), (1, .ref (ad 76))] := hl
  refine lv_aload_n hx hb dX1_telling_0 rfl (lv_at hl 1 rfl) ?_
  refine lv_iconst (v := 2) hx hb dX1_telling_1 (by decide) ?_
  refine hp_callMv (va_runV (As := [.int 2]) (rest := []) ⟨hx, hb, hml, hown, hts⟩ (c_X9_leave l D cy _ cs ad en hm76 hi 2 e76) (kw_X9_leave hts tw_794 ⟨by decide, by decide⟩) (preV_of hh hK hm76 e76 rfl) rfl rfl hl.1 rfl (lv_room (Nat.le_of_ble_eq_true rfl)) dX1_telling_2 ⟨Nat.le_of_ble_eq_true rfl, Nat.le_of_ble_eq_true rfl⟩) hh hA (fun H locs en_827 hw_827 hh => ?_)
  have hen_827 := hw_827
  have etb_827 : en_827 tb = .inr (1, [.int (nI t), .int (nI d), .ref (ad te)]) := by rw [hen_827, va_up_ne _ _ (by omega)]; exact etb
  have ete_827 : en_827 te = .inl (cy 0, (d * d), .inl f0) := by rw [hen_827, va_up_ne _ _ (by omega)]; exact ete
  have e76_827 : en_827 76 = .inr (8, [.int (31 * hi + 2)]) := by rw [hen_827]; exact va_up_self _ _ _
  refine lv_aload_n hx hb dX1_telling_5 rfl (lv_at hl 0 rfl) ?_
  refine lv_aload_n hx hb dX1_telling_6 rfl (lv_at hl 1 rfl) ?_
  refine hp_callMi (va_runSU ((hK.1 1 _ rfl).2) (As := [.ref (ad 76)]) (rest := []) ⟨hx, hb, hml, hown, hts⟩ (c_X7_telling_1 l D cy _ cs ad en_827 tb te t d htb hte (by omega) (by omega) (by omega) (by omega) (by omega) f0 hm76 (31 * hi + 2) etb_827 ete_827 e76_827) (va_cwSU 1 hts (TB_SU tw_798 tw_790 tw_397 tw_788 tw_13 tw_820) rfl rfl rfl (by decide +kernel) ⟨by decide, by decide⟩) (preV_of hh hK htb etb_827 rfl) rfl rfl hl.1 rfl (lv_room (Nat.le_of_ble_eq_true rfl)) dX1_telling_7 ⟨Nat.le_of_ble_eq_true rfl, Nat.le_of_ble_eq_true rfl⟩) hh hA (fun r_828 H locs en_828 hw_828 hh => ?_)
  obtain ⟨hr_828, hen_828⟩ := hw_828
  have etb_828 : en_828 tb = .inr (1, [.int (nI t), .int (nI d), .ref (ad te)]) := by rw [hen_828, va_up_ne _ _ (by omega)]; exact etb_827
  have ete_828 : en_828 te = .inl (cy 0, (d * d), .inl f0) := by rw [hen_828, va_up_ne _ _ (by omega)]; exact ete_827
  have e76_828 : en_828 76 = .inr (8, [.int (31 * (31 * hi + 2) + 1)]) := by rw [hen_828]; exact va_up_self _ _ _
  rw [hr_828]
  refine lv_aload_n hx hb dX1_telling_10 rfl (lv_at hl 0 rfl) ?_
  refine hp_callRi (va_runU (As := []) (rest := [.int (sumI (fun i => f0 (i * d + i)) d)]) ⟨hx, hb, hml, hown, hts⟩ (c_X1_greatestEntry_1 l D cy _ cs ad en_828 tb te t d htb hte (by omega) (by omega) (by omega) (by omega) (by omega) f0  etb_828 ete_828) (va_cwU 0 hts (TB_U tw_799 tw_802 tw_801 tw_800 tw_14 tw_804) rfl rfl rfl rfl (by decide +kernel) ⟨by decide, by decide⟩) (preV_of hh hK htb etb_828 rfl) rfl rfl hl.1 rfl (lv_room (Nat.le_of_ble_eq_true rfl)) dX1_telling_11 ⟨Nat.le_of_ble_eq_true rfl, Nat.le_of_ble_eq_true rfl⟩) hh hA (fun r_829 H locs hw_829 hh => ?_)
  rw [hw_829]
  refine lv_iadd hx hb dX1_telling_14 ?_
  exact hp_iretM hx hb hr rfl hlocks hh (⟨rfl, by rw [hen_828, hen_827, bx_uu]⟩) dX1_telling_15
set_option maxHeartbeats 4000000 in
set_option maxRecDepth 100000 in
/-- X1_telling -/
theorem c_X1_telling_4 (l : Launch) (D : va_G) (cy : Nat → ClassId) (sz : Nat) (cs : List Nat) (ad : Nat → Nat) (en : Nat → va_E) (tb te t d : Nat) (htb : tb ∈ cs) (hte : te ∈ cs) (h115a : 115 ≤ tb) (h115b : 115 ≤ te) (hd2 : 2 ≤ d) (hd3 : d ≤ 3) (hdd : d * d ≤ 9) (f0 : Nat → Int32) (hm76 : 76 ∈ cs) (hi : Int32) (etb : en tb = .inr (4, [.int (nI t), .int (nI d), .ref (ad te)])) (ete : en te = .inl (cy 0, (d * d), .inl f0)) (e76 : en 76 = .inr (8, [.int hi]))  : Met l yX1_telling (Cond.code yX1_telling cX1_telling 2 (some .int) :: TB) (rmN 3) (va_Pc [.ref (ad tb), .ref (ad 76)] (Pre D cy cs ad en sz)) (va_Qi (S := Nat → va_E) (fun r en1 => r = (sumI (fun i => f0 (i * d + i)) d) + (gmx f0 (d * d)) ∧ en1 = va_up en 76 (.inr (8, [.int (31 * (31 * hi + 2) + 1)]))) (PostM D cs ad) (Af cs ad sz)) 0 0 (Af cs ad sz) := by
  refine Met.ofW (cc := cX1_telling) (maxL := 2) (ret := (some .int)) (by decide) rfl ?_
  intro p e s m args below meth c s₁ B hml hv
  obtain ⟨rfl, hsz, hP, hK, hD0⟩ := hv
  have hx := B.exec
  have hb := B.bytes
  have hr := B.returns
  have hts : ∀ w ∈ TB, w.before _ s = true := fun w h => atoms_spec (ws := _ :: TB) B.pre w (List.mem_cons_of_mem _ h)
  have hown : s.vm.findClass RX1 = some m.cls := findClass_of_methodNamed B.named
  have hlocks := B.notSynchronized
  have hh : Hp D (Af cs ad sz) (Af cs ad sz) s.heap s.heap [] cs ad en := ⟨hP, Af_self hD0, va_S.rf⟩
  have hA : ∀ q : Nat, s.heap.size ≤ q → Af cs ad sz q := fun q h => Or.inr (by rw [hsz] at h; exact h)
  have hl := lv_entry ([.ref (ad tb), .ref (ad 76)]) (n := 2) (Nat.le_of_ble_eq_true rfl)
  rw [lg_entry_eq]
  generalize (lg_sl ([.ref (ad tb), .ref (ad 76)]) ++ List.replicate (2 - (lg_sl ([.ref (ad tb), .ref (ad 76)])).length) Slot.unset).toArray = ls at hl ⊢
  have hl : lv_has ls 2 [(0, .ref (ad tb)), (1, .ref (ad 76))] := hl
  refine lv_aload_n hx hb dX1_telling_0 rfl (lv_at hl 1 rfl) ?_
  refine lv_iconst (v := 2) hx hb dX1_telling_1 (by decide) ?_
  refine hp_callMv (va_runV (As := [.int 2]) (rest := []) ⟨hx, hb, hml, hown, hts⟩ (c_X9_leave l D cy _ cs ad en hm76 hi 2 e76) (kw_X9_leave hts tw_794 ⟨by decide, by decide⟩) (preV_of hh hK hm76 e76 rfl) rfl rfl hl.1 rfl (lv_room (Nat.le_of_ble_eq_true rfl)) dX1_telling_2 ⟨Nat.le_of_ble_eq_true rfl, Nat.le_of_ble_eq_true rfl⟩) hh hA (fun H locs en_830 hw_830 hh => ?_)
  have hen_830 := hw_830
  have etb_830 : en_830 tb = .inr (4, [.int (nI t), .int (nI d), .ref (ad te)]) := by rw [hen_830, va_up_ne _ _ (by omega)]; exact etb
  have ete_830 : en_830 te = .inl (cy 0, (d * d), .inl f0) := by rw [hen_830, va_up_ne _ _ (by omega)]; exact ete
  have e76_830 : en_830 76 = .inr (8, [.int (31 * hi + 2)]) := by rw [hen_830]; exact va_up_self _ _ _
  refine lv_aload_n hx hb dX1_telling_5 rfl (lv_at hl 0 rfl) ?_
  refine lv_aload_n hx hb dX1_telling_6 rfl (lv_at hl 1 rfl) ?_
  refine hp_callMi (va_runSU ((hK.1 4 _ rfl).2) (As := [.ref (ad 76)]) (rest := []) ⟨hx, hb, hml, hown, hts⟩ (c_X7_telling_4 l D cy _ cs ad en_830 tb te t d htb hte (by omega) (by omega) (by omega) (by omega) (by omega) f0 hm76 (31 * hi + 2) etb_830 ete_830 e76_830) (va_cwSU 1 hts (TB_SU tw_798 tw_790 tw_397 tw_788 tw_13 tw_820) rfl rfl rfl (by decide +kernel) ⟨by decide, by decide⟩) (preV_of hh hK htb etb_830 rfl) rfl rfl hl.1 rfl (lv_room (Nat.le_of_ble_eq_true rfl)) dX1_telling_7 ⟨Nat.le_of_ble_eq_true rfl, Nat.le_of_ble_eq_true rfl⟩) hh hA (fun r_831 H locs en_831 hw_831 hh => ?_)
  obtain ⟨hr_831, hen_831⟩ := hw_831
  have etb_831 : en_831 tb = .inr (4, [.int (nI t), .int (nI d), .ref (ad te)]) := by rw [hen_831, va_up_ne _ _ (by omega)]; exact etb_830
  have ete_831 : en_831 te = .inl (cy 0, (d * d), .inl f0) := by rw [hen_831, va_up_ne _ _ (by omega)]; exact ete_830
  have e76_831 : en_831 76 = .inr (8, [.int (31 * (31 * hi + 2) + 1)]) := by rw [hen_831]; exact va_up_self _ _ _
  rw [hr_831]
  refine lv_aload_n hx hb dX1_telling_10 rfl (lv_at hl 0 rfl) ?_
  refine hp_callRi (va_runU (As := []) (rest := [.int (sumI (fun i => f0 (i * d + i)) d)]) ⟨hx, hb, hml, hown, hts⟩ (c_X1_greatestEntry_4 l D cy _ cs ad en_831 tb te t d htb hte (by omega) (by omega) (by omega) (by omega) (by omega) f0  etb_831 ete_831) (va_cwU 0 hts (TB_U tw_799 tw_802 tw_803 tw_800 tw_14 tw_804) rfl rfl rfl rfl (by decide +kernel) ⟨by decide, by decide⟩) (preV_of hh hK htb etb_831 rfl) rfl rfl hl.1 rfl (lv_room (Nat.le_of_ble_eq_true rfl)) dX1_telling_11 ⟨Nat.le_of_ble_eq_true rfl, Nat.le_of_ble_eq_true rfl⟩) hh hA (fun r_832 H locs hw_832 hh => ?_)
  rw [hw_832]
  refine lv_iadd hx hb dX1_telling_14 ?_
  exact hp_iretM hx hb hr rfl hlocks hh (⟨rfl, by rw [hen_831, hen_830, bx_uu]⟩) dX1_telling_15
set_option maxHeartbeats 4000000 in
set_option maxRecDepth 100000 in
/-- X4_telling -/
theorem c_X4_telling_4 (l : Launch) (D : va_G) (cy : Nat → ClassId) (sz : Nat) (cs : List Nat) (ad : Nat → Nat) (en : Nat → va_E) (tb te t d : Nat) (htb : tb ∈ cs) (hte : te ∈ cs) (h115a : 115 ≤ tb) (h115b : 115 ≤ te) (hd2 : 2 ≤ d) (hd3 : d ≤ 3) (hdd : d * d ≤ 9) (f0 : Nat → Int32) (hm76 : 76 ∈ cs) (hi : Int32) (etb : en tb = .inr (4, [.int (nI t), .int (nI d), .ref (ad te)])) (ete : en te = .inl (cy 0, (d * d), .inl f0)) (e76 : en 76 = .inr (8, [.int hi]))  : Met l yX4_telling (Cond.code yX4_telling cX4_telling 3 (some .int) :: TB) (rmN 4) (va_Pc [.ref (ad tb), .ref (ad 76)] (Pre D cy cs ad en sz)) (va_Qi (S := Nat → va_E) (fun r en1 => r = (sumI (fun i => f0 (i * d + i)) d) + (gmx f0 (d * d)) + (sumI (fun i => f0 (i * d + i)) d) ∧ en1 = va_up en 76 (.inr (8, [.int (31 * (31 * (31 * (31 * hi + 3) + 2) + 1) + 1)]))) (PostM D cs ad) (Af cs ad sz)) 0 0 (Af cs ad sz) := by
  refine Met.ofW (cc := cX4_telling) (maxL := 3) (ret := (some .int)) (by decide) rfl ?_
  intro p e s m args below meth c s₁ B hml hv
  obtain ⟨rfl, hsz, hP, hK, hD0⟩ := hv
  have hx := B.exec
  have hb := B.bytes
  have hr := B.returns
  have hts : ∀ w ∈ TB, w.before _ s = true := fun w h => atoms_spec (ws := _ :: TB) B.pre w (List.mem_cons_of_mem _ h)
  have hown : s.vm.findClass RX4 = some m.cls := findClass_of_methodNamed B.named
  have hlocks := B.notSynchronized
  have hh : Hp D (Af cs ad sz) (Af cs ad sz) s.heap s.heap [] cs ad en := ⟨hP, Af_self hD0, va_S.rf⟩
  have hA : ∀ q : Nat, s.heap.size ≤ q → Af cs ad sz q := fun q h => Or.inr (by rw [hsz] at h; exact h)
  have hl := lv_entry ([.ref (ad tb), .ref (ad 76)]) (n := 3) (Nat.le_of_ble_eq_true rfl)
  rw [lg_entry_eq]
  generalize (lg_sl ([.ref (ad tb), .ref (ad 76)]) ++ List.replicate (3 - (lg_sl ([.ref (ad tb), .ref (ad 76)])).length) Slot.unset).toArray = ls at hl ⊢
  have hl : lv_has ls 3 [(0, .ref (ad tb)), (1, .ref (ad 76))] := hl
  refine lv_aload_n hx hb dX4_telling_0 rfl (lv_at hl 1 rfl) ?_
  refine lv_iconst (v := 3) hx hb dX4_telling_1 (by decide) ?_
  refine hp_callMv (va_runV (As := [.int 3]) (rest := []) ⟨hx, hb, hml, hown, hts⟩ (c_X9_leave l D cy _ cs ad en hm76 hi 3 e76) (kw_X9_leave hts tw_811 ⟨by decide, by decide⟩) (preV_of hh hK hm76 e76 rfl) rfl rfl hl.1 rfl (lv_room (Nat.le_of_ble_eq_true rfl)) dX4_telling_2 ⟨Nat.le_of_ble_eq_true rfl, Nat.le_of_ble_eq_true rfl⟩) hh hA (fun H locs en_833 hw_833 hh => ?_)
  have hen_833 := hw_833
  have etb_833 : en_833 tb = .inr (4, [.int (nI t), .int (nI d), .ref (ad te)]) := by rw [hen_833, va_up_ne _ _ (by omega)]; exact etb
  have ete_833 : en_833 te = .inl (cy 0, (d * d), .inl f0) := by rw [hen_833, va_up_ne _ _ (by omega)]; exact ete
  have e76_833 : en_833 76 = .inr (8, [.int (31 * hi + 3)]) := by rw [hen_833]; exact va_up_self _ _ _
  refine lv_aload_n hx hb dX4_telling_5 rfl (lv_at hl 0 rfl) ?_
  refine lv_aload_n hx hb dX4_telling_6 rfl (lv_at hl 1 rfl) ?_
  refine hp_callMi (va_runSU ((hK.1 4 _ rfl).2) (As := [.ref (ad 76)]) (rest := []) ⟨hx, hb, hml, hown, hts⟩ (c_X1_telling_4 l D cy _ cs ad en_833 tb te t d htb hte (by omega) (by omega) (by omega) (by omega) (by omega) f0 hm76 (31 * hi + 3) etb_833 ete_833 e76_833) (va_cwSU 1 hts (TB_SU tw_812 tw_1259 tw_390 tw_792 tw_14 tw_793) rfl rfl rfl (by decide +kernel) ⟨by decide, by decide⟩) (preV_of hh hK htb etb_833 rfl) rfl rfl hl.1 rfl (lv_room (Nat.le_of_ble_eq_true rfl)) dX4_telling_7 ⟨Nat.le_of_ble_eq_true rfl, Nat.le_of_ble_eq_true rfl⟩) hh hA (fun r_834 H locs en_834 hw_834 hh => ?_)
  obtain ⟨hr_834, hen_834⟩ := hw_834
  have etb_834 : en_834 tb = .inr (4, [.int (nI t), .int (nI d), .ref (ad te)]) := by rw [hen_834, va_up_ne _ _ (by omega)]; exact etb_833
  have ete_834 : en_834 te = .inl (cy 0, (d * d), .inl f0) := by rw [hen_834, va_up_ne _ _ (by omega)]; exact ete_833
  have e76_834 : en_834 76 = .inr (8, [.int (31 * (31 * (31 * hi + 3) + 2) + 1)]) := by rw [hen_834]; exact va_up_self _ _ _
  rw [hr_834]
  refine lv_istore_n (lv' := [(2, .int ((sumI (fun i => f0 (i * d + i)) d) + (gmx f0 (d * d)))), (0, .ref (ad tb)), (1, .ref (ad 76))]) hx hb dX4_telling_10 rfl hl (by decide) rfl (fun ls hl => ?_)
  refine lv_iload_n hx hb dX4_telling_11 rfl (lv_at hl 0 rfl) ?_
  refine lv_aload_n hx hb dX4_telling_12 rfl (lv_at hl 1 rfl) ?_
  refine lv_aload_n hx hb dX4_telling_13 rfl (lv_at hl 2 rfl) ?_
  refine hp_callMi (va_runU (As := [.ref (ad 76)]) (rest := [.int ((sumI (fun i => f0 (i * d + i)) d) + (gmx f0 (d * d)))]) ⟨hx, hb, hml, hown, hts⟩ (c_X7_plainTelling_4 l D cy _ cs ad en_834 tb te t d htb hte (by omega) (by omega) (by omega) (by omega) (by omega) f0 hm76 (31 * (31 * (31 * hi + 3) + 2) + 1) etb_834 ete_834 e76_834) (va_cwU 1 hts (TB_U tw_813 tw_814 tw_816 tw_817 tw_13 tw_818) rfl rfl rfl rfl (by decide +kernel) ⟨by decide, by decide⟩) (preV_of hh hK htb etb_834 rfl) rfl rfl hl.1 rfl (lv_room (Nat.le_of_ble_eq_true rfl)) dX4_telling_14 ⟨Nat.le_of_ble_eq_true rfl, Nat.le_of_ble_eq_true rfl⟩) hh hA (fun r_835 H locs en_835 hw_835 hh => ?_)
  obtain ⟨hr_835, hen_835⟩ := hw_835
  have etb_835 : en_835 tb = .inr (4, [.int (nI t), .int (nI d), .ref (ad te)]) := by rw [hen_835, va_up_ne _ _ (by omega)]; exact etb_834
  have ete_835 : en_835 te = .inl (cy 0, (d * d), .inl f0) := by rw [hen_835, va_up_ne _ _ (by omega)]; exact ete_834
  have e76_835 : en_835 76 = .inr (8, [.int (31 * (31 * (31 * (31 * hi + 3) + 2) + 1) + 1)]) := by rw [hen_835]; exact va_up_self _ _ _
  rw [hr_835]
  refine lv_iadd hx hb dX4_telling_17 ?_
  exact hp_iretM hx hb hr rfl hlocks hh (⟨rfl, by rw [hen_835, hen_834, hen_833, bx_uu, bx_uu]⟩) dX4_telling_18
set_option maxHeartbeats 4000000 in
set_option maxRecDepth 100000 in
/-- X7_isOfKind -/
theorem c_X7_isOfKind_6 (l : Launch) (D : va_G) (cy : Nat → ClassId) (sz : Nat) (cs : List Nat) (ad : Nat → Nat) (en : Nat → va_E) (tb te t d : Nat) (htb : tb ∈ cs) (hte : te ∈ cs) (h115a : 115 ≤ tb) (h115b : 115 ≤ te) (hd2 : 2 ≤ d) (hd3 : d ≤ 3) (hdd : d * d ≤ 9) (f0 : Nat → Int32) (z : Int32) (etb : en tb = .inr (6, [.int (nI t), .int (nI d), .ref (ad te)])) (ete : en te = .inl (cy 0, (d * d), .inl f0))  : Met l yX7_isOfKind (Cond.code yX7_isOfKind cX7_isOfKind 2 (some .boolean) :: TB) (rmN 0) (va_Pc [.ref (ad tb), .int z] (Pre D cy cs ad en sz)) (va_Qi (S := Unit) (fun r _ => (r = 1 ∧ (z = 0)) ∨ (r = 0 ∧ ¬ (z = 0))) (fun _ _ => True) (Nf sz)) 0 0 (Nf sz) := by
  refine Met.ofW (cc := cX7_isOfKind) (maxL := 2) (ret := (some .boolean)) (by decide) rfl ?_
  intro p e s m args below meth c s₁ B hml hv
  obtain ⟨rfl, hsz, hP, hK, hD0⟩ := hv
  have hx := B.exec
  have hb := B.bytes
  have hr := B.returns
  have hts : ∀ w ∈ TB, w.before _ s = true := fun w h => atoms_spec (ws := _ :: TB) B.pre w (List.mem_cons_of_mem _ h)
  have hown : s.vm.findClass RX7 = some m.cls := findClass_of_methodNamed B.named
  have hlocks := B.notSynchronized
  have hh : Hp D (Nf sz) (fun _ => True) s.heap s.heap [] cs ad en := ⟨hP, hD0, va_S.rf⟩
  have hA : ∀ q : Nat, s.heap.size ≤ q → Nf sz q := fun q h => by rw [hsz] at h; exact h
  have hl := lv_entry ([.ref (ad tb), .int z]) (n := 2) (Nat.le_of_ble_eq_true rfl)
  rw [lg_entry_eq]
  generalize (lg_sl ([.ref (ad tb), .int z]) ++ List.replicate (2 - (lg_sl ([.ref (ad tb), .int z])).length) Slot.unset).toArray = ls at hl ⊢
  have hl : lv_has ls 2 [(0, .ref (ad tb)), (1, .int z)] := hl
  refine lv_iload_n hx hb dX7_isOfKind_0 rfl (lv_at hl 1 rfl) ?_
  refine lv_if_ne (tgt := 8) hx hb dX7_isOfKind_1 (by decide) (fun c_836 => ?_) (fun c_836 => ?_)
  · refine lv_iconst (v := 0) hx hb dX7_isOfKind_8 (by decide) ?_
    exact hp_iretR hx hb hr rfl hlocks hsz hh (Or.inr ⟨rfl, c_836⟩) dX7_isOfKind_9
  · refine lv_iconst (v := 1) hx hb dX7_isOfKind_4 (by decide) ?_
    refine lv_goto (tgt := 9) hx hb dX7_isOfKind_5 (by decide) ?_
    exact hp_iretR hx hb hr rfl hlocks hsz hh (Or.inl ⟨rfl, c_836⟩) dX7_isOfKind_9
set_option maxHeartbeats 4000000 in
set_option maxRecDepth 100000 in
/-- X7_isOfKind -/
theorem c_X7_isOfKind_1 (l : Launch) (D : va_G) (cy : Nat → ClassId) (sz : Nat) (cs : List Nat) (ad : Nat → Nat) (en : Nat → va_E) (tb te t d : Nat) (htb : tb ∈ cs) (hte : te ∈ cs) (h115a : 115 ≤ tb) (h115b : 115 ≤ te) (hd2 : 2 ≤ d) (hd3 : d ≤ 3) (hdd : d * d ≤ 9) (f0 : Nat → Int32) (z : Int32) (etb : en tb = .inr (1, [.int (nI t), .int (nI d), .ref (ad te)])) (ete : en te = .inl (cy 0, (d * d), .inl f0))  : Met l yX7_isOfKind (Cond.code yX7_isOfKind cX7_isOfKind 2 (some .boolean) :: TB) (rmN 0) (va_Pc [.ref (ad tb), .int z] (Pre D cy cs ad en sz)) (va_Qi (S := Unit) (fun r _ => (r = 1 ∧ (z = 0)) ∨ (r = 0 ∧ ¬ (z = 0))) (fun _ _ => True) (Nf sz)) 0 0 (Nf sz) := by
  refine Met.ofW (cc := cX7_isOfKind) (maxL := 2) (ret := (some .boolean)) (by decide) rfl ?_
  intro p e s m args below meth c s₁ B hml hv
  obtain ⟨rfl, hsz, hP, hK, hD0⟩ := hv
  have hx := B.exec
  have hb := B.bytes
  have hr := B.returns
  have hts : ∀ w ∈ TB, w.before _ s = true := fun w h => atoms_spec (ws := _ :: TB) B.pre w (List.mem_cons_of_mem _ h)
  have hown : s.vm.findClass RX7 = some m.cls := findClass_of_methodNamed B.named
  have hlocks := B.notSynchronized
  have hh : Hp D (Nf sz) (fun _ => True) s.heap s.heap [] cs ad en := ⟨hP, hD0, va_S.rf⟩
  have hA : ∀ q : Nat, s.heap.size ≤ q → Nf sz q := fun q h => by rw [hsz] at h; exact h
  have hl := lv_entry ([.ref (ad tb), .int z]) (n := 2) (Nat.le_of_ble_eq_true rfl)
  rw [lg_entry_eq]
  generalize (lg_sl ([.ref (ad tb), .int z]) ++ List.replicate (2 - (lg_sl ([.ref (ad tb), .int z])).length) Slot.unset).toArray = ls at hl ⊢
  have hl : lv_has ls 2 [(0, .ref (ad tb)), (1, .int z)] := hl
  refine lv_iload_n hx hb dX7_isOfKind_0 rfl (lv_at hl 1 rfl) ?_
  refine lv_if_ne (tgt := 8) hx hb dX7_isOfKind_1 (by decide) (fun c_837 => ?_) (fun c_837 => ?_)
  · refine lv_iconst (v := 0) hx hb dX7_isOfKind_8 (by decide) ?_
    exact hp_iretR hx hb hr rfl hlocks hsz hh (Or.inr ⟨rfl, c_837⟩) dX7_isOfKind_9
  · refine lv_iconst (v := 1) hx hb dX7_isOfKind_4 (by decide) ?_
    refine lv_goto (tgt := 9) hx hb dX7_isOfKind_5 (by decide) ?_
    exact hp_iretR hx hb hr rfl hlocks hsz hh (Or.inl ⟨rfl, c_837⟩) dX7_isOfKind_9
set_option maxHeartbeats 4000000 in
set_option maxRecDepth 100000 in
/-- X7_isOfKind -/
theorem c_X7_isOfKind_4 (l : Launch) (D : va_G) (cy : Nat → ClassId) (sz : Nat) (cs : List Nat) (ad : Nat → Nat) (en : Nat → va_E) (tb te t d : Nat) (htb : tb ∈ cs) (hte : te ∈ cs) (h115a : 115 ≤ tb) (h115b : 115 ≤ te) (hd2 : 2 ≤ d) (hd3 : d ≤ 3) (hdd : d * d ≤ 9) (f0 : Nat → Int32) (z : Int32) (etb : en tb = .inr (4, [.int (nI t), .int (nI d), .ref (ad te)])) (ete : en te = .inl (cy 0, (d * d), .inl f0))  : Met l yX7_isOfKind (Cond.code yX7_isOfKind cX7_isOfKind 2 (some .boolean) :: TB) (rmN 0) (va_Pc [.ref (ad tb), .int z] (Pre D cy cs ad en sz)) (va_Qi (S := Unit) (fun r _ => (r = 1 ∧ (z = 0)) ∨ (r = 0 ∧ ¬ (z = 0))) (fun _ _ => True) (Nf sz)) 0 0 (Nf sz) := by
  refine Met.ofW (cc := cX7_isOfKind) (maxL := 2) (ret := (some .boolean)) (by decide) rfl ?_
  intro p e s m args below meth c s₁ B hml hv
  obtain ⟨rfl, hsz, hP, hK, hD0⟩ := hv
  have hx := B.exec
  have hb := B.bytes
  have hr := B.returns
  have hts : ∀ w ∈ TB, w.before _ s = true := fun w h => atoms_spec (ws := _ :: TB) B.pre w (List.mem_cons_of_mem _ h)
  have hown : s.vm.findClass RX7 = some m.cls := findClass_of_methodNamed B.named
  have hlocks := B.notSynchronized
  have hh : Hp D (Nf sz) (fun _ => True) s.heap s.heap [] cs ad en := ⟨hP, hD0, va_S.rf⟩
  have hA : ∀ q : Nat, s.heap.size ≤ q → Nf sz q := fun q h => by rw [hsz] at h; exact h
  have hl := lv_entry ([.ref (ad tb), .int z]) (n := 2) (Nat.le_of_ble_eq_true rfl)
  rw [lg_entry_eq]
  generalize (lg_sl ([.ref (ad tb), .int z]) ++ List.replicate (2 - (lg_sl ([.ref (ad tb), .int z])).length) Slot.unset).toArray = ls at hl ⊢
  have hl : lv_has ls 2 [(0, .ref (ad tb)), (1, .int z)] := hl
  refine lv_iload_n hx hb dX7_isOfKind_0 rfl (lv_at hl 1 rfl) ?_
  refine lv_if_ne (tgt := 8) hx hb dX7_isOfKind_1 (by decide) (fun c_838 => ?_) (fun c_838 => ?_)
  · refine lv_iconst (v := 0) hx hb dX7_isOfKind_8 (by decide) ?_
    exact hp_iretR hx hb hr rfl hlocks hsz hh (Or.inr ⟨rfl, c_838⟩) dX7_isOfKind_9
  · refine lv_iconst (v := 1) hx hb dX7_isOfKind_4 (by decide) ?_
    refine lv_goto (tgt := 9) hx hb dX7_isOfKind_5 (by decide) ?_
    exact hp_iretR hx hb hr rfl hlocks hsz hh (Or.inl ⟨rfl, c_838⟩) dX7_isOfKind_9
set_option maxHeartbeats 4000000 in
set_option maxRecDepth 100000 in
/-- X1_isOfKind -/
theorem c_X1_isOfKind_1 (l : Launch) (D : va_G) (cy : Nat → ClassId) (sz : Nat) (cs : List Nat) (ad : Nat → Nat) (en : Nat → va_E) (tb te t d : Nat) (htb : tb ∈ cs) (hte : te ∈ cs) (h115a : 115 ≤ tb) (h115b : 115 ≤ te) (hd2 : 2 ≤ d) (hd3 : d ≤ 3) (hdd : d * d ≤ 9) (f0 : Nat → Int32) (z : Int32) (etb : en tb = .inr (1, [.int (nI t), .int (nI d), .ref (ad te)])) (ete : en te = .inl (cy 0, (d * d), .inl f0))  : Met l yX1_isOfKind (Cond.code yX1_isOfKind cX1_isOfKind 2 (some .boolean) :: TB) (rmN 1) (va_Pc [.ref (ad tb), .int z] (Pre D cy cs ad en sz)) (va_Qi (S := Unit) (fun r _ => (r = 1 ∧ (z = 1 ∨ z = 0)) ∨ (r = 0 ∧ ¬ (z = 1 ∨ z = 0))) (fun _ _ => True) (Nf sz)) 0 0 (Nf sz) := by
  refine Met.ofW (cc := cX1_isOfKind) (maxL := 2) (ret := (some .boolean)) (by decide) rfl ?_
  intro p e s m args below meth c s₁ B hml hv
  obtain ⟨rfl, hsz, hP, hK, hD0⟩ := hv
  have hx := B.exec
  have hb := B.bytes
  have hr := B.returns
  have hts : ∀ w ∈ TB, w.before _ s = true := fun w h => atoms_spec (ws := _ :: TB) B.pre w (List.mem_cons_of_mem _ h)
  have hown : s.vm.findClass RX1 = some m.cls := findClass_of_methodNamed B.named
  have hlocks := B.notSynchronized
  have hh : Hp D (Nf sz) (fun _ => True) s.heap s.heap [] cs ad en := ⟨hP, hD0, va_S.rf⟩
  have hA : ∀ q : Nat, s.heap.size ≤ q → Nf sz q := fun q h => by rw [hsz] at h; exact h
  have hl := lv_entry ([.ref (ad tb), .int z]) (n := 2) (Nat.le_of_ble_eq_true rfl)
  rw [lg_entry_eq]
  generalize (lg_sl ([.ref (ad tb), .int z]) ++ List.replicate (2 - (lg_sl ([.ref (ad tb), .int z])).length) Slot.unset).toArray = ls at hl ⊢
  have hl : lv_has ls 2 [(0, .ref (ad tb)), (1, .int z)] := hl
  refine lv_iload_n hx hb dX1_isOfKind_0 rfl (lv_at hl 1 rfl) ?_
  refine lv_iconst (v := 1) hx hb dX1_isOfKind_1 (by decide) ?_
  refine lv_icmp_eq (tgt := 13) hx hb dX1_isOfKind_2 (by decide) (fun c_839 => ?_) (fun c_839 => ?_)
  · refine lv_iconst (v := 1) hx hb dX1_isOfKind_13 (by decide) ?_
    refine lv_goto (tgt := 18) hx hb dX1_isOfKind_14 (by decide) ?_
    exact hp_iretR hx hb hr rfl hlocks hsz hh (Or.inl ⟨rfl, Or.inl c_839⟩) dX1_isOfKind_18
  · refine lv_aload_n hx hb dX1_isOfKind_5 rfl (lv_at hl 0 rfl) ?_
    refine lv_iload_n hx hb dX1_isOfKind_6 rfl (lv_at hl 1 rfl) ?_
    refine hp_callRi (va_runSU ((hK.1 1 _ rfl).2) (As := [.int z]) (rest := []) ⟨hx, hb, hml, hown, hts⟩ (c_X7_isOfKind_1 l D cy _ cs ad en tb te t d htb hte (by omega) (by omega) (by omega) (by omega) (by omega) f0 z etb ete) (va_cwSU 1 hts (TB_SU tw_850 tw_846 tw_397 tw_844 tw_13 tw_855) rfl rfl rfl (by decide +kernel) ⟨by decide, by decide⟩) (preV_of hh hK htb etb rfl) rfl rfl hl.1 rfl (lv_room (Nat.le_of_ble_eq_true rfl)) dX1_isOfKind_7 ⟨Nat.le_of_ble_eq_true rfl, Nat.le_of_ble_eq_true rfl⟩) hh hA (fun r_840 H locs hw_840 hh => ?_)
    rcases hw_840 with ⟨hb_840, ht_840⟩ | ⟨hb_840, ht_840⟩
    · obtain rfl : r_840 = 1 := hb_840
      refine lv_if_eq (tgt := 17) hx hb dX1_isOfKind_10 (by decide) (fun c_0 => absurd c_0 (by decide)) (fun _ => ?_)
      refine lv_iconst (v := 1) hx hb dX1_isOfKind_13 (by decide) ?_
      refine lv_goto (tgt := 18) hx hb dX1_isOfKind_14 (by decide) ?_
      exact hp_iretR hx hb hr rfl hlocks hsz hh (Or.inl ⟨rfl, Or.inr ht_840⟩) dX1_isOfKind_18
    · obtain rfl : r_840 = 0 := hb_840
      refine lv_if_eq (tgt := 17) hx hb dX1_isOfKind_10 (by decide) (fun _ => ?_) (fun c_0 => absurd c_0 (by decide))
      refine lv_iconst (v := 0) hx hb dX1_isOfKind_17 (by decide) ?_
      exact hp_iretR hx hb hr rfl hlocks hsz hh (Or.inr ⟨rfl, fun q => q.elim c_839 ht_840⟩) dX1_isOfKind_18
set_option maxHeartbeats 4000000 in
set_option maxRecDepth 100000 in
/-- X1_isOfKind -/
theorem c_X1_isOfKind_4 (l : Launch) (D : va_G) (cy : Nat → ClassId) (sz : Nat) (cs : List Nat) (ad : Nat → Nat) (en : Nat → va_E) (tb te t d : Nat) (htb : tb ∈ cs) (hte : te ∈ cs) (h115a : 115 ≤ tb) (h115b : 115 ≤ te) (hd2 : 2 ≤ d) (hd3 : d ≤ 3) (hdd : d * d ≤ 9) (f0 : Nat → Int32) (z : Int32) (etb : en tb = .inr (4, [.int (nI t), .int (nI d), .ref (ad te)])) (ete : en te = .inl (cy 0, (d * d), .inl f0))  : Met l yX1_isOfKind (Cond.code yX1_isOfKind cX1_isOfKind 2 (some .boolean) :: TB) (rmN 1) (va_Pc [.ref (ad tb), .int z] (Pre D cy cs ad en sz)) (va_Qi (S := Unit) (fun r _ => (r = 1 ∧ (z = 1 ∨ z = 0)) ∨ (r = 0 ∧ ¬ (z = 1 ∨ z = 0))) (fun _ _ => True) (Nf sz)) 0 0 (Nf sz) := by
  refine Met.ofW (cc := cX1_isOfKind) (maxL := 2) (ret := (some .boolean)) (by decide) rfl ?_
  intro p e s m args below meth c s₁ B hml hv
  obtain ⟨rfl, hsz, hP, hK, hD0⟩ := hv
  have hx := B.exec
  have hb := B.bytes
  have hr := B.returns
  have hts : ∀ w ∈ TB, w.before _ s = true := fun w h => atoms_spec (ws := _ :: TB) B.pre w (List.mem_cons_of_mem _ h)
  have hown : s.vm.findClass RX1 = some m.cls := findClass_of_methodNamed B.named
  have hlocks := B.notSynchronized
  have hh : Hp D (Nf sz) (fun _ => True) s.heap s.heap [] cs ad en := ⟨hP, hD0, va_S.rf⟩
  have hA : ∀ q : Nat, s.heap.size ≤ q → Nf sz q := fun q h => by rw [hsz] at h; exact h
  have hl := lv_entry ([.ref (ad tb), .int z]) (n := 2) (Nat.le_of_ble_eq_true rfl)
  rw [lg_entry_eq]
  generalize (lg_sl ([.ref (ad tb), .int z]) ++ List.replicate (2 - (lg_sl ([.ref (ad tb), .int z])).length) Slot.unset).toArray = ls at hl ⊢
  have hl : lv_has ls 2 [(0, .ref (ad tb)), (1, .int z)] := hl
  refine lv_iload_n hx hb dX1_isOfKind_0 rfl (lv_at hl 1 rfl) ?_
  refine lv_iconst (v := 1) hx hb dX1_isOfKind_1 (by decide) ?_
  refine lv_icmp_eq (tgt := 13) hx hb dX1_isOfKind_2 (by decide) (fun c_841 => ?_) (fun c_841 => ?_)
  · refine lv_iconst (v := 1) hx hb dX1_isOfKind_13 (by decide) ?_
    refine lv_goto (tgt := 18) hx hb dX1_isOfKind_14 (by decide) ?_
    exact hp_iretR hx hb hr rfl hlocks hsz hh (Or.inl ⟨rfl, Or.inl c_841⟩) dX1_isOfKind_18
  · refine lv_aload_n hx hb dX1_isOfKind_5 rfl (lv_at hl 0 rfl) ?_
    refine lv_iload_n hx hb dX1_isOfKind_6 rfl (lv_at hl 1 rfl) ?_
    refine hp_callRi (va_runSU ((hK.1 4 _ rfl).2) (As := [.int z]) (rest := []) ⟨hx, hb, hml, hown, hts⟩ (c_X7_isOfKind_4 l D cy _ cs ad en tb te t d htb hte (by omega) (by omega) (by omega) (by omega) (by omega) f0 z etb ete) (va_cwSU 1 hts (TB_SU tw_850 tw_846 tw_397 tw_844 tw_13 tw_855) rfl rfl rfl (by decide +kernel) ⟨by decide, by decide⟩) (preV_of hh hK htb etb rfl) rfl rfl hl.1 rfl (lv_room (Nat.le_of_ble_eq_true rfl)) dX1_isOfKind_7 ⟨Nat.le_of_ble_eq_true rfl, Nat.le_of_ble_eq_true rfl⟩) hh hA (fun r_842 H locs hw_842 hh => ?_)
    rcases hw_842 with ⟨hb_842, ht_842⟩ | ⟨hb_842, ht_842⟩
    · obtain rfl : r_842 = 1 := hb_842
      refine lv_if_eq (tgt := 17) hx hb dX1_isOfKind_10 (by decide) (fun c_0 => absurd c_0 (by decide)) (fun _ => ?_)
      refine lv_iconst (v := 1) hx hb dX1_isOfKind_13 (by decide) ?_
      refine lv_goto (tgt := 18) hx hb dX1_isOfKind_14 (by decide) ?_
      exact hp_iretR hx hb hr rfl hlocks hsz hh (Or.inl ⟨rfl, Or.inr ht_842⟩) dX1_isOfKind_18
    · obtain rfl : r_842 = 0 := hb_842
      refine lv_if_eq (tgt := 17) hx hb dX1_isOfKind_10 (by decide) (fun _ => ?_) (fun c_0 => absurd c_0 (by decide))
      refine lv_iconst (v := 0) hx hb dX1_isOfKind_17 (by decide) ?_
      exact hp_iretR hx hb hr rfl hlocks hsz hh (Or.inr ⟨rfl, fun q => q.elim c_841 ht_842⟩) dX1_isOfKind_18
set_option maxHeartbeats 4000000 in
set_option maxRecDepth 100000 in
/-- X4_isOfKind -/
theorem c_X4_isOfKind_4 (l : Launch) (D : va_G) (cy : Nat → ClassId) (sz : Nat) (cs : List Nat) (ad : Nat → Nat) (en : Nat → va_E) (tb te t d : Nat) (htb : tb ∈ cs) (hte : te ∈ cs) (h115a : 115 ≤ tb) (h115b : 115 ≤ te) (hd2 : 2 ≤ d) (hd3 : d ≤ 3) (hdd : d * d ≤ 9) (f0 : Nat → Int32) (z : Int32) (etb : en tb = .inr (4, [.int (nI t), .int (nI d), .ref (ad te)])) (ete : en te = .inl (cy 0, (d * d), .inl f0))  : Met l yX4_isOfKind (Cond.code yX4_isOfKind cX4_isOfKind 2 (some .boolean) :: TB) (rmN 2) (va_Pc [.ref (ad tb), .int z] (Pre D cy cs ad en sz)) (va_Qi (S := Unit) (fun r _ => (r = 1 ∧ (z = 2 ∨ (z = 1 ∨ z = 0))) ∨ (r = 0 ∧ ¬ (z = 2 ∨ (z = 1 ∨ z = 0)))) (fun _ _ => True) (Nf sz)) 0 0 (Nf sz) := by
  refine Met.ofW (cc := cX4_isOfKind) (maxL := 2) (ret := (some .boolean)) (by decide) rfl ?_
  intro p e s m args below meth c s₁ B hml hv
  obtain ⟨rfl, hsz, hP, hK, hD0⟩ := hv
  have hx := B.exec
  have hb := B.bytes
  have hr := B.returns
  have hts : ∀ w ∈ TB, w.before _ s = true := fun w h => atoms_spec (ws := _ :: TB) B.pre w (List.mem_cons_of_mem _ h)
  have hown : s.vm.findClass RX4 = some m.cls := findClass_of_methodNamed B.named
  have hlocks := B.notSynchronized
  have hh : Hp D (Nf sz) (fun _ => True) s.heap s.heap [] cs ad en := ⟨hP, hD0, va_S.rf⟩
  have hA : ∀ q : Nat, s.heap.size ≤ q → Nf sz q := fun q h => by rw [hsz] at h; exact h
  have hl := lv_entry ([.ref (ad tb), .int z]) (n := 2) (Nat.le_of_ble_eq_true rfl)
  rw [lg_entry_eq]
  generalize (lg_sl ([.ref (ad tb), .int z]) ++ List.replicate (2 - (lg_sl ([.ref (ad tb), .int z])).length) Slot.unset).toArray = ls at hl ⊢
  have hl : lv_has ls 2 [(0, .ref (ad tb)), (1, .int z)] := hl
  refine lv_iload_n hx hb dX4_isOfKind_0 rfl (lv_at hl 1 rfl) ?_
  refine lv_iconst (v := 2) hx hb dX4_isOfKind_1 (by decide) ?_
  refine lv_icmp_eq (tgt := 13) hx hb dX4_isOfKind_2 (by decide) (fun c_843 => ?_) (fun c_843 => ?_)
  · refine lv_iconst (v := 1) hx hb dX4_isOfKind_13 (by decide) ?_
    refine lv_goto (tgt := 18) hx hb dX4_isOfKind_14 (by decide) ?_
    exact hp_iretR hx hb hr rfl hlocks hsz hh (Or.inl ⟨rfl, Or.inl c_843⟩) dX4_isOfKind_18
  · refine lv_aload_n hx hb dX4_isOfKind_5 rfl (lv_at hl 0 rfl) ?_
    refine lv_iload_n hx hb dX4_isOfKind_6 rfl (lv_at hl 1 rfl) ?_
    refine hp_callRi (va_runSU ((hK.1 4 _ rfl).2) (As := [.int z]) (rest := []) ⟨hx, hb, hml, hown, hts⟩ (c_X1_isOfKind_4 l D cy _ cs ad en tb te t d htb hte (by omega) (by omega) (by omega) (by omega) (by omega) f0 z etb ete) (va_cwSU 1 hts (TB_SU tw_854 tw_1264 tw_390 tw_848 tw_14 tw_849) rfl rfl rfl (by decide +kernel) ⟨by decide, by decide⟩) (preV_of hh hK htb etb rfl) rfl rfl hl.1 rfl (lv_room (Nat.le_of_ble_eq_true rfl)) dX4_isOfKind_7 ⟨Nat.le_of_ble_eq_true rfl, Nat.le_of_ble_eq_true rfl⟩) hh hA (fun r_844 H locs hw_844 hh => ?_)
    rcases hw_844 with ⟨hb_844, ht_844⟩ | ⟨hb_844, ht_844⟩
    · obtain rfl : r_844 = 1 := hb_844
      refine lv_if_eq (tgt := 17) hx hb dX4_isOfKind_10 (by decide) (fun c_0 => absurd c_0 (by decide)) (fun _ => ?_)
      refine lv_iconst (v := 1) hx hb dX4_isOfKind_13 (by decide) ?_
      refine lv_goto (tgt := 18) hx hb dX4_isOfKind_14 (by decide) ?_
      exact hp_iretR hx hb hr rfl hlocks hsz hh (Or.inl ⟨rfl, Or.inr ht_844⟩) dX4_isOfKind_18
    · obtain rfl : r_844 = 0 := hb_844
      refine lv_if_eq (tgt := 17) hx hb dX4_isOfKind_10 (by decide) (fun _ => ?_) (fun c_0 => absurd c_0 (by decide))
      refine lv_iconst (v := 0) hx hb dX4_isOfKind_17 (by decide) ?_
      exact hp_iretR hx hb hr rfl hlocks hsz hh (Or.inr ⟨rfl, fun q => q.elim c_843 ht_844⟩) dX4_isOfKind_18
