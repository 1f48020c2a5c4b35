set_option maxHeartbeats 4000000 in
set_option maxRecDepth 100000 in
/-- leave -/
theorem c_X9_leave (l : Launch) (D : va_G) (cy : Nat → ClassId) (sz : Nat) (cs : List Nat) (ad : Nat → Nat) (en : Nat → va_E) (hm76 : 76 ∈ cs) (hi : Int32) (v : Int32) (e76 : en 76 = .inr (8, [.int hi]))  : Met l yX9_leave (Cond.code yX9_leave cX9_leave 2 none :: TB) (rmN 0) (va_Pc [.ref (ad 76), .int v] (Pre D cy cs ad en sz)) (va_Qv (S := Nat → va_E) (fun en1 => en1 = va_up en 76 (.inr (8, [.int (31 * hi + v)]))) (PostM D cs ad) (Af cs ad sz)) 0 0 (Af cs ad sz) := by
  refine Met.ofW (cc := cX9_leave) (maxL := 2) (ret := none) (by decide) rfl ?_
  intro p e s m args below meth c s₁ B hml hv
  obtain ⟨rfl, hsz, hP, hK, hD0⟩ := hv
  have hx := B.exec
  have hb := B.bytes
  have hr := B.returns
  have hts : ∀ w ∈ TB, w.before _ s = true := fun w h => atoms_spec (ws := _ :: TB) B.pre w (List.mem_cons_of_mem _ h)
  have hown : s.vm.findClass RX9 = some m.cls := findClass_of_methodNamed B.named
  have hlocks := B.notSynchronized
  have hh : Hp D (Af cs ad sz) (Af cs ad sz) s.heap s.heap [] cs ad en := ⟨hP, Af_self hD0, va_S.rf⟩
  have hA : ∀ q : Nat, s.heap.size ≤ q → Af cs ad sz q := fun q h => Or.inr (by rw [hsz] at h; exact h)
  have hl := lv_entry ([.ref (ad 76), .int v]) (n := 2) (Nat.le_of_ble_eq_true rfl)
  rw [lg_entry_eq]
  generalize (lg_sl ([.ref (ad 76), .int v]) ++ List.replicate (2 - (lg_sl ([.ref (ad 76), .int v])).length) Slot.unset).toArray = ls at hl ⊢
  have hl : lv_has ls 2 [(0, .ref (ad 76)), (1, .int v)] := hl
  refine lv_aload_n hx hb dX9_leave_0 rfl (lv_at hl 0 rfl) ?_
  refine lv_bipush (v := 31) hx hb dX9_leave_1 (by decide) ?_
  refine lv_aload_n hx hb dX9_leave_3 rfl (lv_at hl 0 rfl) ?_
  refine hp_get hx hb hts ix9 hown hK hh (q := 76) rfl hm76 e76 rfl 0 (by decide) (hts _ tw_201) (fun _ h9 => h9) rfl dX9_leave_4 ?_
  refine lv_imul hx hb dX9_leave_7 ?_
  refine lv_iload_n hx hb dX9_leave_8 rfl (lv_at hl 1 rfl) ?_
  refine lv_iadd hx hb dX9_leave_9 ?_
  refine hp_put hx hb hts ix9 tyX9 tyX9_ok nmX9 hown hK hh (q := 76) rfl hm76 e76 rfl 0 (by decide) (hts _ tw_201) (fun _ h9 => h9) rfl (ty := .int) (by decide +kernel) rfl rfl (Nat.le_of_ble_eq_true rfl) dX9_leave_10 (fun H locs en_812 hen_812 hh => ?_)
  have e76_812 : en_812 76 = .inr (8, [.int ((31 * hi) + v)]) := by rw [hen_812]; exact va_up_self _ _ _
  exact hp_vretM hx hb hr hlocks hh (hen_812) dX9_leave_13
theorem kw_X9_leave {R : Room} {s : State} {args : Array Value} {own : String} {idx : Nat} (hts : ∀ w ∈ TB, w.before args s = true) (hl : Cond.methodLink own idx yX9_leave ∈ TB) (hR : 0 + 1 ≤ R.frames ∧ 8 + (2 + 11) + 40 * 0 ≤ R.locals) : CallW R s args own RX9 idx yX9_leave cX9_leave 2 none (Cond.code yX9_leave cX9_leave 2 none :: TB) (rmN 0) 0 0 1 := cwV 1 hts (TB_V hl tw_795 tw_796 tw_6 tw_797) rfl rfl rfl (by decide +kernel) hR
set_option maxHeartbeats 4000000 in
set_option maxRecDepth 100000 in
/-- X7_plainTelling -/
theorem c_X7_plainTelling_6 (l : Launch) (D : va_G) (cy : Nat → ClassId) (sz : Nat) (cs : List Nat) (ad : Nat → Nat) (en : Nat → va_E) (tb te t d : Nat) (htb : tb ∈ cs) (hte : te ∈ cs) (h115a : 115 ≤ tb) (h115b : 115 ≤ te) (hd2 : 2 ≤ d) (hd3 : d ≤ 3) (hdd : d * d ≤ 9) (f0 : Nat → Int32) (hm76 : 76 ∈ cs) (hi : Int32) (etb : en tb = .inr (6, [.int (nI t), .int (nI d), .ref (ad te)])) (ete : en te = .inl (cy 0, (d * d), .inl f0)) (e76 : en 76 = .inr (8, [.int hi]))  : Met l yX7_plainTelling (Cond.code yX7_plainTelling cX7_plainTelling 4 (some .int) :: TB) (rmN 1) (va_Pc [.ref (ad tb), .ref (ad 76)] (Pre D cy cs ad en sz)) (va_Qi (S := Nat → va_E) (fun r en1 => r = (sumI (fun i => f0 (i * d + i)) d) ∧ en1 = va_up en 76 (.inr (8, [.int (31 * hi + 1)]))) (PostM D cs ad) (Af cs ad sz)) 0 0 (Af cs ad sz) := by
  refine Met.ofW (cc := cX7_plainTelling) (maxL := 4) (ret := (some .int)) (by decide) rfl ?_
  intro p e s m args below meth c s₁ B hml hv
  obtain ⟨rfl, hsz, hP, hK, hD0⟩ := hv
  have hx := B.exec
  have hb := B.bytes
  have hr := B.returns
  have hts : ∀ w ∈ TB, w.before _ s = true := fun w h => atoms_spec (ws := _ :: TB) B.pre w (List.mem_cons_of_mem _ h)
  have hown : s.vm.findClass RX7 = some m.cls := findClass_of_methodNamed B.named
  have hlocks := B.notSynchronized
  have hh : Hp D (Af cs ad sz) (Af cs ad sz) s.heap s.heap [] cs ad en := ⟨hP, Af_self hD0, va_S.rf⟩
  have hA : ∀ q : Nat, s.heap.size ≤ q → Af cs ad sz q := fun q h => Or.inr (by rw [hsz] at h; exact h)
  have hl := lv_entry ([.ref (ad tb), .ref (ad 76)]) (n := 4) (Nat.le_of_ble_eq_true rfl)
  rw [lg_entry_eq]
  generalize (lg_sl ([.ref (ad tb), .ref (ad 76)]) ++ List.replicate (4 - (lg_sl ([.ref (ad tb), .ref (ad 76)])).length) Slot.unset).toArray = ls at hl ⊢
  have hl : lv_has ls 4 [(0, .ref (ad tb)), (1, .ref (ad 76))] := hl
  refine lv_aload_n hx hb dX7_plainTelling_0 rfl (lv_at hl 1 rfl) ?_
  refine lv_iconst (v := 1) hx hb dX7_plainTelling_1 (by decide) ?_
  refine hp_callMv (va_runV (As := [.int 1]) (rest := []) ⟨hx, hb, hml, hown, hts⟩ (c_X9_leave l D cy _ cs ad en hm76 hi 1 e76) (kw_X9_leave hts tw_819 ⟨by decide, by decide⟩) (preV_of hh hK hm76 e76 rfl) rfl rfl hl.1 rfl (lv_room (Nat.le_of_ble_eq_true rfl)) dX7_plainTelling_2 ⟨Nat.le_of_ble_eq_true rfl, Nat.le_of_ble_eq_true rfl⟩) hh hA (fun H locs en_813 hw_813 hh => ?_)
  have hen_813 := hw_813
  have etb_813 : en_813 tb = .inr (6, [.int (nI t), .int (nI d), .ref (ad te)]) := by rw [hen_813, va_up_ne _ _ (by omega)]; exact etb
  have ete_813 : en_813 te = .inl (cy 0, (d * d), .inl f0) := by rw [hen_813, va_up_ne _ _ (by omega)]; exact ete
  have e76_813 : en_813 76 = .inr (8, [.int (31 * hi + 1)]) := by rw [hen_813]; exact va_up_self _ _ _
  refine lv_iconst (v := 0) hx hb dX7_plainTelling_5 (by decide) ?_
  refine lv_istore_n (lv' := [(2, .int 0), (0, .ref (ad tb)), (1, .ref (ad 76))]) hx hb dX7_plainTelling_6 rfl hl (by decide) rfl (fun ls hl => ?_)
  refine lv_iconst (v := 0) hx hb dX7_plainTelling_7 (by decide) ?_
  refine lv_istore_n (lv' := [(3, .int 0), (2, .int 0), (0, .ref (ad tb)), (1, .ref (ad 76))]) hx hb dX7_plainTelling_8 rfl hl (by decide) rfl (fun ls hl => ?_)
  have loop_814 : ∀ (fu j814 : Nat) (ac814 : Int32)  (ls : Array Slot) (H : Heap) (locs : List Loc), 0 ≤ j814 → j814 ≤ d → d < j814 + fu → (ac814 = sumI (fun i => f0 (i * d + i)) j814) → lv_has ls 4 [(3, .int (nI j814)), (2, .int ac814), (0, .ref (ad tb)), (1, .ref (ad 76))] → Hp D (Af cs ad sz) (Af cs ad sz) s.heap H locs cs ad en_813 → W p l e (headSpec (Cond.code yX7_plainTelling cX7_plainTelling 4 (some .int) :: TB) (rmN 1)).room s m ([.ref (ad tb), .ref (ad 76)] : List Value).toArray below meth c H locs 0 0 (MQ below (va_Qi (S := Nat → va_E) (fun r en1 => r = (sumI (fun i => f0 (i * d + i)) d) ∧ en1 = va_up en 76 (.inr (8, [.int (31 * hi + 1)]))) (PostM D cs ad) (Af cs ad sz)) ([.ref (ad tb), .ref (ad 76)] : List Value).toArray s 0 0 (Af cs ad sz)) (F0 m 9 ls []) := by
    intro fu
    induction fu with
    | zero => intro j814 ac814 ls H locs h0 h1 h2; exact absurd h2 (by omega)
    | succ fu ih_814 =>
      intro j814 ac814 ls H locs hj0_814 hj_814 hfu_814 i0_814 hl hh
      refine lv_iload_n hx hb dX7_plainTelling_9 rfl (lv_at hl 0 rfl) ?_
      refine lv_aload_n hx hb dX7_plainTelling_10 rfl (lv_at hl 2 rfl) ?_
      refine hp_get hx hb hts ix7 hown hK hh (q := tb) rfl htb etb_813 rfl 1 (by decide) (hts _ tw_377) (fun _ h9 => h9) rfl dX7_plainTelling_11 ?_
      refine lv_icmp_ge (tgt := 39) hx hb dX7_plainTelling_14 (by decide) (fun c_815 => ?_) (fun c_815 => ?_)
      · have n_815 : d ≤ j814 := n_le (a := d) (b := j814) c_815 (by omega) (by omega)
        refine lv_iload_n hx hb dX7_plainTelling_39 rfl (lv_at hl 1 rfl) ?_
        exact hp_iretM hx hb hr rfl hlocks hh (⟨by have e : j814 = d := (by omega); rw [e] at i0_814; exact i0_814, by rw [hen_813]⟩) dX7_plainTelling_40
      · have n_815 : j814 < d := n_nle (a := d) (b := j814) c_815 (by omega) (by omega)
        refine lv_iload_n hx hb dX7_plainTelling_17 rfl (lv_at hl 1 rfl) ?_
        refine lv_aload_n hx hb dX7_plainTelling_18 rfl (lv_at hl 2 rfl) ?_
        refine hp_get hx hb hts ix7 hown hK hh (q := tb) rfl htb etb_813 rfl 2 (by decide) (hts _ tw_380) (fun _ h9 => h9) rfl dX7_plainTelling_19 ?_
        refine lv_iload_n hx hb dX7_plainTelling_22 rfl (lv_at hl 0 rfl) ?_
        refine lv_aload_n hx hb dX7_plainTelling_23 rfl (lv_at hl 2 rfl) ?_
        refine hp_get hx hb hts ix7 hown hK hh (q := tb) rfl htb etb_813 rfl 1 (by decide) (hts _ tw_377) (fun _ h9 => h9) rfl dX7_plainTelling_24 ?_
        refine lv_imul hx hb dX7_plainTelling_27 ?_
        rw [pk_mul j814 d]
        refine lv_iload_n hx hb dX7_plainTelling_28 rfl (lv_at hl 0 rfl) ?_
        refine lv_iadd hx hb dX7_plainTelling_29 ?_
        rw [nI_add (j814 * d) j814]
        have hi_816 : ((j814 * d) + j814) < d * d := md3' (by omega) (by omega) hd3
        refine hp_iald hx hb hK hh (q := te) rfl hte ete_813 (vp_in_nI (n := ((j814 * d) + j814)) (by omega) (by omega)) dX7_plainTelling_30 ?_
        rw [nI_clamp (n := ((j814 * d) + j814)) (by omega)]
        refine lv_iadd hx hb dX7_plainTelling_31 ?_
        refine lv_istore_n (lv' := [(2, .int (ac814 + (f0 ((j814 * d) + j814)))), (3, .int (nI j814)), (0, .ref (ad tb)), (1, .ref (ad 76))]) hx hb dX7_plainTelling_32 rfl hl (by decide) rfl (fun ls hl => ?_)
        refine lv_iinc (v := (nI (j814 + 1))) (lv' := [(3, .int (nI (j814 + 1))), (2, .int (ac814 + (f0 ((j814 * d) + j814)))), (0, .ref (ad tb)), (1, .ref (ad 76))]) hx hb dX7_plainTelling_33 hl (k := 1) rfl (nI_1 _) (by decide) rfl (fun ls hl => ?_)
        refine lv_goto (tgt := 9) hx hb dX7_plainTelling_36 (by decide) ?_
        exact ih_814 ((j814 + 1)) (ac814 + (f0 ((j814 * d) + j814))) ls H locs (by omega) (by omega) (by omega) (by rw [i0_814]; rfl) (lv_sub hl [0, 1, 2, 3] rfl) hh
  exact loop_814 (d + 1) 0 0 ls _ _ (Nat.le_refl _) (by omega) (by omega) (rfl) (lv_sub hl [0, 1, 2, 3] rfl) hh
set_option maxHeartbeats 4000000 in
set_option maxRecDepth 100000 in
/-- X7_plainTelling -/
theorem c_X7_plainTelling_1 (l : Launch) (D : va_G) (cy : Nat → ClassId) (sz : Nat) (cs : List Nat) (ad : Nat → Nat) (en : Nat → va_E) (tb te t d : Nat) (htb : tb ∈ cs) (hte : te ∈ cs) (h115a : 115 ≤ tb) (h115b : 115 ≤ te) (hd2 : 2 ≤ d) (hd3 : d ≤ 3) (hdd : d * d ≤ 9) (f0 : Nat → Int32) (hm76 : 76 ∈ cs) (hi : Int32) (etb : en tb = .inr (1, [.int (nI t), .int (nI d), .ref (ad te)])) (ete : en te = .inl (cy 0, (d * d), .inl f0)) (e76 : en 76 = .inr (8, [.int hi]))  : Met l yX7_plainTelling (Cond.code yX7_plainTelling cX7_plainTelling 4 (some .int) :: TB) (rmN 1) (va_Pc [.ref (ad tb), .ref (ad 76)] (Pre D cy cs ad en sz)) (va_Qi (S := Nat → va_E) (fun r en1 => r = (sumI (fun i => f0 (i * d + i)) d) ∧ en1 = va_up en 76 (.inr (8, [.int (31 * hi + 1)]))) (PostM D cs ad) (Af cs ad sz)) 0 0 (Af cs ad sz) := by
  refine Met.ofW (cc := cX7_plainTelling) (maxL := 4) (ret := (some .int)) (by decide) rfl ?_
  intro p e s m args below meth c s₁ B hml hv
  obtain ⟨rfl, hsz, hP, hK, hD0⟩ := hv
  have hx := B.exec
  have hb := B.bytes
  have hr := B.returns
  have hts : ∀ w ∈ TB, w.before _ s = true := fun w h => atoms_spec (ws := _ :: TB) B.pre w (List.mem_cons_of_mem _ h)
  have hown : s.vm.findClass RX7 = some m.cls := findClass_of_methodNamed B.named
  have hlocks := B.notSynchronized
  have hh : Hp D (Af cs ad sz) (Af cs ad sz) s.heap s.heap [] cs ad en := ⟨hP, Af_self hD0, va_S.rf⟩
  have hA : ∀ q : Nat, s.heap.size ≤ q → Af cs ad sz q := fun q h => Or.inr (by rw [hsz] at h; exact h)
  have hl := lv_entry ([.ref (ad tb), .ref (ad 76)]) (n := 4) (Nat.le_of_ble_eq_true rfl)
  rw [lg_entry_eq]
  generalize (lg_sl ([.ref (ad tb), .ref (ad 76)]) ++ List.replicate (4 - (lg_sl ([.ref (ad tb), .ref (ad 76)])).length) Slot.unset).toArray = ls at hl ⊢
  have hl : lv_has ls 4 [(0, .ref (ad tb)), (1, .ref (ad 76))] := hl
  refine lv_aload_n hx hb dX7_plainTelling_0 rfl (lv_at hl 1 rfl) ?_
  refine lv_iconst (v := 1) hx hb dX7_plainTelling_1 (by decide) ?_
  refine hp_callMv (va_runV (As := [.int 1]) (rest := []) ⟨hx, hb, hml, hown, hts⟩ (c_X9_leave l D cy _ cs ad en hm76 hi 1 e76) (kw_X9_leave hts tw_819 ⟨by decide, by decide⟩) (preV_of hh hK hm76 e76 rfl) rfl rfl hl.1 rfl (lv_room (Nat.le_of_ble_eq_true rfl)) dX7_plainTelling_2 ⟨Nat.le_of_ble_eq_true rfl, Nat.le_of_ble_eq_true rfl⟩) hh hA (fun H locs en_817 hw_817 hh => ?_)
  have hen_817 := hw_817
  have etb_817 : en_817 tb = .inr (1, [.int (nI t), .int (nI d), .ref (ad te)]) := by rw [hen_817, va_up_ne _ _ (by omega)]; exact etb
  have ete_817 : en_817 te = .inl (cy 0, (d * d), .inl f0) := by rw [hen_817, va_up_ne _ _ (by omega)]; exact ete
  have e76_817 : en_817 76 = .inr (8, [.int (31 * hi + 1)]) := by rw [hen_817]; exact va_up_self _ _ _
  refine lv_iconst (v := 0) hx hb dX7_plainTelling_5 (by decide) ?_
  refine lv_istore_n (lv' := [(2, .int 0), (0, .ref (ad tb)), (1, .ref (ad 76))]) hx hb dX7_plainTelling_6 rfl hl (by decide) rfl (fun ls hl => ?_)
  refine lv_iconst (v := 0) hx hb dX7_plainTelling_7 (by decide) ?_
  refine lv_istore_n (lv' := [(3, .int 0), (2, .int 0), (0, .ref (ad tb)), (1, .ref (ad 76))]) hx hb dX7_plainTelling_8 rfl hl (by decide) rfl (fun ls hl => ?_)
  have loop_818 : ∀ (fu j818 : Nat) (ac818 : Int32)  (ls : Array Slot) (H : Heap) (locs : List Loc), 0 ≤ j818 → j818 ≤ d → d < j818 + fu → (ac818 = sumI (fun i => f0 (i * d + i)) j818) → lv_has ls 4 [(3, .int (nI j818)), (2, .int ac818), (0, .ref (ad tb)), (1, .ref (ad 76))] → Hp D (Af cs ad sz) (Af cs ad sz) s.heap H locs cs ad en_817 → W p l e (headSpec (Cond.code yX7_plainTelling cX7_plainTelling 4 (some .int) :: TB) (rmN 1)).room s m ([.ref (ad tb), .ref (ad 76)] : List Value).toArray below meth c H locs 0 0 (MQ below (va_Qi (S := Nat → va_E) (fun r en1 => r = (sumI (fun i => f0 (i * d + i)) d) ∧ en1 = va_up en 76 (.inr (8, [.int (31 * hi + 1)]))) (PostM D cs ad) (Af cs ad sz)) ([.ref (ad tb), .ref (ad 76)] : List Value).toArray s 0 0 (Af cs ad sz)) (F0 m 9 ls []) := by
    intro fu
    induction fu with
    | zero => intro j818 ac818 ls H locs h0 h1 h2; exact absurd h2 (by omega)
    | succ fu ih_818 =>
      intro j818 ac818 ls H locs hj0_818 hj_818 hfu_818 i0_818 hl hh
      refine lv_iload_n hx hb dX7_plainTelling_9 rfl (lv_at hl 0 rfl) ?_
      refine lv_aload_n hx hb dX7_plainTelling_10 rfl (lv_at hl 2 rfl) ?_
      refine hp_get hx hb hts ix1 hown hK hh (q := tb) rfl htb etb_817 rfl 1 (by decide) (hts _ tw_377) (fun _ h9 => h9) rfl dX7_plainTelling_11 ?_
      refine lv_icmp_ge (tgt := 39) hx hb dX7_plainTelling_14 (by decide) (fun c_819 => ?_) (fun c_819 => ?_)
      · have n_819 : d ≤ j818 := n_le (a := d) (b := j818) c_819 (by omega) (by omega)
        refine lv_iload_n hx hb dX7_plainTelling_39 rfl (lv_at hl 1 rfl) ?_
        exact hp_iretM hx hb hr rfl hlocks hh (⟨by have e : j818 = d := (by omega); rw [e] at i0_818; exact i0_818, by rw [hen_817]⟩) dX7_plainTelling_40
      · have n_819 : j818 < d := n_nle (a := d) (b := j818) c_819 (by omega) (by omega)
        refine lv_iload_n hx hb dX7_plainTelling_17 rfl (lv_at hl 1 rfl) ?_
        refine lv_aload_n hx hb dX7_plainTelling_18 rfl (lv_at hl 2 rfl) ?_
        refine hp_get hx hb hts ix1 hown hK hh (q := tb) rfl htb etb_817 rfl 2 (by decide) (hts _ tw_380) (fun _ h9 => h9) rfl dX7_plainTelling_19 ?_
        refine lv_iload_n hx hb dX7_plainTelling_22 rfl (lv_at hl 0 rfl) ?_
        refine lv_aload_n hx hb dX7_plainTelling_23 rfl (lv_at hl 2 rfl) ?_
        refine hp_get hx hb hts ix1 hown hK hh (q := tb) rfl htb etb_817 rfl 1 (by decide) (hts _ tw_377) (fun _ h9 => h9) rfl dX7_plainTelling_24 ?_
        refine lv_imul hx hb dX7_plainTelling_27 ?_
        rw [pk_mul j818 d]
        refine lv_iload_n hx hb dX7_plainTelling_28 rfl (lv_at hl 0 rfl) ?_
        refine lv_iadd hx hb dX7_plainTelling_29 ?_
        rw [nI_add (j818 * d) j818]
        have hi_820 : ((j818 * d) + j818) < d * d := md3' (by omega) (by omega) hd3
        refine hp_iald hx hb hK hh (q := te) rfl hte ete_817 (vp_in_nI (n := ((j818 * d) + j818)) (by omega) (by omega)) dX7_plainTelling_30 ?_
        rw [nI_clamp (n := ((j818 * d) + j818)) (by omega)]
        refine lv_iadd hx hb dX7_plainTelling_31 ?_
        refine lv_istore_n (lv' := [(2, .int (ac818 + (f0 ((j818 * d) + j818)))), (3, .int (nI j818)), (0, .ref (ad tb)), (1, .ref (ad 76))]) hx hb dX7_plainTelling_32 rfl hl (by decide) rfl (fun ls hl => ?_)
        refine lv_iinc (v := (nI (j818 + 1))) (lv' := [(3, .int (nI (j818 + 1))), (2, .int (ac818 + (f0 ((j818 * d) + j818)))), (0, .ref (ad tb)), (1, .ref (ad 76))]) hx hb dX7_plainTelling_33 hl (k := 1) rfl (nI_1 _) (by decide) rfl (fun ls hl => ?_)
        refine lv_goto (tgt := 9) hx hb dX7_plainTelling_36 (by decide) ?_
        exact ih_818 ((j818 + 1)) (ac818 + (f0 ((j818 * d) + j818))) ls H locs (by omega) (by omega) (by omega) (by rw [i0_818]; rfl) (lv_sub hl [0, 1, 2, 3] rfl) hh
  exact loop_818 (d + 1) 0 0 ls _ _ (Nat.le_refl _) (by omega) (by omega) (rfl) (lv_sub hl [0, 1, 2, 3] rfl) hh
set_option maxHeartbeats 4000000 in
set_option maxRecDepth 100000 in
/-- X7_plainTelling -/
theorem c_X7_plainTelling_4 (l : Launch) (D : va_G) (cy : Nat → ClassId) (sz : Nat) (cs : List Nat) (ad : Nat → Nat) (en : Nat → va_E) (tb te t d : Nat) (htb : tb ∈ cs) (hte : te ∈ cs) (h115a : 115 ≤ tb) (h115b : 115 ≤ te) (hd2 : 2 ≤ d) (hd3 : d ≤ 3) (hdd : d * d ≤ 9) (f0 : Nat → Int32) (hm76 : 76 ∈ cs) (hi : Int32) (etb : en tb = .inr (4, [.int (nI t), .int (nI d), .ref (ad te)])) (ete : en te = .inl (cy 0, (d * d), .inl f0)) (e76 : en 76 = .inr (8, [.int hi]))  : Met l yX7_plainTelling (Cond.code yX7_plainTelling cX7_plainTelling 4 (some .int) :: TB) (rmN 1) (va_Pc [.ref (ad tb), .ref (ad 76)] (Pre D cy cs ad en sz)) (va_Qi (S := Nat → va_E) (fun r en1 => r = (sumI (fun i => f0 (i * d + i)) d) ∧ en1 = va_up en 76 (.inr (8, [.int (31 * hi + 1)]))) (PostM D cs ad) (Af cs ad sz)) 0 0 (Af cs ad sz) := by
  refine Met.ofW (cc := cX7_plainTelling) (maxL := 4) (ret := (some .int)) (by decide) rfl ?_
  intro p e s m args below meth c s₁ B hml hv
  obtain ⟨rfl, hsz, hP, hK, hD0⟩ := hv
  have hx := B.exec
  have hb := B.bytes
  have hr := B.returns
  have hts : ∀ w ∈ TB, w.before _ s = true := fun w h => atoms_spec (ws := _ :: TB) B.pre w (List.mem_cons_of_mem _ h)
  have hown : s.vm.findClass RX7 = some m.cls := findClass_of_methodNamed B.named
  have hlocks := B.notSynchronized
  have hh : Hp D (Af cs ad sz) (Af cs ad sz) s.heap s.heap [] cs ad en := ⟨hP, Af_self hD0, va_S.rf⟩
  have hA : ∀ q : Nat, s.heap.size ≤ q → Af cs ad sz q := fun q h => Or.inr (by rw [hsz] at h; exact h)
  have hl := lv_entry ([.ref (ad tb), .ref (ad 76)]) (n := 4) (Nat.le_of_ble_eq_true rfl)
  rw [lg_entry_eq]
  generalize (lg_sl ([.ref (ad tb), .ref (ad 76)]) ++ List.replicate (4 - (lg_sl ([.ref (ad tb), .ref (ad 76)])).length) Slot.unset).toArray = ls at hl ⊢
  have hl : lv_has ls 4 [(0, .ref (ad tb)), (1, .ref (ad 76))] := hl
  refine lv_aload_n hx hb dX7_plainTelling_0 rfl (lv_at hl 1 rfl) ?_
  refine lv_iconst (v := 1) hx hb dX7_plainTelling_1 (by decide) ?_
  refine hp_callMv (va_runV (As := [.int 1]) (rest := []) ⟨hx, hb, hml, hown, hts⟩ (c_X9_leave l D cy _ cs ad en hm76 hi 1 e76) (kw_X9_leave hts tw_819 ⟨by decide, by decide⟩) (preV_of hh hK hm76 e76 rfl) rfl rfl hl.1 rfl (lv_room (Nat.le_of_ble_eq_true rfl)) dX7_plainTelling_2 ⟨Nat.le_of_ble_eq_true rfl, Nat.le_of_ble_eq_true rfl⟩) hh hA (fun H locs en_821 hw_821 hh => ?_)
  have hen_821 := hw_821
  have etb_821 : en_821 tb = .inr (4, [.int (nI t), .int (nI d), .ref (ad te)]) := by rw [hen_821, va_up_ne _ _ (by omega)]; exact etb
  have ete_821 : en_821 te = .inl (cy 0, (d * d), .inl f0) := by rw [hen_821, va_up_ne _ _ (by omega)]; exact ete
  have e76_821 : en_821 76 = .inr (8, [.int (31 * hi + 1)]) := by rw [hen_821]; exact va_up_self _ _ _
  refine lv_iconst (v := 0) hx hb dX7_plainTelling_5 (by decide) ?_
  refine lv_istore_n (lv' := [(2, .int 0), (0, .ref (ad tb)), (1, .ref (ad 76))]) hx hb dX7_plainTelling_6 rfl hl (by decide) rfl (fun ls hl => ?_)
  refine lv_iconst (v := 0) hx hb dX7_plainTelling_7 (by decide) ?_
  refine lv_istore_n (lv' := [(3, .int 0), (2, .int 0), (0, .ref (ad tb)), (1, .ref (ad 76))]) hx hb dX7_plainTelling_8 rfl hl (by decide) rfl (fun ls hl => ?_)
  have loop_822 : ∀ (fu j822 : Nat) (ac822 : Int32)  (ls : Array Slot) (H : Heap) (locs : List Loc), 0 ≤ j822 → j822 ≤ d → d < j822 + fu → (ac822 = sumI (fun i => f0 (i * d + i)) j822) → lv_has ls 4 [(3, .int (nI j822)), (2, .int ac822), (0, .ref (ad tb)), (1, .ref (ad 76))] → Hp D (Af cs ad sz) (Af cs ad sz) s.heap H locs cs ad en_821 → W p l e (headSpec (Cond.code yX7_plainTelling cX7_plainTelling 4 (some .int) :: TB) (rmN 1)).room s m ([.ref (ad tb), .ref (ad 76)] : List Value).toArray below meth c H locs 0 0 (MQ below (va_Qi (S := Nat → va_E) (fun r en1 => r = (sumI (fun i => f0 (i * d + i)) d) ∧ en1 = va_up en 76 (.inr (8, [.int (31 * hi + 1)]))) (PostM D cs ad) (Af cs ad sz)) ([.ref (ad tb), .ref (ad 76)] : List Value).toArray s 0 0 (Af cs ad sz)) (F0 m 9 ls []) := by
    intro fu
    induction fu with
    | zero => intro j822 ac822 ls H locs h0 h1 h2; exact absurd h2 (by omega)
    | succ fu ih_822 =>
      intro j822 ac822 ls H locs hj0_822 hj_822 hfu_822 i0_822 hl hh
      refine lv_iload_n hx hb dX7_plainTelling_9 rfl (lv_at hl 0 rfl) ?_
      refine lv_aload_n hx hb dX7_plainTelling_10 rfl (lv_at hl 2 rfl) ?_
      refine hp_get hx hb hts ix4 hown hK hh (q := tb) rfl htb etb_821 rfl 1 (by decide) (hts _ tw_377) (fun _ h9 => h9) rfl dX7_plainTelling_11 ?_
      refine lv_icmp_ge (tgt := 39) hx hb dX7_plainTelling_14 (by decide) (fun c_823 => ?_) (fun c_823 => ?_)
      · have n_823 : d ≤ j822 := n_le (a := d) (b := j822) c_823 (by omega) (by omega)
        refine lv_iload_n hx hb dX7_plainTelling_39 rfl (lv_at hl 1 rfl) ?_
        exact hp_iretM hx hb hr rfl hlocks hh (⟨by have e : j822 = d := (by omega); rw [e] at i0_822; exact i0_822, by rw [hen_821]⟩) dX7_plainTelling_40
      · have n_823 : j822 < d := n_nle (a := d) (b := j822) c_823 (by omega) (by omega)
        refine lv_iload_n hx hb dX7_plainTelling_17 rfl (lv_at hl 1 rfl) ?_
        refine lv_aload_n hx hb dX7_plainTelling_18 rfl (lv_at hl 2 rfl) ?_
        refine hp_get hx hb hts ix4 hown hK hh (q := tb) rfl htb etb_821 rfl 2 (by decide) (hts _ tw_380) (fun _ h9 => h9) rfl dX7_plainTelling_19 ?_
        refine lv_iload_n hx hb dX7_plainTelling_22 rfl (lv_at hl 0 rfl) ?_
        refine lv_aload_n hx hb dX7_plainTelling_23 rfl (lv_at hl 2 rfl) ?_
        refine hp_get hx hb hts ix4 hown hK hh (q := tb) rfl htb etb_821 rfl 1 (by decide) (hts _ tw_377) (fun _ h9 => h9) rfl dX7_plainTelling_24 ?_
        refine lv_imul hx hb dX7_plainTelling_27 ?_
        rw [pk_mul j822 d]
        refine lv_iload_n hx hb dX7_plainTelling_28 rfl (lv_at hl 0 rfl) ?_
        refine lv_iadd hx hb dX7_plainTelling_29 ?_
        rw [nI_add (j822 * d) j822]
        have hi_824 : ((j822 * d) + j822) < d * d := md3' (by omega) (by omega) hd3
        refine hp_iald hx hb hK hh (q := te) rfl hte ete_821 (vp_in_nI (n := ((j822 * d) + j822)) (by omega) (by omega)) dX7_plainTelling_30 ?_
        rw [nI_clamp (n := ((j822 * d) + j822)) (by omega)]
        refine lv_iadd hx hb dX7_plainTelling_31 ?_
        refine lv_istore_n (lv' := [(2, .int (ac822 + (f0 ((j822 * d) + j822)))), (3, .int (nI j822)), (0, .ref (ad tb)), (1, .ref (ad 76))]) hx hb dX7_plainTelling_32 rfl hl (by decide) rfl (fun ls hl => ?_)
        refine lv_iinc (v := (nI (j822 + 1))) (lv' := [(3, .int (nI (j822 + 1))), (2, .int (ac822 + (f0 ((j822 * d) + j822)))), (0, .ref (ad tb)), (1, .ref (ad 76))]) hx hb dX7_plainTelling_33 hl (k := 1) rfl (nI_1 _) (by decide) rfl (fun ls hl => ?_)
        refine lv_goto (tgt := 9) hx hb dX7_plainTelling_36 (by decide) ?_
        exact ih_822 ((j822 + 1)) (ac822 + (f0 ((j822 * d) + j822))) ls H locs (by omega) (by omega) (by omega) (by rw [i0_822]; rfl) (lv_sub hl [0, 1, 2, 3] rfl) hh
  exact loop_822 (d + 1) 0 0 ls _ _ (Nat.le_refl _) (by omega) (by omega) (rfl) (lv_sub hl [0, 1, 2, 3] rfl) hh
set_option maxHeartbeats 4000000 in
set_option maxRecDepth 100000 in
/-- X7_telling -/
theorem c_X7_telling_6 (l : Launch) (D : va_G) (cy : Nat → ClassId) (sz : Nat) (cs : List Nat) (ad : Nat → Nat) (en : Nat → va_E) (tb te t d : Nat) (htb : tb ∈ cs) (hte : te ∈ cs) (h115a : 115 ≤ tb) (h115b : 115 ≤ te) (hd2 : 2 ≤ d) (hd3 : d ≤ 3) (hdd : d * d ≤ 9) (f0 : Nat → Int32) (hm76 : 76 ∈ cs) (hi : Int32) (etb : en tb = .inr (6, [.int (nI t), .int (nI d), .ref (ad te)])) (ete : en te = .inl (cy 0, (d * d), .inl f0)) (e76 : en 76 = .inr (8, [.int hi]))  : Met l yX7_telling (Cond.code yX7_telling cX7_telling 2 (some .int) :: TB) (rmN 2) (va_Pc [.ref (ad tb), .ref (ad 76)] (Pre D cy cs ad en sz)) (va_Qi (S := Nat → va_E) (fun r en1 => r = (sumI (fun i => f0 (i * d + i)) d) ∧ en1 = va_up en 76 (.inr (8, [.int (31 * hi + 1)]))) (PostM D cs ad) (Af cs ad sz)) 0 0 (Af cs ad sz) := by
  refine Met.ofW (cc := cX7_telling) (maxL := 2) (ret := (some .int)) (by decide) rfl ?_
  intro p e s m args below meth c s₁ B hml hv
  obtain ⟨rfl, hsz, hP, hK, hD0⟩ := hv
  have hx := B.exec
  have hb := B.bytes
  have hr := B.returns
  have hts : ∀ w ∈ TB, w.before _ s = true := fun w h => atoms_spec (ws := _ :: TB) B.pre w (List.mem_cons_of_mem _ h)
  have hown : s.vm.findClass RX7 = some m.cls := findClass_of_methodNamed B.named
  have hlocks := B.notSynchronized
  have hh : Hp D (Af cs ad sz) (Af cs ad sz) s.heap s.heap [] cs ad en := ⟨hP, Af_self hD0, va_S.rf⟩
  have hA : ∀ q : Nat, s.heap.size ≤ q → Af cs ad sz q := fun q h => Or.inr (by rw [hsz] at h; exact h)
  have hl := lv_entry ([.ref (ad tb), .ref (ad 76)]) (n := 2) (Nat.le_of_ble_eq_true rfl)
  rw [lg_entry_eq]
  generalize (lg_sl ([.ref (ad tb), .ref (ad 76)]) ++ List.replicate (2 - (lg_sl ([.ref (ad tb), .ref (ad 76)])).length) Slot.unset).toArray = ls at hl ⊢
  have hl : lv_has ls 2 [(0, .ref (ad tb)), (1, .ref (ad 76))] := hl
  refine lv_aload_n hx hb dX7_telling_0 rfl (lv_at hl 0 rfl) ?_
  refine lv_aload_n hx hb dX7_telling_1 rfl (lv_at hl 1 rfl) ?_
  refine hp_callMi (va_runU (As := [.ref (ad 76)]) (rest := []) ⟨hx, hb, hml, hown, hts⟩ (c_X7_plainTelling_6 l D cy _ cs ad en tb te t d htb hte (by omega) (by omega) (by omega) (by omega) (by omega) f0 hm76 hi etb ete e76) (va_cwU 1 hts (TB_U tw_821 tw_1260 tw_1263 tw_817 tw_13 tw_818) rfl rfl rfl rfl (by decide +kernel) ⟨by decide, by decide⟩) (preV_of hh hK htb etb rfl) rfl rfl hl.1 rfl (lv_room (Nat.le_of_ble_eq_true rfl)) dX7_telling_2 ⟨Nat.le_of_ble_eq_true rfl, Nat.le_of_ble_eq_true rfl⟩) hh hA (fun r_825 H locs en_825 hw_825 hh => ?_)
  obtain ⟨hr_825, hen_825⟩ := hw_825
  have etb_825 : en_825 tb = .inr (6, [.int (nI t), .int (nI d), .ref (ad te)]) := by rw [hen_825, va_up_ne _ _ (by omega)]; exact etb
  have ete_825 : en_825 te = .inl (cy 0, (d * d), .inl f0) := by rw [hen_825, va_up_ne _ _ (by omega)]; exact ete
  have e76_825 : en_825 76 = .inr (8, [.int (31 * hi + 1)]) := by rw [hen_825]; exact va_up_self _ _ _
  rw [hr_825]
  exact hp_iretM hx hb hr rfl hlocks hh (⟨rfl, by rw [hen_825]⟩) dX7_telling_5
set_option maxHeartbeats 4000000 in
set_option maxRecDepth 100000 in
/-- X7_telling -/
theorem c_X7_telling_1 (l : Launch) (D : va_G) (cy : Nat → ClassId) (sz : Nat) (cs : List Nat) (ad : Nat → Nat) (en : Nat → va_E) (tb te t d : Nat) (htb : tb ∈ cs) (hte : te ∈ cs) (h115a : 115 ≤ tb) (h115b : 115 ≤ te) (hd2 : 2 ≤ d) (hd3 : d ≤ 3) (hdd : d * d ≤ 9) (f0 : Nat → Int32) (hm76 : 76 ∈ cs) (hi : Int32) (etb : en tb = .inr (1, [.int (nI t), .int (nI d), .ref (ad te)])) (ete : en te = .inl (cy 0, (d * d), .inl f0)) (e76 : en 76 = .inr (8, [.int hi]))  : Met l yX7_telling (Cond.code yX7_telling cX7_telling 2 (some .int) :: TB) (rmN 2) (va_Pc [.ref (ad tb), .ref (ad 76)] (Pre D cy cs ad en sz)) (va_Qi (S := Nat → va_E) (fun r en1 => r = (sumI (fun i => f0 (i * d + i)) d) ∧ en1 = va_up en 76 (.inr (8, [.int (31 * hi + 1)]))) (PostM D cs ad) (Af cs ad sz)) 0 0 (Af cs ad sz) := by
  refine Met.ofW (cc := cX7_telling) (maxL := 2) (ret := (some .int)) (by decide) rfl ?_
  intro p e s m args below meth c s₁ B hml hv
  obtain ⟨rfl, hsz, hP, hK, hD0⟩ := hv
  have hx := B.exec
  have hb := B.bytes
  have hr := B.returns
  have hts : ∀ w ∈ TB, w.before _ s = true := fun w h => atoms_spec (ws := _ :: TB) B.pre w (List.mem_cons_of_mem _ h)
  have hown : s.vm.findClass RX7 = some m.cls := findClass_of_methodNamed B.named
  have hlocks := B.notSynchronized
  have hh : Hp D (Af cs ad sz) (Af cs ad sz) s.heap s.heap [] cs ad en := ⟨hP, Af_self hD0, va_S.rf⟩
  have hA : ∀ q : Nat, s.heap.size ≤ q → Af cs ad sz q := fun q h => Or.inr (by rw [hsz] at h; exact h)
  have hl := lv_entry ([.ref (ad tb), .ref (ad 76)]) (n := 2) (Nat.le_of_ble_eq_true rfl)
  rw [lg_entry_eq]
  generalize (lg_sl ([.ref (ad tb), .ref (ad 76)]) ++ List.replicate (2 - (lg_sl ([.ref (ad tb), .ref (ad 76)])).length) Slot.unset).toArray = ls at hl ⊢
  have hl : lv_has ls 2 [(0, .ref (ad tb)), (1, .ref (ad 76))] := hl
  refine lv_aload_n hx hb dX7_telling_0 rfl (lv_at hl 0 rfl) ?_
  refine lv_aload_n hx hb dX7_telling_1 rfl (lv_at hl 1 rfl) ?_
  refine hp_callMi (va_runU (As := [.ref (ad 76)]) (rest := []) ⟨hx, hb, hml, hown, hts⟩ (c_X7_plainTelling_1 l D cy _ cs ad en tb te t d htb hte (by omega) (by omega) (by omega) (by omega) (by omega) f0 hm76 hi etb ete e76) (va_cwU 1 hts (TB_U tw_821 tw_1260 tw_1261 tw_817 tw_13 tw_818) rfl rfl rfl rfl (by decide +kernel) ⟨by decide, by decide⟩) (preV_of hh hK htb etb rfl) rfl rfl hl.1 rfl (lv_room (Nat.le_of_ble_eq_true rfl)) dX7_telling_2 ⟨Nat.le_of_ble_eq_true rfl, Nat.le_of_ble_eq_true rfl⟩) hh hA (fun r_826 H locs en_826 hw_826 hh => ?_)
  obtain ⟨hr_826, hen_826⟩ := hw_826
  have etb_826 : en_826 tb = .inr (1, [.int (nI t), .int (nI d), .ref (ad te)]) := by rw [hen_826, va_up_ne _ _ (by omega)]; exact etb
  have ete_826 : en_826 te = .inl (cy 0, (d * d), .inl f0) := by rw [hen_826, va_up_ne _ _ (by omega)]; exact ete
  have e76_826 : en_826 76 = .inr (8, [.int (31 * hi + 1)]) := by rw [hen_826]; exact va_up_self _ _ _
  rw [hr_826]
  exact hp_iretM hx hb hr rfl hlocks hh (⟨rfl, by rw [hen_826]⟩) dX7_telling_5
set_option maxHeartbeats 4000000 in
set_option maxRecDepth 100000 in
/-- X7_telling -/
theorem c_X7_telling_4 (l : Launch) (D : va_G) (cy : Nat → ClassId) (sz : Nat) (cs : List Nat) (ad : Nat → Nat) (en : Nat → va_E) (tb te t d : Nat) (htb : tb ∈ cs) (hte : te ∈ cs) (h115a : 115 ≤ tb) (h115b : 115 ≤ te) (hd2 : 2 ≤ d) (hd3 : d ≤ 3) (hdd : d * d ≤ 9) (f0 : Nat → Int32) (hm76 : 76 ∈ cs) (hi : Int32) (etb : en tb = .inr (4, [.int (nI t), .int (nI d), .ref (ad te)])) (ete : en te = .inl (cy 0, (d * d), .inl f0)) (e76 : en 76 = .inr (8, [.int hi]))  : Met l yX7_telling (Cond.code yX7_telling cX7_telling 2 (some .int) :: TB) (rmN 2) (va_Pc [.ref (ad tb), .ref (ad 76)] (Pre D cy cs ad en sz)) (va_Qi (S := Nat → va_E) (fun r en1 => r = (sumI (fun i => f0 (i * d + i)) d) ∧ en1 = va_up en 76 (.inr (8, [.int (31 * hi + 1)]))) (PostM D cs ad) (Af cs ad sz)) 0 0 (Af cs ad sz) := by
  refine Met.ofW (cc := cX7_telling) (maxL := 2) (ret := (some .int)) (by decide) rfl ?_
  intro p e s m args below meth c s₁ B hml hv
  obtain ⟨rfl, hsz, hP, hK, hD0⟩ := hv
  have hx := B.exec
  have hb := B.bytes
  have hr := B.returns
  have hts : ∀ w ∈ TB, w.before _ s = true := fun w h => atoms_spec (ws := _ :: TB) B.pre w (List.mem_cons_of_mem _ h)
  have hown : s.vm.findClass RX7 = some m.cls := findClass_of_methodNamed B.named
  have hlocks := B.notSynchronized
  have hh : Hp D (Af cs ad sz) (Af cs ad sz) s.heap s.heap [] cs ad en := ⟨hP, Af_self hD0, va_S.rf⟩
  have hA : ∀ q : Nat, s.heap.size ≤ q → Af cs ad sz q := fun q h => Or.inr (by rw [hsz] at h; exact h)
  have hl := lv_entry ([.ref (ad tb), .ref (ad 76)]) (n := 2) (Nat.le_of_ble_eq_true rfl)
  rw [lg_entry_eq]
  generalize (lg_sl ([.ref (ad tb), .ref (ad 76)]) ++ List.replicate (2 - (lg_sl ([.ref (ad tb), .ref (ad 76)])).length) Slot.unset).toArray = ls at hl ⊢
  have hl : lv_has ls 2 [(0, .ref (ad tb)), (1, .ref (ad 76))] := hl
  refine lv_aload_n hx hb dX7_telling_0 rfl (lv_at hl 0 rfl) ?_
  refine lv_aload_n hx hb dX7_telling_1 rfl (lv_at hl 1 rfl) ?_
  refine hp_callMi (va_runU (As := [.ref (ad 76)]) (rest := []) ⟨hx, hb, hml, hown, hts⟩ (c_X7_plainTelling_4 l D cy _ cs ad en tb te t d htb hte (by omega) (by omega) (by omega) (by omega) (by omega) f0 hm76 hi etb ete e76) (va_cwU 1 hts (TB_U tw_821 tw_1260 tw_1262 tw_817 tw_13 tw_818) rfl rfl rfl rfl (by decide +kernel) ⟨by decide, by decide⟩) (preV_of hh hK htb etb rfl) rfl rfl hl.1 rfl (lv_room (Nat.le_of_ble_eq_true rfl)) dX7_telling_2 ⟨Nat.le_of_ble_eq_true rfl, Nat.le_of_ble_eq_true rfl⟩) hh hA (fun r_827 H locs en_827 hw_827 hh => ?_)
  obtain ⟨hr_827, hen_827⟩ := hw_827
  have etb_827 : en_827 tb = .inr (4, [.int (nI t), .int (nI d), .ref (ad te)]) := by rw [hen_827, va_up_ne _ _ (by omega)]; exact etb
  have ete_827 : en_827 te = .inl (cy 0, (d * d), .inl f0) := by rw [hen_827, va_up_ne _ _ (by omega)]; exact ete
  have e76_827 : en_827 76 = .inr (8, [.int (31 * hi + 1)]) := by rw [hen_827]; exact va_up_self _ _ _
  rw [hr_827]
  exact hp_iretM hx hb hr rfl hlocks hh (⟨rfl, by rw [hen_827]⟩) dX7_telling_5
set_option maxHeartbeats 4000000 in
set_option maxRecDepth 100000 in
/-- X7_weight -/
theorem c_X7_weight_6 (l : Launch) (D : va_G) (cy : Nat → ClassId) (sz : Nat) (cs : List Nat) (ad : Nat → Nat) (en : Nat → va_E) (tb te t d : Nat) (htb : tb ∈ cs) (hte : te ∈ cs) (h115a : 115 ≤ tb) (h115b : 115 ≤ te) (hd2 : 2 ≤ d) (hd3 : d ≤ 3) (hdd : d * d ≤ 9) (f0 : Nat → Int32) (hm76 : 76 ∈ cs) (hi : Int32) (etb : en tb = .inr (6, [.int (nI t), .int (nI d), .ref (ad te)])) (ete : en te = .inl (cy 0, (d * d), .inl f0)) (e76 : en 76 = .inr (8, [.int hi]))  : Met l yX7_weight (Cond.code yX7_weight cX7_weight 2 (some .int) :: TB) (rmN 1) (va_Pc [.ref (ad tb), .ref (ad 76)] (Pre D cy cs ad en sz)) (va_Qi (S := Nat → va_E) (fun r en1 => r = nI t ∧ en1 = va_up en 76 (.inr (8, [.int (31 * hi + 4)]))) (PostM D cs ad) (Af cs ad sz)) 0 0 (Af cs ad sz) := by
  refine Met.ofW (cc := cX7_weight) (maxL := 2) (ret := (some .int)) (by decide) rfl ?_
  intro p e s m args below meth c s₁ B hml hv
  obtain ⟨rfl, hsz, hP, hK, hD0⟩ := hv
  have hx := B.exec
  have hb := B.bytes
  have hr := B.returns
  have hts : ∀ w ∈ TB, w.before _ s = true := fun w h => atoms_spec (ws := _ :: TB) B.pre w (List.mem_cons_of_mem _ h)
  have hown : s.vm.findClass RX7 = some m.cls := findClass_of_methodNamed B.named
  have hlocks := B.notSynchronized
  have hh : Hp D (Af cs ad sz) (Af cs ad sz) s.heap s.heap [] cs ad en := ⟨hP, Af_self hD0, va_S.rf⟩
  have hA : ∀ q : Nat, s.heap.size ≤ q → Af cs ad sz q := fun q h => Or.inr (by rw [hsz] at h; exact h)
  have hl := lv_entry ([.ref (ad tb), .ref (ad 76)]) (n := 2) (Nat.le_of_ble_eq_true rfl)
  rw [lg_entry_eq]
  generalize (lg_sl ([.ref (ad tb), .ref (ad 76)]) ++ List.replicate (2 - (lg_sl ([.ref (ad tb), .ref (ad 76)])).length) Slot.unset).toArray = ls at hl ⊢
  have hl : lv_has ls 2 [(0, .ref (ad tb)), (1, .ref (ad 76))] := hl
  refine lv_aload_n hx hb dX7_weight_0 rfl (lv_at hl 1 rfl) ?_
  refine lv_iconst (v := 4) hx hb dX7_weight_1 (by decide) ?_
  refine hp_callMv (va_runV (As := [.int 4]) (rest := []) ⟨hx, hb, hml, hown, hts⟩ (c_X9_leave l D cy _ cs ad en hm76 hi 4 e76) (kw_X9_leave hts tw_819 ⟨by decide, by decide⟩) (preV_of hh hK hm76 e76 rfl) rfl rfl hl.1 rfl (lv_room (Nat.le_of_ble_eq_true rfl)) dX7_weight_2 ⟨Nat.le_of_ble_eq_true rfl, Nat.le_of_ble_eq_true rfl⟩) hh hA (fun H locs en_828 hw_828 hh => ?_)
  have hen_828 := hw_828
  have etb_828 : en_828 tb = .inr (6, [.int (nI t), .int (nI d), .ref (ad te)]) := by rw [hen_828, va_up_ne _ _ (by omega)]; exact etb
  have ete_828 : en_828 te = .inl (cy 0, (d * d), .inl f0) := by rw [hen_828, va_up_ne _ _ (by omega)]; exact ete
  have e76_828 : en_828 76 = .inr (8, [.int (31 * hi + 4)]) := by rw [hen_828]; exact va_up_self _ _ _
  refine lv_aload_n hx hb dX7_weight_5 rfl (lv_at hl 0 rfl) ?_
  refine hp_get hx hb hts ix7 hown hK hh (q := tb) rfl htb etb_828 rfl 0 (by decide) (hts _ tw_376) (fun _ h9 => h9) rfl dX7_weight_6 ?_
  exact hp_iretM hx hb hr rfl hlocks hh (⟨rfl, by rw [hen_828]⟩) dX7_weight_9
set_option maxHeartbeats 4000000 in
set_option maxRecDepth 100000 in
/-- X7_weight -/
theorem c_X7_weight_1 (l : Launch) (D : va_G) (cy : Nat → ClassId) (sz : Nat) (cs : List Nat) (ad : Nat → Nat) (en : Nat → va_E) (tb te t d : Nat) (htb : tb ∈ cs) (hte : te ∈ cs) (h115a : 115 ≤ tb) (h115b : 115 ≤ te) (hd2 : 2 ≤ d) (hd3 : d ≤ 3) (hdd : d * d ≤ 9) (f0 : Nat → Int32) (hm76 : 76 ∈ cs) (hi : Int32) (etb : en tb = .inr (1, [.int (nI t), .int (nI d), .ref (ad te)])) (ete : en te = .inl (cy 0, (d * d), .inl f0)) (e76 : en 76 = .inr (8, [.int hi]))  : Met l yX7_weight (Cond.code yX7_weight cX7_weight 2 (some .int) :: TB) (rmN 1) (va_Pc [.ref (ad tb), .ref (ad 76)] (Pre D cy cs ad en sz)) (va_Qi (S := Nat → va_E) (fun r en1 => r = nI t ∧ en1 = va_up en 76 (.inr (8, [.int (31 * hi + 4)]))) (PostM D cs ad) (Af cs ad sz)) 0 0 (Af cs ad sz) := by
  refine Met.ofW (cc := cX7_weight) (maxL := 2) (ret := (some .int)) (by decide) rfl ?_
  intro p e s m args below meth c s₁ B hml hv
  obtain ⟨rfl, hsz, hP, hK, hD0⟩ := hv
  have hx := B.exec
  have hb := B.bytes
  have hr := B.returns
  have hts : ∀ w ∈ TB, w.before _ s = true := fun w h => atoms_spec (ws := _ :: TB) B.pre w (List.mem_cons_of_mem _ h)
  have hown : s.vm.findClass RX7 = some m.cls := findClass_of_methodNamed B.named
  have hlocks := B.notSynchronized
  have hh : Hp D (Af cs ad sz) (Af cs ad sz) s.heap s.heap [] cs ad en := ⟨hP, Af_self hD0, va_S.rf⟩
  have hA : ∀ q : Nat, s.heap.size ≤ q → Af cs ad sz q := fun q h => Or.inr (by rw [hsz] at h; exact h)
  have hl := lv_entry ([.ref (ad tb), .ref (ad 76)]) (n := 2) (Nat.le_of_ble_eq_true rfl)
  rw [lg_entry_eq]
  generalize (lg_sl ([.ref (ad tb), .ref (ad 76)]) ++ List.replicate (2 - (lg_sl ([.ref (ad tb), .ref (ad 76)])).length) Slot.unset).toArray = ls at hl ⊢
  have hl : lv_has ls 2 [(0, .ref (ad tb)), (1, .ref (ad 76))] := hl
  refine lv_aload_n hx hb dX7_weight_0 rfl (lv_at hl 1 rfl) ?_
  refine lv_iconst (v := 4) hx hb dX7_weight_1 (by decide) ?_
  refine hp_callMv (va_runV (As := [.int 4]) (rest := []) ⟨hx, hb, hml, hown, hts⟩ (c_X9_leave l D cy _ cs ad en hm76 hi 4 e76) (kw_X9_leave hts tw_819 ⟨by decide, by decide⟩) (preV_of hh hK hm76 e76 rfl) rfl rfl hl.1 rfl (lv_room (Nat.le_of_ble_eq_true rfl)) dX7_weight_2 ⟨Nat.le_of_ble_eq_true rfl, Nat.le_of_ble_eq_true rfl⟩) hh hA (fun H locs en_829 hw_829 hh => ?_)
  have hen_829 := hw_829
  have etb_829 : en_829 tb = .inr (1, [.int (nI t), .int (nI d), .ref (ad te)]) := by rw [hen_829, va_up_ne _ _ (by omega)]; exact etb
  have ete_829 : en_829 te = .inl (cy 0, (d * d), .inl f0) := by rw [hen_829, va_up_ne _ _ (by omega)]; exact ete
  have e76_829 : en_829 76 = .inr (8, [.int (31 * hi + 4)]) := by rw [hen_829]; exact va_up_self _ _ _
  refine lv_aload_n hx hb dX7_weight_5 rfl (lv_at hl 0 rfl) ?_
  refine hp_get hx hb hts ix1 hown hK hh (q := tb) rfl htb etb_829 rfl 0 (by decide) (hts _ tw_376) (fun _ h9 => h9) rfl dX7_weight_6 ?_
  exact hp_iretM hx hb hr rfl hlocks hh (⟨rfl, by rw [hen_829]⟩) dX7_weight_9
set_option maxHeartbeats 4000000 in
set_option maxRecDepth 100000 in
/-- X4_weight -/
theorem c_X4_weight_4 (l : Launch) (D : va_G) (cy : Nat → ClassId) (sz : Nat) (cs : List Nat) (ad : Nat → Nat) (en : Nat → va_E) (tb te t d : Nat) (htb : tb ∈ cs) (hte : te ∈ cs) (h115a : 115 ≤ tb) (h115b : 115 ≤ te) (hd2 : 2 ≤ d) (hd3 : d ≤ 3) (hdd : d * d ≤ 9) (f0 : Nat → Int32) (hm76 : 76 ∈ cs) (hi : Int32) (etb : en tb = .inr (4, [.int (nI t), .int (nI d), .ref (ad te)])) (ete : en te = .inl (cy 0, (d * d), .inl f0)) (e76 : en 76 = .inr (8, [.int hi]))  : Met l yX4_weight (Cond.code yX4_weight cX4_weight 2 (some .int) :: TB) (rmN 1) (va_Pc [.ref (ad tb), .ref (ad 76)] (Pre D cy cs ad en sz)) (va_Qi (S := Nat → va_E) (fun r en1 => r = 60 ∧ en1 = va_up en 76 (.inr (8, [.int (31 * hi + 5)]))) (PostM D cs ad) (Af cs ad sz)) 0 0 (Af cs ad sz) := by
  refine Met.ofW (cc := cX4_weight) (maxL := 2) (ret := (some .int)) (by decide) rfl ?_
  intro p e s m args below meth c s₁ B hml hv
  obtain ⟨rfl, hsz, hP, hK, hD0⟩ := hv
  have hx := B.exec
  have hb := B.bytes
  have hr := B.returns
  have hts : ∀ w ∈ TB, w.before _ s = true := fun w h => atoms_spec (ws := _ :: TB) B.pre w (List.mem_cons_of_mem _ h)
  have hown : s.vm.findClass RX4 = some m.cls := findClass_of_methodNamed B.named
  have hlocks := B.notSynchronized
  have hh : Hp D (Af cs ad sz) (Af cs ad sz) s.heap s.heap [] cs ad en := ⟨hP, Af_self hD0, va_S.rf⟩
  have hA : ∀ q : Nat, s.heap.size ≤ q → Af cs ad sz q := fun q h => Or.inr (by rw [hsz] at h; exact h)
  have hl := lv_entry ([.ref (ad tb), .ref (ad 76)]) (n := 2) (Nat.le_of_ble_eq_true rfl)
  rw [lg_entry_eq]
  generalize (lg_sl ([.ref (ad tb), .ref (ad 76)]) ++ List.replicate (2 - (lg_sl ([.ref (ad tb), .ref (ad 76)])).length) Slot.unset).toArray = ls at hl ⊢
  have hl : lv_has ls 2 [(0, .ref (ad tb)), (1, .ref (ad 76))] := hl
  refine lv_aload_n hx hb dX4_weight_0 rfl (lv_at hl 1 rfl) ?_
  refine lv_iconst (v := 5) hx hb dX4_weight_1 (by decide) ?_
  refine hp_callMv (va_runV (As := [.int 5]) (rest := []) ⟨hx, hb, hml, hown, hts⟩ (c_X9_leave l D cy _ cs ad en hm76 hi 5 e76) (kw_X9_leave hts tw_811 ⟨by decide, by decide⟩) (preV_of hh hK hm76 e76 rfl) rfl rfl hl.1 rfl (lv_room (Nat.le_of_ble_eq_true rfl)) dX4_weight_2 ⟨Nat.le_of_ble_eq_true rfl, Nat.le_of_ble_eq_true rfl⟩) hh hA (fun H locs en_830 hw_830 hh => ?_)
  have hen_830 := hw_830
  have etb_830 : en_830 tb = .inr (4, [.int (nI t), .int (nI d), .ref (ad te)]) := by rw [hen_830, va_up_ne _ _ (by omega)]; exact etb
  have ete_830 : en_830 te = .inl (cy 0, (d * d), .inl f0) := by rw [hen_830, va_up_ne _ _ (by omega)]; exact ete
  have e76_830 : en_830 76 = .inr (8, [.int (31 * hi + 5)]) := by rw [hen_830]; exact va_up_self _ _ _
  refine lv_bipush (v := 60) hx hb dX4_weight_5 (by decide) ?_
  exact hp_iretM hx hb hr rfl hlocks hh (⟨rfl, by rw [hen_830]⟩) dX4_weight_7
set_option maxHeartbeats 4000000 in
set_option maxRecDepth 100000 in
/-- X1_greatestEntry -/
theorem c_X1_greatestEntry_1 (l : Launch) (D : va_G) (cy : Nat → ClassId) (sz : Nat) (cs : List Nat) (ad : Nat → Nat) (en : Nat → va_E) (tb te t d : Nat) (htb : tb ∈ cs) (hte : te ∈ cs) (h115a : 115 ≤ tb) (h115b : 115 ≤ te) (hd2 : 2 ≤ d) (hd3 : d ≤ 3) (hdd : d * d ≤ 9) (f0 : Nat → Int32) (etb : en tb = .inr (1, [.int (nI t), .int (nI d), .ref (ad te)])) (ete : en te = .inl (cy 0, (d * d), .inl f0))  : Met l yX1_greatestEntry (Cond.code yX1_greatestEntry cX1_greatestEntry 3 (some .int) :: TB) (rmN 1) (va_Pc [.ref (ad tb)] (Pre D cy cs ad en sz)) (va_Qi (S := Unit) (fun r _ => r = gmx f0 (d * d)) (fun _ _ => True) (Nf sz)) 0 0 (Nf sz) := by
  refine Met.ofW (cc := cX1_greatestEntry) (maxL := 3) (ret := (some .int)) (by decide) rfl ?_
  intro p e s m args below meth c s₁ B hml hv
  obtain ⟨rfl, hsz, hP, hK, hD0⟩ := hv
  have hx := B.exec
  have hb := B.bytes
  have hr := B.returns
  have hts : ∀ w ∈ TB, w.before _ s = true := fun w h => atoms_spec (ws := _ :: TB) B.pre w (List.mem_cons_of_mem _ h)
  have hown : s.vm.findClass RX1 = some m.cls := findClass_of_methodNamed B.named
  have hlocks := B.notSynchronized
  have hh : Hp D (Nf sz) (fun _ => True) s.heap s.heap [] cs ad en := ⟨hP, hD0, va_S.rf⟩
  have hA : ∀ q : Nat, s.heap.size ≤ q → Nf sz q := fun q h => by rw [hsz] at h; exact h
  have hl := lv_entry ([.ref (ad tb)]) (n := 3) (Nat.le_of_ble_eq_true rfl)
  rw [lg_entry_eq]
  generalize (lg_sl ([.ref (ad tb)]) ++ List.replicate (3 - (lg_sl ([.ref (ad tb)])).length) Slot.unset).toArray = ls at hl ⊢
  have hl : lv_has ls 3 [(0, .ref (ad tb))] := hl
  refine lv_iconst (v := 0) hx hb dX1_greatestEntry_0 (by decide) ?_
  refine lv_istore_n (lv' := [(1, .int 0), (0, .ref (ad tb))]) hx hb dX1_greatestEntry_1 rfl hl (by decide) rfl (fun ls hl => ?_)
  refine lv_iconst (v := 0) hx hb dX1_greatestEntry_2 (by decide) ?_
  refine lv_istore_n (lv' := [(2, .int 0), (1, .int 0), (0, .ref (ad tb))]) hx hb dX1_greatestEntry_3 rfl hl (by decide) rfl (fun ls hl => ?_)
  have loop_831 : ∀ (fu j831 : Nat) (ac831 : Int32)  (ls : Array Slot) (H : Heap) (locs : List Loc), 0 ≤ j831 → j831 ≤ (d * d) → (d * d) < j831 + fu → (ac831 = gmx f0 j831) → lv_has ls 3 [(2, .int (nI j831)), (1, .int ac831), (0, .ref (ad tb))] → Hp D (Nf sz) (fun _ => True) s.heap H locs cs ad en → W p l e (headSpec (Cond.code yX1_greatestEntry cX1_greatestEntry 3 (some .int) :: TB) (rmN 1)).room s m ([.ref (ad tb)] : List Value).toArray below meth c H locs 0 0 (MQ below (va_Qi (S := Unit) (fun r _ => r = gmx f0 (d * d)) (fun _ _ => True) (Nf sz)) ([.ref (ad tb)] : List Value).toArray s 0 0 (Nf sz)) (F0 m 4 ls []) := by
    intro fu
    induction fu with
    | zero => intro j831 ac831 ls H locs h0 h1 h2; exact absurd h2 (by omega)
    | succ fu ih_831 =>
      intro j831 ac831 ls H locs hj0_831 hj_831 hfu_831 i0_831 hl hh
      refine lv_iload_n hx hb dX1_greatestEntry_4 rfl (lv_at hl 0 rfl) ?_
      refine lv_aload_n hx hb dX1_greatestEntry_5 rfl (lv_at hl 2 rfl) ?_
      refine hp_get hx hb hts ix1 hown hK hh (q := tb) rfl htb etb rfl 1 (by decide) (hts _ tw_378) (fun x9 h9 => u_same (hts _ tw_379) x9 h9) rfl dX1_greatestEntry_6 ?_
      refine lv_aload_n hx hb dX1_greatestEntry_9 rfl (lv_at hl 2 rfl) ?_
      refine hp_get hx hb hts ix1 hown hK hh (q := tb) rfl htb etb rfl 1 (by decide) (hts _ tw_378) (fun x9 h9 => u_same (hts _ tw_379) x9 h9) rfl dX1_greatestEntry_10 ?_
      refine lv_imul hx hb dX1_greatestEntry_13 ?_
      rw [pk_mul d d]
      refine lv_icmp_ge (tgt := 34) hx hb dX1_greatestEntry_14 (by decide) (fun c_832 => ?_) (fun c_832 => ?_)
      · have n_832 : (d * d) ≤ j831 := n_le (a := (d * d)) (b := j831) c_832 (by omega) (by omega)
        refine lv_iload_n hx hb dX1_greatestEntry_34 rfl (lv_at hl 1 rfl) ?_
        exact hp_iretR hx hb hr rfl hlocks hsz hh (by have e : j831 = d * d := (by omega); rw [e] at i0_831; exact i0_831) dX1_greatestEntry_35
      · have n_832 : j831 < (d * d) := n_nle (a := (d * d)) (b := j831) c_832 (by omega) (by omega)
        refine lv_iload_n hx hb dX1_greatestEntry_17 rfl (lv_at hl 1 rfl) ?_
        refine lv_aload_n hx hb dX1_greatestEntry_18 rfl (lv_at hl 2 rfl) ?_
        refine hp_get hx hb hts ix1 hown hK hh (q := tb) rfl htb etb rfl 2 (by decide) (hts _ tw_381) (fun x9 h9 => u_same (hts _ tw_382) x9 h9) rfl dX1_greatestEntry_19 ?_
        refine lv_iload_n hx hb dX1_greatestEntry_22 rfl (lv_at hl 0 rfl) ?_
        refine hp_iald hx hb hK hh (q := te) rfl hte ete (vp_in_nI (n := j831) (by omega) (by omega)) dX1_greatestEntry_23 ?_
        rw [nI_clamp (n := j831) (by omega)]
        refine va_mmax hx hb (hml.trans hl.1.symm) hown (hts _ tw_805) (hts _ tw_806) (hts _ tw_11) (hts _ tw_807) (Nat.le_of_ble_eq_true rfl) (Nat.le_of_ble_eq_true rfl) (Nat.le_of_ble_eq_true rfl) (Nat.le_of_ble_eq_true rfl) dX1_greatestEntry_24 ?_
        refine W.eq (g2 := F0 m 27 ls [.int (maxI ac831 (f0 j831))]) rfl ?_
        refine lv_istore_n (lv' := [(1, .int (maxI ac831 (f0 j831))), (2, .int (nI j831)), (0, .ref (ad tb))]) hx hb dX1_greatestEntry_27 rfl hl (by decide) rfl (fun ls hl => ?_)
        refine lv_iinc (v := (nI (j831 + 1))) (lv' := [(2, .int (nI (j831 + 1))), (1, .int (maxI ac831 (f0 j831))), (0, .ref (ad tb))]) hx hb dX1_greatestEntry_28 hl (k := 1) rfl (nI_1 _) (by decide) rfl (fun ls hl => ?_)
        refine lv_goto (tgt := 4) hx hb dX1_greatestEntry_31 (by decide) ?_
        exact ih_831 ((j831 + 1)) (maxI ac831 (f0 j831)) ls H locs (by omega) (by omega) (by omega) (by rw [i0_831]; rfl) (lv_sub hl [0, 1, 2] rfl) hh
  exact loop_831 ((d * d) + 1) 0 0 ls _ _ (Nat.le_refl _) (by omega) (by omega) (rfl) (lv_sub hl [0, 1, 2] rfl) hh
set_option maxHeartbeats 4000000 in
set_option maxRecDepth 100000 in
/-- X1_greatestEntry -/
theorem c_X1_greatestEntry_4 (l : Launch) (D : va_G) (cy : Nat → ClassId) (sz : Nat) (cs : List Nat) (ad : Nat → Nat) (en : Nat → va_E) (tb te t d : Nat) (htb : tb ∈ cs) (hte : te ∈ cs) (h115a : 115 ≤ tb) (h115b : 115 ≤ te) (hd2 : 2 ≤ d) (hd3 : d ≤ 3) (hdd : d * d ≤ 9) (f0 : Nat → Int32) (etb : en tb = .inr (4, [.int (nI t), .int (nI d), .ref (ad te)])) (ete : en te = .inl (cy 0, (d * d), .inl f0))  : Met l yX1_greatestEntry (Cond.code yX1_greatestEntry cX1_greatestEntry 3 (some .int) :: TB) (rmN 1) (va_Pc [.ref (ad tb)] (Pre D cy cs ad en sz)) (va_Qi (S := Unit) (fun r _ => r = gmx f0 (d * d)) (fun _ _ => True) (Nf sz)) 0 0 (Nf sz) := by
  refine Met.ofW (cc := cX1_greatestEntry) (maxL := 3) (ret := (some .int)) (by decide) rfl ?_
  intro p e s m args below meth c s₁ B hml hv
  obtain ⟨rfl, hsz, hP, hK, hD0⟩ := hv
  have hx := B.exec
  have hb := B.bytes
  have hr := B.returns
  have hts : ∀ w ∈ TB, w.before _ s = true := fun w h => atoms_spec (ws := _ :: TB) B.pre w (List.mem_cons_of_mem _ h)
  have hown : s.vm.findClass RX1 = some m.cls := findClass_of_methodNamed B.named
  have hlocks := B.notSynchronized
  have hh : Hp D (Nf sz) (fun _ => True) s.heap s.heap [] cs ad en := ⟨hP, hD0, va_S.rf⟩
  have hA : ∀ q : Nat, s.heap.size ≤ q → Nf sz q := fun q h => by rw [hsz] at h; exact h
  have hl := lv_entry ([.ref (ad tb)]) (n := 3) (Nat.le_of_ble_eq_true rfl)
  rw [lg_entry_eq]
  generalize (lg_sl ([.ref (ad tb)]) ++ List.replicate (3 - (lg_sl ([.ref (ad tb)])).length) Slot.unset).toArray = ls at hl ⊢
  have hl : lv_has ls 3 [(0, .ref (ad tb))] := hl
  refine lv_iconst (v := 0) hx hb dX1_greatestEntry_0 (by decide) ?_
  refine lv_istore_n (lv' := [(1, .int 0), (0, .ref (ad tb))]) hx hb dX1_greatestEntry_1 rfl hl (by decide) rfl (fun ls hl => ?_)
  refine lv_iconst (v := 0) hx hb dX1_greatestEntry_2 (by decide) ?_
  refine lv_istore_n (lv' := [(2, .int 0), (1, .int 0), (0, .ref (ad tb))]) hx hb dX1_greatestEntry_3 rfl hl (by decide) rfl (fun ls hl => ?_)
  have loop_833 : ∀ (fu j833 : Nat) (ac833 : Int32)  (ls : Array Slot) (H : Heap) (locs : List Loc), 0 ≤ j833 → j833 ≤ (d * d) → (d * d) < j833 + fu → (ac833 = gmx f0 j833) → lv_has ls 3 [(2, .int (nI j833)), (1, .int ac833), (0, .ref (ad tb))] → Hp D (Nf sz) (fun _ => True) s.heap H locs cs ad en → W p l e (headSpec (Cond.code yX1_greatestEntry cX1_greatestEntry 3 (some .int) :: TB) (rmN 1)).room s m ([.ref (ad tb)] : List Value).toArray below meth c H locs 0 0 (MQ below (va_Qi (S := Unit) (fun r _ => r = gmx f0 (d * d)) (fun _ _ => True) (Nf sz)) ([.ref (ad tb)] : List Value).toArray s 0 0 (Nf sz)) (F0 m 4 ls []) := by
    intro fu
    induction fu with
    | zero => intro j833 ac833 ls H locs h0 h1 h2; exact absurd h2 (by omega)
    | succ fu ih_833 =>
      intro j833 ac833 ls H locs hj0_833 hj_833 hfu_833 i0_833 hl hh
      refine lv_iload_n hx hb dX1_greatestEntry_4 rfl (lv_at hl 0 rfl) ?_
      refine lv_aload_n hx hb dX1_greatestEntry_5 rfl (lv_at hl 2 rfl) ?_
      refine hp_get hx hb hts ix4 hown hK hh (q := tb) rfl htb etb rfl 1 (by decide) (hts _ tw_378) (fun x9 h9 => u_same (hts _ tw_379) x9 h9) rfl dX1_greatestEntry_6 ?_
      refine lv_aload_n hx hb dX1_greatestEntry_9 rfl (lv_at hl 2 rfl) ?_
      refine hp_get hx hb hts ix4 hown hK hh (q := tb) rfl htb etb rfl 1 (by decide) (hts _ tw_378) (fun x9 h9 => u_same (hts _ tw_379) x9 h9) rfl dX1_greatestEntry_10 ?_
      refine lv_imul hx hb dX1_greatestEntry_13 ?_
      rw [pk_mul d d]
      refine lv_icmp_ge (tgt := 34) hx hb dX1_greatestEntry_14 (by decide) (fun c_834 => ?_) (fun c_834 => ?_)
      · have n_834 : (d * d) ≤ j833 := n_le (a := (d * d)) (b := j833) c_834 (by omega) (by omega)
        refine lv_iload_n hx hb dX1_greatestEntry_34 rfl (lv_at hl 1 rfl) ?_
        exact hp_iretR hx hb hr rfl hlocks hsz hh (by have e : j833 = d * d := (by omega); rw [e] at i0_833; exact i0_833) dX1_greatestEntry_35
      · have n_834 : j833 < (d * d) := n_nle (a := (d * d)) (b := j833) c_834 (by omega) (by omega)
        refine lv_iload_n hx hb dX1_greatestEntry_17 rfl (lv_at hl 1 rfl) ?_
        refine lv_aload_n hx hb dX1_greatestEntry_18 rfl (lv_at hl 2 rfl) ?_
        refine hp_get hx hb hts ix4 hown hK hh (q := tb) rfl htb etb rfl 2 (by decide) (hts _ tw_381) (fun x9 h9 => u_same (hts _ tw_382) x9 h9) rfl dX1_greatestEntry_19 ?_
        refine lv_iload_n hx hb dX1_greatestEntry_22 rfl (lv_at hl 0 rfl) ?_
        refine hp_iald hx hb hK hh (q := te) rfl hte ete (vp_in_nI (n := j833) (by omega) (by omega)) dX1_greatestEntry_23 ?_
        rw [nI_clamp (n := j833) (by omega)]
        refine va_mmax hx hb (hml.trans hl.1.symm) hown (hts _ tw_805) (hts _ tw_806) (hts _ tw_11) (hts _ tw_807) (Nat.le_of_ble_eq_true rfl) (Nat.le_of_ble_eq_true rfl) (Nat.le_of_ble_eq_true rfl) (Nat.le_of_ble_eq_true rfl) dX1_greatestEntry_24 ?_
        refine W.eq (g2 := F0 m 27 ls [.int (maxI ac833 (f0 j833))]) rfl ?_
        refine lv_istore_n (lv' := [(1, .int (maxI ac833 (f0 j833))), (2, .int (nI j833)), (0, .ref (ad tb))]) hx hb dX1_greatestEntry_27 rfl hl (by decide) rfl (fun ls hl => ?_)
        refine lv_iinc (v := (nI (j833 + 1))) (lv' := [(2, .int (nI (j833 + 1))), (1, .int (maxI ac833 (f0 j833))), (0, .ref (ad tb))]) hx hb dX1_greatestEntry_28 hl (k := 1) rfl (nI_1 _) (by decide) rfl (fun ls hl => ?_)
        refine lv_goto (tgt := 4) hx hb dX1_greatestEntry_31 (by decide) ?_
        exact ih_833 ((j833 + 1)) (maxI ac833 (f0 j833)) ls H locs (by omega) (by omega) (by omega) (by rw [i0_833]; rfl) (lv_sub hl [0, 1, 2] rfl) hh
  exact loop_833 ((d * d) + 1) 0 0 ls _ _ (Nat.le_refl _) (by omega) (by omega) (rfl) (lv_sub hl [0, 1, 2] rfl) hh
set_option maxHeartbeats 4000000 in
set_option maxRecDepth 100000 in
/-- X1_telling -/
theorem c_X1_telling_1 (l : Launch) (D : va_G) (cy : Nat → ClassId) (sz : Nat) (cs : List Nat) (ad : Nat → Nat) (en : Nat → va_E) (tb te t d : Nat) (htb : tb ∈ cs) (hte : te ∈ cs) (h115a : 115 ≤ tb) (h115b : 115 ≤ te) (hd2 : 2 ≤ d) (hd3 : d ≤ 3) (hdd : d * d ≤ 9) (f0 : Nat → Int32) (hm76 : 76 ∈ cs) (hi : Int32) (etb : en tb = .inr (1, [.int (nI t), .int (nI d), .ref (ad te)])) (ete : en te = .inl (cy 0, (d * d), .inl f0)) (e76 : en 76 = .inr (8, [.int hi]))  : Met l yX1_telling (Cond.code yX1_telling cX1_telling 2 (some .int) :: TB) (rmN 3) (va_Pc [.ref (ad tb), .ref (ad 76)] (Pre D cy cs ad en sz)) (va_Qi (S := Nat → va_E) (fun r en1 => r = (sumI (fun i => f0 (i * d + i)) d) + (gmx f0 (d * d)) ∧ en1 = va_up en 76 (.inr (8, [.int (31 * (31 * hi + 2) + 1)]))) (PostM D cs ad) (Af cs ad sz)) 0 0 (Af cs ad sz) := by
  refine Met.ofW (cc := cX1_telling) (maxL := 2) (ret := (some .int)) (by decide) rfl ?_
  intro p e s m args below meth c s₁ B hml hv
  obtain ⟨rfl, hsz, hP, hK, hD0⟩ := hv
  have hx := B.exec
  have hb := B.bytes
  have hr := B.returns
  have hts : ∀ w ∈ TB, w.before _ s = true := fun w h => atoms_spec (ws := _ :: TB) B.pre w (List.mem_cons_of_mem _ h)
  have hown : s.vm.findClass RX1 = some m.cls := findClass_of_methodNamed B.named
  have hlocks := B.notSynchronized
  have hh : Hp D (Af cs ad sz) (Af cs ad sz) s.heap s.heap [] cs ad en := ⟨hP, Af_self hD0, va_S.rf⟩
  have hA : ∀ q : Nat, s.heap.size ≤ q → Af cs ad sz q := fun q h => Or.inr (by rw [hsz] at h; exact h)
  have hl := lv_entry ([.ref (ad tb), .ref (ad 76)]) (n := 2) (Nat.le_of_ble_eq_true rfl)
  rw [lg_entry_eq]
  generalize (lg_sl ([.ref (ad tb), .ref (ad 76)]) ++ List.replicate (2 - (lg_sl ([.ref (ad tb), .ref (ad 76)])).length) Slot.unset).toArray = ls at hl ⊢
  have hl : lv_has ls 2 [(0, .ref (ad tb)), (1, .ref (ad 76))] := hl
  refine lv_aload_n hx hb dX1_telling_0 rfl (lv_at hl 1 rfl) ?_
  refine lv_iconst (v := 2) hx hb dX1_telling_1 (by decide) ?_
  refine hp_callMv (va_runV (As := [.int 2]) (rest := []) ⟨hx, hb, hml, hown, hts⟩ (c_X9_leave l D cy _ cs ad en hm76 hi 2 e76) (kw_X9_leave hts tw_794 ⟨by decide, by decide⟩) (preV_of hh hK hm76 e76 rfl) rfl rfl hl.1 rfl (lv_room (Nat.le_of_ble_eq_true rfl)) dX1_telling_2 ⟨Nat.le_of_ble_eq_true rfl, Nat.le_of_ble_eq_true rfl⟩) hh hA (fun H locs en_835 hw_835 hh => ?_)
  have hen_835 := hw_835
  have etb_835 : en_835 tb = .inr (1, [.int (nI t), .int (nI d), .ref (ad te)]) := by rw [hen_835, va_up_ne _ _ (by omega)]; exact etb
  have ete_835 : en_835 te = .inl (cy 0, (d * d), .inl f0) := by rw [hen_835, va_up_ne _ _ (by omega)]; exact ete
  have e76_835 : en_835 76 = .inr (8, [.int (31 * hi + 2)]) := by rw [hen_835]; exact va_up_self _ _ _
  refine lv_aload_n hx hb dX1_telling_5 rfl (lv_at hl 0 rfl) ?_
  refine lv_aload_n hx hb dX1_telling_6 rfl (lv_at hl 1 rfl) ?_
  refine hp_callMi (va_runSU ((hK.1 1 _ rfl).2) (As := [.ref (ad 76)]) (rest := []) ⟨hx, hb, hml, hown, hts⟩ (c_X7_telling_1 l D cy _ cs ad en_835 tb te t d htb hte (by omega) (by omega) (by omega) (by omega) (by omega) f0 hm76 (31 * hi + 2) etb_835 ete_835 e76_835) (va_cwSU 1 hts (TB_SU tw_798 tw_790 tw_397 tw_788 tw_13 tw_820) rfl rfl rfl (by decide +kernel) ⟨by decide, by decide⟩) (preV_of hh hK htb etb_835 rfl) rfl rfl hl.1 rfl (lv_room (Nat.le_of_ble_eq_true rfl)) dX1_telling_7 ⟨Nat.le_of_ble_eq_true rfl, Nat.le_of_ble_eq_true rfl⟩) hh hA (fun r_836 H locs en_836 hw_836 hh => ?_)
  obtain ⟨hr_836, hen_836⟩ := hw_836
  have etb_836 : en_836 tb = .inr (1, [.int (nI t), .int (nI d), .ref (ad te)]) := by rw [hen_836, va_up_ne _ _ (by omega)]; exact etb_835
  have ete_836 : en_836 te = .inl (cy 0, (d * d), .inl f0) := by rw [hen_836, va_up_ne _ _ (by omega)]; exact ete_835
  have e76_836 : en_836 76 = .inr (8, [.int (31 * (31 * hi + 2) + 1)]) := by rw [hen_836]; exact va_up_self _ _ _
  rw [hr_836]
  refine lv_aload_n hx hb dX1_telling_10 rfl (lv_at hl 0 rfl) ?_
  refine hp_callRi (va_runU (As := []) (rest := [.int (sumI (fun i => f0 (i * d + i)) d)]) ⟨hx, hb, hml, hown, hts⟩ (c_X1_greatestEntry_1 l D cy _ cs ad en_836 tb te t d htb hte (by omega) (by omega) (by omega) (by omega) (by omega) f0  etb_836 ete_836) (va_cwU 0 hts (TB_U tw_799 tw_802 tw_801 tw_800 tw_14 tw_804) rfl rfl rfl rfl (by decide +kernel) ⟨by decide, by decide⟩) (preV_of hh hK htb etb_836 rfl) rfl rfl hl.1 rfl (lv_room (Nat.le_of_ble_eq_true rfl)) dX1_telling_11 ⟨Nat.le_of_ble_eq_true rfl, Nat.le_of_ble_eq_true rfl⟩) hh hA (fun r_837 H locs hw_837 hh => ?_)
  rw [hw_837]
  refine lv_iadd hx hb dX1_telling_14 ?_
  exact hp_iretM hx hb hr rfl hlocks hh (⟨rfl, by rw [hen_836, hen_835, bx_uu]⟩) dX1_telling_15
set_option maxHeartbeats 4000000 in
set_option maxRecDepth 100000 in
/-- X1_telling -/
theorem c_X1_telling_4 (l : Launch) (D : va_G) (cy : Nat → ClassId) (sz : Nat) (cs : List Nat) (ad : Nat → Nat) (en : Nat → va_E) (tb te t d : Nat) (htb : tb ∈ cs) (hte : te ∈ cs) (h115a : 115 ≤ tb) (h115b : 115 ≤ te) (hd2 : 2 ≤ d) (hd3 : d ≤ 3) (hdd : d * d ≤ 9) (f0 : Nat → Int32) (hm76 : 76 ∈ cs) (hi : Int32) (etb : en tb = .inr (4, [.int (nI t), .int (nI d), .ref (ad te)])) (ete : en te = .inl (cy 0, (d * d), .inl f0)) (e76 : en 76 = .inr (8, [.int hi]))  : Met l yX1_telling (Cond.code yX1_telling cX1_telling 2 (some .int) :: TB) (rmN 3) (va_Pc [.ref (ad tb), .ref (ad 76)] (Pre D cy cs ad en sz)) (va_Qi (S := Nat → va_E) (fun r en1 => r = (sumI (fun i => f0 (i * d + i)) d) + (gmx f0 (d * d)) ∧ en1 = va_up en 76 (.inr (8, [.int (31 * (31 * hi + 2) + 1)]))) (PostM D cs ad) (Af cs ad sz)) 0 0 (Af cs ad sz) := by
  refine Met.ofW (cc := cX1_telling) (maxL := 2) (ret := (some .int)) (by decide) rfl ?_
  intro p e s m args below meth c s₁ B hml hv
  obtain ⟨rfl, hsz, hP, hK, hD0⟩ := hv
  have hx := B.exec
  have hb := B.bytes
  have hr := B.returns
  have hts : ∀ w ∈ TB, w.before _ s = true := fun w h => atoms_spec (ws := _ :: TB) B.pre w (List.mem_cons_of_mem _ h)
  have hown : s.vm.findClass RX1 = some m.cls := findClass_of_methodNamed B.named
  have hlocks := B.notSynchronized
  have hh : Hp D (Af cs ad sz) (Af cs ad sz) s.heap s.heap [] cs ad en := ⟨hP, Af_self hD0, va_S.rf⟩
  have hA : ∀ q : Nat, s.heap.size ≤ q → Af cs ad sz q := fun q h => Or.inr (by rw [hsz] at h; exact h)
  have hl := lv_entry ([.ref (ad tb), .ref (ad 76)]) (n := 2) (Nat.le_of_ble_eq_true rfl)
  rw [lg_entry_eq]
  generalize (lg_sl ([.ref (ad tb), .ref (ad 76)]) ++ List.replicate (2 - (lg_sl ([.ref (ad tb), .ref (ad 76)])).length) Slot.unset).toArray = ls at hl ⊢
  have hl : lv_has ls 2 [(0, .ref (ad tb)), (1, .ref (ad 76))] := hl
  refine lv_aload_n hx hb dX1_telling_0 rfl (lv_at hl 1 rfl) ?_
  refine lv_iconst (v := 2) hx hb dX1_telling_1 (by decide) ?_
  refine hp_callMv (va_runV (As := [.int 2]) (rest := []) ⟨hx, hb, hml, hown, hts⟩ (c_X9_leave l D cy _ cs ad en hm76 hi 2 e76) (kw_X9_leave hts tw_794 ⟨by decide, by decide⟩) (preV_of hh hK hm76 e76 rfl) rfl rfl hl.1 rfl (lv_room (Nat.le_of_ble_eq_true rfl)) dX1_telling_2 ⟨Nat.le_of_ble_eq_true rfl, Nat.le_of_ble_eq_true rfl⟩) hh hA (fun H locs en_838 hw_838 hh => ?_)
  have hen_838 := hw_838
  have etb_838 : en_838 tb = .inr (4, [.int (nI t), .int (nI d), .ref (ad te)]) := by rw [hen_838, va_up_ne _ _ (by omega)]; exact etb
  have ete_838 : en_838 te = .inl (cy 0, (d * d), .inl f0) := by rw [hen_838, va_up_ne _ _ (by omega)]; exact ete
  have e76_838 : en_838 76 = .inr (8, [.int (31 * hi + 2)]) := by rw [hen_838]; exact va_up_self _ _ _
  refine lv_aload_n hx hb dX1_telling_5 rfl (lv_at hl 0 rfl) ?_
  refine lv_aload_n hx hb dX1_telling_6 rfl (lv_at hl 1 rfl) ?_
  refine hp_callMi (va_runSU ((hK.1 4 _ rfl).2) (As := [.ref (ad 76)]) (rest := []) ⟨hx, hb, hml, hown, hts⟩ (c_X7_telling_4 l D cy _ cs ad en_838 tb te t d htb hte (by omega) (by omega) (by omega) (by omega) (by omega) f0 hm76 (31 * hi + 2) etb_838 ete_838 e76_838) (va_cwSU 1 hts (TB_SU tw_798 tw_790 tw_397 tw_788 tw_13 tw_820) rfl rfl rfl (by decide +kernel) ⟨by decide, by decide⟩) (preV_of hh hK htb etb_838 rfl) rfl rfl hl.1 rfl (lv_room (Nat.le_of_ble_eq_true rfl)) dX1_telling_7 ⟨Nat.le_of_ble_eq_true rfl, Nat.le_of_ble_eq_true rfl⟩) hh hA (fun r_839 H locs en_839 hw_839 hh => ?_)
  obtain ⟨hr_839, hen_839⟩ := hw_839
  have etb_839 : en_839 tb = .inr (4, [.int (nI t), .int (nI d), .ref (ad te)]) := by rw [hen_839, va_up_ne _ _ (by omega)]; exact etb_838
  have ete_839 : en_839 te = .inl (cy 0, (d * d), .inl f0) := by rw [hen_839, va_up_ne _ _ (by omega)]; exact ete_838
  have e76_839 : en_839 76 = .inr (8, [.int (31 * (31 * hi + 2) + 1)]) := by rw [hen_839]; exact va_up_self _ _ _
  rw [hr_839]
  refine lv_aload_n hx hb dX1_telling_10 rfl (lv_at hl 0 rfl) ?_
  refine hp_callRi (va_runU (As := []) (rest := [.int (sumI (fun i => f0 (i * d + i)) d)]) ⟨hx, hb, hml, hown, hts⟩ (c_X1_greatestEntry_4 l D cy _ cs ad en_839 tb te t d htb hte (by omega) (by omega) (by omega) (by omega) (by omega) f0  etb_839 ete_839) (va_cwU 0 hts (TB_U tw_799 tw_802 tw_803 tw_800 tw_14 tw_804) rfl rfl rfl rfl (by decide +kernel) ⟨by decide, by decide⟩) (preV_of hh hK htb etb_839 rfl) rfl rfl hl.1 rfl (lv_room (Nat.le_of_ble_eq_true rfl)) dX1_telling_11 ⟨Nat.le_of_ble_eq_true rfl, Nat.le_of_ble_eq_true rfl⟩) hh hA (fun r_840 H locs hw_840 hh => ?_)
  rw [hw_840]
  refine lv_iadd hx hb dX1_telling_14 ?_
  exact hp_iretM hx hb hr rfl hlocks hh (⟨rfl, by rw [hen_839, hen_838, bx_uu]⟩) dX1_telling_15
set_option maxHeartbeats 4000000 in
set_option maxRecDepth 100000 in
/-- X4_telling -/
theorem c_X4_telling_4 (l : Launch) (D : va_G) (cy : Nat → ClassId) (sz : Nat) (cs : List Nat) (ad : Nat → Nat) (en : Nat → va_E) (tb te t d : Nat) (htb : tb ∈ cs) (hte : te ∈ cs) (h115a : 115 ≤ tb) (h115b : 115 ≤ te) (hd2 : 2 ≤ d) (hd3 : d ≤ 3) (hdd : d * d ≤ 9) (f0 : Nat → Int32) (hm76 : 76 ∈ cs) (hi : Int32) (etb : en tb = .inr (4, [.int (nI t), .int (nI d), .ref (ad te)])) (ete : en te = .inl (cy 0, (d * d), .inl f0)) (e76 : en 76 = .inr (8, [.int hi]))  : Met l yX4_telling (Cond.code yX4_telling cX4_telling 3 (some .int) :: TB) (rmN 4) (va_Pc [.ref (ad tb), .ref (ad 76)] (Pre D cy cs ad en sz)) (va_Qi (S := Nat → va_E) (fun r en1 => r = (sumI (fun i => f0 (i * d + i)) d) + (gmx f0 (d * d)) + (sumI (fun i => f0 (i * d + i)) d) ∧ en1 = va_up en 76 (.inr (8, [.int (31 * (31 * (31 * (31 * hi + 3) + 2) + 1) + 1)]))) (PostM D cs ad) (Af cs ad sz)) 0 0 (Af cs ad sz) := by
  refine Met.ofW (cc := cX4_telling) (maxL := 3) (ret := (some .int)) (by decide) rfl ?_
  intro p e s m args below meth c s₁ B hml hv
  obtain ⟨rfl, hsz, hP, hK, hD0⟩ := hv
  have hx := B.exec
  have hb := B.bytes
  have hr := B.returns
  have hts : ∀ w ∈ TB, w.before _ s = true := fun w h => atoms_spec (ws := _ :: TB) B.pre w (List.mem_cons_of_mem _ h)
  have hown : s.vm.findClass RX4 = some m.cls := findClass_of_methodNamed B.named
  have hlocks := B.notSynchronized
  have hh : Hp D (Af cs ad sz) (Af cs ad sz) s.heap s.heap [] cs ad en := ⟨hP, Af_self hD0, va_S.rf⟩
  have hA : ∀ q : Nat, s.heap.size ≤ q → Af cs ad sz q := fun q h => Or.inr (by rw [hsz] at h; exact h)
  have hl := lv_entry ([.ref (ad tb), .ref (ad 76)]) (n := 3) (Nat.le_of_ble_eq_true rfl)
  rw [lg_entry_eq]
  generalize (lg_sl ([.ref (ad tb), .ref (ad 76)]) ++ List.replicate (3 - (lg_sl ([.ref (ad tb), .ref (ad 76)])).length) Slot.unset).toArray = ls at hl ⊢
  have hl : lv_has ls 3 [(0, .ref (ad tb)), (1, .ref (ad 76))] := hl
  refine lv_aload_n hx hb dX4_telling_0 rfl (lv_at hl 1 rfl) ?_
  refine lv_iconst (v := 3) hx hb dX4_telling_1 (by decide) ?_
  refine hp_callMv (va_runV (As := [.int 3]) (rest := []) ⟨hx, hb, hml, hown, hts⟩ (c_X9_leave l D cy _ cs ad en hm76 hi 3 e76) (kw_X9_leave hts tw_811 ⟨by decide, by decide⟩) (preV_of hh hK hm76 e76 rfl) rfl rfl hl.1 rfl (lv_room (Nat.le_of_ble_eq_true rfl)) dX4_telling_2 ⟨Nat.le_of_ble_eq_true rfl, Nat.le_of_ble_eq_true rfl⟩) hh hA (fun H locs en_841 hw_841 hh => ?_)
  have hen_841 := hw_841
  have etb_841 : en_841 tb = .inr (4, [.int (nI t), .int (nI d), .ref (ad te)]) := by rw [hen_841, va_up_ne _ _ (by omega)]; exact etb
  have ete_841 : en_841 te = .inl (cy 0, (d * d), .inl f0) := by rw [hen_841, va_up_ne _ _ (by omega)]; exact ete
  have e76_841 : en_841 76 = .inr (8, [.int (31 * hi + 3)]) := by rw [hen_841]; exact va_up_self _ _ _
  refine lv_aload_n hx hb dX4_telling_5 rfl (lv_at hl 0 rfl) ?_
  refine lv_aload_n hx hb dX4_telling_6 rfl (lv_at hl 1 rfl) ?_
  refine hp_callMi (va_runSU ((hK.1 4 _ rfl).2) (As := [.ref (ad 76)]) (rest := []) ⟨hx, hb, hml, hown, hts⟩ (c_X1_telling_4 l D cy _ cs ad en_841 tb te t d htb hte (by omega) (by omega) (by omega) (by omega) (by omega) f0 hm76 (31 * hi + 3) etb_841 ete_841 e76_841) (va_cwSU 1 hts (TB_SU tw_812 tw_1259 tw_390 tw_792 tw_14 tw_793) rfl rfl rfl (by decide +kernel) ⟨by decide, by decide⟩) (preV_of hh hK htb etb_841 rfl) rfl rfl hl.1 rfl (lv_room (Nat.le_of_ble_eq_true rfl)) dX4_telling_7 ⟨Nat.le_of_ble_eq_true rfl, Nat.le_of_ble_eq_true rfl⟩) hh hA (fun r_842 H locs en_842 hw_842 hh => ?_)
  obtain ⟨hr_842, hen_842⟩ := hw_842
  have etb_842 : en_842 tb = .inr (4, [.int (nI t), .int (nI d), .ref (ad te)]) := by rw [hen_842, va_up_ne _ _ (by omega)]; exact etb_841
  have ete_842 : en_842 te = .inl (cy 0, (d * d), .inl f0) := by rw [hen_842, va_up_ne _ _ (by omega)]; exact ete_841
  have e76_842 : en_842 76 = .inr (8, [.int (31 * (31 * (31 * hi + 3) + 2) + 1)]) := by rw [hen_842]; exact va_up_self _ _ _
  rw [hr_842]
  refine lv_istore_n (lv' := [(2, .int ((sumI (fun i => f0 (i * d + i)) d) + (gmx f0 (d * d)))), (0, .ref (ad tb)), (1, .ref (ad 76))]) hx hb dX4_telling_10 rfl hl (by decide) rfl (fun ls hl => ?_)
  refine lv_iload_n hx hb dX4_telling_11 rfl (lv_at hl 0 rfl) ?_
  refine lv_aload_n hx hb dX4_telling_12 rfl (lv_at hl 1 rfl) ?_
  refine lv_aload_n hx hb dX4_telling_13 rfl (lv_at hl 2 rfl) ?_
  refine hp_callMi (va_runU (As := [.ref (ad 76)]) (rest := [.int ((sumI (fun i => f0 (i * d + i)) d) + (gmx f0 (d * d)))]) ⟨hx, hb, hml, hown, hts⟩ (c_X7_plainTelling_4 l D cy _ cs ad en_842 tb te t d htb hte (by omega) (by omega) (by omega) (by omega) (by omega) f0 hm76 (31 * (31 * (31 * hi + 3) + 2) + 1) etb_842 ete_842 e76_842) (va_cwU 1 hts (TB_U tw_813 tw_814 tw_816 tw_817 tw_13 tw_818) rfl rfl rfl rfl (by decide +kernel) ⟨by decide, by decide⟩) (preV_of hh hK htb etb_842 rfl) rfl rfl hl.1 rfl (lv_room (Nat.le_of_ble_eq_true rfl)) dX4_telling_14 ⟨Nat.le_of_ble_eq_true rfl, Nat.le_of_ble_eq_true rfl⟩) hh hA (fun r_843 H locs en_843 hw_843 hh => ?_)
  obtain ⟨hr_843, hen_843⟩ := hw_843
  have etb_843 : en_843 tb = .inr (4, [.int (nI t), .int (nI d), .ref (ad te)]) := by rw [hen_843, va_up_ne _ _ (by omega)]; exact etb_842
  have ete_843 : en_843 te = .inl (cy 0, (d * d), .inl f0) := by rw [hen_843, va_up_ne _ _ (by omega)]; exact ete_842
  have e76_843 : en_843 76 = .inr (8, [.int (31 * (31 * (31 * (31 * hi + 3) + 2) + 1) + 1)]) := by rw [hen_843]; exact va_up_self _ _ _
  rw [hr_843]
  refine lv_iadd hx hb dX4_telling_17 ?_
  exact hp_iretM hx hb hr rfl hlocks hh (⟨rfl, by rw [hen_843, hen_842, hen_841, bx_uu, bx_uu]⟩) dX4_telling_18
set_option maxHeartbeats 4000000 in
set_option maxRecDepth 100000 in
/-- X7_isOfKind -/
theorem c_X7_isOfKind_6 (l : Launch) (D : va_G) (cy : Nat → ClassId) (sz : Nat) (cs : List Nat) (ad : Nat → Nat) (en : Nat → va_E) (tb te t d : Nat) (htb : tb ∈ cs) (hte : te ∈ cs) (h115a : 115 ≤ tb) (h115b : 115 ≤ te) (hd2 : 2 ≤ d) (hd3 : d ≤ 3) (hdd : d * d ≤ 9) (f0 : Nat → Int32) (z : Int32) (etb : en tb = .inr (6, [.int (nI t), .int (nI d), .ref (ad te)])) (ete : en te = .inl (cy 0, (d * d), .inl f0))  : Met l yX7_isOfKind (Cond.code yX7_isOfKind cX7_isOfKind 2 (some .boolean) :: TB) (rmN 0) (va_Pc [.ref (ad tb), .int z] (Pre D cy cs ad en sz)) (va_Qi (S := Unit) (fun r _ => (r = 1 ∧ (z = 0)) ∨ (r = 0 ∧ ¬ (z = 0))) (fun _ _ => True) (Nf sz)) 0 0 (Nf sz) := by
  refine Met.ofW (cc := cX7_isOfKind) (maxL := 2) (ret := (some .boolean)) (by decide) rfl ?_
  intro p e s m args below meth c s₁ B hml hv
  obtain ⟨rfl, hsz, hP, hK, hD0⟩ := hv
  have hx := B.exec
  have hb := B.bytes
  have hr := B.returns
  have hts : ∀ w ∈ TB, w.before _ s = true := fun w h => atoms_spec (ws := _ :: TB) B.pre w (List.mem_cons_of_mem _ h)
  have hown : s.vm.findClass RX7 = some m.cls := findClass_of_methodNamed B.named
  have hlocks := B.notSynchronized
  have hh : Hp D (Nf sz) (fun _ => True) s.heap s.heap [] cs ad en := ⟨hP, hD0, va_S.rf⟩
  have hA : ∀ q : Nat, s.heap.size ≤ q → Nf sz q := fun q h => by rw [hsz] at h; exact h
  have hl := lv_entry ([.ref (ad tb), .int z]) (n := 2) (Nat.le_of_ble_eq_true rfl)
  rw [lg_entry_eq]
  generalize (lg_sl ([.ref (ad tb), .int z]) ++ List.replicate (2 - (lg_sl ([.ref (ad tb), .int z])).length) Slot.unset).toArray = ls at hl ⊢
  have hl : lv_has ls 2 [(0, .ref (ad tb)), (1, .int z)] := hl
  refine lv_iload_n hx hb dX7_isOfKind_0 rfl (lv_at hl 1 rfl) ?_
  refine lv_if_ne (tgt := 8) hx hb dX7_isOfKind_1 (by decide) (fun c_844 => ?_) (fun c_844 => ?_)
  · refine lv_iconst (v := 0) hx hb dX7_isOfKind_8 (by decide) ?_
    exact hp_iretR hx hb hr rfl hlocks hsz hh (Or.inr ⟨rfl, c_844⟩) dX7_isOfKind_9
  · refine lv_iconst (v := 1) hx hb dX7_isOfKind_4 (by decide) ?_
    refine lv_goto (tgt := 9) hx hb dX7_isOfKind_5 (by decide) ?_
    exact hp_iretR hx hb hr rfl hlocks hsz hh (Or.inl ⟨rfl, c_844⟩) dX7_isOfKind_9
set_option maxHeartbeats 4000000 in
set_option maxRecDepth 100000 in
/-- X7_isOfKind -/
theorem c_X7_isOfKind_1 (l : Launch) (D : va_G) (cy : Nat → ClassId) (sz : Nat) (cs : List Nat) (ad : Nat → Nat) (en : Nat → va_E) (tb te t d : Nat) (htb : tb ∈ cs) (hte : te ∈ cs) (h115a : 115 ≤ tb) (h115b : 115 ≤ te) (hd2 : 2 ≤ d) (hd3 : d ≤ 3) (hdd : d * d ≤ 9) (f0 : Nat → Int32) (z : Int32) (etb : en tb = .inr (1, [.int (nI t), .int (nI d), .ref (ad te)])) (ete : en te = .inl (cy 0, (d * d), .inl f0))  : Met l yX7_isOfKind (Cond.code yX7_isOfKind cX7_isOfKind 2 (some .boolean) :: TB) (rmN 0) (va_Pc [.ref (ad tb), .int z] (Pre D cy cs ad en sz)) (va_Qi (S := Unit) (fun r _ => (r = 1 ∧ (z = 0)) ∨ (r = 0 ∧ ¬ (z = 0))) (fun _ _ => True) (Nf sz)) 0 0 (Nf sz) := by
  refine Met.ofW (cc := cX7_isOfKind) (maxL := 2) (ret := (some .boolean)) (by decide) rfl ?_
  intro p e s m args below meth c s₁ B hml hv
  obtain ⟨rfl, hsz, hP, hK, hD0⟩ := hv
  have hx := B.exec
  have hb := B.bytes
  have hr := B.returns
  have hts : ∀ w ∈ TB, w.before _ s = true := fun w h => atoms_spec (ws := _ :: TB) B.pre w (List.mem_cons_of_mem _ h)
  have hown : s.vm.findClass RX7 = some m.cls := findClass_of_methodNamed B.named
  have hlocks := B.notSynchronized
  have hh : Hp D (Nf sz) (fun _ => True) s.heap s.heap [] cs ad en := ⟨hP, hD0, va_S.rf⟩
  have hA : ∀ q : Nat, s.heap.size ≤ q → Nf sz q := fun q h => by rw [hsz] at h; exact h
  have hl := lv_entry ([.ref (ad tb), .int z]) (n := 2) (Nat.le_of_ble_eq_true rfl)
  rw [lg_entry_eq]
  generalize (lg_sl ([.ref (ad tb), .int z]) ++ List.replicate (2 - (lg_sl ([.ref (ad tb), .int z])).length) Slot.unset).toArray = ls at hl ⊢
  have hl : lv_has ls 2 [(0, .ref (ad tb)), (1, .int z)] := hl
  refine lv_iload_n hx hb dX7_isOfKind_0 rfl (lv_at hl 1 rfl) ?_
  refine lv_if_ne (tgt := 8) hx hb dX7_isOfKind_1 (by decide) (fun c_845 => ?_) (fun c_845 => ?_)
  · refine lv_iconst (v := 0) hx hb dX7_isOfKind_8 (by decide) ?_
    exact hp_iretR hx hb hr rfl hlocks hsz hh (Or.inr ⟨rfl, c_845⟩) dX7_isOfKind_9
  · refine lv_iconst (v := 1) hx hb dX7_isOfKind_4 (by decide) ?_
    refine lv_goto (tgt := 9) hx hb dX7_isOfKind_5 (by decide) ?_
    exact hp_iretR hx hb hr rfl hlocks hsz hh (Or.inl ⟨rfl, c_845⟩) dX7_isOfKind_9
set_option maxHeartbeats 4000000 in
set_option maxRecDepth 100000 in
/-- X7_isOfKind -/
theorem c_X7_isOfKind_4 (l : Launch) (D : va_G) (cy : Nat → ClassId) (sz : Nat) (cs : List Nat) (ad : Nat → Nat) (en : Nat → va_E) (tb te t d : Nat) (htb : tb ∈ cs) (hte : te ∈ cs) (h115a : 115 ≤ tb) (h115b : 115 ≤ te) (hd2 : 2 ≤ d) (hd3 : d ≤ 3) (hdd : d * d ≤ 9) (f0 : Nat → Int32) (z : Int32) (etb : en tb = .inr (4, [.int (nI t), .int (nI d), .ref (ad te)])) (ete : en te = .inl (cy 0, (d * d), .inl f0))  : Met l yX7_isOfKind (Cond.code yX7_isOfKind cX7_isOfKind 2 (some .boolean) :: TB) (rmN 0) (va_Pc [.ref (ad tb), .int z] (Pre D cy cs ad en sz)) (va_Qi (S := Unit) (fun r _ => (r = 1 ∧ (z = 0)) ∨ (r = 0 ∧ ¬ (z = 0))) (fun _ _ => True) (Nf sz)) 0 0 (Nf sz) := by
  refine Met.ofW (cc := cX7_isOfKind) (maxL := 2) (ret := (some .boolean)) (by decide) rfl ?_
  intro p e s m args below meth c s₁ B hml hv
  obtain ⟨rfl, hsz, hP, hK, hD0⟩ := hv
  have hx := B.exec
  have hb := B.bytes
  have hr := B.returns
  have hts : ∀ w ∈ TB, w.before _ s = true := fun w h => atoms_spec (ws := _ :: TB) B.pre w (List.mem_cons_of_mem _ h)
  have hown : s.vm.findClass RX7 = some m.cls := findClass_of_methodNamed B.named
  have hlocks := B.notSynchronized
  have hh : Hp D (Nf sz) (fun _ => True) s.heap s.heap [] cs ad en := ⟨hP, hD0, va_S.rf⟩
  have hA : ∀ q : Nat, s.heap.size ≤ q → Nf sz q := fun q h => by rw [hsz] at h; exact h
  have hl := lv_entry ([.ref (ad tb), .int z]) (n := 2) (Nat.le_of_ble_eq_true rfl)
  rw [lg_entry_eq]
  generalize (lg_sl ([.ref (ad tb), .int z]) ++ List.replicate (2 - (lg_sl ([.ref (ad tb), .int z])).length) Slot.unset).toArray = ls at hl ⊢
  have hl : lv_has ls 2 [(0, .ref (ad tb)), (1, .int z)] := hl
  refine lv_iload_n hx hb dX7_isOfKind_0 rfl (lv_at hl 1 rfl) ?_
  refine lv_if_ne (tgt := 8) hx hb dX7_isOfKind_1 (by decide) (fun c_846 => ?_) (fun c_846 => ?_)
  · refine lv_iconst (v := 0) hx hb dX7_isOfKind_8 (by decide) ?_
    exact hp_iretR hx hb hr rfl hlocks hsz hh (Or.inr ⟨rfl, c_846⟩) dX7_isOfKind_9
  · refine lv_iconst (v := 1) hx hb dX7_isOfKind_4 (by decide) ?_
    refine lv_goto (tgt := 9) hx hb dX7_isOfKind_5 (by decide) ?_
    exact hp_iretR hx hb hr rfl hlocks hsz hh (Or.inl ⟨rfl, c_846⟩) dX7_isOfKind_9
set_option maxHeartbeats 4000000 in
set_option maxRecDepth 100000 in
/-- X1_isOfKind -/
theorem c_X1_isOfKind_1 (l : Launch) (D : va_G) (cy : Nat → ClassId) (sz : Nat) (cs : List Nat) (ad : Nat → Nat) (en : Nat → va_E) (tb te t d : Nat) (htb : tb ∈ cs) (hte : te ∈ cs) (h115a : 115 ≤ tb) (h115b : 115 ≤ te) (hd2 : 2 ≤ d) (hd3 : d ≤ 3) (hdd : d * d ≤ 9) (f0 : Nat → Int32) (z : Int32) (etb : en tb = .inr (1, [.int (nI t), .int (nI d), .ref (ad te)])) (ete : en te = .inl (cy 0, (d * d), .inl f0))  : Met l yX1_isOfKind (Cond.code yX1_isOfKind cX1_isOfKind 2 (some .boolean) :: TB) (rmN 1) (va_Pc [.ref (ad tb), .int z] (Pre D cy cs ad en sz)) (va_Qi (S := Unit) (fun r _ => (r = 1 ∧ (z = 1 ∨ z = 0)) ∨ (r = 0 ∧ ¬ (z = 1 ∨ z = 0))) (fun _ _ => True) (Nf sz)) 0 0 (Nf sz) := by
  refine Met.ofW (cc := cX1_isOfKind) (maxL := 2) (ret := (some .boolean)) (by decide) rfl ?_
  intro p e s m args below meth c s₁ B hml hv
  obtain ⟨rfl, hsz, hP, hK, hD0⟩ := hv
  have hx := B.exec
  have hb := B.bytes
  have hr := B.returns
  have hts : ∀ w ∈ TB, w.before _ s = true := fun w h => atoms_spec (ws := _ :: TB) B.pre w (List.mem_cons_of_mem _ h)
  have hown : s.vm.findClass RX1 = some m.cls := findClass_of_methodNamed B.named
  have hlocks := B.notSynchronized
  have hh : Hp D (Nf sz) (fun _ => True) s.heap s.heap [] cs ad en := ⟨hP, hD0, va_S.rf⟩
  have hA : ∀ q : Nat, s.heap.size ≤ q → Nf sz q := fun q h => by rw [hsz] at h; exact h
  have hl := lv_entry ([.ref (ad tb), .int z]) (n := 2) (Nat.le_of_ble_eq_true rfl)
  rw [lg_entry_eq]
  generalize (lg_sl ([.ref (ad tb), .int z]) ++ List.replicate (2 - (lg_sl ([.ref (ad tb), .int z])).length) Slot.unset).toArray = ls at hl ⊢
  have hl : lv_has ls 2 [(0, .ref (ad tb)), (1, .int z)] := hl
  refine lv_iload_n hx hb dX1_isOfKind_0 rfl (lv_at hl 1 rfl) ?_
  refine lv_iconst (v := 1) hx hb dX1_isOfKind_1 (by decide) ?_
  refine lv_icmp_eq (tgt := 13) hx hb dX1_isOfKind_2 (by decide) (fun c_847 => ?_) (fun c_847 => ?_)
  · refine lv_iconst (v := 1) hx hb dX1_isOfKind_13 (by decide) ?_
    refine lv_goto (tgt := 18) hx hb dX1_isOfKind_14 (by decide) ?_
    exact hp_iretR hx hb hr rfl hlocks hsz hh (Or.inl ⟨rfl, Or.inl c_847⟩) dX1_isOfKind_18
  · refine lv_aload_n hx hb dX1_isOfKind_5 rfl (lv_at hl 0 rfl) ?_
    refine lv_iload_n hx hb dX1_isOfKind_6 rfl (lv_at hl 1 rfl) ?_
    refine hp_callRi (va_runSU ((hK.1 1 _ rfl).2) (As := [.int z]) (rest := []) ⟨hx, hb, hml, hown, hts⟩ (c_X7_isOfKind_1 l D cy _ cs ad en tb te t d htb hte (by omega) (by omega) (by omega) (by omega) (by omega) f0 z etb ete) (va_cwSU 1 hts (TB_SU tw_850 tw_846 tw_397 tw_844 tw_13 tw_855) rfl rfl rfl (by decide +kernel) ⟨by decide, by decide⟩) (preV_of hh hK htb etb rfl) rfl rfl hl.1 rfl (lv_room (Nat.le_of_ble_eq_true rfl)) dX1_isOfKind_7 ⟨Nat.le_of_ble_eq_true rfl, Nat.le_of_ble_eq_true rfl⟩) hh hA (fun r_848 H locs hw_848 hh => ?_)
    rcases hw_848 with ⟨hb_848, ht_848⟩ | ⟨hb_848, ht_848⟩
    · obtain rfl : r_848 = 1 := hb_848
      refine lv_if_eq (tgt := 17) hx hb dX1_isOfKind_10 (by decide) (fun c_0 => absurd c_0 (by decide)) (fun _ => ?_)
      refine lv_iconst (v := 1) hx hb dX1_isOfKind_13 (by decide) ?_
      refine lv_goto (tgt := 18) hx hb dX1_isOfKind_14 (by decide) ?_
      exact hp_iretR hx hb hr rfl hlocks hsz hh (Or.inl ⟨rfl, Or.inr ht_848⟩) dX1_isOfKind_18
    · obtain rfl : r_848 = 0 := hb_848
      refine lv_if_eq (tgt := 17) hx hb dX1_isOfKind_10 (by decide) (fun _ => ?_) (fun c_0 => absurd c_0 (by decide))
      refine lv_iconst (v := 0) hx hb dX1_isOfKind_17 (by decide) ?_
      exact hp_iretR hx hb hr rfl hlocks hsz hh (Or.inr ⟨rfl, fun q => q.elim c_847 ht_848⟩) dX1_isOfKind_18
set_option maxHeartbeats 4000000 in
set_option maxRecDepth 100000 in
/-- X1_isOfKind -/
theorem c_X1_isOfKind_4 (l : Launch) (D : va_G) (cy : Nat → ClassId) (sz : Nat) (cs : List Nat) (ad : Nat → Nat) (en : Nat → va_E) (tb te t d : Nat) (htb : tb ∈ cs) (hte : te ∈ cs) (h115a : 115 ≤ tb) (h115b : 115 ≤ te) (hd2 : 2 ≤ d) (hd3 : d ≤ 3) (hdd : d * d ≤ 9) (f0 : Nat → Int32) (z : Int32) (etb : en tb = .inr (4, [.int (nI t), .int (nI d), .ref (ad te)])) (ete : en te = .inl (cy 0, (d * d), .inl f0))  : Met l yX1_isOfKind (Cond.code yX1_isOfKind cX1_isOfKind 2 (some .boolean) :: TB) (rmN 1) (va_Pc [.ref (ad tb), .int z] (Pre D cy cs ad en sz)) (va_Qi (S := Unit) (fun r _ => (r = 1 ∧ (z = 1 ∨ z = 0)) ∨ (r = 0 ∧ ¬ (z = 1 ∨ z = 0))) (fun _ _ => True) (Nf sz)) 0 0 (Nf sz) := by
  refine Met.ofW (cc := cX1_isOfKind) (maxL := 2) (ret := (some .boolean)) (by decide) rfl ?_
  intro p e s m args below meth c s₁ B hml hv
  obtain ⟨rfl, hsz, hP, hK, hD0⟩ := hv
  have hx := B.exec
  have hb := B.bytes
  have hr := B.returns
  have hts : ∀ w ∈ TB, w.before _ s = true := fun w h => atoms_spec (ws := _ :: TB) B.pre w (List.mem_cons_of_mem _ h)
  have hown : s.vm.findClass RX1 = some m.cls := findClass_of_methodNamed B.named
  have hlocks := B.notSynchronized
  have hh : Hp D (Nf sz) (fun _ => True) s.heap s.heap [] cs ad en := ⟨hP, hD0, va_S.rf⟩
  have hA : ∀ q : Nat, s.heap.size ≤ q → Nf sz q := fun q h => by rw [hsz] at h; exact h
  have hl := lv_entry ([.ref (ad tb), .int z]) (n := 2) (Nat.le_of_ble_eq_true rfl)
  rw [lg_entry_eq]
  generalize (lg_sl ([.ref (ad tb), .int z]) ++ List.replicate (2 - (lg_sl ([.ref (ad tb), .int z])).length) Slot.unset).toArray = ls at hl ⊢
  have hl : lv_has ls 2 [(0, .ref (ad tb)), (1, .int z)] := hl
  refine lv_iload_n hx hb dX1_isOfKind_0 rfl (lv_at hl 1 rfl) ?_
  refine lv_iconst (v := 1) hx hb dX1_isOfKind_1 (by decide) ?_
  refine lv_icmp_eq (tgt := 13) hx hb dX1_isOfKind_2 (by decide) (fun c_849 => ?_) (fun c_849 => ?_)
  · refine lv_iconst (v := 1) hx hb dX1_isOfKind_13 (by decide) ?_
    refine lv_goto (tgt := 18) hx hb dX1_isOfKind_14 (by decide) ?_
    exact hp_iretR hx hb hr rfl hlocks hsz hh (Or.inl ⟨rfl, Or.inl c_849⟩) dX1_isOfKind_18
  · refine lv_aload_n hx hb dX1_isOfKind_5 rfl (lv_at hl 0 rfl) ?_
    refine lv_iload_n hx hb dX1_isOfKind_6 rfl (lv_at hl 1 rfl) ?_
    refine hp_callRi (va_runSU ((hK.1 4 _ rfl).2) (As := [.int z]) (rest := []) ⟨hx, hb, hml, hown, hts⟩ (c_X7_isOfKind_4 l D cy _ cs ad en tb te t d htb hte (by omega) (by omega) (by omega) (by omega) (by omega) f0 z etb ete) (va_cwSU 1 hts (TB_SU tw_850 tw_846 tw_397 tw_844 tw_13 tw_855) rfl rfl rfl (by decide +kernel) ⟨by decide, by decide⟩) (preV_of hh hK htb etb rfl) rfl rfl hl.1 rfl (lv_room (Nat.le_of_ble_eq_true rfl)) dX1_isOfKind_7 ⟨Nat.le_of_ble_eq_true rfl, Nat.le_of_ble_eq_true rfl⟩) hh hA (fun r_850 H locs hw_850 hh => ?_)
    rcases hw_850 with ⟨hb_850, ht_850⟩ | ⟨hb_850, ht_850⟩
    · obtain rfl : r_850 = 1 := hb_850
      refine lv_if_eq (tgt := 17) hx hb dX1_isOfKind_10 (by decide) (fun c_0 => absurd c_0 (by decide)) (fun _ => ?_)
      refine lv_iconst (v := 1) hx hb dX1_isOfKind_13 (by decide) ?_
      refine lv_goto (tgt := 18) hx hb dX1_isOfKind_14 (by decide) ?_
      exact hp_iretR hx hb hr rfl hlocks hsz hh (Or.inl ⟨rfl, Or.inr ht_850⟩) dX1_isOfKind_18
    · obtain rfl : r_850 = 0 := hb_850
      refine lv_if_eq (tgt := 17) hx hb dX1_isOfKind_10 (by decide) (fun _ => ?_) (fun c_0 => absurd c_0 (by decide))
      refine lv_iconst (v := 0) hx hb dX1_isOfKind_17 (by decide) ?_
      exact hp_iretR hx hb hr rfl hlocks hsz hh (Or.inr ⟨rfl, fun q => q.elim c_849 ht_850⟩) dX1_isOfKind_18
set_option maxHeartbeats 4000000 in
set_option maxRecDepth 100000 in
/-- X4_isOfKind -/
theorem c_X4_isOfKind_4 (l : Launch) (D : va_G) (cy : Nat → ClassId) (sz : Nat) (cs : List Nat) (ad : Nat → Nat) (en : Nat → va_E) (tb te t d : Nat) (htb : tb ∈ cs) (hte : te ∈ cs) (h115a : 115 ≤ tb) (h115b : 115 ≤ te) (hd2 : 2 ≤ d) (hd3 : d ≤ 3) (hdd : d * d ≤ 9) (f0 : Nat → Int32) (z : Int32) (etb : en tb = .inr (4, [.int (nI t), .int (nI d), .ref (ad te)])) (ete : en te = .inl (cy 0, (d * d), .inl f0))  : Met l yX4_isOfKind (Cond.code yX4_isOfKind cX4_isOfKind 2 (some .boolean) :: TB) (rmN 2) (va_Pc [.ref (ad tb), .int z] (Pre D cy cs ad en sz)) (va_Qi (S := Unit) (fun r _ => (r = 1 ∧ (z = 2 ∨ (z = 1 ∨ z = 0))) ∨ (r = 0 ∧ ¬ (z = 2 ∨ (z = 1 ∨ z = 0)))) (fun _ _ => True) (Nf sz)) 0 0 (Nf sz) := by
  refine Met.ofW (cc := cX4_isOfKind) (maxL := 2) (ret := (some .boolean)) (by decide) rfl ?_
  intro p e s m args below meth c s₁ B hml hv
  obtain ⟨rfl, hsz, hP, hK, hD0⟩ := hv
  have hx := B.exec
  have hb := B.bytes
  have hr := B.returns
  have hts : ∀ w ∈ TB, w.before _ s = true := fun w h => atoms_spec (ws := _ :: TB) B.pre w (List.mem_cons_of_mem _ h)
  have hown : s.vm.findClass RX4 = some m.cls := findClass_of_methodNamed B.named
  have hlocks := B.notSynchronized
  have hh : Hp D (Nf sz) (fun _ => True) s.heap s.heap [] cs ad en := ⟨hP, hD0, va_S.rf⟩
  have hA : ∀ q : Nat, s.heap.size ≤ q → Nf sz q := fun q h => by rw [hsz] at h; exact h
  have hl := lv_entry ([.ref (ad tb), .int z]) (n := 2) (Nat.le_of_ble_eq_true rfl)
  rw [lg_entry_eq]
  generalize (lg_sl ([.ref (ad tb), .int z]) ++ List.replicate (2 - (lg_sl ([.ref (ad tb), .int z])).length) Slot.unset).toArray = ls at hl ⊢
  have hl : lv_has ls 2 [(0, .ref (ad tb)), (1, .int z)] := hl
  refine lv_iload_n hx hb dX4_isOfKind_0 rfl (lv_at hl 1 rfl) ?_
  refine lv_iconst (v := 2) hx hb dX4_isOfKind_1 (by decide) ?_
  refine lv_icmp_eq (tgt := 13) hx hb dX4_isOfKind_2 (by decide) (fun c_851 => ?_) (fun c_851 => ?_)
  · refine lv_iconst (v := 1) hx hb dX4_isOfKind_13 (by decide) ?_
    refine lv_goto (tgt := 18) hx hb dX4_isOfKind_14 (by decide) ?_
    exact hp_iretR hx hb hr rfl hlocks hsz hh (Or.inl ⟨rfl, Or.inl c_851⟩) dX4_isOfKind_18
  · refine lv_aload_n hx hb dX4_isOfKind_5 rfl (lv_at hl 0 rfl) ?_
    refine lv_iload_n hx hb dX4_isOfKind_6 rfl (lv_at hl 1 rfl) ?_
    refine hp_callRi (va_runSU ((hK.1 4 _ rfl).2) (As := [.int z]) (rest := []) ⟨hx, hb, hml, hown, hts⟩ (c_X1_isOfKind_4 l D cy _ cs ad en tb te t d htb hte (by omega) (by omega) (by omega) (by omega) (by omega) f0 z etb ete) (va_cwSU 1 hts (TB_SU tw_854 tw_1264 tw_390 tw_848 tw_14 tw_849) rfl rfl rfl (by decide +kernel) ⟨by decide, by decide⟩) (preV_of hh hK htb etb rfl) rfl rfl hl.1 rfl (lv_room (Nat.le_of_ble_eq_true rfl)) dX4_isOfKind_7 ⟨Nat.le_of_ble_eq_true rfl, Nat.le_of_ble_eq_true rfl⟩) hh hA (fun r_852 H locs hw_852 hh => ?_)
    rcases hw_852 with ⟨hb_852, ht_852⟩ | ⟨hb_852, ht_852⟩
    · obtain rfl : r_852 = 1 := hb_852
      refine lv_if_eq (tgt := 17) hx hb dX4_isOfKind_10 (by decide) (fun c_0 => absurd c_0 (by decide)) (fun _ => ?_)
      refine lv_iconst (v := 1) hx hb dX4_isOfKind_13 (by decide) ?_
      refine lv_goto (tgt := 18) hx hb dX4_isOfKind_14 (by decide) ?_
      exact hp_iretR hx hb hr rfl hlocks hsz hh (Or.inl ⟨rfl, Or.inr ht_852⟩) dX4_isOfKind_18
    · obtain rfl : r_852 = 0 := hb_852
      refine lv_if_eq (tgt := 17) hx hb dX4_isOfKind_10 (by decide) (fun _ => ?_) (fun c_0 => absurd c_0 (by decide))
      refine lv_iconst (v := 0) hx hb dX4_isOfKind_17 (by decide) ?_
      exact hp_iretR hx hb hr rfl hlocks hsz hh (Or.inr ⟨rfl, fun q => q.elim c_851 ht_852⟩) dX4_isOfKind_18
