set_option maxHeartbeats 4000000 in
set_option maxRecDepth 100000 in
/-- allowAll: all 36 places of allowed are true -/
theorem c_X8_allowAll (l : Launch) (D : va_G) (cy : Nat → ClassId) (sz : Nat) (cs : List Nat) (ad : Nat → Nat) (en : Nat → va_E) (hm1 : 1 ∈ cs) (hm10 : 10 ∈ cs) (cnt dd mm : Int32) (f0 : Nat → Int32) (e1 : en 1 = .inr (7, [.ref (ad 2), .ref (ad 3), .ref (ad 10), .ref (ad 11), .int cnt, .int dd, .int mm])) (e10 : en 10 = .inl (cy 2, 36, .inl f0))  : Met l yX8_allowAll (Cond.code yX8_allowAll cX8_allowAll 2 none :: TB) (rmN 0) (va_Pc [.ref (ad 1)] (Pre D cy cs ad en sz)) (va_Qv (S := Nat → va_E) (fun en1 => ∃ f : Nat → Int32, en1 = va_up en 10 (.inl (cy 2, 36, .inl f)) ∧ ∀ i, i < 36 → f i = 1) (PostM D cs ad) (Af cs ad sz)) 0 0 (Af cs ad sz) := by
  refine Met.ofW (cc := cX8_allowAll) (maxL := 2) (ret := none) (by decide) rfl ?_
  intro p e s m args below meth c s₁ B hml hv
  obtain ⟨rfl, hsz, hP, hK, hD0⟩ := hv
  have hx := B.exec
  have hb := B.bytes
  have hr := B.returns
  have hts : ∀ w ∈ TB, w.before _ s = true := fun w h => atoms_spec (ws := _ :: TB) B.pre w (List.mem_cons_of_mem _ h)
  have hown : s.vm.findClass RX8 = some m.cls := findClass_of_methodNamed B.named
  have hlocks := B.notSynchronized
  have hh : Hp D (Af cs ad sz) (Af cs ad sz) s.heap s.heap [] cs ad en := ⟨hP, Af_self hD0, va_S.rf⟩
  have hA : ∀ q : Nat, s.heap.size ≤ q → Af cs ad sz q := fun q h => Or.inr (by rw [hsz] at h; exact h)
  have hl := lv_entry ([.ref (ad 1)]) (n := 2) (Nat.le_of_ble_eq_true rfl)
  rw [lg_entry_eq]
  generalize (lg_sl ([.ref (ad 1)]) ++ List.replicate (2 - (lg_sl ([.ref (ad 1)])).length) Slot.unset).toArray = ls at hl ⊢
  have hl : lv_has ls 2 [(0, .ref (ad 1))] := hl
  refine lv_iconst (v := 0) hx hb dX8_allowAll_0 (by decide) ?_
  refine lv_istore_n (lv' := [(1, .int 0), (0, .ref (ad 1))]) hx hb dX8_allowAll_1 rfl hl (by decide) rfl (fun ls hl => ?_)
  have loop_67 : ∀ (fu j : Nat) (g : Nat → Int32) (ls : Array Slot) (H : Heap) (locs : List Loc) (en_67 : Nat → va_E), j ≤ 36 → 36 < j + fu → en_67 = va_up en 10 (.inl (cy 2, 36, .inl g)) → (∀ i, i < j → g i = 1) → lv_has ls 2 [(1, .int (nI j)), (0, .ref (ad 1))] → Hp D (Af cs ad sz) (Af cs ad sz) s.heap H locs cs ad en_67 → W p l e (headSpec (Cond.code yX8_allowAll cX8_allowAll 2 none :: TB) (rmN 0)).room s m ([.ref (ad 1)] : List Value).toArray below meth c H locs 0 0 (MQ below (va_Qv (S := Nat → va_E) (fun en1 => ∃ f : Nat → Int32, en1 = va_up en 10 (.inl (cy 2, 36, .inl f)) ∧ ∀ i, i < 36 → f i = 1) (PostM D cs ad) (Af cs ad sz)) ([.ref (ad 1)] : List Value).toArray s 0 0 (Af cs ad sz)) (F0 m 2 ls []) := by
    intro fu
    induction fu with
    | zero => intro j g ls H locs en_67 h1 h2; exact absurd h2 (by omega)
    | succ fu ih =>
      intro j g ls H locs en_67 hj hn hen_67 hg hl hh
      have e1_67 : en_67 1 = .inr (7, [.ref (ad 2), .ref (ad 3), .ref (ad 10), .ref (ad 11), .int cnt, .int dd, .int mm]) := by rw [hen_67, va_up_ne _ _ (by decide)]; exact e1
      have e10_67 : en_67 10 = .inl (cy 2, 36, .inl g) := by rw [hen_67]; exact va_up_self _ _ _
      rcases Nat.lt_or_ge j 36 with hjN | hjN
      · refine lv_iload_n hx hb dX8_allowAll_2 rfl (lv_at hl 0 rfl) ?_
        refine lv_bipush (v := 36) hx hb dX8_allowAll_3 (by decide) ?_
        refine lv_icmp_ge (tgt := 21) hx hb dX8_allowAll_5 (by decide) (fun c_0 => absurd c_0 (nI_ge (b := 36) hjN (by decide))) (fun _ => ?_)
        refine lv_aload_n hx hb dX8_allowAll_8 rfl (lv_at hl 1 rfl) ?_
        refine hp_get hx hb hts ix8 hown hK hh (q := 1) rfl hm1 e1_67 rfl 2 (by decide) (hts _ tw_41) (fun _ h9 => h9) rfl dX8_allowAll_9 ?_
        refine lv_iload_n hx hb dX8_allowAll_12 rfl (lv_at hl 0 rfl) ?_
        refine lv_iconst (v := 1) hx hb dX8_allowAll_13 (by decide) ?_
        refine hp_zast hx hb hK hh (q := 10) rfl hm10 e10_67 (vp_in_nI hjN (by decide)) dX8_allowAll_14 (fun H locs en_68 hen_68 hh => ?_)
        have e1_68 : en_68 1 = .inr (7, [.ref (ad 2), .ref (ad 3), .ref (ad 10), .ref (ad 11), .int cnt, .int dd, .int mm]) := by rw [hen_68, va_up_ne _ _ (by decide)]; exact e1_67
        have e10_68 : en_68 10 = .inl (cy 2, 36, .inl (upd g (nI j).toNatClampNeg (vp_nar .boolean 1))) := by rw [hen_68]; exact va_up_self _ _ _
        refine lv_iinc (v := nI (j + 1)) (lv' := [(1, .int (nI (j + 1))), (0, .ref (ad 1))]) hx hb dX8_allowAll_15 hl (k := 0) rfl (nI_1 _) (by decide) rfl (fun ls hl => ?_)
        refine lv_goto (tgt := 2) hx hb dX8_allowAll_18 (by decide) ?_
        exact ih (j + 1) _ ls H locs en_68 (by omega) (by omega) (by rw [hen_68, hen_67, bx_uu]; try rfl) (up_lt hjN (by decide) hg) (lv_sub hl [0, 1] rfl) hh
      · have hgN : ∀ i, i < 36 → g i = 1 := fun i hi => hg i (by omega)
        refine lv_iload_n hx hb dX8_allowAll_2 rfl (lv_at hl 0 rfl) ?_
        refine lv_bipush (v := 36) hx hb dX8_allowAll_3 (by decide) ?_
        refine lv_icmp_ge (tgt := 21) hx hb dX8_allowAll_5 (by decide) (fun _ => ?_) (fun c_0 => absurd (nI_le (a := 36) hjN (by omega)) c_0)
        exact hp_vretM hx hb hr hlocks hh (⟨g, hen_67, hgN⟩) dX8_allowAll_21
  exact loop_67 (36 + 1) 0 f0 ls _ _ en (Nat.zero_le _) (by omega) (va_up_id e10).symm (fun i hi => absurd hi (Nat.not_lt_zero i)) (lv_sub hl [0, 1] rfl) hh
theorem kw_X8_allowAll {R : Room} {s : State} {args : Array Value} {own : String} {idx : Nat} (hts : ∀ w ∈ TB, w.before args s = true) (hl : Cond.methodLink own idx yX8_allowAll ∈ TB) (hR : 0 + 1 ≤ R.frames ∧ 8 + (2 + 11) + 40 * 0 ≤ R.locals) : CallW R s args own RX8 idx yX8_allowAll cX8_allowAll 2 none (Cond.code yX8_allowAll cX8_allowAll 2 none :: TB) (rmN 0) 0 0 0 := cwV 0 hts (TB_V hl tw_37 ts_0 tw_2 tw_38) rfl rfl rfl (by decide +kernel) hR
set_option maxHeartbeats 4000000 in
set_option maxRecDepth 100000 in
/-- Arrays.fill -/
theorem c_J7_fill_53178 (l : Launch) (D : va_G) (cy : Nat → ClassId) (sz : Nat) (cs : List Nat) (ad : Nat → Nat) (en : Nat → va_E) (q n : Nat) (hq : q ∈ cs) (hnb : n < 2 ^ 31) (f0 : Nat → Int32) (v : Int32) (eq : en q = .inl (cy 0, n, .inl f0))  : Met l yJ7_fill_53178 (Cond.code yJ7_fill_53178 cJ7_fill_53178 4 none :: TB) (rmN 0) (va_Pc [.ref (ad q), .int v] (Pre D cy cs ad en sz)) (va_Qv (S := Nat → va_E) (fun en1 => ∃ f : Nat → Int32, en1 = va_up en q (.inl (cy 0, n, .inl f)) ∧ ∀ i, i < n → f i = v) (PostM D cs ad) (Af cs ad sz)) 0 0 (Af cs ad sz) := by
  refine Met.ofW (cc := cJ7_fill_53178) (maxL := 4) (ret := none) (by decide) rfl ?_
  intro p e s m args below meth c s₁ B hml hv
  obtain ⟨rfl, hsz, hP, hK, hD0⟩ := hv
  have hx := B.exec
  have hb := B.bytes
  have hr := B.returns
  have hts : ∀ w ∈ TB, w.before _ s = true := fun w h => atoms_spec (ws := _ :: TB) B.pre w (List.mem_cons_of_mem _ h)
  have hown : s.vm.findClass RJ7 = some m.cls := findClass_of_methodNamed B.named
  have hlocks := B.notSynchronized
  have hh : Hp D (Af cs ad sz) (Af cs ad sz) s.heap s.heap [] cs ad en := ⟨hP, Af_self hD0, va_S.rf⟩
  have hA : ∀ q : Nat, s.heap.size ≤ q → Af cs ad sz q := fun q h => Or.inr (by rw [hsz] at h; exact h)
  have hl := lv_entry ([.ref (ad q), .int v]) (n := 4) (Nat.le_of_ble_eq_true rfl)
  rw [lg_entry_eq]
  generalize (lg_sl ([.ref (ad q), .int v]) ++ List.replicate (4 - (lg_sl ([.ref (ad q), .int v])).length) Slot.unset).toArray = ls at hl ⊢
  have hl : lv_has ls 4 [(0, .ref (ad q)), (1, .int v)] := hl
  refine lv_iconst (v := 0) hx hb dJ7_fill_53178_0 (by decide) ?_
  refine lv_istore_n (lv' := [(2, .int 0), (0, .ref (ad q)), (1, .int v)]) hx hb dJ7_fill_53178_1 rfl hl (by decide) rfl (fun ls hl => ?_)
  refine lv_aload_n hx hb dJ7_fill_53178_2 rfl (lv_at hl 1 rfl) ?_
  refine hp_alen hx hb hK hh (q := q) rfl hq 0 eq rfl (v := nI n) (rfl) dJ7_fill_53178_3 ?_
  refine lv_istore_n (lv' := [(3, .int (nI n)), (2, .int 0), (0, .ref (ad q)), (1, .int v)]) hx hb dJ7_fill_53178_4 rfl hl (by decide) rfl (fun ls hl => ?_)
  have loop_69 : ∀ (fu j : Nat) (g : Nat → Int32) (ls : Array Slot) (H : Heap) (locs : List Loc) (en_69 : Nat → va_E), j ≤ n → n < j + fu → en_69 = va_up en q (.inl (cy 0, n, .inl g)) → (∀ i, i < j → g i = v) → lv_has ls 4 [(3, .int (nI n)), (2, .int (nI j)), (0, .ref (ad q)), (1, .int v)] → Hp D (Af cs ad sz) (Af cs ad sz) s.heap H locs cs ad en_69 → W p l e (headSpec (Cond.code yJ7_fill_53178 cJ7_fill_53178 4 none :: TB) (rmN 0)).room s m ([.ref (ad q), .int v] : List Value).toArray below meth c H locs 0 0 (MQ below (va_Qv (S := Nat → va_E) (fun en1 => ∃ f : Nat → Int32, en1 = va_up en q (.inl (cy 0, n, .inl f)) ∧ ∀ i, i < n → f i = v) (PostM D cs ad) (Af cs ad sz)) ([.ref (ad q), .int v] : List Value).toArray s 0 0 (Af cs ad sz)) (F0 m 5 ls []) := by
    intro fu
    induction fu with
    | zero => intro j g ls H locs en_69 h1 h2; exact absurd h2 (by omega)
    | succ fu ih =>
      intro j g ls H locs en_69 hj hn hen_69 hg hl hh
      have eq_69 : en_69 q = .inl (cy 0, n, .inl g) := by rw [hen_69]; exact va_up_self _ _ _
      rcases Nat.lt_or_ge j n with hjN | hjN
      · refine lv_iload_n hx hb dJ7_fill_53178_5 rfl (lv_at hl 1 rfl) ?_
        refine lv_iload_n hx hb dJ7_fill_53178_6 rfl (lv_at hl 0 rfl) ?_
        refine lv_icmp_ge (tgt := 20) hx hb dJ7_fill_53178_7 (by decide) (fun c_0 => absurd c_0 (nI_ge (b := n) hjN hnb)) (fun _ => ?_)
        refine lv_aload_n hx hb dJ7_fill_53178_10 rfl (lv_at hl 2 rfl) ?_
        refine lv_iload_n hx hb dJ7_fill_53178_11 rfl (lv_at hl 1 rfl) ?_
        refine lv_iload_n hx hb dJ7_fill_53178_12 rfl (lv_at hl 3 rfl) ?_
        refine hp_iast hx hb hK hh (q := q) rfl hq eq_69 (vp_in_nI hjN hnb) dJ7_fill_53178_13 (fun H locs en_70 hen_70 hh => ?_)
        have eq_70 : en_70 q = .inl (cy 0, n, .inl (upd g (nI j).toNatClampNeg v)) := by rw [hen_70]; exact va_up_self _ _ _
        refine lv_iinc (v := nI (j + 1)) (lv' := [(2, .int (nI (j + 1))), (3, .int (nI n)), (0, .ref (ad q)), (1, .int v)]) hx hb dJ7_fill_53178_14 hl (k := 1) rfl (nI_1 _) (by decide) rfl (fun ls hl => ?_)
        refine lv_goto (tgt := 5) hx hb dJ7_fill_53178_17 (by decide) ?_
        exact ih (j + 1) _ ls H locs en_70 (by omega) (by omega) (by rw [hen_70, hen_69, bx_uu]; try rfl) (up_lt hjN hnb hg) (lv_sub hl [1, 0, 2, 3] rfl) hh
      · have hgN : ∀ i, i < n → g i = v := fun i hi => hg i (by omega)
        refine lv_iload_n hx hb dJ7_fill_53178_5 rfl (lv_at hl 1 rfl) ?_
        refine lv_iload_n hx hb dJ7_fill_53178_6 rfl (lv_at hl 0 rfl) ?_
        refine lv_icmp_ge (tgt := 20) hx hb dJ7_fill_53178_7 (by decide) (fun _ => ?_) (fun c_0 => absurd (nI_le (a := n) hjN (by omega)) c_0)
        exact hp_vretM hx hb hr hlocks hh (⟨g, hen_69, hgN⟩) dJ7_fill_53178_20
  exact loop_69 (n + 1) 0 f0 ls _ _ en (Nat.zero_le _) (by omega) (va_up_id eq).symm (fun i hi => absurd hi (Nat.not_lt_zero i)) (lv_sub hl [0, 1, 2, 3] rfl) hh
theorem kw_J7_fill_53178 {R : Room} {s : State} {args : Array Value} {own : String} {idx : Nat} (hts : ∀ w ∈ TB, w.before args s = true) (hl : Cond.methodLink own idx yJ7_fill_53178 ∈ TB) (hR : 0 + 1 ≤ R.frames ∧ 8 + (4 + 11) + 40 * 0 ≤ R.locals) : CallB R s args own idx yJ7_fill_53178 cJ7_fill_53178 4 none (Cond.code yJ7_fill_53178 cJ7_fill_53178 4 none :: TB) (rmN 0) 0 0 2 ∧ (Cond.static yJ7_fill_53178).before args s = true := va_cwS 2 hts (TB_S2 hl tw_458 tw_10 tw_459) rfl rfl rfl (by decide +kernel) hR
