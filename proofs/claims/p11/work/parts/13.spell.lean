set_option maxHeartbeats 4000000 in
set_option maxRecDepth 100000 in
/-- hasPeriod -/
theorem c_X5_hasPeriod (l : Launch) (D : va_G) (cy : Nat → ClassId) (sz : Nat) (cs : List Nat) (ad : Nat → Nat) (en : Nat → va_E) (q NL : Nat) (hq : q ∈ cs) (hNL : NL < 2 ^ 31) (f0 : Nat → Int32) (n per : Nat) (h1 : n ≤ NL) (h2 : 1 ≤ per) (h3 : per < n) (eq : en q = .inl (cy 0, NL, .inl f0))  : Met l yX5_hasPeriod (Cond.code yX5_hasPeriod cX5_hasPeriod 4 (some .boolean) :: TB) (rmN 0) (va_Pc [.ref (ad q), .int (nI n), .int (nI per)] (Pre D cy cs ad en sz)) (va_Qi (S := Unit) (fun r _ => bI r (perP f0 n per)) (fun _ _ => True) (Nf sz)) 0 0 (Nf sz) := by
  refine Met.ofW (cc := cX5_hasPeriod) (maxL := 4) (ret := (some .boolean)) (by decide) rfl ?_
  intro p e s m args below meth c s₁ B hml hv
  obtain ⟨rfl, hsz, hP, hK, hD0⟩ := hv
  have hx := B.exec
  have hb := B.bytes
  have hr := B.returns
  have hts : ∀ w ∈ TB, w.before _ s = true := fun w h => atoms_spec (ws := _ :: TB) B.pre w (List.mem_cons_of_mem _ h)
  have hown : s.vm.findClass RX5 = some m.cls := findClass_of_methodNamed B.named
  have hlocks := B.notSynchronized
  have hh : Hp D (Nf sz) (fun _ => True) s.heap s.heap [] cs ad en := ⟨hP, hD0, va_S.rf⟩
  have hA : ∀ q : Nat, s.heap.size ≤ q → Nf sz q := fun q h => by rw [hsz] at h; exact h
  have hl := lv_entry ([.ref (ad q), .int (nI n), .int (nI per)]) (n := 4) (Nat.le_of_ble_eq_true rfl)
  rw [lg_entry_eq]
  generalize (lg_sl ([.ref (ad q), .int (nI n), .int (nI per)]) ++ List.replicate (4 - (lg_sl ([.ref (ad q), .int (nI n), .int (nI per)])).length) Slot.unset).toArray = ls at hl ⊢
  have hl : lv_has ls 4 [(0, .ref (ad q)), (1, .int (nI n)), (2, .int (nI per))] := hl
  refine lv_iload_n hx hb dX5_hasPeriod_0 rfl (lv_at hl 2 rfl) ?_
  refine lv_istore_n (lv' := [(3, .int (nI per)), (0, .ref (ad q)), (1, .int (nI n)), (2, .int (nI per))]) hx hb dX5_hasPeriod_1 rfl hl (by decide) rfl (fun ls hl => ?_)
  have loop_1 : ∀ (fu j1 : Nat)   (ls : Array Slot) (H : Heap) (locs : List Loc), per ≤ j1 → j1 ≤ n → n < j1 + fu → (∀ i, per ≤ i → i < j1 → f0 i = f0 (i - per)) → lv_has ls 4 [(3, .int (nI j1)), (0, .ref (ad q)), (1, .int (nI n)), (2, .int (nI per))] → Hp D (Nf sz) (fun _ => True) s.heap H locs cs ad en → W p l e (headSpec (Cond.code yX5_hasPeriod cX5_hasPeriod 4 (some .boolean) :: TB) (rmN 0)).room s m ([.ref (ad q), .int (nI n), .int (nI per)] : List Value).toArray below meth c H locs 0 0 (MQ below (va_Qi (S := Unit) (fun r _ => bI r (perP f0 n per)) (fun _ _ => True) (Nf sz)) ([.ref (ad q), .int (nI n), .int (nI per)] : List Value).toArray s 0 0 (Nf sz)) (F0 m 2 ls []) := by
    intro fu
    induction fu with
    | zero => intro j1  ls H locs h0 h1 h2; exact absurd h2 (by omega)
    | succ fu ih_1 =>
      intro j1  ls H locs hj0_1 hj_1 hfu_1 i0_1 hl hh
      refine lv_iload_n hx hb dX5_hasPeriod_2 rfl (lv_at hl 0 rfl) ?_
      refine lv_iload_n hx hb dX5_hasPeriod_3 rfl (lv_at hl 2 rfl) ?_
      refine lv_icmp_ge (tgt := 26) hx hb dX5_hasPeriod_4 (by decide) (fun c_2 => ?_) (fun c_2 => ?_)
      · have n_2 : n ≤ j1 := n_le (a := n) (b := j1) c_2 (by omega) (by omega)
        refine lv_iconst (v := 1) hx hb dX5_hasPeriod_26 (by decide) ?_
        exact hp_iretR hx hb hr rfl hlocks hsz hh (Or.inl ⟨rfl, fun i h1 h2 => i0_1 i h1 (by omega)⟩) dX5_hasPeriod_27
      · have n_2 : j1 < n := n_nle (a := n) (b := j1) c_2 (by omega) (by omega)
        refine lv_aload_n hx hb dX5_hasPeriod_7 rfl (lv_at hl 1 rfl) ?_
        refine lv_iload_n hx hb dX5_hasPeriod_8 rfl (lv_at hl 0 rfl) ?_
        refine hp_iald hx hb hK hh (q := q) rfl hq eq (vp_in_nI (n := j1) (by omega) (by omega)) dX5_hasPeriod_9 ?_
        rw [nI_clamp (n := j1) (by omega)]
        refine lv_aload_n hx hb dX5_hasPeriod_10 rfl (lv_at hl 1 rfl) ?_
        refine lv_iload_n hx hb dX5_hasPeriod_11 rfl (lv_at hl 0 rfl) ?_
        refine lv_iload_n hx hb dX5_hasPeriod_12 rfl (lv_at hl 3 rfl) ?_
        refine lv_isub hx hb dX5_hasPeriod_13 ?_
        rw [pk_sub (a := j1) (b := per) (by omega)]
        refine hp_iald hx hb hK hh (q := q) rfl hq eq (vp_in_nI (n := (j1 - per)) (by omega) (by omega)) dX5_hasPeriod_14 ?_
        rw [nI_clamp (n := (j1 - per)) (by omega)]
        refine lv_icmp_eq (tgt := 20) hx hb dX5_hasPeriod_15 (by decide) (fun c_3 => ?_) (fun c_3 => ?_)
        · refine lv_iinc (v := (nI (j1 + 1))) (lv' := [(3, .int (nI (j1 + 1))), (0, .ref (ad q)), (1, .int (nI n)), (2, .int (nI per))]) hx hb dX5_hasPeriod_20 hl (k := 0) rfl (nI_1 _) (by decide) rfl (fun ls hl => ?_)
          refine lv_goto (tgt := 2) hx hb dX5_hasPeriod_23 (by decide) ?_
          exact ih_1 ((j1 + 1))  ls H locs (by omega) (by omega) (by omega) (fun i h1 h2 => (Nat.lt_or_ge i j1).elim (fun h => i0_1 i h1 h) (fun h => by have e : i = j1 := (by omega); rw [e]; exact c_3)) (lv_sub hl [0, 1, 2, 3] rfl) hh
        · refine lv_iconst (v := 0) hx hb dX5_hasPeriod_18 (by decide) ?_
          exact hp_iretR hx hb hr rfl hlocks hsz hh (Or.inr ⟨rfl, fun q => c_3 (q j1 (by omega) (by omega))⟩) dX5_hasPeriod_19
  exact loop_1 (n + 1) per  ls _ _ (Nat.le_refl _) (by omega) (by omega) (fun i h1 h2 => absurd h2 (by omega)) (lv_sub hl [0, 1, 2, 3] rfl) hh
theorem kw_X5_hasPeriod {R : Room} {s : State} {args : Array Value} {own : String} {idx : Nat} (hts : ∀ w ∈ TB, w.before args s = true) (hl : Cond.methodLink own idx yX5_hasPeriod ∈ TB) (hR : 0 + 1 ≤ R.frames ∧ 8 + (4 + 11) + 40 * 0 ≤ R.locals) : CallB R s args own idx yX5_hasPeriod cX5_hasPeriod 4 (some .boolean) (Cond.code yX5_hasPeriod cX5_hasPeriod 4 (some .boolean) :: TB) (rmN 0) 0 0 3 ∧ (Cond.static yX5_hasPeriod).before args s = true := va_cwS 3 hts (TB_S2 hl tw_734 tw_16 tw_735) rfl rfl rfl (by decide +kernel) hR
set_option maxHeartbeats 4000000 in
set_option maxRecDepth 100000 in
/-- repeats -/
theorem c_X5_repeats (l : Launch) (D : va_G) (cy : Nat → ClassId) (sz : Nat) (cs : List Nat) (ad : Nat → Nat) (en : Nat → va_E) (q NL : Nat) (hq : q ∈ cs) (hNL : NL < 2 ^ 31) (f0 : Nat → Int32) (n : Nat) (h1 : n ≤ NL) (h2 : 1 ≤ n) (eq : en q = .inl (cy 0, NL, .inl f0))  : Met l yX5_repeats (Cond.code yX5_repeats cX5_repeats 3 (some .int) :: TB) (rmN 1) (va_Pc [.ref (ad q), .int (nI n)] (Pre D cy cs ad en sz)) (va_Qi (S := Unit) (fun r _ => repP f0 n r) (fun _ _ => True) (Nf sz)) 0 0 (Nf sz) := by
  refine Met.ofW (cc := cX5_repeats) (maxL := 3) (ret := (some .int)) (by decide) rfl ?_
  intro p e s m args below meth c s₁ B hml hv
  obtain ⟨rfl, hsz, hP, hK, hD0⟩ := hv
  have hx := B.exec
  have hb := B.bytes
  have hr := B.returns
  have hts : ∀ w ∈ TB, w.before _ s = true := fun w h => atoms_spec (ws := _ :: TB) B.pre w (List.mem_cons_of_mem _ h)
  have hown : s.vm.findClass RX5 = some m.cls := findClass_of_methodNamed B.named
  have hlocks := B.notSynchronized
  have hh : Hp D (Nf sz) (fun _ => True) s.heap s.heap [] cs ad en := ⟨hP, hD0, va_S.rf⟩
  have hA : ∀ q : Nat, s.heap.size ≤ q → Nf sz q := fun q h => by rw [hsz] at h; exact h
  have hl := lv_entry ([.ref (ad q), .int (nI n)]) (n := 3) (Nat.le_of_ble_eq_true rfl)
  rw [lg_entry_eq]
  generalize (lg_sl ([.ref (ad q), .int (nI n)]) ++ List.replicate (3 - (lg_sl ([.ref (ad q), .int (nI n)])).length) Slot.unset).toArray = ls at hl ⊢
  have hl : lv_has ls 3 [(0, .ref (ad q)), (1, .int (nI n))] := hl
  refine lv_iconst (v := 1) hx hb dX5_repeats_0 (by decide) ?_
  refine lv_istore_n (lv' := [(2, .int 1), (0, .ref (ad q)), (1, .int (nI n))]) hx hb dX5_repeats_1 rfl hl (by decide) rfl (fun ls hl => ?_)
  have loop_4 : ∀ (fu j4 : Nat)   (ls : Array Slot) (H : Heap) (locs : List Loc), 1 ≤ j4 → j4 ≤ n → n < j4 + fu → (∀ y, 1 ≤ y → y < j4 → ¬ (n % y = 0 ∧ perP f0 n y)) → lv_has ls 3 [(2, .int (nI j4)), (0, .ref (ad q)), (1, .int (nI n))] → Hp D (Nf sz) (fun _ => True) s.heap H locs cs ad en → W p l e (headSpec (Cond.code yX5_repeats cX5_repeats 3 (some .int) :: TB) (rmN 1)).room s m ([.ref (ad q), .int (nI n)] : List Value).toArray below meth c H locs 0 0 (MQ below (va_Qi (S := Unit) (fun r _ => repP f0 n r) (fun _ _ => True) (Nf sz)) ([.ref (ad q), .int (nI n)] : List Value).toArray s 0 0 (Nf sz)) (F0 m 2 ls []) := by
    intro fu
    induction fu with
    | zero => intro j4  ls H locs h0 h1 h2; exact absurd h2 (by omega)
    | succ fu ih_4 =>
      intro j4  ls H locs hj0_4 hj_4 hfu_4 i0_4 hl hh
      refine lv_iload_n hx hb dX5_repeats_2 rfl (lv_at hl 0 rfl) ?_
      refine lv_iload_n hx hb dX5_repeats_3 rfl (lv_at hl 2 rfl) ?_
      refine lv_icmp_ge (tgt := 32) hx hb dX5_repeats_4 (by decide) (fun c_5 => ?_) (fun c_5 => ?_)
      · have n_5 : n ≤ j4 := n_le (a := n) (b := j4) c_5 (by omega) (by omega)
        refine lv_iconst (v := 1) hx hb dX5_repeats_32 (by decide) ?_
        exact hp_iretR hx hb hr rfl hlocks hsz hh (Or.inr ⟨rfl, fun y h1 h2 => i0_4 y h1 (by omega)⟩) dX5_repeats_33
      · have n_5 : j4 < n := n_nle (a := n) (b := j4) c_5 (by omega) (by omega)
        refine lv_iload_n hx hb dX5_repeats_7 rfl (lv_at hl 2 rfl) ?_
        refine lv_iload_n hx hb dX5_repeats_8 rfl (lv_at hl 0 rfl) ?_
        refine lv_irem hx hb dX5_repeats_9 (nI_ne0 (by omega) (by omega)) ?_
        rw [pk_rem (a := n) (d := j4) (by omega) (by omega) (by omega)]
        have hq_6 : (n % j4) ≤ n := Nat.mod_le _ _
        refine lv_if_ne (tgt := 26) hx hb dX5_repeats_10 (by decide) (fun c_7 => ?_) (fun c_7 => ?_)
        · have n_7 : (n % j4) ≠ 0 := n_neq (a := (n % j4)) (b := 0) c_7 (by omega) (by decide)
          refine lv_iinc (v := (nI (j4 + 1))) (lv' := [(2, .int (nI (j4 + 1))), (0, .ref (ad q)), (1, .int (nI n))]) hx hb dX5_repeats_26 hl (k := 0) rfl (nI_1 _) (by decide) rfl (fun ls hl => ?_)
          refine lv_goto (tgt := 2) hx hb dX5_repeats_29 (by decide) ?_
          exact ih_4 ((j4 + 1))  ls H locs (by omega) (by omega) (by omega) (fun y h1 h2 q => (Nat.lt_or_ge y j4).elim (fun h => i0_4 y h1 h q) (fun h => by have e : y = j4 := (by omega); rw [e] at q; exact n_7 q.1)) (lv_sub hl [0, 1, 2] rfl) hh
        · have n_7 : (n % j4) = 0 := n_eq (a := (n % j4)) (b := 0) c_7 (by omega) (by decide)
          refine lv_aload_n hx hb dX5_repeats_13 rfl (lv_at hl 1 rfl) ?_
          refine lv_iload_n hx hb dX5_repeats_14 rfl (lv_at hl 2 rfl) ?_
          refine lv_iload_n hx hb dX5_repeats_15 rfl (lv_at hl 0 rfl) ?_
          refine hp_callRi (va_runS (As := [.ref (ad q), .int (nI n), .int (nI j4)]) (rest := []) ⟨hx, hb, hml, hown, hts⟩ (c_X5_hasPeriod l D cy _ cs ad en q NL hq hNL f0 n j4 (by omega) (by omega) (by omega) eq) (kw_X5_hasPeriod hts tw_733 ⟨by decide, by decide⟩) (preS_of hh hK) rfl rfl hl.1 rfl (lv_room (Nat.le_of_ble_eq_true rfl)) dX5_repeats_16 ⟨Nat.le_of_ble_eq_true rfl, Nat.le_of_ble_eq_true rfl⟩) hh hA (fun r_8 H locs hw_8 hh => ?_)
          rcases hw_8 with ⟨hb_8, hy_8⟩ | ⟨hb_8, hy_8⟩
          · obtain rfl : r_8 = 1 := hb_8
            refine lv_if_eq (tgt := 26) hx hb dX5_repeats_19 (by decide) (fun c_0 => absurd c_0 (by decide)) (fun _ => ?_)
            refine lv_iload_n hx hb dX5_repeats_22 rfl (lv_at hl 2 rfl) ?_
            refine lv_iload_n hx hb dX5_repeats_23 rfl (lv_at hl 0 rfl) ?_
            refine lv_idiv hx hb dX5_repeats_24 (nI_ne0 (by omega) (by omega)) ?_
            rw [pk_div (a := n) (d := j4) (by omega) (by omega) (by omega)]
            have hq_9 : (n / j4) ≤ n := Nat.div_le_self _ _
            exact hp_iretR hx hb hr rfl hlocks hsz hh (Or.inl ⟨j4, by omega, by omega, n_7, hy_8, rfl, i0_4⟩) dX5_repeats_25
          · obtain rfl : r_8 = 0 := hb_8
            refine lv_if_eq (tgt := 26) hx hb dX5_repeats_19 (by decide) (fun _ => ?_) (fun c_0 => absurd c_0 (by decide))
            refine lv_iinc (v := (nI (j4 + 1))) (lv' := [(2, .int (nI (j4 + 1))), (0, .ref (ad q)), (1, .int (nI n))]) hx hb dX5_repeats_26 hl (k := 0) rfl (nI_1 _) (by decide) rfl (fun ls hl => ?_)
            refine lv_goto (tgt := 2) hx hb dX5_repeats_29 (by decide) ?_
            exact ih_4 ((j4 + 1))  ls H locs (by omega) (by omega) (by omega) (fun y h1 h2 q => (Nat.lt_or_ge y j4).elim (fun h => i0_4 y h1 h q) (fun h => by have e : y = j4 := (by omega); rw [e] at q; exact hy_8 q.2)) (lv_sub hl [0, 1, 2] rfl) hh
  exact loop_4 (n + 1) 1  ls _ _ (Nat.le_refl _) (by omega) (by omega) (fun y h1 h2 => absurd h2 (by omega)) (lv_sub hl [0, 1, 2] rfl) hh
theorem kw_X5_repeats {R : Room} {s : State} {args : Array Value} {own : String} {idx : Nat} (hts : ∀ w ∈ TB, w.before args s = true) (hl : Cond.methodLink own idx yX5_repeats ∈ TB) (hR : 1 + 1 ≤ R.frames ∧ 8 + (3 + 11) + 40 * 1 ≤ R.locals) : CallB R s args own idx yX5_repeats cX5_repeats 3 (some .int) (Cond.code yX5_repeats cX5_repeats 3 (some .int) :: TB) (rmN 1) 0 0 2 ∧ (Cond.static yX5_repeats).before args s = true := va_cwS 2 hts (TB_S2 hl tw_731 tw_16 tw_732) rfl rfl rfl (by decide +kernel) hR
set_option maxHeartbeats 4000000 in
set_option maxRecDepth 100000 in
/-- isAheadOfTurn -/
theorem c_X5_isAheadOfTurn (l : Launch) (D : va_G) (cy : Nat → ClassId) (sz : Nat) (cs : List Nat) (ad : Nat → Nat) (en : Nat → va_E) (q NL : Nat) (hq : q ∈ cs) (hNL : NL < 2 ^ 31) (f0 : Nat → Int32) (n mv : Nat) (h1 : n ≤ NL) (h2 : 1 ≤ mv) (h3 : mv < n) (h4 : n ≤ 12) (eq : en q = .inl (cy 0, NL, .inl f0))  : Met l yX5_isAheadOfTurn (Cond.code yX5_isAheadOfTurn cX5_isAheadOfTurn 5 (some .boolean) :: TB) (rmN 0) (va_Pc [.ref (ad q), .int (nI n), .int (nI mv)] (Pre D cy cs ad en sz)) (va_Qi (S := Unit) (fun r _ => bI r (ahP f0 n mv)) (fun _ _ => True) (Nf sz)) 0 0 (Nf sz) := by
  refine Met.ofW (cc := cX5_isAheadOfTurn) (maxL := 5) (ret := (some .boolean)) (by decide) rfl ?_
  intro p e s m args below meth c s₁ B hml hv
  obtain ⟨rfl, hsz, hP, hK, hD0⟩ := hv
  have hx := B.exec
  have hb := B.bytes
  have hr := B.returns
  have hts : ∀ w ∈ TB, w.before _ s = true := fun w h => atoms_spec (ws := _ :: TB) B.pre w (List.mem_cons_of_mem _ h)
  have hown : s.vm.findClass RX5 = some m.cls := findClass_of_methodNamed B.named
  have hlocks := B.notSynchronized
  have hh : Hp D (Nf sz) (fun _ => True) s.heap s.heap [] cs ad en := ⟨hP, hD0, va_S.rf⟩
  have hA : ∀ q : Nat, s.heap.size ≤ q → Nf sz q := fun q h => by rw [hsz] at h; exact h
  have hl := lv_entry ([.ref (ad q), .int (nI n), .int (nI mv)]) (n := 5) (Nat.le_of_ble_eq_true rfl)
  rw [lg_entry_eq]
  generalize (lg_sl ([.ref (ad q), .int (nI n), .int (nI mv)]) ++ List.replicate (5 - (lg_sl ([.ref (ad q), .int (nI n), .int (nI mv)])).length) Slot.unset).toArray = ls at hl ⊢
  have hl : lv_has ls 5 [(0, .ref (ad q)), (1, .int (nI n)), (2, .int (nI mv))] := hl
  refine lv_iconst (v := 0) hx hb dX5_isAheadOfTurn_0 (by decide) ?_
  refine lv_istore_n (lv' := [(3, .int 0), (0, .ref (ad q)), (1, .int (nI n)), (2, .int (nI mv))]) hx hb dX5_isAheadOfTurn_1 rfl hl (by decide) rfl (fun ls hl => ?_)
  have loop_10 : ∀ (fu j10 : Nat)   (ls : Array Slot) (H : Heap) (locs : List Loc), 0 ≤ j10 → j10 ≤ n → n < j10 + fu → (∀ y, y < j10 → f0 y = f0 ((y + mv) % n)) → lv_has ls 5 [(3, .int (nI j10)), (0, .ref (ad q)), (1, .int (nI n)), (2, .int (nI mv))] → Hp D (Nf sz) (fun _ => True) s.heap H locs cs ad en → W p l e (headSpec (Cond.code yX5_isAheadOfTurn cX5_isAheadOfTurn 5 (some .boolean) :: TB) (rmN 0)).room s m ([.ref (ad q), .int (nI n), .int (nI mv)] : List Value).toArray below meth c H locs 0 0 (MQ below (va_Qi (S := Unit) (fun r _ => bI r (ahP f0 n mv)) (fun _ _ => True) (Nf sz)) ([.ref (ad q), .int (nI n), .int (nI mv)] : List Value).toArray s 0 0 (Nf sz)) (F0 m 2 ls []) := by
    intro fu
    induction fu with
    | zero => intro j10  ls H locs h0 h1 h2; exact absurd h2 (by omega)
    | succ fu ih_10 =>
      intro j10  ls H locs hj0_10 hj_10 hfu_10 i0_10 hl hh
      refine lv_iload_n hx hb dX5_isAheadOfTurn_2 rfl (lv_at hl 0 rfl) ?_
      refine lv_iload_n hx hb dX5_isAheadOfTurn_3 rfl (lv_at hl 2 rfl) ?_
      refine lv_icmp_ge (tgt := 44) hx hb dX5_isAheadOfTurn_4 (by decide) (fun c_11 => ?_) (fun c_11 => ?_)
      · have n_11 : n ≤ j10 := n_le (a := n) (b := j10) c_11 (by omega) (by omega)
        refine lv_iconst (v := 0) hx hb dX5_isAheadOfTurn_44 (by decide) ?_
        exact hp_iretR hx hb hr rfl hlocks hsz hh (Or.inr ⟨rfl, fun q => by obtain ⟨i, hi, he, hl⟩ := q; have h9 := i_lt hl; rw [← i0_10 i (by omega)] at h9; omega⟩) dX5_isAheadOfTurn_45
      · have n_11 : j10 < n := n_nle (a := n) (b := j10) c_11 (by omega) (by omega)
        refine lv_aload_n hx hb dX5_isAheadOfTurn_7 rfl (lv_at hl 1 rfl) ?_
        refine lv_iload_n hx hb dX5_isAheadOfTurn_8 rfl (lv_at hl 0 rfl) ?_
        refine lv_iload_n hx hb dX5_isAheadOfTurn_9 rfl (lv_at hl 3 rfl) ?_
        refine lv_iadd hx hb dX5_isAheadOfTurn_10 ?_
        rw [nI_add j10 mv]
        refine lv_iload_n hx hb dX5_isAheadOfTurn_11 rfl (lv_at hl 2 rfl) ?_
        refine lv_irem hx hb dX5_isAheadOfTurn_12 (nI_ne0 (by omega) (by omega)) ?_
        rw [pk_rem (a := (j10 + mv)) (d := n) (by omega) (by omega) (by omega)]
        have hq_12 : ((j10 + mv) % n) ≤ (j10 + mv) := Nat.mod_le _ _
        have hm_13 : ((j10 + mv) % n) < n := Nat.mod_lt _ (by omega)
        refine hp_iald hx hb hK hh (q := q) rfl hq eq (vp_in_nI (n := ((j10 + mv) % n)) (by omega) (by omega)) dX5_isAheadOfTurn_13 ?_
        rw [nI_clamp (n := ((j10 + mv) % n)) (by omega)]
        refine lv_istore (lv' := [(4, .int (f0 ((j10 + mv) % n))), (3, .int (nI j10)), (0, .ref (ad q)), (1, .int (nI n)), (2, .int (nI mv))]) hx hb dX5_isAheadOfTurn_14 hl (by decide) rfl (fun ls hl => ?_)
        refine lv_aload_n hx hb dX5_isAheadOfTurn_16 rfl (lv_at hl 2 rfl) ?_
        refine lv_iload_n hx hb dX5_isAheadOfTurn_17 rfl (lv_at hl 1 rfl) ?_
        refine hp_iald hx hb hK hh (q := q) rfl hq eq (vp_in_nI (n := j10) (by omega) (by omega)) dX5_isAheadOfTurn_18 ?_
        rw [nI_clamp (n := j10) (by omega)]
        refine lv_iload hx hb dX5_isAheadOfTurn_19 (lv_at hl 0 rfl) ?_
        refine lv_icmp_eq (tgt := 38) hx hb dX5_isAheadOfTurn_21 (by decide) (fun c_14 => ?_) (fun c_14 => ?_)
        · refine lv_iinc (v := (nI (j10 + 1))) (lv' := [(3, .int (nI (j10 + 1))), (4, .int (f0 ((j10 + mv) % n))), (0, .ref (ad q)), (1, .int (nI n)), (2, .int (nI mv))]) hx hb dX5_isAheadOfTurn_38 hl (k := 1) rfl (nI_1 _) (by decide) rfl (fun ls hl => ?_)
          refine lv_goto (tgt := 2) hx hb dX5_isAheadOfTurn_41 (by decide) ?_
          exact ih_10 ((j10 + 1))  ls H locs (by omega) (by omega) (by omega) (fun y h2 => (Nat.lt_or_ge y j10).elim (fun h => i0_10 y h) (fun h => by have e : y = j10 := (by omega); rw [e]; exact c_14)) (lv_sub hl [0, 2, 3, 4] rfl) hh
        · refine lv_aload_n hx hb dX5_isAheadOfTurn_24 rfl (lv_at hl 2 rfl) ?_
          refine lv_iload_n hx hb dX5_isAheadOfTurn_25 rfl (lv_at hl 1 rfl) ?_
          refine hp_iald hx hb hK hh (q := q) rfl hq eq (vp_in_nI (n := j10) (by omega) (by omega)) dX5_isAheadOfTurn_26 ?_
          rw [nI_clamp (n := j10) (by omega)]
          refine lv_iload hx hb dX5_isAheadOfTurn_27 (lv_at hl 0 rfl) ?_
          refine lv_icmp_ge (tgt := 36) hx hb dX5_isAheadOfTurn_29 (by decide) (fun c_15 => ?_) (fun c_15 => ?_)
          · refine lv_iconst (v := 0) hx hb dX5_isAheadOfTurn_36 (by decide) ?_
            exact hp_iretR hx hb hr rfl hlocks hsz hh (Or.inr ⟨rfl, fun q => by obtain ⟨i, hi, he, hl⟩ := q; have h9 := i_lt hl; rcases Nat.lt_trichotomy i j10 with h | h | h; (rw [← i0_10 i h] at h9; omega); (rw [h] at h9; have h8 := i_le c_15; omega); exact c_14 (he j10 h)⟩) dX5_isAheadOfTurn_37
          · refine lv_iconst (v := 1) hx hb dX5_isAheadOfTurn_32 (by decide) ?_
            refine lv_goto (tgt := 37) hx hb dX5_isAheadOfTurn_33 (by decide) ?_
            exact hp_iretR hx hb hr rfl hlocks hsz hh (Or.inl ⟨rfl, j10, by omega, i0_10, Int32.not_le.mp c_15⟩) dX5_isAheadOfTurn_37
  exact loop_10 (n + 1) 0  ls _ _ (Nat.le_refl _) (by omega) (by omega) (fun y h => absurd h (Nat.not_lt_zero y)) (lv_sub hl [0, 1, 2, 3] rfl) hh
theorem kw_X5_isAheadOfTurn {R : Room} {s : State} {args : Array Value} {own : String} {idx : Nat} (hts : ∀ w ∈ TB, w.before args s = true) (hl : Cond.methodLink own idx yX5_isAheadOfTurn ∈ TB) (hR : 0 + 1 ≤ R.frames ∧ 8 + (5 + 11) + 40 * 0 ≤ R.locals) : CallB R s args own idx yX5_isAheadOfTurn cX5_isAheadOfTurn 5 (some .boolean) (Cond.code yX5_isAheadOfTurn cX5_isAheadOfTurn 5 (some .boolean) :: TB) (rmN 0) 0 0 3 ∧ (Cond.static yX5_isAheadOfTurn).before args s = true := va_cwS 3 hts (TB_S2 hl tw_518 tw_16 tw_519) rfl rfl rfl (by decide +kernel) hR
set_option maxHeartbeats 4000000 in
set_option maxRecDepth 100000 in
/-- isAheadOfItsTurns -/
theorem c_X5_isAheadOfItsTurns (l : Launch) (D : va_G) (cy : Nat → ClassId) (sz : Nat) (cs : List Nat) (ad : Nat → Nat) (en : Nat → va_E) (q NL : Nat) (hq : q ∈ cs) (hNL : NL < 2 ^ 31) (f0 : Nat → Int32) (n : Nat) (h1 : n ≤ NL) (h2 : 1 ≤ n) (h4 : n ≤ 12) (eq : en q = .inl (cy 0, NL, .inl f0))  : Met l yX5_isAheadOfItsTurns (Cond.code yX5_isAheadOfItsTurns cX5_isAheadOfItsTurns 3 (some .boolean) :: TB) (rmN 1) (va_Pc [.ref (ad q), .int (nI n)] (Pre D cy cs ad en sz)) (va_Qi (S := Unit) (fun r _ => bI r (ahA f0 n)) (fun _ _ => True) (Nf sz)) 0 0 (Nf sz) := by
  refine Met.ofW (cc := cX5_isAheadOfItsTurns) (maxL := 3) (ret := (some .boolean)) (by decide) rfl ?_
  intro p e s m args below meth c s₁ B hml hv
  obtain ⟨rfl, hsz, hP, hK, hD0⟩ := hv
  have hx := B.exec
  have hb := B.bytes
  have hr := B.returns
  have hts : ∀ w ∈ TB, w.before _ s = true := fun w h => atoms_spec (ws := _ :: TB) B.pre w (List.mem_cons_of_mem _ h)
  have hown : s.vm.findClass RX5 = some m.cls := findClass_of_methodNamed B.named
  have hlocks := B.notSynchronized
  have hh : Hp D (Nf sz) (fun _ => True) s.heap s.heap [] cs ad en := ⟨hP, hD0, va_S.rf⟩
  have hA : ∀ q : Nat, s.heap.size ≤ q → Nf sz q := fun q h => by rw [hsz] at h; exact h
  have hl := lv_entry ([.ref (ad q), .int (nI n)]) (n := 3) (Nat.le_of_ble_eq_true rfl)
  rw [lg_entry_eq]
  generalize (lg_sl ([.ref (ad q), .int (nI n)]) ++ List.replicate (3 - (lg_sl ([.ref (ad q), .int (nI n)])).length) Slot.unset).toArray = ls at hl ⊢
  have hl : lv_has ls 3 [(0, .ref (ad q)), (1, .int (nI n))] := hl
  refine lv_iconst (v := 1) hx hb dX5_isAheadOfItsTurns_0 (by decide) ?_
  refine lv_istore_n (lv' := [(2, .int 1), (0, .ref (ad q)), (1, .int (nI n))]) hx hb dX5_isAheadOfItsTurns_1 rfl hl (by decide) rfl (fun ls hl => ?_)
  have loop_16 : ∀ (fu j16 : Nat)   (ls : Array Slot) (H : Heap) (locs : List Loc), 1 ≤ j16 → j16 ≤ n → n < j16 + fu → (∀ y, 1 ≤ y → y < j16 → ahP f0 n y) → lv_has ls 3 [(2, .int (nI j16)), (0, .ref (ad q)), (1, .int (nI n))] → Hp D (Nf sz) (fun _ => True) s.heap H locs cs ad en → W p l e (headSpec (Cond.code yX5_isAheadOfItsTurns cX5_isAheadOfItsTurns 3 (some .boolean) :: TB) (rmN 1)).room s m ([.ref (ad q), .int (nI n)] : List Value).toArray below meth c H locs 0 0 (MQ below (va_Qi (S := Unit) (fun r _ => bI r (ahA f0 n)) (fun _ _ => True) (Nf sz)) ([.ref (ad q), .int (nI n)] : List Value).toArray s 0 0 (Nf sz)) (F0 m 2 ls []) := by
    intro fu
    induction fu with
    | zero => intro j16  ls H locs h0 h1 h2; exact absurd h2 (by omega)
    | succ fu ih_16 =>
      intro j16  ls H locs hj0_16 hj_16 hfu_16 i0_16 hl hh
      refine lv_iload_n hx hb dX5_isAheadOfItsTurns_2 rfl (lv_at hl 0 rfl) ?_
      refine lv_iload_n hx hb dX5_isAheadOfItsTurns_3 rfl (lv_at hl 2 rfl) ?_
      refine lv_icmp_ge (tgt := 24) hx hb dX5_isAheadOfItsTurns_4 (by decide) (fun c_17 => ?_) (fun c_17 => ?_)
      · have n_17 : n ≤ j16 := n_le (a := n) (b := j16) c_17 (by omega) (by omega)
        refine lv_iconst (v := 1) hx hb dX5_isAheadOfItsTurns_24 (by decide) ?_
        exact hp_iretR hx hb hr rfl hlocks hsz hh (Or.inl ⟨rfl, fun y h1 h2 => i0_16 y h1 (by omega)⟩) dX5_isAheadOfItsTurns_25
      · have n_17 : j16 < n := n_nle (a := n) (b := j16) c_17 (by omega) (by omega)
        refine lv_aload_n hx hb dX5_isAheadOfItsTurns_7 rfl (lv_at hl 1 rfl) ?_
        refine lv_iload_n hx hb dX5_isAheadOfItsTurns_8 rfl (lv_at hl 2 rfl) ?_
        refine lv_iload_n hx hb dX5_isAheadOfItsTurns_9 rfl (lv_at hl 0 rfl) ?_
        refine hp_callRi (va_runS (As := [.ref (ad q), .int (nI n), .int (nI j16)]) (rest := []) ⟨hx, hb, hml, hown, hts⟩ (c_X5_isAheadOfTurn l D cy _ cs ad en q NL hq hNL f0 n j16 (by omega) (by omega) (by omega) (by omega) eq) (kw_X5_isAheadOfTurn hts tw_517 ⟨by decide, by decide⟩) (preS_of hh hK) rfl rfl hl.1 rfl (lv_room (Nat.le_of_ble_eq_true rfl)) dX5_isAheadOfItsTurns_10 ⟨Nat.le_of_ble_eq_true rfl, Nat.le_of_ble_eq_true rfl⟩) hh hA (fun r_18 H locs hw_18 hh => ?_)
        rcases hw_18 with ⟨hb_18, hy_18⟩ | ⟨hb_18, hy_18⟩
        · obtain rfl : r_18 = 1 := hb_18
          refine lv_if_ne (tgt := 18) hx hb dX5_isAheadOfItsTurns_13 (by decide) (fun _ => ?_) (fun c_0 => absurd c_0 (by decide))
          refine lv_iinc (v := (nI (j16 + 1))) (lv' := [(2, .int (nI (j16 + 1))), (0, .ref (ad q)), (1, .int (nI n))]) hx hb dX5_isAheadOfItsTurns_18 hl (k := 0) rfl (nI_1 _) (by decide) rfl (fun ls hl => ?_)
          refine lv_goto (tgt := 2) hx hb dX5_isAheadOfItsTurns_21 (by decide) ?_
          exact ih_16 ((j16 + 1))  ls H locs (by omega) (by omega) (by omega) (fun y h1 h2 => (Nat.lt_or_ge y j16).elim (fun h => i0_16 y h1 h) (fun h => by have e : y = j16 := (by omega); rw [e]; exact hy_18)) (lv_sub hl [0, 1, 2] rfl) hh
        · obtain rfl : r_18 = 0 := hb_18
          refine lv_if_ne (tgt := 18) hx hb dX5_isAheadOfItsTurns_13 (by decide) (fun c_0 => absurd c_0 (by decide)) (fun _ => ?_)
          refine lv_iconst (v := 0) hx hb dX5_isAheadOfItsTurns_16 (by decide) ?_
          exact hp_iretR hx hb hr rfl hlocks hsz hh (Or.inr ⟨rfl, fun q => hy_18 (q j16 (by omega) (by omega))⟩) dX5_isAheadOfItsTurns_17
  exact loop_16 (n + 1) 1  ls _ _ (Nat.le_refl _) (by omega) (by omega) (fun y h1 h2 => absurd h2 (by omega)) (lv_sub hl [0, 1, 2] rfl) hh
theorem kw_X5_isAheadOfItsTurns {R : Room} {s : State} {args : Array Value} {own : String} {idx : Nat} (hts : ∀ w ∈ TB, w.before args s = true) (hl : Cond.methodLink own idx yX5_isAheadOfItsTurns ∈ TB) (hR : 1 + 1 ≤ R.frames ∧ 8 + (3 + 11) + 40 * 1 ≤ R.locals) : CallB R s args own idx yX5_isAheadOfItsTurns cX5_isAheadOfItsTurns 3 (some .boolean) (Cond.code yX5_isAheadOfItsTurns cX5_isAheadOfItsTurns 3 (some .boolean) :: TB) (rmN 1) 0 0 2 ∧ (Cond.static yX5_isAheadOfItsTurns).before args s = true := va_cwS 2 hts (TB_S2 hl tw_515 tw_16 tw_516) rfl rfl rfl (by decide +kernel) hR
