set_option maxHeartbeats 8000000 in
set_option maxRecDepth 100000 in
/-- Trail() -/
theorem c_X9_init (l : Launch) (D : va_G) (cy : Nat → ClassId) (sz : Nat) (ad : Nat → Nat) (en : Nat → va_E) (n kc : Nat) (hc : kc < n) (et : en kc = .inr (8, [.int 0])) : Met l yX9_init (Cond.code yX9_init cX9_init 1 none :: TB) (rmC 1 0 0) (va_Pc [.ref (ad kc)] (PreC D cy n ad en sz)) (va_Qv (S := (Nat → Nat) × (Nat → va_E)) (fun u => (∀ i, i < n → u.1 i = ad i) ∧ (∀ i, i < n → i ≠ kc → u.2 i = en i) ∧ u.2 kc = .inr (8, [.int 0])) (PostC D n (Af (List.range n) ad sz)) (Af (List.range n) ad sz)) 0 0 (Af (List.range n) ad sz) := by
  refine Met.ofW (cc := cX9_init) (maxL := 1) (ret := none) (by decide) rfl ?_
  intro p e s m args below meth c s₁ B hml hv
  obtain ⟨rfl, ⟨hsz, hP, hK, hD0⟩, hX⟩ := hv
  have hx := B.exec
  have hb := B.bytes
  have hr := B.returns
  have hts : ∀ w ∈ TB, w.before _ s = true := fun w h => atoms_spec (ws := _ :: TB) B.pre w (List.mem_cons_of_mem _ h)
  have hown : s.vm.findClass RX9 = some m.cls := findClass_of_methodNamed B.named
  have hlocks := B.notSynchronized
  have hin : meth.name = "<init>" := (name_of_methodNamed B.named B.method).1
  have hh : Hp D (Af (List.range n) ad sz) (Af (List.range n) ad sz) s.heap s.heap [] (List.range n) ad en := ⟨hP, Af_self hD0, va_S.rf⟩
  have hA : ∀ q : Nat, s.heap.size ≤ q → (Af (List.range n) ad sz) q := fun q h => Or.inr (by rw [hsz] at h; exact h)
  generalize (Af (List.range n) ad sz) = A at hh hA ⊢
  have hl := lv_entry ([.ref (ad kc)]) (n := 1) (Nat.le_of_ble_eq_true rfl)
  rw [lg_entry_eq]
  generalize (lg_sl ([.ref (ad kc)]) ++ List.replicate (1 - (lg_sl ([.ref (ad kc)])).length) Slot.unset).toArray = ls at hl ⊢
  have hl : lv_has ls 1 [(0, .ref (ad kc))] := hl
  refine lv_aload_n hx hb dX9_init_0 rfl (lv_at hl 0 rfl) ?_
  refine W.objInit hx hb hown (hts _ tw_200) (hts _ tw_23) (hts _ tw_24) rfl (by rw [hml]; exact hl.1) rfl dX9_init_1 (Nat.le_of_ble_eq_true rfl) (Nat.le_of_ble_eq_true rfl) ?_
  refine W.eq (g2 := F0 m 4 ls []) rfl ?_
  exact hq_vret hx hb hr hlocks hh (⟨(fun i hi => rfl), (fun i hi hne => rfl), et⟩) dX9_init_4
theorem kw_X9_init {R : Room} {s : State} {args : Array Value} {own : String} {idx : Nat} (hts : ∀ w ∈ TB, w.before args s = true) (hl : va_Nw (.methodLinkNest own idx yX9_init "AnyOrder") s) (hR : 1 + 1 ≤ R.frames ∧ 8 + (1 + 11) + 40 * 1 ≤ R.locals) : va_CN R s args own idx yX9_init "AnyOrder" cX9_init 1 none (Cond.code yX9_init cX9_init 1 none :: TB) (rmC 1 0 0) 0 0 0 ∧ yX9_init.name = "<init>" ∧ (Cond.instanceMethod yX9_init).before args s = true := ⟨va_cnB 0 hts (TB_W tw_199) rfl rfl rfl hl (hts _ tw_6) (by decide +kernel) hR, rfl, hts _ tw_198⟩
set_option maxHeartbeats 8000000 in
set_option maxRecDepth 100000 in
/-- Word() -/
theorem c_X10_init (l : Launch) (D : va_G) (cy : Nat → ClassId) (sz : Nat) (ad : Nat → Nat) (en : Nat → va_E) (n kc : Nat) (hc : kc < n) (et : en kc = .inr (9, [.null, .null, .int 0])) : Met l yX10_init (Cond.code yX10_init cX10_init 1 none :: TB) (rmC 1 2 21) (va_Pc [.ref (ad kc)] (PreC D cy n ad en sz)) (va_Qv (S := (Nat → Nat) × (Nat → va_E)) (fun u => (∀ i, i < n → u.1 i = ad i) ∧ (∀ i, i < n → i ≠ kc → u.2 i = en i) ∧ u.2 kc = .inr (9, [.ref (u.1 n), .ref (u.1 (n + 1)), .int 0]) ∧ u.2 n = .inl (cy 0, 12, .inl (fun _ => 0)) ∧ u.2 (n + 1) = .inl (cy 1, 9, .inr (.inl (fun _ => 0)))) (PostC D (n + 2) (Af (List.range n) ad sz)) (Af (List.range n) ad sz)) 2 21 (Af (List.range n) ad sz) := by
  refine Met.ofW (cc := cX10_init) (maxL := 1) (ret := none) (by decide) rfl ?_
  intro p e s m args below meth c s₁ B hml hv
  obtain ⟨rfl, ⟨hsz, hP, hK, hD0⟩, hX⟩ := hv
  have hx := B.exec
  have hb := B.bytes
  have hr := B.returns
  have hts : ∀ w ∈ TB, w.before _ s = true := fun w h => atoms_spec (ws := _ :: TB) B.pre w (List.mem_cons_of_mem _ h)
  have hown : s.vm.findClass RX10 = some m.cls := findClass_of_methodNamed B.named
  have hlocks := B.notSynchronized
  have hin : meth.name = "<init>" := (name_of_methodNamed B.named B.method).1
  have hh : Hp D (Af (List.range n) ad sz) (Af (List.range n) ad sz) s.heap s.heap [] (List.range n) ad en := ⟨hP, Af_self hD0, va_S.rf⟩
  have hA : ∀ q : Nat, s.heap.size ≤ q → (Af (List.range n) ad sz) q := fun q h => Or.inr (by rw [hsz] at h; exact h)
  generalize (Af (List.range n) ad sz) = A at hh hA ⊢
  have hl := lv_entry ([.ref (ad kc)]) (n := 1) (Nat.le_of_ble_eq_true rfl)
  rw [lg_entry_eq]
  generalize (lg_sl ([.ref (ad kc)]) ++ List.replicate (1 - (lg_sl ([.ref (ad kc)])).length) Slot.unset).toArray = ls at hl ⊢
  have hl : lv_has ls 1 [(0, .ref (ad kc))] := hl
  refine lv_aload_n hx hb dX10_init_0 rfl (lv_at hl 0 rfl) ?_
  refine W.objInit hx hb hown (hts _ tw_210) (hts _ tw_23) (hts _ tw_24) rfl (by rw [hml]; exact hl.1) rfl dX10_init_1 (Nat.le_of_ble_eq_true rfl) (Nat.le_of_ble_eq_true rfl) ?_
  refine W.eq (g2 := F0 m 4 ls []) rfl ?_
  refine lv_aload_n hx hb dX10_init_4 rfl (lv_at hl 0 rfl) ?_
  refine lv_bipush (v := 12) hx hb dX10_init_5 (by decide) ?_
  refine hq_newa (atype := .int) (ty := .int) hx hb (hts _ tw_121) rfl hK hh hA 0 rfl (N' := 12) (a0 := (12, .inl (fun _ => 0))) (fun _ => rfl) (by decide) (by decide) (by decide) (Nat.le_of_ble_eq_true rfl) (Nat.le_of_ble_eq_true rfl) dX10_init_7 (fun q_267 H ad_267 en_267 had_267 hen_267 hh => ?_)
  have hh : Hp D A A s.heap H _ (List.range (n + 1)) ad_267 en_267 := hh
  have et_267 : en_267 kc = .inr (9, [.null, .null, .int 0]) := by rw [hen_267, va_up_ne _ _ (by omega)]; exact et
  have heta_267 : ad_267 kc = (ad kc) := by rw [had_267, va_up_ne _ _ (by omega)]
  have en0_267 : en_267 n = .inl (cy 0, 12, .inl (fun _ => 0)) := by rw [hen_267]; exact va_up_self _ _ _
  have hen0a_267 : ad_267 n = q_267 := by rw [had_267]; exact va_up_self _ _ _
  refine W.widen (k := 1) (n := 12) (Nat.le_refl _) (Nat.le_refl _) ?_
  refine hp_putF hx hb hts ix10 tyX10 tyX10_ok nmX10 hown hK hh (q := kc) heta_267 (List.mem_range.mpr (by omega)) et_267 rfl 0 (by decide) (hts _ tw_211) (fun _ h9 => h9) rfl hin rfl (ty := (.array .int)) (by decide +kernel) rfl rfl (Nat.le_of_ble_eq_true rfl) dX10_init_9 (fun H locs en_268 hen_268 hh => ?_)
  have en0_268 : en_268 n = .inl (cy 0, 12, .inl (fun _ => 0)) := by rw [hen_268, va_up_ne _ _ (by omega)]; exact en0_267
  have et_268 : en_268 kc = .inr (9, [.ref q_267, .null, .int 0]) := by rw [hen_268]; exact va_up_self _ _ _
  refine lv_aload_n hx hb dX10_init_12 rfl (lv_at hl 0 rfl) ?_
  refine lv_bipush (v := 9) hx hb dX10_init_13 (by decide) ?_
  refine hq_newa (atype := .long) (ty := .long) hx hb (hts _ tw_61) rfl hK hh hA 1 rfl (N' := 9) (a0 := (9, .inr (.inl (fun _ => 0)))) (fun _ => rfl) (by decide) (by decide) (by decide) (Nat.le_of_ble_eq_true rfl) (Nat.le_of_ble_eq_true rfl) dX10_init_15 (fun q_269 H ad_269 en_269 had_269 hen_269 hh => ?_)
  have hh : Hp D A A s.heap H _ (List.range (n + 2)) ad_269 en_269 := hh
  have et_269 : en_269 kc = .inr (9, [.ref q_267, .null, .int 0]) := by rw [hen_269, va_up_ne _ _ (by omega)]; exact et_268
  have heta_269 : ad_269 kc = (ad kc) := by rw [had_269, va_up_ne _ _ (by omega)]; exact heta_267
  have en0_269 : en_269 n = .inl (cy 0, 12, .inl (fun _ => 0)) := by rw [hen_269, va_up_ne _ _ (by omega)]; exact en0_268
  have hen0a_269 : ad_269 n = q_267 := by rw [had_269, va_up_ne _ _ (by omega)]; exact hen0a_267
  have en1_269 : en_269 (n + 1) = .inl (cy 1, 9, .inr (.inl (fun _ => 0))) := by rw [hen_269]; exact va_up_self _ _ _
  have hen1a_269 : ad_269 (n + 1) = q_269 := by rw [had_269]; exact va_up_self _ _ _
  refine W.widen (k := 2) (n := 21) (Nat.le_refl _) (Nat.le_refl _) ?_
  refine hp_putF hx hb hts ix10 tyX10 tyX10_ok nmX10 hown hK hh (q := kc) heta_269 (List.mem_range.mpr (by omega)) et_269 rfl 1 (by decide) (hts _ tw_213) (fun _ h9 => h9) rfl hin rfl (ty := (.array .long)) (by decide +kernel) rfl rfl (Nat.le_of_ble_eq_true rfl) dX10_init_17 (fun H locs en_270 hen_270 hh => ?_)
  have en0_270 : en_270 n = .inl (cy 0, 12, .inl (fun _ => 0)) := by rw [hen_270, va_up_ne _ _ (by omega)]; exact en0_269
  have en1_270 : en_270 (n + 1) = .inl (cy 1, 9, .inr (.inl (fun _ => 0))) := by rw [hen_270, va_up_ne _ _ (by omega)]; exact en1_269
  have et_270 : en_270 kc = .inr (9, [.ref q_267, .ref q_269, .int 0]) := by rw [hen_270]; exact va_up_self _ _ _
  exact hq_vret hx hb hr hlocks hh (⟨(fun i hi => by dsimp only; rw [had_269, va_up_ne _ _ (by omega), had_267, va_up_ne _ _ (by omega)]), (fun i hi hne => by dsimp only; rw [hen_270, va_up_ne _ _ (by omega), hen_269, va_up_ne _ _ (by omega), hen_268, va_up_ne _ _ (by omega), hen_267, va_up_ne _ _ (by omega)]), (by dsimp only; rw [hen0a_269, hen1a_269]; exact et_270), en0_270, en1_270⟩) dX10_init_20
theorem kw_X10_init {R : Room} {s : State} {args : Array Value} {own : String} {idx : Nat} (hts : ∀ w ∈ TB, w.before args s = true) (hl : va_Nw (.methodLinkNest own idx yX10_init "AnyOrder") s) (hR : 1 + 1 ≤ R.frames ∧ 8 + (1 + 11) + 40 * 1 ≤ R.locals) : va_CN R s args own idx yX10_init "AnyOrder" cX10_init 1 none (Cond.code yX10_init cX10_init 1 none :: TB) (rmC 1 2 21) 2 21 0 ∧ yX10_init.name = "<init>" ∧ (Cond.instanceMethod yX10_init).before args s = true := ⟨va_cnB 0 hts (TB_W tw_209) rfl rfl rfl hl (hts _ tw_7) (by decide +kernel) hR, rfl, hts _ tw_208⟩
set_option maxHeartbeats 8000000 in
set_option maxRecDepth 100000 in
/-- Sheet() -/
theorem c_X3_init (l : Launch) (D : va_G) (cy : Nat → ClassId) (sz : Nat) (ad : Nat → Nat) (en : Nat → va_E) (n kc : Nat) (hc : kc < n) (et : en kc = .inr (3, [.null, .int 0, .int 0, .int 0])) : Met l yX3_init (Cond.code yX3_init cX3_init 1 none :: TB) (rmC 1 1 40) (va_Pc [.ref (ad kc)] (PreC D cy n ad en sz)) (va_Qv (S := (Nat → Nat) × (Nat → va_E)) (fun u => (∀ i, i < n → u.1 i = ad i) ∧ (∀ i, i < n → i ≠ kc → u.2 i = en i) ∧ u.2 kc = .inr (3, [.ref (u.1 n), .int 0, .int 0, .int 0]) ∧ u.2 n = .inl (cy 0, 40, .inl (fun _ => 0))) (PostC D (n + 1) (Af (List.range n) ad sz)) (Af (List.range n) ad sz)) 1 40 (Af (List.range n) ad sz) := by
  refine Met.ofW (cc := cX3_init) (maxL := 1) (ret := none) (by decide) rfl ?_
  intro p e s m args below meth c s₁ B hml hv
  obtain ⟨rfl, ⟨hsz, hP, hK, hD0⟩, hX⟩ := hv
  have hx := B.exec
  have hb := B.bytes
  have hr := B.returns
  have hts : ∀ w ∈ TB, w.before _ s = true := fun w h => atoms_spec (ws := _ :: TB) B.pre w (List.mem_cons_of_mem _ h)
  have hown : s.vm.findClass RX3 = some m.cls := findClass_of_methodNamed B.named
  have hlocks := B.notSynchronized
  have hin : meth.name = "<init>" := (name_of_methodNamed B.named B.method).1
  have hh : Hp D (Af (List.range n) ad sz) (Af (List.range n) ad sz) s.heap s.heap [] (List.range n) ad en := ⟨hP, Af_self hD0, va_S.rf⟩
  have hA : ∀ q : Nat, s.heap.size ≤ q → (Af (List.range n) ad sz) q := fun q h => Or.inr (by rw [hsz] at h; exact h)
  generalize (Af (List.range n) ad sz) = A at hh hA ⊢
  have hl := lv_entry ([.ref (ad kc)]) (n := 1) (Nat.le_of_ble_eq_true rfl)
  rw [lg_entry_eq]
  generalize (lg_sl ([.ref (ad kc)]) ++ List.replicate (1 - (lg_sl ([.ref (ad kc)])).length) Slot.unset).toArray = ls at hl ⊢
  have hl : lv_has ls 1 [(0, .ref (ad kc))] := hl
  refine lv_aload_n hx hb dX3_init_0 rfl (lv_at hl 0 rfl) ?_
  refine W.objInit hx hb hown (hts _ tw_228) (hts _ tw_23) (hts _ tw_24) rfl (by rw [hml]; exact hl.1) rfl dX3_init_1 (Nat.le_of_ble_eq_true rfl) (Nat.le_of_ble_eq_true rfl) ?_
  refine W.eq (g2 := F0 m 4 ls []) rfl ?_
  refine lv_aload_n hx hb dX3_init_4 rfl (lv_at hl 0 rfl) ?_
  refine lv_bipush (v := 40) hx hb dX3_init_5 (by decide) ?_
  refine hq_newa (atype := .int) (ty := .int) hx hb (hts _ tw_121) rfl hK hh hA 0 rfl (N' := 40) (a0 := (40, .inl (fun _ => 0))) (fun _ => rfl) (by decide) (by decide) (by decide) (Nat.le_of_ble_eq_true rfl) (Nat.le_of_ble_eq_true rfl) dX3_init_7 (fun q_271 H ad_271 en_271 had_271 hen_271 hh => ?_)
  have hh : Hp D A A s.heap H _ (List.range (n + 1)) ad_271 en_271 := hh
  have et_271 : en_271 kc = .inr (3, [.null, .int 0, .int 0, .int 0]) := by rw [hen_271, va_up_ne _ _ (by omega)]; exact et
  have heta_271 : ad_271 kc = (ad kc) := by rw [had_271, va_up_ne _ _ (by omega)]
  have en0_271 : en_271 n = .inl (cy 0, 40, .inl (fun _ => 0)) := by rw [hen_271]; exact va_up_self _ _ _
  have hen0a_271 : ad_271 n = q_271 := by rw [had_271]; exact va_up_self _ _ _
  refine W.widen (k := 1) (n := 40) (Nat.le_refl _) (Nat.le_refl _) ?_
  refine hp_putF hx hb hts ix3 tyX3 tyX3_ok nmX3 hown hK hh (q := kc) heta_271 (List.mem_range.mpr (by omega)) et_271 rfl 0 (by decide) (hts _ tw_229) (fun _ h9 => h9) rfl hin rfl (ty := (.array .int)) (by decide +kernel) rfl rfl (Nat.le_of_ble_eq_true rfl) dX3_init_9 (fun H locs en_272 hen_272 hh => ?_)
  have en0_272 : en_272 n = .inl (cy 0, 40, .inl (fun _ => 0)) := by rw [hen_272, va_up_ne _ _ (by omega)]; exact en0_271
  have et_272 : en_272 kc = .inr (3, [.ref q_271, .int 0, .int 0, .int 0]) := by rw [hen_272]; exact va_up_self _ _ _
  exact hq_vret hx hb hr hlocks hh (⟨(fun i hi => by dsimp only; rw [had_271, va_up_ne _ _ (by omega)]), (fun i hi hne => by dsimp only; rw [hen_272, va_up_ne _ _ (by omega), hen_271, va_up_ne _ _ (by omega)]), (by dsimp only; rw [hen0a_271]; exact et_272), en0_272⟩) dX3_init_12
theorem kw_X3_init {R : Room} {s : State} {args : Array Value} {own : String} {idx : Nat} (hts : ∀ w ∈ TB, w.before args s = true) (hl : va_Nw (.methodLinkNest own idx yX3_init "AnyOrder") s) (hR : 1 + 1 ≤ R.frames ∧ 8 + (1 + 11) + 40 * 1 ≤ R.locals) : va_CN R s args own idx yX3_init "AnyOrder" cX3_init 1 none (Cond.code yX3_init cX3_init 1 none :: TB) (rmC 1 1 40) 1 40 0 ∧ yX3_init.name = "<init>" ∧ (Cond.instanceMethod yX3_init).before args s = true := ⟨va_cnB 0 hts (TB_W tw_227) rfl rfl rfl hl (hts _ tw_8) (by decide +kernel) hR, rfl, hts _ tw_226⟩
set_option maxHeartbeats 8000000 in
set_option maxRecDepth 100000 in
/-- Survey() -/
theorem c_X6_init (l : Launch) (D : va_G) (cy : Nat → ClassId) (sz : Nat) (ad : Nat → Nat) (en : Nat → va_E) (n kc : Nat) (hc : kc < n) (et : en kc = .inr (5, [.null, .null, .null, .int 0, .int 0, .int 0, .long 0, .long 0, .long 0, .long 0])) : Met l yX6_init (Cond.code yX6_init cX6_init 1 none :: TB) (rmC 1 3 24) (va_Pc [.ref (ad kc)] (PreC D cy n ad en sz)) (va_Qv (S := (Nat → Nat) × (Nat → va_E)) (fun u => (∀ i, i < n → u.1 i = ad i) ∧ (∀ i, i < n → i ≠ kc → u.2 i = en i) ∧ u.2 kc = .inr (5, [.ref (u.1 n), .ref (u.1 (n + 1)), .ref (u.1 (n + 2)), .int 0, .int 0, .int 0, .long 0, .long 0, .long 0, .long 0]) ∧ u.2 n = .inl (cy 0, 8, .inl (fun _ => 0)) ∧ u.2 (n + 1) = .inl (cy 0, 8, .inl (fun _ => 0)) ∧ u.2 (n + 2) = .inl (cy 0, 8, .inl (fun _ => 0))) (PostC D (n + 3) (Af (List.range n) ad sz)) (Af (List.range n) ad sz)) 3 24 (Af (List.range n) ad sz) := by
  refine Met.ofW (cc := cX6_init) (maxL := 1) (ret := none) (by decide) rfl ?_
  intro p e s m args below meth c s₁ B hml hv
  obtain ⟨rfl, ⟨hsz, hP, hK, hD0⟩, hX⟩ := hv
  have hx := B.exec
  have hb := B.bytes
  have hr := B.returns
  have hts : ∀ w ∈ TB, w.before _ s = true := fun w h => atoms_spec (ws := _ :: TB) B.pre w (List.mem_cons_of_mem _ h)
  have hown : s.vm.findClass RX6 = some m.cls := findClass_of_methodNamed B.named
  have hlocks := B.notSynchronized
  have hin : meth.name = "<init>" := (name_of_methodNamed B.named B.method).1
  have hh : Hp D (Af (List.range n) ad sz) (Af (List.range n) ad sz) s.heap s.heap [] (List.range n) ad en := ⟨hP, Af_self hD0, va_S.rf⟩
  have hA : ∀ q : Nat, s.heap.size ≤ q → (Af (List.range n) ad sz) q := fun q h => Or.inr (by rw [hsz] at h; exact h)
  generalize (Af (List.range n) ad sz) = A at hh hA ⊢
  have hl := lv_entry ([.ref (ad kc)]) (n := 1) (Nat.le_of_ble_eq_true rfl)
  rw [lg_entry_eq]
  generalize (lg_sl ([.ref (ad kc)]) ++ List.replicate (1 - (lg_sl ([.ref (ad kc)])).length) Slot.unset).toArray = ls at hl ⊢
  have hl : lv_has ls 1 [(0, .ref (ad kc))] := hl
  refine lv_aload_n hx hb dX6_init_0 rfl (lv_at hl 0 rfl) ?_
  refine W.objInit hx hb hown (hts _ tw_78) (hts _ tw_23) (hts _ tw_24) rfl (by rw [hml]; exact hl.1) rfl dX6_init_1 (Nat.le_of_ble_eq_true rfl) (Nat.le_of_ble_eq_true rfl) ?_
  refine W.eq (g2 := F0 m 4 ls []) rfl ?_
  refine lv_aload_n hx hb dX6_init_4 rfl (lv_at hl 0 rfl) ?_
  refine lv_bipush (v := 8) hx hb dX6_init_5 (by decide) ?_
  refine hq_newa (atype := .int) (ty := .int) hx hb (hts _ tw_121) rfl hK hh hA 0 rfl (N' := 8) (a0 := (8, .inl (fun _ => 0))) (fun _ => rfl) (by decide) (by decide) (by decide) (Nat.le_of_ble_eq_true rfl) (Nat.le_of_ble_eq_true rfl) dX6_init_7 (fun q_273 H ad_273 en_273 had_273 hen_273 hh => ?_)
  have hh : Hp D A A s.heap H _ (List.range (n + 1)) ad_273 en_273 := hh
  have et_273 : en_273 kc = .inr (5, [.null, .null, .null, .int 0, .int 0, .int 0, .long 0, .long 0, .long 0, .long 0]) := by rw [hen_273, va_up_ne _ _ (by omega)]; exact et
  have heta_273 : ad_273 kc = (ad kc) := by rw [had_273, va_up_ne _ _ (by omega)]
  have en0_273 : en_273 n = .inl (cy 0, 8, .inl (fun _ => 0)) := by rw [hen_273]; exact va_up_self _ _ _
  have hen0a_273 : ad_273 n = q_273 := by rw [had_273]; exact va_up_self _ _ _
  refine W.widen (k := 1) (n := 8) (Nat.le_refl _) (Nat.le_refl _) ?_
  refine hp_putF hx hb hts ix6 tyX6 tyX6_ok nmX6 hown hK hh (q := kc) heta_273 (List.mem_range.mpr (by omega)) et_273 rfl 0 (by decide) (hts _ tw_79) (fun _ h9 => h9) rfl hin rfl (ty := (.array .int)) (by decide +kernel) rfl rfl (Nat.le_of_ble_eq_true rfl) dX6_init_9 (fun H locs en_274 hen_274 hh => ?_)
  have en0_274 : en_274 n = .inl (cy 0, 8, .inl (fun _ => 0)) := by rw [hen_274, va_up_ne _ _ (by omega)]; exact en0_273
  have et_274 : en_274 kc = .inr (5, [.ref q_273, .null, .null, .int 0, .int 0, .int 0, .long 0, .long 0, .long 0, .long 0]) := by rw [hen_274]; exact va_up_self _ _ _
  refine lv_aload_n hx hb dX6_init_12 rfl (lv_at hl 0 rfl) ?_
  refine lv_bipush (v := 8) hx hb dX6_init_13 (by decide) ?_
  refine hq_newa (atype := .int) (ty := .int) hx hb (hts _ tw_121) rfl hK hh hA 0 rfl (N' := 8) (a0 := (8, .inl (fun _ => 0))) (fun _ => rfl) (by decide) (by decide) (by decide) (Nat.le_of_ble_eq_true rfl) (Nat.le_of_ble_eq_true rfl) dX6_init_15 (fun q_275 H ad_275 en_275 had_275 hen_275 hh => ?_)
  have hh : Hp D A A s.heap H _ (List.range (n + 2)) ad_275 en_275 := hh
  have et_275 : en_275 kc = .inr (5, [.ref q_273, .null, .null, .int 0, .int 0, .int 0, .long 0, .long 0, .long 0, .long 0]) := by rw [hen_275, va_up_ne _ _ (by omega)]; exact et_274
  have heta_275 : ad_275 kc = (ad kc) := by rw [had_275, va_up_ne _ _ (by omega)]; exact heta_273
  have en0_275 : en_275 n = .inl (cy 0, 8, .inl (fun _ => 0)) := by rw [hen_275, va_up_ne _ _ (by omega)]; exact en0_274
  have hen0a_275 : ad_275 n = q_273 := by rw [had_275, va_up_ne _ _ (by omega)]; exact hen0a_273
  have en1_275 : en_275 (n + 1) = .inl (cy 0, 8, .inl (fun _ => 0)) := by rw [hen_275]; exact va_up_self _ _ _
  have hen1a_275 : ad_275 (n + 1) = q_275 := by rw [had_275]; exact va_up_self _ _ _
  refine W.widen (k := 2) (n := 16) (Nat.le_refl _) (Nat.le_refl _) ?_
  refine hp_putF hx hb hts ix6 tyX6 tyX6_ok nmX6 hown hK hh (q := kc) heta_275 (List.mem_range.mpr (by omega)) et_275 rfl 1 (by decide) (hts _ tw_81) (fun _ h9 => h9) rfl hin rfl (ty := (.array .int)) (by decide +kernel) rfl rfl (Nat.le_of_ble_eq_true rfl) dX6_init_17 (fun H locs en_276 hen_276 hh => ?_)
  have en0_276 : en_276 n = .inl (cy 0, 8, .inl (fun _ => 0)) := by rw [hen_276, va_up_ne _ _ (by omega)]; exact en0_275
  have en1_276 : en_276 (n + 1) = .inl (cy 0, 8, .inl (fun _ => 0)) := by rw [hen_276, va_up_ne _ _ (by omega)]; exact en1_275
  have et_276 : en_276 kc = .inr (5, [.ref q_273, .ref q_275, .null, .int 0, .int 0, .int 0, .long 0, .long 0, .long 0, .long 0]) := by rw [hen_276]; exact va_up_self _ _ _
  refine lv_aload_n hx hb dX6_init_20 rfl (lv_at hl 0 rfl) ?_
  refine lv_bipush (v := 8) hx hb dX6_init_21 (by decide) ?_
  refine hq_newa (atype := .int) (ty := .int) hx hb (hts _ tw_121) rfl hK hh hA 0 rfl (N' := 8) (a0 := (8, .inl (fun _ => 0))) (fun _ => rfl) (by decide) (by decide) (by decide) (Nat.le_of_ble_eq_true rfl) (Nat.le_of_ble_eq_true rfl) dX6_init_23 (fun q_277 H ad_277 en_277 had_277 hen_277 hh => ?_)
  have hh : Hp D A A s.heap H _ (List.range (n + 3)) ad_277 en_277 := hh
  have et_277 : en_277 kc = .inr (5, [.ref q_273, .ref q_275, .null, .int 0, .int 0, .int 0, .long 0, .long 0, .long 0, .long 0]) := by rw [hen_277, va_up_ne _ _ (by omega)]; exact et_276
  have heta_277 : ad_277 kc = (ad kc) := by rw [had_277, va_up_ne _ _ (by omega)]; exact heta_275
  have en0_277 : en_277 n = .inl (cy 0, 8, .inl (fun _ => 0)) := by rw [hen_277, va_up_ne _ _ (by omega)]; exact en0_276
  have hen0a_277 : ad_277 n = q_273 := by rw [had_277, va_up_ne _ _ (by omega)]; exact hen0a_275
  have en1_277 : en_277 (n + 1) = .inl (cy 0, 8, .inl (fun _ => 0)) := by rw [hen_277, va_up_ne _ _ (by omega)]; exact en1_276
  have hen1a_277 : ad_277 (n + 1) = q_275 := by rw [had_277, va_up_ne _ _ (by omega)]; exact hen1a_275
  have en2_277 : en_277 (n + 2) = .inl (cy 0, 8, .inl (fun _ => 0)) := by rw [hen_277]; exact va_up_self _ _ _
  have hen2a_277 : ad_277 (n + 2) = q_277 := by rw [had_277]; exact va_up_self _ _ _
  refine W.widen (k := 3) (n := 24) (Nat.le_refl _) (Nat.le_refl _) ?_
  refine hp_putF hx hb hts ix6 tyX6 tyX6_ok nmX6 hown hK hh (q := kc) heta_277 (List.mem_range.mpr (by omega)) et_277 rfl 2 (by decide) (hts _ tw_83) (fun _ h9 => h9) rfl hin rfl (ty := (.array .int)) (by decide +kernel) rfl rfl (Nat.le_of_ble_eq_true rfl) dX6_init_25 (fun H locs en_278 hen_278 hh => ?_)
  have en0_278 : en_278 n = .inl (cy 0, 8, .inl (fun _ => 0)) := by rw [hen_278, va_up_ne _ _ (by omega)]; exact en0_277
  have en1_278 : en_278 (n + 1) = .inl (cy 0, 8, .inl (fun _ => 0)) := by rw [hen_278, va_up_ne _ _ (by omega)]; exact en1_277
  have en2_278 : en_278 (n + 2) = .inl (cy 0, 8, .inl (fun _ => 0)) := by rw [hen_278, va_up_ne _ _ (by omega)]; exact en2_277
  have et_278 : en_278 kc = .inr (5, [.ref q_273, .ref q_275, .ref q_277, .int 0, .int 0, .int 0, .long 0, .long 0, .long 0, .long 0]) := by rw [hen_278]; exact va_up_self _ _ _
  exact hq_vret hx hb hr hlocks hh (⟨(fun i hi => by dsimp only; rw [had_277, va_up_ne _ _ (by omega), had_275, va_up_ne _ _ (by omega), had_273, va_up_ne _ _ (by omega)]), (fun i hi hne => by dsimp only; rw [hen_278, va_up_ne _ _ (by omega), hen_277, va_up_ne _ _ (by omega), hen_276, va_up_ne _ _ (by omega), hen_275, va_up_ne _ _ (by omega), hen_274, va_up_ne _ _ (by omega), hen_273, va_up_ne _ _ (by omega)]), (by dsimp only; rw [hen0a_277, hen1a_277, hen2a_277]; exact et_278), en0_278, en1_278, en2_278⟩) dX6_init_28
theorem kw_X6_init {R : Room} {s : State} {args : Array Value} {own : String} {idx : Nat} (hts : ∀ w ∈ TB, w.before args s = true) (hl : va_Nw (.methodLinkNest own idx yX6_init "AnyOrder") s) (hR : 1 + 1 ≤ R.frames ∧ 8 + (1 + 11) + 40 * 1 ≤ R.locals) : va_CN R s args own idx yX6_init "AnyOrder" cX6_init 1 none (Cond.code yX6_init cX6_init 1 none :: TB) (rmC 1 3 24) 3 24 0 ∧ yX6_init.name = "<init>" ∧ (Cond.instanceMethod yX6_init).before args s = true := ⟨va_cnB 0 hts (TB_W tw_77) rfl rfl rfl hl (hts _ tw_4) (by decide +kernel) hR, rfl, hts _ tw_76⟩
