/-! THE CLAIM OUT OF ONE WALK OF THE LAW'S BODY. Your part is whole_start (and what it stands on); all else here is the same for every law, but numbers. -/
def R_law : String := "AnyOrderLaw"
def lw_P (b : Addr) (xs : List Int32) (args : Array Value) (s : State) : Prop := args = #[.ref b] ∧ s.IntsAt b xs ∧ xs.length ≤ 2560 ∧ (Jvm.Cond.and given_1 narrow_1).before args s = true
def lw_Q (_ : Array Value) (s : State) (o : Outcome) (t : State) : Prop := o = .returned (some (.int 1)) ∧ Framed s o t [] 600000 7302250
def lw_Z (below : List Frame) (a : Array Value) (s : State) : State → Prop := fun t => ∃ o, t.status = .running ∧ Ended t below o ∧ lw_Q a s o t
/-- the law's own end, with 1 on the stack, nothing written that was there before, its room as the claim has it -/
theorem lw_ret {p : Program} {l : Launch} {e : Env} {s : State} {m : MethodId} {below : List Frame} {meth : Method} {c : Code} {b : Nat} (hx : p.tables.exec = Jvm.exec) (hb : c.code = code) (hr : meth.sig.returnType = ret) (hlocks : meth.locks = false) {pc : Nat} {H : Heap} {ls : Array Slot} (hdg : decode code pc = .ok (.ireturn, 1)) : W p l e room_1 s m #[Value.ref b] below meth c H [] 600000 7302250 (lw_Z below #[Value.ref b] s) (F0 m pc ls [.int 1]) := by
  intro T hT X
  obtain ⟨fs, hret, hrun, hended, hW, hframe⟩ := X.leave (v := some (.int 1)) (hlocks := hlocks) (fun h => by rw [hr] at h; cases h)
  have hmeth' : T.vm.method? m = some meth := X.method'
  refine ⟨T.setFrames fs, ?_, .returned (some (.int 1)), hrun, hended, rfl, ⟨_, rfl⟩, hW, hframe⟩
  jvm_step X.here [X.here.top, hx, hb, hdg, hmeth', hr, ret, narrow_b1]
  (try refine ⟨rfl, ?_⟩); (try refine ⟨rfl, ?_⟩)
  first | (intro acts; rw [hret _ acts rfl rfl rfl]) | rw [hret _ _ rfl rfl rfl]
  exact Steps.refl _
/-- what holds at the law's entry: the machine, the code, the tables' words (any of lw_tbl by 'hts w (by decide +kernel)'), the script of L ints xs at the cell b, what the Statement gives of the start (any of its parts by flat_of_before) -/
def lw_At (p : Program) (s : State) (m : MethodId) (meth : Method) (c : Code) (b L : Nat) (xs : Nat → Int32) : Prop :=
  p.tables.exec = Jvm.exec ∧ c.code = code ∧ meth.sig.returnType = ret ∧ c.maxLocals = 4 ∧ s.vm.findClass R_law = some m.cls ∧ (∀ w ∈ lw_tbl, w.before #[Value.ref b] s = true) ∧ va_X b L xs s s.heap ∧ b < s.heap.size ∧ meth.locks = false ∧ (Jvm.Cond.and given_1 narrow_1).before #[Value.ref b] s = true
theorem K_prim {s : State} {args : Array Value} {ty : FieldType} (h : (Cond.arrayClass ty).before args s = true) (hr : ∀ c, s.vm.findClass ("[" ++ ty.toString) = some c → ∀ (k : Class) (comp : ClassId), s.vm.classes[c]? = some k → k.kind = .array comp ty → va_RA s c ty) : ∃ c : ClassId, ArrOfT s c ty ∧ va_RA s c ty := by
  obtain ⟨c, k, comp, h1, h2, h3⟩ := Cond.arrayClass_spec h
  exact ⟨c, fun n z => ⟨(fun q hq => by cases hq), k, h2, comp, h3⟩, hr c h1 k comp h2 h3⟩
theorem K_obj {s : State} {C : String} (h : va_AO C s) : ∃ c : ClassId, ArrOfT s c (.object C) ∧ va_RA s c (.object C) := by
  obtain ⟨comp, c, k, h1, h2, h3, h4, h5⟩ := Cond.arrayOver_spec h
  exact ⟨c, fun n z => ⟨(fun q hq => by cases hq), k, h3, comp, h4⟩, k, comp, h3, h4, h1, h5⟩
theorem K_arr {s : State} {t : FieldType} (h : va_AOA t s) : ∃ c : ClassId, ArrOfT s c (.array t) ∧ va_RA s c (.array t) := by
  obtain ⟨comp, c, k, h1, h2, h3, h4, h5⟩ := aoa_spec h
  exact ⟨c, fun n z => ⟨(fun q hq => by cases hq), k, h3, comp, h4⟩, h5⟩
theorem XW_law {s : State} {args : Array Value} (hts : ∀ w ∈ lw_tbl, w.before args s = true) : XW s :=
  ⟨va_AO.of (hts _ (List.mem_append_right _ (List.mem_of_getElem? (i := 32) (by decide +kernel)))), va_AO.of (hts _ (List.mem_append_right _ (List.mem_of_getElem? (i := 70) (by decide +kernel)))), va_AO.of (hts _ (List.mem_append_right _ (List.mem_of_getElem? (i := 192) (by decide +kernel)))), va_AO.of (hts _ (List.mem_append_right _ (List.mem_of_getElem? (i := 194) (by decide +kernel)))), va_AOA.of (hts _ (List.mem_append_right _ (List.mem_of_getElem? (i := 72) (by decide +kernel)))), va_AOA.of (hts _ (List.mem_append_right _ (List.mem_of_getElem? (i := 34) (by decide +kernel)))), va_Nw.of rfl (hts _ (List.mem_append_right _ (List.mem_of_getElem? (i := 75) (by decide +kernel)))), va_Nw.of rfl (hts _ (List.mem_append_right _ (List.mem_of_getElem? (i := 197) (by decide +kernel)))), va_Nw.of rfl (hts _ (List.mem_append_right _ (List.mem_of_getElem? (i := 207) (by decide +kernel)))), va_Nw.of rfl (hts _ (List.mem_append_right _ (List.mem_of_getElem? (i := 225) (by decide +kernel)))), va_Nw.of rfl (hts _ (List.mem_append_right _ (List.mem_of_getElem? (i := 1265) (by decide +kernel)))), va_Nw.of rfl (hts _ (List.mem_append_right _ (List.mem_of_getElem? (i := 1266) (by decide +kernel))))⟩
theorem K_law {s : State} {args : Array Value} (hts : ∀ w ∈ lw_tbl, w.before args s = true) : ∃ (D : va_G) (cy : Nat → ClassId), va_K D vwCl (tyl cy) s := by
  have hX := XW_law hts
  have ht : ∀ w ∈ TB, w.before args s = true := fun w h => hts w (TB_lw h)
  obtain ⟨c0, i0, k0⟩ := u_known (C := RX0) (T := TX0) (N := 13) (n := 13) ht ix0 (ht _ tw_142)
  obtain ⟨c1, i1, k1⟩ := u_known (C := RX1) (T := TX1) (N := 3) (n := 3) ht ix1 (ht _ tw_392)
  obtain ⟨c2, i2, k2⟩ := u_known (C := RX2) (T := TX2) (N := 6) (n := 6) ht ix2 (ht _ tw_64)
  obtain ⟨c3, i3, k3⟩ := u_known (C := RX3) (T := TX3) (N := 4) (n := 4) ht ix3 (ht _ tw_224)
  obtain ⟨c4, i4, k4⟩ := u_known (C := RX4) (T := TX4) (N := 3) (n := 3) ht ix4 (ht _ tw_365)
  obtain ⟨c5, i5, k5⟩ := u_known (C := RX6) (T := TX6) (N := 10) (n := 10) ht ix6 (ht _ tw_74)
  obtain ⟨c6, i6, k6⟩ := u_known (C := RX7) (T := TX7) (N := 3) (n := 3) ht ix7 (ht _ tw_398)
  obtain ⟨c7, i7, k7⟩ := u_known (C := RX8) (T := TX8) (N := 7) (n := 7) ht ix8 (ht _ tw_26)
  obtain ⟨c8, i8, k8⟩ := u_known (C := RX9) (T := TX9) (N := 1) (n := 1) ht ix9 (ht _ tw_196)
  obtain ⟨c9, i9, k9⟩ := u_known (C := RX10) (T := TX10) (N := 3) (n := 3) ht ix10 (ht _ tw_206)
  obtain ⟨c10, i10, k10⟩ := u_known (C := RX11) (T := TX11) (N := 8) (n := 8) ht ix11 (ht _ tw_18)
  obtain ⟨c11, i11, k11⟩ := u_known (C := RX12) (T := TX12) (N := 33) (n := 33) ht ix12 (ht _ tw_874)
  obtain ⟨y0, a0, b0⟩ := K_prim (ty := .int) (ht _ tw_121) (fun c h _ _ _ _ => h)
  obtain ⟨y1, a1, b1⟩ := K_prim (ty := .long) (ht _ tw_61) (fun c h _ _ _ _ => h)
  obtain ⟨y2, a2, b2⟩ := K_prim (ty := .boolean) (ht _ tw_62) (fun c h _ _ _ _ => h)
  obtain ⟨y3, a3, b3⟩ := K_obj hX.1
  obtain ⟨y4, a4, b4⟩ := K_obj hX.2.1
  obtain ⟨y5, a5, b5⟩ := K_obj hX.2.2.1
  obtain ⟨y6, a6, b6⟩ := K_obj hX.2.2.2.1
  obtain ⟨y7, a7, b7⟩ := K_arr hX.2.2.2.2.1
  obtain ⟨y8, a8, b8⟩ := K_arr hX.2.2.2.2.2.1
  refine ⟨(fun k => [c0, c1, c2, c3, c4, c5, c6, c7, c8, c9, c10, c11].getD k c0, fun k => [i0, i1, i2, i3, i4, i5, i6, i7, i8, i9, i10, i11].getD k i0), fun k => [y0, y1, y2, y3, y4, y5, y6, y7, y8].getD k y0, ?_, ?_⟩
  · intro k q hq
    match k, hq with
    | 0, hq => cases hq; exact k0
    | 1, hq => cases hq; exact k1
    | 2, hq => cases hq; exact k2
    | 3, hq => cases hq; exact k3
    | 4, hq => cases hq; exact k4
    | 5, hq => cases hq; exact k5
    | 6, hq => cases hq; exact k6
    | 7, hq => cases hq; exact k7
    | 8, hq => cases hq; exact k8
    | 9, hq => cases hq; exact k9
    | 10, hq => cases hq; exact k10
    | 11, hq => cases hq; exact k11
    | k + 12, hq => simp [vwCl] at hq
  · intro k q hq
    match k, hq with
    | 0, hq => cases hq; exact ⟨a0, b0⟩
    | 1, hq => cases hq; exact ⟨a1, b1⟩
    | 2, hq => cases hq; exact ⟨a2, b2⟩
    | 3, hq => cases hq; exact ⟨a3, b3⟩
    | 4, hq => cases hq; exact ⟨a4, b4⟩
    | 5, hq => cases hq; exact ⟨a5, b5⟩
    | 6, hq => cases hq; exact ⟨a6, b6⟩
    | 7, hq => cases hq; exact ⟨a7, b7⟩
    | 8, hq => cases hq; exact ⟨a8, b8⟩
    | k + 9, hq => simp [tyl] at hq
/-- the cells of one world, untouched by a call that may write another's -/
theorem wl_kept {D : va_G} {cs cs2 : List Nat} {ad ad2 : Nat → Nat} {en : Nat → va_E} {H H1 : Heap} (hP : va_P D vwCl (wl cs ad en) H) (hdis : ∀ i, i ∈ cs2 → ∀ j, j ∈ cs → ad2 i ≠ ad j) (hk : ∀ q : Nat, q < H.size → ¬ Af cs2 ad2 H.size q → H1[q]? = H[q]?) : va_P D vwCl (wl cs ad en) H1 :=
  hP.kept (fun k q hq => hk q.1 ((hP k q hq).lt) (fun h => by
    obtain ⟨c, -, hc, rfl⟩ := wl_of hq
    rcases h with ⟨i, hi, e⟩ | h
    · exact hdis i hi c hc e
    · exact absurd h (Nat.not_le.mpr ((hP k _ hq).lt))))
theorem wl_keptN {D : va_G} {cs : List Nat} {ad : Nat → Nat} {en : Nat → va_E} {H H1 : Heap} (hP : va_P D vwCl (wl cs ad en) H) (hk : ∀ q : Nat, q < H.size → ¬ Nf H.size q → H1[q]? = H[q]?) : va_P D vwCl (wl cs ad en) H1 :=
  hP.kept (fun k q hq => hk q.1 ((hP k q hq).lt) (Nat.not_le.mpr ((hP k q hq).lt)))
abbrev AL (s : State) : Nat → Prop := fun q => s.heap.size ≤ q
theorem P_left {D : va_G} {w1 w2 : va_W} {H : Heap} (h : va_P D vwCl (w1 ++ w2) H) : va_P D vwCl w1 H := fun k q hk => h k q (by rw [List.getElem?_append_left (List.getElem?_eq_some_iff.mp hk).1]; exact hk)
theorem P_right {D : va_G} {w1 w2 : va_W} {H : Heap} (h : va_P D vwCl (w1 ++ w2) H) : va_P D vwCl w2 H := fun k q hk => h (w1.length + k) q (by rw [List.getElem?_append_right (by omega)]; rw [show w1.length + k - w1.length = k by omega]; exact hk)
theorem D_left {A : Nat → Prop} {w1 w2 : va_W} (h : va_D A (w1 ++ w2)) : va_D A w1 := ⟨fun i j p q hi hj e => h.1 i j p q (by rw [List.getElem?_append_left (List.getElem?_eq_some_iff.mp hi).1]; exact hi) (by rw [List.getElem?_append_left (List.getElem?_eq_some_iff.mp hj).1]; exact hj) e, fun k q hk => h.2 k q (by rw [List.getElem?_append_left (List.getElem?_eq_some_iff.mp hk).1]; exact hk)⟩
theorem D_right {A : Nat → Prop} {w1 w2 : va_W} (h : va_D A (w1 ++ w2)) : va_D A w2 := by
  have sh : ∀ (k : Nat) (q : Nat × va_E), w2[k]? = some q → (w1 ++ w2)[w1.length + k]? = some q := fun k q hk => by rw [List.getElem?_append_right (by omega)]; rw [show w1.length + k - w1.length = k by omega]; exact hk
  exact ⟨fun i j p q hi hj e => by have := h.1 _ _ p q (sh i p hi) (sh j q hj) e; omega, fun k q hk => h.2 _ q (sh k q hk)⟩
theorem D_apart {A : Nat → Prop} {w1 w2 : va_W} (h : va_D A (w1 ++ w2)) {i j : Nat} {p q : Nat × va_E} (hi : w1[i]? = some p) (hj : w2[j]? = some q) : p.1 ≠ q.1 := by
  intro e
  have hl := (List.getElem?_eq_some_iff.mp hi).1
  have := h.1 i (w1.length + j) p q (by rw [List.getElem?_append_left hl]; exact hi) (by rw [List.getElem?_append_right (by omega)]; rw [show w1.length + j - w1.length = j by omega]; exact hj) e
  omega
