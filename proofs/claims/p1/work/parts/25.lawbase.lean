/-! THE CLAIM OUT OF ONE WALK OF THE LAW'S BODY. Your part is whole_start (and what it stands on); all else here is the same for every law, but numbers. -/
def R_law : String := "AnyOrderLaw"
def lw_P (b : Addr) (xs : List Int32) (args : Array Value) (s : State) : Prop := args = #[.ref b] ∧ s.IntsAt b xs ∧ xs.length ≤ 5 ∧ (Jvm.Cond.and given_1 narrow_1).before args s = true
def lw_Q (_ : Array Value) (s : State) (o : Outcome) (t : State) : Prop := o = .returned (some (.int 1)) ∧ Framed s o t [] 600000 7302250
def lw_Z (below : List Frame) (a : Array Value) (s : State) : State → Prop := fun t => ∃ o, t.status = .running ∧ Ended t below o ∧ lw_Q a s o t
/-- the law's own end, with 1 on the stack, nothing written that was there before, its room as the claim has it -/
theorem lw_ret {p : Program} {l : Launch} {e : Env} {s : State} {m : MethodId} {below : List Frame} {meth : Method} {c : Code} {b : Nat} (hx : p.tables.exec = Jvm.exec) (hb : c.code = code) (hr : meth.sig.returnType = ret) (hlocks : meth.locks = false) {pc : Nat} {H : Heap} {ls : Array Slot} (hdg : decode code pc = .ok (.ireturn, 1)) : W p l e room_1 s m #[Value.ref b] below meth c H [] 600000 7302250 (lw_Z below #[Value.ref b] s) (F0 m pc ls [.int 1]) := by
  intro T hT X
  obtain ⟨fs, hret, hrun, hended, hW, hframe⟩ := X.leave (v := some (.int 1)) (hlocks := hlocks) (fun h => by rw [hr] at h; cases h)
  have hmeth' : T.vm.method? m = some meth := X.method'
  refine ⟨T.setFrames fs, ?_, .returned (some (.int 1)), hrun, hended, rfl, ⟨_, rfl⟩, hW, hframe⟩
  jvm_step X.here [X.here.top, hx, hb, hdg, hmeth', hr, ret, narrow_b1]
  (try refine ⟨rfl, ?_⟩); (try refine ⟨rfl, ?_⟩)
  first | (intro acts; rw [hret _ acts rfl rfl rfl]) | rw [hret _ _ rfl rfl rfl]
  exact Steps.refl _
/-- what holds at the law's entry: the machine, the code, the tables' words (any of lw_tbl by 'hts w (by decide +kernel)'), the script of L ints xs at the cell b, what the Statement gives of the start (any of its parts by flat_of_before) -/
def lw_At (p : Program) (s : State) (m : MethodId) (meth : Method) (c : Code) (b L : Nat) (xs : Nat → Int32) : Prop :=
  p.tables.exec = Jvm.exec ∧ c.code = code ∧ meth.sig.returnType = ret ∧ c.maxLocals = 4 ∧ s.vm.findClass R_law = some m.cls ∧ (∀ w ∈ lw_tbl, w.before #[Value.ref b] s = true) ∧ va_X b L xs s s.heap ∧ b < s.heap.size ∧ meth.locks = false ∧ (Jvm.Cond.and given_1 narrow_1).before #[Value.ref b] s = true
theorem K_prim {s : State} {args : Array Value} {ty : FieldType} (h : (Cond.arrayClass ty).before args s = true) (hr : ∀ c, s.vm.findClass ("[" ++ ty.toString) = some c → ∀ (k : Class) (comp : ClassId), s.vm.classes[c]? = some k → k.kind = .array comp ty → va_RA s c ty) : ∃ c : ClassId, ArrOfT s c ty ∧ va_RA s c ty := by
  obtain ⟨c, k, comp, h1, h2, h3⟩ := Cond.arrayClass_spec h
  exact ⟨c, fun n z => ⟨(fun q hq => by cases hq), k, h2, comp, h3⟩, hr c h1 k comp h2 h3⟩
theorem K_obj {s : State} {C : String} (h : va_AO C s) : ∃ c : ClassId, ArrOfT s c (.object C) ∧ va_RA s c (.object C) := by
  obtain ⟨comp, c, k, h1, h2, h3, h4, h5⟩ := Cond.arrayOver_spec h
  exact ⟨c, fun n z => ⟨(fun q hq => by cases hq), k, h3, comp, h4⟩, k, comp, h3, h4, h1, h5⟩
theorem K_arr {s : State} {t : FieldType} (h : va_AOA t s) : ∃ c : ClassId, ArrOfT s c (.array t) ∧ va_RA s c (.array t) := by
  obtain ⟨comp, c, k, h1, h2, h3, h4, h5⟩ := aoa_spec h
  exact ⟨c, fun n z => ⟨(fun q hq => by cases hq), k, h3, comp, h4⟩, h5⟩
theorem XW_law {s : State} {args : Array Value} (hts : ∀ w ∈ lw_tbl, w.before args s = true) : XW s :=
  ⟨va_AO.of (hts _ (List.mem_append_right _ (List.mem_of_getElem? (i := 32) (by decide +kernel)))), va_AO.of (hts _ (List.mem_append_right _ (List.mem_of_getElem? (i := 70) (by decide +kernel)))), va_AO.of (hts _ (List.mem_append_right _ (List.mem_of_getElem? (i := 192) (by decide +kernel)))), va_AO.of (hts _ (List.mem_append_right _ (List.mem_of_getElem? (i := 194) (by decide +kernel)))), va_AOA.of (hts _ (List.mem_append_right _ (List.mem_of_getElem? (i := 72) (by decide +kernel)))), va_AOA.of (hts _ (List.mem_append_right _ (List.mem_of_getElem? (i := 34) (by decide +kernel)))), va_Nw.of rfl (hts _ (List.mem_append_right _ (List.mem_of_getElem? (i := 75) (by decide +kernel)))), va_Nw.of rfl (hts _ (List.mem_append_right _ (List.mem_of_getElem? (i := 197) (by decide +kernel)))), va_Nw.of rfl (hts _ (List.mem_append_right _ (List.mem_of_getElem? (i := 207) (by decide +kernel)))), va_Nw.of rfl (hts _ (List.mem_append_right _ (List.mem_of_getElem? (i := 225) (by decide +kernel))))⟩
theorem K_law {s : State} {args : Array Value} (hts : ∀ w ∈ lw_tbl, w.before args s = true) : ∃ (D : va_G) (cy : Nat → ClassId), va_K D vwCl (tyl cy) s := by
  have hX := XW_law hts
  have ht : ∀ w ∈ TB, w.before args s = true := fun w h => hts w (TB_lw h)
  obtain ⟨c0, i0, k0⟩ := u_known (C := RX0) (T := TX0) (N := 13) (n := 13) ht ix0 (ht _ tw_142)
  obtain ⟨c1, i1, k1⟩ := u_known (C := RX1) (T := TX1) (N := 3) (n := 3) ht ix1 (ht _ tw_392)
  obtain ⟨c2, i2, k2⟩ := u_known (C := RX2) (T := TX2) (N := 6) (n := 6) ht ix2 (ht _ tw_64)
  obtain ⟨c3, i3, k3⟩ := u_known (C := RX3) (T := TX3) (N := 4) (n := 4) ht ix3 (ht _ tw_224)
  obtain ⟨c4, i4, k4⟩ := u_known (C := RX4) (T := TX4) (N := 3) (n := 3) ht ix4 (ht _ tw_365)
  obtain ⟨c5, i5, k5⟩ := u_known (C := RX6) (T := TX6) (N := 10) (n := 10) ht ix6 (ht _ tw_74)
  obtain ⟨c6, i6, k6⟩ := u_known (C := RX7) (T := TX7) (N := 3) (n := 3) ht ix7 (ht _ tw_398)
  obtain ⟨c7, i7, k7⟩ := u_known (C := RX8) (T := TX8) (N := 7) (n := 7) ht ix8 (ht _ tw_26)
  obtain ⟨c8, i8, k8⟩ := u_known (C := RX9) (T := TX9) (N := 1) (n := 1) ht ix9 (ht _ tw_196)
  obtain ⟨c9, i9, k9⟩ := u_known (C := RX10) (T := TX10) (N := 3) (n := 3) ht ix10 (ht _ tw_206)
  obtain ⟨c10, i10, k10⟩ := u_known (C := RX11) (T := TX11) (N := 8) (n := 8) ht ix11 (ht _ tw_18)
  obtain ⟨c11, i11, k11⟩ := u_known (C := RX12) (T := TX12) (N := 33) (n := 33) ht ix12 (ht _ tw_874)
  obtain ⟨y0, a0, b0⟩ := K_prim (ty := .int) (ht _ tw_121) (fun c h _ _ _ _ => h)
  obtain ⟨y1, a1, b1⟩ := K_prim (ty := .long) (ht _ tw_61) (fun c h _ _ _ _ => h)
  obtain ⟨y2, a2, b2⟩ := K_prim (ty := .boolean) (ht _ tw_62) (fun c h _ _ _ _ => h)
  obtain ⟨y3, a3, b3⟩ := K_obj hX.1
  obtain ⟨y4, a4, b4⟩ := K_obj hX.2.1
  obtain ⟨y5, a5, b5⟩ := K_obj hX.2.2.1
  obtain ⟨y6, a6, b6⟩ := K_obj hX.2.2.2.1
  obtain ⟨y7, a7, b7⟩ := K_arr hX.2.2.2.2.1
  obtain ⟨y8, a8, b8⟩ := K_arr hX.2.2.2.2.2.1
  refine ⟨(fun k => [c0, c1, c2, c3, c4, c5, c6, c7, c8, c9, c10, c11].getD k c0, fun k => [i0, i1, i2, i3, i4, i5, i6, i7, i8, i9, i10, i11].getD k i0), fun k => [y0, y1, y2, y3, y4, y5, y6, y7, y8].getD k y0, ?_, ?_⟩
  · intro k q hq
    match k, hq with
    | 0, hq => cases hq; exact k0
    | 1, hq => cases hq; exact k1
    | 2, hq => cases hq; exact k2
    | 3, hq => cases hq; exact k3
    | 4, hq => cases hq; exact k4
    | 5, hq => cases hq; exact k5
    | 6, hq => cases hq; exact k6
    | 7, hq => cases hq; exact k7
    | 8, hq => cases hq; exact k8
    | 9, hq => cases hq; exact k9
    | 10, hq => cases hq; exact k10
    | 11, hq => cases hq; exact k11
    | k + 12, hq => simp [vwCl] at hq
  · intro k q hq
    match k, hq with
    | 0, hq => cases hq; exact ⟨a0, b0⟩
    | 1, hq => cases hq; exact ⟨a1, b1⟩
    | 2, hq => cases hq; exact ⟨a2, b2⟩
    | 3, hq => cases hq; exact ⟨a3, b3⟩
    | 4, hq => cases hq; exact ⟨a4, b4⟩
    | 5, hq => cases hq; exact ⟨a5, b5⟩
    | 6, hq => cases hq; exact ⟨a6, b6⟩
    | 7, hq => cases hq; exact ⟨a7, b7⟩
    | 8, hq => cases hq; exact ⟨a8, b8⟩
    | k + 9, hq => simp [tyl] at hq
/-- the cells of one world, untouched by a call that may write another's -/
theorem wl_kept {D : va_G} {cs cs2 : List Nat} {ad ad2 : Nat → Nat} {en : Nat → va_E} {H H1 : Heap} (hP : va_P D vwCl (wl cs ad en) H) (hdis : ∀ i, i ∈ cs2 → ∀ j, j ∈ cs → ad2 i ≠ ad j) (hk : ∀ q : Nat, q < H.size → ¬ Af cs2 ad2 H.size q → H1[q]? = H[q]?) : va_P D vwCl (wl cs ad en) H1 :=
  hP.kept (fun k q hq => hk q.1 ((hP k q hq).lt) (fun h => by
    obtain ⟨c, -, hc, rfl⟩ := wl_of hq
    rcases h with ⟨i, hi, e⟩ | h
    · exact hdis i hi c hc e
    · exact absurd h (Nat.not_le.mpr ((hP k _ hq).lt))))
theorem wl_keptN {D : va_G} {cs : List Nat} {ad : Nat → Nat} {en : Nat → va_E} {H H1 : Heap} (hP : va_P D vwCl (wl cs ad en) H) (hk : ∀ q : Nat, q < H.size → ¬ Nf H.size q → H1[q]? = H[q]?) : va_P D vwCl (wl cs ad en) H1 :=
  hP.kept (fun k q hq => hk q.1 ((hP k q hq).lt) (Nat.not_le.mpr ((hP k q hq).lt)))
abbrev AL (s : State) : Nat → Prop := fun q => s.heap.size ≤ q
def FX (cy : Nat → ClassId) (a : Nat → Nat) (e : Nat → va_E) : Prop := e 0 = .inr (10, [.ref (a 1), .ref (a 12), .ref (a 70), .ref (a 74), .ref (a 75), .ref (a 76), .int 0, .int 0]) ∧ e 1 = .inr (7, [.ref (a 2), .ref (a 3), .ref (a 10), .ref (a 11), .int 0, .int 2, .int 0]) ∧ (∃ f : Nat → Int32, e 10 = .inl (cy 2, 36, .inl f)) ∧ e 12 = .inr (2, [.ref (a 1), .ref (a 13), .ref (a 14), .ref (a 24), .ref (a 33), .int 0]) ∧ e 13 = .inl (cy 4, 9, .inr (.inr (.inr (.inr (fun j => some (a (34 + 4 * j))))))) ∧ e 14 = .inl (cy 7, 9, .inr (.inr (.inr (.inr (fun j => some (a (15 + j))))))) ∧ e 16 = .inl (cy 0, 6, .inl (fun _ => 0)) ∧ (∀ j, j < 9 → e (34 + 4 * j) = .inr (5, [.ref (a (35 + 4 * j)), .ref (a (36 + 4 * j)), .ref (a (37 + 4 * j)), .int 0, .int 0, .int 0, .long 0, .long 0, .long 0, .long 0])) ∧ e 70 = .inr (0, [.ref (a 1), .ref (a 71), .ref (a 72), .ref (a 73), .null, .null, .null, .int 0, .int 0, .int 0, .int 0, .int 0, .int 0]) ∧ e 75 = .inl (cy 6, 4, .inr (.inr (.inr (.inr (fun j => some (a (107 + 2 * j))))))) ∧ (∀ j, j < 4 → e (107 + 2 * j) = .inr (3, [.ref (a (108 + 2 * j)), .int 0, .int 0, .int 0])) ∧ (∀ j, j < 4 → e (108 + 2 * j) = .inl (cy 0, 40, .inl (fun _ => 0))) ∧ e 76 = .inr (8, [.int 0])
def FMo (cy : Nat → ClassId) (a : Nat → Nat) (e : Nat → va_E) : Prop := e 0 = .inr (11, [.int 0, .int 0, .int 2, .int 0, .int 0, .ref (a 1), .ref (a 2), .ref (a 3), .ref (a 4), .ref (a 5), .ref (a 6), .ref (a 7), .ref (a 8), .ref (a 9), .int 0, .long 0, .long 0, .long 0, .long 0, .ref (a 10), .ref (a 11), .ref (a 12), .int 0, .long 0, .ref (a 13), .int (-9), .ref (a 14), .ref (a 15), .ref (a 16), .ref (a 17), .int 0, .ref (a 18), .ref (a 19)]) ∧ e 2 = .inl (cy 2, 36, .inl (fun _ => 0)) ∧ (∃ g : Nat → Int32, e 3 = .inl (cy 0, 4, .inl g) ∧ ∀ j, j < 4 → g j = -9) ∧ e 4 = .inl (cy 0, 4, .inl (fun _ => 0)) ∧ e 5 = .inl (cy 0, 160, .inl (fun _ => 0)) ∧ e 6 = .inl (cy 1, 117, .inr (.inl (fun _ => 0))) ∧ e 7 = .inl (cy 0, 13, .inl (fun _ => 0))
set_option maxHeartbeats 4000000 in
set_option maxRecDepth 100000 in
/-- behind a call that was compared: the next turn, which is the end -/
theorem law_end {p : Program} {l : Launch} {e : Env} {s : State} {m : MethodId} {below : List Frame} {meth : Method} {c : Code} {b : Nat} {xs : Nat → Int32} (C0 : lw_At p s m meth c b 5 xs) {H : Heap} {locs : List Loc} {ls : Array Slot} {x y : Nat} (hS : va_S (AL s) s.heap H locs) (hl : lv_has ls 4 [(3, .int 0), (2, .ref y), (1, .ref x), (0, .ref b)]) : W p l e room_1 s m #[Value.ref b] below meth c H locs 135 27787 (lw_Z below #[Value.ref b] s) (F0 m 1171 ls []) := by
  obtain ⟨hx, hb, hr, hml, hown, hts, hX, hbl, hlocks, hgv⟩ := C0
  have hbA : ¬ (AL s) b := Nat.not_le.mpr hbl
  refine lv_iinc (v := 5) (lv' := [(3, .int 5), (2, .ref y), (1, .ref x), (0, .ref b)]) hx hb dL_law_1171 hl (k := 0) rfl (by decide) (by decide) rfl (fun ls hl => ?_)
  refine lv_goto (tgt := 18) hx hb dL_law_1174 (by decide) ?_
  refine lv_iload_n hx hb dL_law_18 rfl (lv_at hl 0 rfl) ?_
  refine lv_aload_n hx hb dL_law_19 rfl (lv_at hl 3 rfl) ?_
  refine va_slen hx hb hX hbl hbA hS dL_law_20 ?_
  refine lv_iconst (v := 5) hx hb dL_law_21 (by decide) ?_
  refine lv_isub hx hb dL_law_22 ?_
  refine lv_icmp_gt (tgt := 1177) hx hb dL_law_23 (by decide) (fun _ => ?_) (fun c_0 => absurd (by decide) c_0)
  refine lv_iconst (v := 1) hx hb dL_law_1177 (by decide) ?_
  refine va_forget (fun q hq => hS.2.2 q hq) ?_
  refine W.widen (k := 600000) (n := 7302250) (by decide) (by decide) ?_
  exact lw_ret hx hb hr hlocks dL_law_1178
