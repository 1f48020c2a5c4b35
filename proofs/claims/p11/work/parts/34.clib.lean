/-! new cells: the tables' words of arrays over arrays and of nest mates, and the rows that make cells -/
def va_AOA (ty : FieldType) (U : State) : Prop := (Cond.arrayOver (.array ty)).before #[] U = true
theorem va_AOA.use {ty : FieldType} {A : Array Value} {U : State} (h : va_AOA ty U) : (Cond.arrayOver (.array ty)).before A U = true := h
theorem va_AOA.of {ty : FieldType} {A : Array Value} {U : State} (h : (Cond.arrayOver (.array ty)).before A U = true) : va_AOA ty U := h
theorem aoa_spec {t : FieldType} {U : State} (h : va_AOA t U) : ∃ comp c k, U.vm.findClass (FieldType.array t).toString = some comp ∧ (U.vm.classes.findIdx? fun (x : Class) => match x.kind with | .array component _ => component == comp | _ => false) = some c ∧ U.vm.classes[c]? = some k ∧ k.kind = .array comp (.array t) ∧ U.vm.findClass ("[" ++ (FieldType.array t).toString) = some c := by
  unfold va_AOA Cond.before at h
  simp only [Cond.holds, Cond.value, beq_iff_eq] at h
  cases hc : U.vm.findClass (FieldType.array t).toString with
  | none => simp [hc] at h
  | some comp =>
    simp only [hc, Option.bind_some, Option.bind_eq_some_iff, Option.map_eq_some_iff] at h
    obtain ⟨c, hi, k, hk, hb⟩ := h
    obtain ⟨hlt, hp, -⟩ := Array.findIdx?_eq_some_iff_getElem.mp hi
    have hkk : U.vm.classes[c] = k := (Array.getElem?_eq_some_iff.mp hk).2
    rw [hkk] at hp
    cases hkind : k.kind with
    | array component ty =>
      rw [hkind] at hb hp
      simp at hb hp
      exact ⟨comp, c, k, rfl, hi, hk, by rw [hkind, hp, hb.1], hb.2⟩
    | _ => rw [hkind] at hb; simp at hb
theorem va_AOA.moved {t : FieldType} {u U : State} (hvm : u.vm.Alike U.vm) (h : va_AOA t u) : va_AOA t U := by
  obtain ⟨comp, c, k, h1, h2, h3, h4, h5⟩ := aoa_spec h
  obtain ⟨k', hk', he⟩ := hvm.2.2 _ _ h3
  have hi : (U.vm.classes.findIdx? fun (x : Class) => match x.kind with | .array component _ => component == comp | _ => false) = some c := by
    have e1 := va_idx_bare U.vm comp
    have e2 := va_idx_bare u.vm comp
    have hb : U.vm.bare = u.vm.bare := by first | exact hvm.bare_eq | exact hvm.bare_eq.symm
    rw [hb] at e1
    exact (e1.symm.trans e2).trans h2
  have hkind : k'.kind = .array comp (.array t) := by rw [he]; exact h4
  have f1 : U.vm.findClass (FieldType.array t).toString = some comp := by rw [hvm.findClass]; exact h1
  have f2 : U.vm.findClass ("[" ++ (FieldType.array t).toString) = some c := by rw [hvm.findClass]; exact h5
  unfold va_AOA Cond.before Cond.holds
  simp only [Cond.value]
  rw [f1, Option.bind_some]
  refine (congrArg (fun o : Option Nat => (o.bind (fun c => (U.vm.classes[c]?).map fun (k : Class) => match k.kind with | .array _ ty => decide (ty = FieldType.array t) && decide (U.vm.findClass ("[" ++ (FieldType.array t).toString) = some c) | _ => false) == some true)) hi).trans ?_
  simp [hk', hkind, f2]
/-- what the makers of cells need of the tables beside the words: arrays over classes and arrays, the private constructors of nest mates -/
def XW (U : State) : Prop := va_AO "AnyOrder$Table" U ∧ va_AO "AnyOrder$Survey" U ∧ va_AO "AnyOrder$Word" U ∧ va_AO "AnyOrder$Sheet" U ∧ va_AOA .int U ∧ va_AOA .long U ∧ va_Nw (.methodLinkNest "AnyOrder$Lengths" 35 ⟨"AnyOrder$Survey", "<init>", "()V"⟩ "AnyOrder") U ∧ va_Nw (.methodLinkNest "AnyOrder" 48 ⟨"AnyOrder$Trail", "<init>", "()V"⟩ "AnyOrder") U ∧ va_Nw (.methodLinkNest "AnyOrder" 53 ⟨"AnyOrder$Word", "<init>", "()V"⟩ "AnyOrder") U ∧ va_Nw (.methodLinkNest "AnyOrder" 54 ⟨"AnyOrder$Sheet", "<init>", "()V"⟩ "AnyOrder") U ∧ va_Nw (.castable "AnyOrder$ShuffleTable" "AnyOrder$Table") U ∧ va_Nw (.castable "AnyOrder$EvenTable" "AnyOrder$Table") U
theorem XW_warm {s U : State} (hW : s.WarmedH U.vm) (h : XW s) : XW U := by
  obtain ⟨h1, h2, h3, h4, h5, h6, h7, h8, h9, h10, h11, h12⟩ := h
  exact ⟨h1.moved hW.alike, h2.moved hW.alike, h3.moved hW.alike, h4.moved hW.alike, h5.moved hW.alike, h6.moved hW.alike, h7.warmM hW, h8.warmM hW, h9.warmM hW, h10.warmM hW, h11.warmC hW, h12.warmC hW⟩
theorem XW_same {u U : State} (h0 : u.vm = U.vm) (h : XW u) : XW U := by
  obtain ⟨h1, h2, h3, h4, h5, h6, h7, h8, h9, h10, h11, h12⟩ := h
  have al : u.vm.Alike U.vm := by rw [h0]; exact Vm.Alike.refl _
  exact ⟨h1.moved al, h2.moved al, h3.moved al, h4.moved al, h5.moved al, h6.moved al, va_tabs rfl h0 h7, va_tabs rfl h0 h8, va_tabs rfl h0 h9, va_tabs rfl h0 h10, va_tabs rfl h0 h11, va_tabs rfl h0 h12⟩
def PreC (D : va_G) (cy : Nat → ClassId) (n : Nat) (ad : Nat → Nat) (en : Nat → va_E) (sz : Nat) (U : State) : Prop := Pre D cy (List.range n) ad en sz U ∧ XW U
def PostC (D : va_G) (n : Nat) (A : Nat → Prop) : ((Nat → Nat) × (Nat → va_E)) → State → Prop := fun u t => va_P D vwCl (wl (List.range n) u.1 u.2) t.heap ∧ va_D A (wl (List.range n) u.1 u.2)
abbrev rmC (d cl sl : Nat) : Room := { frames := d, cells := cl, slots := sl, locals := 40 * d }
theorem RA_inj {s : State} {c c' : ClassId} {ty : FieldType} (h : va_RA s c ty) (h' : va_RA s c' ty) : c = c' := by
  cases ty with
  | object C =>
    obtain ⟨_, _, _, _, _, h4⟩ := h
    obtain ⟨_, _, _, _, _, h4'⟩ := h'
    exact Option.some.inj (h4.symm.trans h4')
  | _ => exact Option.some.inj (Eq.trans (Eq.symm h) h')
theorem wl_push (n : Nat) (ad : Nat → Nat) (en : Nat → va_E) (q : Nat) (x : va_E) : wl (List.range (n + 1)) (va_up ad n q) (va_up en n x) = wl (List.range n) ad en ++ [(q, x)] := by
  unfold wl
  rw [List.range_succ, List.map_append]
  congr 1
  · apply List.map_congr_left
    intro c hc
    have : c ≠ n := Nat.ne_of_lt (List.mem_range.mp hc)
    rw [va_up_ne _ _ this, va_up_ne _ _ this]
  · simp [va_up]
section CLB
variable {p : Program} {l : Launch} {e : Env} {R : Room} {s : State} {m : MethodId} {args : Array Value} {below : List Frame} {meth : Method} {c : Code} {H : Heap} {locs : List Loc} {cells slots : Nat} {Q : State → Prop}
variable {cc : ByteArray} {pc : Nat} {ls : Array Slot} {rest : List Value} {D : va_G} {A B : Nat → Prop} {cy : Nat → ClassId} {H0 : Heap} {n : Nat} {ad : Nat → Nat} {en : Nat → va_E}
theorem preC_fb {sz : Nat} {av : List Value} : FrameBlind (va_Pc av (PreC D cy n ad en sz)) := fun a U g mk q => by
  obtain ⟨q0, ⟨q1, qP, qK, qD⟩, qx⟩ := q
  exact ⟨q0, ⟨q1, qP, va_K.moved (u := U) (U := U.calling g mk a) (Vm.Alike.refl U.vm) qK, qD⟩, XW_same (u := U) rfl qx⟩
theorem preC_of {As : List Value} (hh : Hp D A B H0 H locs (List.range n) ad en) (hK : va_K D vwCl (tyl cy) s) (hX : XW s) : PreS s H (va_Pc As (PreC D cy n ad en H.size)) As :=
  ⟨preC_fb, fun U hU hW => ⟨rfl, ⟨by rw [hU], by rw [hU]; exact hh.1, va_K.moved hW.alike hK, hh.2.1.weaken (fun _ _ _ _ => trivial)⟩, XW_warm hW hX⟩⟩
theorem hq_new (hx : p.tables.exec = Jvm.exec) (hb : c.code = cc) (hts : ∀ w ∈ TB, w.before args s = true) {own C : String} {T : u_T} {N ci index : Nat} (hin : ∀ w ∈ u_ws C T N, w ∈ TB) (ty : Nat → FieldType) (hty : ∀ k, k < N → parseFieldDescriptor (T k).2.2.1 = some (ty k)) (hown : s.vm.findClass own = some m.cls) (hcl : (Cond.classLink own index C).before args s = true) (hinst : (Cond.instantiable C N).before args s = true) (hini : (Cond.initialized C).before args s = true)
    (hK : va_K D vwCl (tyl cy) s) (hh : Hp D A A H0 H locs (List.range n) ad en) (hA : ∀ q, H0.size ≤ q → A q) (hc : vwCl[ci]? = some (C, T, N)) {fs : List Value} (hfs : ∀ j, j < N → defaultValue (ty j) = vp_V fs j) (hcells : cells + 1 ≤ R.cells) (hslots : slots + N ≤ R.slots) (hdg : decode cc pc = .ok (.new index, 3))
    (kk : ∀ (q : Nat) (H1 : Heap) (ad1 : Nat → Nat) (en1 : Nat → va_E), ad1 = va_up ad n q → en1 = va_up en n (.inr (ci, fs)) → Hp D A A H0 H1 locs (List.range (n + 1)) ad1 en1 → W p l e R s m args below meth c H1 locs (cells + 1) (slots + N) Q (F0 m (pc + 3) ls (.ref q :: rest))) : W p l e R s m args below meth c H locs cells slots Q (F0 m pc ls rest) :=
  va_new hx hb hts hin ty hty hown hcl hinst hini hK hh.1 hh.2.1 hh.2.2 hA hc hfs hcells hslots hdg (fun q H1 hP hD hS => kk q H1 _ _ rfl rfl ⟨by rw [wl_push]; exact hP, by rw [wl_push]; exact hD, hS⟩)
theorem hq_newa (hx : p.tables.exec = Jvm.exec) (hb : c.code = cc) {atype : ArrayType} (harr : (Cond.arrayClass (newarray.typeOf atype)).before args s = true) {ty : FieldType} (hty : newarray.typeOf atype = ty) (hK : va_K D vwCl (tyl cy) s) (hh : Hp D A A H0 H locs (List.range n) ad en) (hA : ∀ q, H0.size ≤ q → A q)
    (t0 : Nat) (ht : (tyl cy)[t0]? = some (cy t0, ty)) {k : Int32} {N' : Nat} {a0 : vp_A} (ha : ∀ cA : ClassId, vp_cell cA a0 = arrV cA N' (fun _ => defaultValue ty)) (hn : ¬ k < 0) (hN : k.toNatClampNeg = N') (hbytes : N' * componentBytes ty ≤ 536870912) (hcells : cells + 1 ≤ R.cells) (hslots : slots + N' ≤ R.slots) (hdg : decode cc pc = .ok (.newarray atype, 2))
    (kk : ∀ (q : Nat) (H1 : Heap) (ad1 : Nat → Nat) (en1 : Nat → va_E), ad1 = va_up ad n q → en1 = va_up en n (.inl (cy t0, a0)) → Hp D A A H0 H1 locs (List.range (n + 1)) ad1 en1 → W p l e R s m args below meth c H1 locs (cells + 1) (slots + N') Q (F0 m (pc + 2) ls (.ref q :: rest))) : W p l e R s m args below meth c H locs cells slots Q (F0 m pc ls (.int k :: rest)) :=
  va_newa hx hb harr hty hK hh.1 hh.2.1 hh.2.2 hA ha hn hN hbytes hcells hslots hdg (fun q cA H1 hK2 hP hD hS => by
    have e : cA = cy t0 := RA_inj (hK2.2 (tyl cy).length (cA, ty) (by rw [List.getElem?_append_right (Nat.le_refl _)]; simp)).2 (hK.2 t0 _ ht).2
    subst e
    exact kk q H1 _ _ rfl rfl ⟨by rw [wl_push]; exact hP, by rw [wl_push]; exact hD, hS⟩)
theorem hq_newq (hx : p.tables.exec = Jvm.exec) (hb : c.code = cc) {own C : String} {index : Nat} (hown : s.vm.findClass own = some m.cls) (hclink : (Cond.classLink own index C).before args s = true) (hover : va_AO C s) (hK : va_K D vwCl (tyl cy) s) (hh : Hp D A A H0 H locs (List.range n) ad en) (hA : ∀ q, H0.size ≤ q → A q)
    (t0 : Nat) (ht : (tyl cy)[t0]? = some (cy t0, .object C)) {k : Int32} {N' : Nat} (hn : ¬ k < 0) (hN : k.toNatClampNeg = N') (hbytes : N' * 4 ≤ 536870912) (hcells : cells + 1 ≤ R.cells) (hslots : slots + N' ≤ R.slots) (hdg : decode cc pc = .ok (.anewarray index, 3))
    (kk : ∀ (q : Nat) (H1 : Heap) (ad1 : Nat → Nat) (en1 : Nat → va_E), ad1 = va_up ad n q → en1 = va_up en n (.inl (cy t0, N', .inr (.inr (.inr (.inr (fun _ => none)))))) → Hp D A A H0 H1 locs (List.range (n + 1)) ad1 en1 → W p l e R s m args below meth c H1 locs (cells + 1) (slots + N') Q (F0 m (pc + 3) ls (.ref q :: rest))) : W p l e R s m args below meth c H locs cells slots Q (F0 m pc ls (.int k :: rest)) :=
  va_newq hx hb hown hclink hover hK hh.1 hh.2.1 hh.2.2 hA hn hN hbytes hcells hslots hdg (fun q cA H1 hK2 hP hD hS => by
    have e : cA = cy t0 := RA_inj (hK2.2 (tyl cy).length (cA, .object C) (by rw [List.getElem?_append_right (Nat.le_refl _)]; simp)).2 (hK.2 t0 _ ht).2
    subst e
    exact kk q H1 _ _ rfl rfl ⟨by rw [wl_push]; exact hP, by rw [wl_push]; exact hD, hS⟩)
theorem hq_callC {n' mc ms : Nat} {post : ((Nat → Nat) × (Nat → va_E)) → Prop} {st0 : List Value} {av : Array Value} (hr : va_Run p l e R s m args below meth c H locs cells slots mc ms (F0 m pc ls st0) rest (va_Qv post (PostC D n' (Af (List.range n) ad H.size)) (Af (List.range n) ad H.size) av) (Af (List.range n) ad H.size)) (hh : Hp D A A H0 H locs (List.range n) ad en) (hA : ∀ q, H0.size ≤ q → A q)
    (kk : ∀ (H1 : Heap) (locs1 : List Loc) (ad1 : Nat → Nat) (en1 : Nat → va_E), post (ad1, en1) → Hp D A A H0 H1 locs1 (List.range n') ad1 en1 → W p l e R s m args below meth c H1 locs1 (cells + mc) (slots + ms) Q (F0 m (pc + 3) ls rest)) : W p l e R s m args below meth c H locs cells slots Q (F0 m pc ls st0) := by
  refine va_callv hr hh.2.2 (fun q _ h => Af_in hh hA q h) (Af_in hh hA) (fun u t H1 locs1 ht hvm hw hB hz hk hS => ?_)
  exact kk H1 locs1 u.1 u.2 hw ⟨by rw [← ht]; exact hB.1, hB.2.weaken (fun _ _ _ h => Af_in hh hA _ h), hS⟩
theorem hq_vret {n' : Nat} {post : ((Nat → Nat) × (Nat → va_E)) → Prop} {F : Nat → Prop} (hx : p.tables.exec = Jvm.exec) (hb : c.code = cc) (hr : meth.sig.returnType = none) (hlocks : meth.locks = false) (hh : Hp D F F s.heap H locs (List.range n') ad en) (hpost : post (ad, en)) (hdg : decode cc pc = .ok (.return_, 1)) : W p l e R s m args below meth c H locs cells slots (MQ below (va_Qv post (PostC D n' F) F) args s cells slots F) (F0 m pc ls []) :=
  W.vret hx hb hr (fun t ht hW => ⟨⟨(ad, en), rfl, hpost, by rw [ht]; exact hh.1, hh.2.1⟩, hh.2.2.F ht⟩) hh.2.2.2.2 hdg hlocks
end CLB
