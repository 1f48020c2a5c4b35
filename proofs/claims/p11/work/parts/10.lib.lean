/-! the heap of a system by cell numbers: cell c lies at ad c and holds en c -/
def wl (cs : List Nat) (ad : Nat → Nat) (en : Nat → va_E) : va_W := cs.map (fun c => (ad c, en c))
theorem wl_get {cs : List Nat} {ad : Nat → Nat} {en : Nat → va_E} {c : Nat} (h : c ∈ cs) : ∃ k : Nat, (wl cs ad en)[k]? = some (ad c, en c) ∧ cs[k]? = some c := by
  obtain ⟨k, hk⟩ := List.getElem?_of_mem h
  exact ⟨k, by unfold wl; rw [List.getElem?_map, hk]; rfl, hk⟩
theorem wl_of {cs : List Nat} {ad : Nat → Nat} {en : Nat → va_E} {k : Nat} {q : Nat × va_E} (h : (wl cs ad en)[k]? = some q) : ∃ c, cs[k]? = some c ∧ c ∈ cs ∧ q = (ad c, en c) := by
  unfold wl at h
  rw [List.getElem?_map] at h
  cases hk : cs[k]? with
  | none => rw [hk] at h; cases h
  | some c =>
    rw [hk] at h
    cases h
    exact ⟨c, rfl, List.mem_of_getElem? hk, rfl⟩
theorem wl_D {A : Nat → Prop} {cs : List Nat} {ad : Nat → Nat} {en en' : Nat → va_E} (h : va_D A (wl cs ad en)) : va_D A (wl cs ad en') := by
  refine ⟨fun i j p q hi hj hpq => ?_, fun k q hk => ?_⟩
  · obtain ⟨c, hc, -, rfl⟩ := wl_of hi
    obtain ⟨d, hd, -, rfl⟩ := wl_of hj
    exact h.1 i j (ad c, en c) (ad d, en d) (by unfold wl; rw [List.getElem?_map, hc]; rfl) (by unfold wl; rw [List.getElem?_map, hd]; rfl) hpq
  · obtain ⟨c, hc, -, rfl⟩ := wl_of hk
    exact h.2 k (ad c, en c) (by unfold wl; rw [List.getElem?_map, hc]; rfl)
theorem wl_inj {A : Nat → Prop} {cs : List Nat} {ad : Nat → Nat} {en : Nat → va_E} (h : va_D A (wl cs ad en)) {k j c : Nat} (hk : cs[k]? = some c) (hj : cs[j]? = some c) : k = j :=
  h.1 k j (ad c, en c) (ad c, en c) (by unfold wl; rw [List.getElem?_map, hk]; rfl) (by unfold wl; rw [List.getElem?_map, hj]; rfl) rfl
theorem wl_set {A : Nat → Prop} {cs : List Nat} {ad : Nat → Nat} {en : Nat → va_E} {c k : Nat} {x : va_E} (hD : va_D A (wl cs ad en)) (hk : cs[k]? = some c) : (wl cs ad en).set k (ad c, x) = wl cs ad (va_up en c x) := by
  have hl : k < (wl cs ad en).length := by
    unfold wl
    rw [List.length_map]
    exact (List.getElem?_eq_some_iff.mp hk).1
  apply List.ext_getElem?
  intro j
  by_cases hj : k = j
  · subst hj
    rw [List.getElem?_set_self hl]
    unfold wl
    rw [List.getElem?_map, hk]
    simp [va_up]
  · rw [List.getElem?_set_ne hj]
    unfold wl
    rw [List.getElem?_map, List.getElem?_map]
    cases hd : cs[j]? with
    | none => rfl
    | some d =>
      have hne : d ≠ c := fun q => hj (wl_inj hD hk (by rw [hd, q]))
      simp [va_up, hne]
def Hp (D : va_G) (A B : Nat → Prop) (H0 H : Heap) (locs : List Loc) (cs : List Nat) (ad : Nat → Nat) (en : Nat → va_E) : Prop := va_P D vwCl (wl cs ad en) H ∧ va_D B (wl cs ad en) ∧ va_S A H0 H locs
def Af (cs : List Nat) (ad : Nat → Nat) (sz : Nat) : Nat → Prop := fun q => (∃ c, c ∈ cs ∧ ad c = q) ∨ sz ≤ q
def Nf (sz : Nat) : Nat → Prop := fun q => sz ≤ q
def tyl (cy : Nat → ClassId) : List (ClassId × FieldType) := [(cy 0, .int), (cy 1, .long), (cy 2, .boolean), (cy 3, .object "AnyOrder$Table"), (cy 4, .object "AnyOrder$Survey"), (cy 5, .object "AnyOrder$Word"), (cy 6, .object "AnyOrder$Sheet"), (cy 7, .array .int), (cy 8, .array .long)]
def Pre (D : va_G) (cy : Nat → ClassId) (cs : List Nat) (ad : Nat → Nat) (en : Nat → va_E) (sz : Nat) (U : State) : Prop := U.heap.size = sz ∧ va_P D vwCl (wl cs ad en) U.heap ∧ va_K D vwCl (tyl cy) U ∧ va_D (fun _ => True) (wl cs ad en)
theorem pre_fb {D : va_G} {cy : Nat → ClassId} {cs : List Nat} {ad : Nat → Nat} {en : Nat → va_E} {sz : Nat} {av : List Value} : FrameBlind (va_Pc av (Pre D cy cs ad en sz)) := fun a U g mk q => by
  obtain ⟨q0, q1, qP, qK, qD⟩ := q
  exact ⟨q0, q1, qP, va_K.moved (u := U) (U := U.calling g mk a) (Vm.Alike.refl U.vm) qK, qD⟩
section LB1
variable {p : Program} {l : Launch} {e : Env} {R : Room} {s : State} {m : MethodId} {args : Array Value} {below : List Frame} {meth : Method} {c : Code} {H : Heap} {locs : List Loc} {cells slots : Nat} {Q : State → Prop}
variable {cc : ByteArray} {pc : Nat} {ls : Array Slot} {rest : List Value} {D : va_G} {A B : Nat → Prop} {cy : Nat → ClassId} {H0 : Heap} {cs : List Nat} {ad : Nat → Nat} {en : Nat → va_E}
theorem preS_of {As : List Value} (hh : Hp D A B H0 H locs cs ad en) (hK : va_K D vwCl (tyl cy) s) : PreS s H (va_Pc As (Pre D cy cs ad en H.size)) As :=
  ⟨pre_fb, fun U hU hW => ⟨rfl, by rw [hU], by rw [hU]; exact hh.1, va_K.moved hW.alike hK, hh.2.1.weaken (fun _ _ _ _ => trivial)⟩⟩
theorem preV_of {As : List Value} {q ci : Nat} {fs : List Value} {C : String} {T : u_T} {N : Nat} (hh : Hp D A B H0 H locs cs ad en) (hK : va_K D vwCl (tyl cy) s) (hq : q ∈ cs) (he : en q = .inr (ci, fs)) (hc : vwCl[ci]? = some (C, T, N)) : PreV s H C (ad q) (va_Pc (.ref (ad q) :: As) (Pre D cy cs ad en H.size)) As := by
  obtain ⟨k, hk, -⟩ := wl_get (ad := ad) (en := en) hq
  rw [he] at hk
  exact ⟨pre_fb, va_recv hK hh.1 hc hk, fun U hU hW => ⟨rfl, by rw [hU], by rw [hU]; exact hh.1, va_K.moved hW.alike hK, hh.2.1.weaken (fun _ _ _ _ => trivial)⟩⟩
theorem hp_get (hx : p.tables.exec = Jvm.exec) (hb : c.code = cc) (hts : ∀ w ∈ TB, w.before args s = true) {own ref C : String} {T : u_T} {N ci index : Nat} (hin : ∀ w ∈ u_ws C T N, w ∈ TB) (hown : s.vm.findClass own = some m.cls) (hK : va_K D vwCl (tyl cy) s) (hh : Hp D A B H0 H locs cs ad en) {q a : Nat} (ha : ad q = a) (hq : q ∈ cs) {fs : List Value} (he : en q = .inr (ci, fs)) (hc : vwCl[ci]? = some (C, T, N)) (k : Nat) (hk : k < N) (hlink : (Cond.fieldLink own index ref (T k).2.1 (T k).2.2.1).before args s = true) (hsame : ∀ x, s.fieldFound? (T k).1 (T k).2.1 (T k).2.2.1 = some x → s.fieldFound? ref (T k).2.1 (T k).2.2.1 = some x) {v : Value} (hv : fs[k]? = some v) (hdg : decode cc pc = .ok (.getfield index, 3))
    (kk : W p l e R s m args below meth c H locs cells slots Q (F0 m (pc + 3) ls (v :: rest))) : W p l e R s m args below meth c H locs cells slots Q (F0 m pc ls (.ref a :: rest)) := by
  subst ha
  obtain ⟨i, hi, -⟩ := wl_get (ad := ad) (en := en) hq
  rw [he] at hi
  exact va_get hx hb hts hin hown hK hh.1 i hi hc k hk hlink hsame hv hdg kk
theorem hp_put (hx : p.tables.exec = Jvm.exec) (hb : c.code = cc) (hts : ∀ w ∈ TB, w.before args s = true) {own ref C : String} {T : u_T} {N ci index : Nat} (hin : ∀ w ∈ u_ws C T N, w ∈ TB) (ty0 : Nat → FieldType) (hty : ∀ k, k < N → parseFieldDescriptor (T k).2.2.1 = some (ty0 k)) (hnm : ∀ a, a < N → ∀ b, b < N → a ≠ b → (T a).2.1 ≠ (T b).2.1) (hown : s.vm.findClass own = some m.cls) (hK : va_K D vwCl (tyl cy) s) (hh : Hp D A A H0 H locs cs ad en) {q a : Nat} (ha : ad q = a) (hq : q ∈ cs) {fs : List Value} (he : en q = .inr (ci, fs)) (hc : vwCl[ci]? = some (C, T, N)) (k : Nat) (hk : k < N) (hlink : (Cond.fieldLink own index ref (T k).2.1 (T k).2.2.1).before args s = true) (hsame : ∀ x, s.fieldFound? (T k).1 (T k).2.1 (T k).2.2.1 = some x → s.fieldFound? ref (T k).2.1 (T k).2.2.1 = some x) (hfin : (T k).2.2.2 = false) {ty : FieldType} {v : Value} (hd : parseFieldDescriptor (T k).2.2.1 = some ty) (hn : narrow ty v = v) (hfit : fits ty v = true) (hl : k < fs.length)
    (hdg : decode cc pc = .ok (.putfield index, 3)) (kk : ∀ (H1 : Heap) (locs1 : List Loc) (en1 : Nat → va_E), en1 = va_up en q (.inr (ci, fs.set k v)) → Hp D A A H0 H1 locs1 cs ad en1 → W p l e R s m args below meth c H1 locs1 cells slots Q (F0 m (pc + 3) ls rest)) : W p l e R s m args below meth c H locs cells slots Q (F0 m pc ls (v :: .ref a :: rest)) := by
  subst ha
  obtain ⟨i, hi, hci⟩ := wl_get (ad := ad) (en := en) hq
  rw [he] at hi
  refine va_put hx hb hts hin ty0 hty hnm hown hK hh.1 hh.2.1 hh.2.2 i hi hc k hk hlink hsame hfin hd hn hfit hl hdg (fun H1 locs1 hP hD hS => ?_)
  rw [wl_set hh.2.1 hci] at hP hD
  exact kk H1 locs1 _ rfl ⟨hP, hD, hS⟩
theorem hp_putF (hx : p.tables.exec = Jvm.exec) (hb : c.code = cc) (hts : ∀ w ∈ TB, w.before args s = true) {own ref C : String} {T : u_T} {N ci index : Nat} (hin : ∀ w ∈ u_ws C T N, w ∈ TB) (ty0 : Nat → FieldType) (hty : ∀ k, k < N → parseFieldDescriptor (T k).2.2.1 = some (ty0 k)) (hnm : ∀ a, a < N → ∀ b, b < N → a ≠ b → (T a).2.1 ≠ (T b).2.1) (hown : s.vm.findClass own = some m.cls) (hK : va_K D vwCl (tyl cy) s) (hh : Hp D A A H0 H locs cs ad en) {q a : Nat} (ha : ad q = a) (hq : q ∈ cs) {fs : List Value} (he : en q = .inr (ci, fs)) (hc : vwCl[ci]? = some (C, T, N)) (k : Nat) (hk : k < N) (hlink : (Cond.fieldLink own index ref (T k).2.1 (T k).2.2.1).before args s = true) (hsame : ∀ x, s.fieldFound? (T k).1 (T k).2.1 (T k).2.2.1 = some x → s.fieldFound? ref (T k).2.1 (T k).2.2.1 = some x) (hfin : (T k).2.2.2 = true) (hin2 : meth.name = "<init>") (hdecl : (T k).1 = own) {ty : FieldType} {v : Value} (hd : parseFieldDescriptor (T k).2.2.1 = some ty) (hn : narrow ty v = v) (hfit : fits ty v = true) (hl : k < fs.length)
    (hdg : decode cc pc = .ok (.putfield index, 3)) (kk : ∀ (H1 : Heap) (locs1 : List Loc) (en1 : Nat → va_E), en1 = va_up en q (.inr (ci, fs.set k v)) → Hp D A A H0 H1 locs1 cs ad en1 → W p l e R s m args below meth c H1 locs1 cells slots Q (F0 m (pc + 3) ls rest)) : W p l e R s m args below meth c H locs cells slots Q (F0 m pc ls (v :: .ref a :: rest)) := by
  subst ha
  obtain ⟨i, hi, hci⟩ := wl_get (ad := ad) (en := en) hq
  rw [he] at hi
  refine va_putF hx hb hts hin ty0 hty hnm hown hK hh.1 hh.2.1 hh.2.2 i hi hc k hk hlink hsame hfin hin2 hdecl hd hn hfit hl hdg (fun H1 locs1 hP hD hS => ?_)
  rw [wl_set hh.2.1 hci] at hP hD
  exact kk H1 locs1 _ rfl ⟨hP, hD, hS⟩
theorem hp_iald (hx : p.tables.exec = Jvm.exec) (hb : c.code = cc) (hK : va_K D vwCl (tyl cy) s) (hh : Hp D A B H0 H locs cs ad en) {q a : Nat} (ha : ad q = a) (hq : q ∈ cs) {n : Nat} {f : Nat → Int32} (he : en q = .inl (cy 0, n, .inl f)) {i : Int32} (hin : vp_in i n) (hdg : decode cc pc = .ok (.iaload, 1))
    (kk : W p l e R s m args below meth c H locs cells slots Q (F0 m (pc + 1) ls (.int (f i.toNatClampNeg) :: rest))) : W p l e R s m args below meth c H locs cells slots Q (F0 m pc ls (.int i :: .ref a :: rest)) := by
  subst ha
  obtain ⟨k, hk, -⟩ := wl_get (ad := ad) (en := en) hq
  rw [he] at hk
  exact va_iald hx hb hK hh.1 k 0 hk rfl hin hdg kk
theorem hp_zald (hx : p.tables.exec = Jvm.exec) (hb : c.code = cc) (hK : va_K D vwCl (tyl cy) s) (hh : Hp D A B H0 H locs cs ad en) {q a : Nat} (ha : ad q = a) (hq : q ∈ cs) {n : Nat} {f : Nat → Int32} (he : en q = .inl (cy 2, n, .inl f)) {i : Int32} (hin : vp_in i n) (hdg : decode cc pc = .ok (.baload, 1))
    (kk : W p l e R s m args below meth c H locs cells slots Q (F0 m (pc + 1) ls (.int (f i.toNatClampNeg) :: rest))) : W p l e R s m args below meth c H locs cells slots Q (F0 m pc ls (.int i :: .ref a :: rest)) := by
  subst ha
  obtain ⟨k, hk, -⟩ := wl_get (ad := ad) (en := en) hq
  rw [he] at hk
  exact va_zald hx hb hK hh.1 k 2 hk rfl hin hdg kk
theorem hp_lald (hx : p.tables.exec = Jvm.exec) (hb : c.code = cc) (hK : va_K D vwCl (tyl cy) s) (hh : Hp D A B H0 H locs cs ad en) {q a : Nat} (ha : ad q = a) (hq : q ∈ cs) {n : Nat} {f : Nat → Int64} (he : en q = .inl (cy 1, n, .inr (.inl f))) {i : Int32} (hin : vp_in i n) (hdg : decode cc pc = .ok (.laload, 1))
    (kk : W p l e R s m args below meth c H locs cells slots Q (F0 m (pc + 1) ls (.long (f i.toNatClampNeg) :: rest))) : W p l e R s m args below meth c H locs cells slots Q (F0 m pc ls (.int i :: .ref a :: rest)) := by
  subst ha
  obtain ⟨k, hk, -⟩ := wl_get (ad := ad) (en := en) hq
  rw [he] at hk
  exact va_lald hx hb hK hh.1 k 1 hk rfl hin hdg kk
theorem hp_iast (hx : p.tables.exec = Jvm.exec) (hb : c.code = cc) (hK : va_K D vwCl (tyl cy) s) (hh : Hp D A A H0 H locs cs ad en) {q a : Nat} (ha : ad q = a) (hq : q ∈ cs) {n : Nat} {f : Nat → Int32} (he : en q = .inl (cy 0, n, .inl f)) {i x : Int32} (hin : vp_in i n) (hdg : decode cc pc = .ok (.iastore, 1))
    (kk : ∀ (H1 : Heap) (locs1 : List Loc) (en1 : Nat → va_E), en1 = va_up en q (.inl (cy 0, n, .inl (upd f i.toNatClampNeg x))) → Hp D A A H0 H1 locs1 cs ad en1 → W p l e R s m args below meth c H1 locs1 cells slots Q (F0 m (pc + 1) ls rest)) : W p l e R s m args below meth c H locs cells slots Q (F0 m pc ls (.int x :: .int i :: .ref a :: rest)) := by
  subst ha
  obtain ⟨k, hk, hck⟩ := wl_get (ad := ad) (en := en) hq
  rw [he] at hk
  refine va_iast hx hb hK hh.1 hh.2.1 hh.2.2 k 0 hk rfl hin hdg (fun H1 locs1 hP hD hS => ?_)
  rw [wl_set hh.2.1 hck] at hP hD
  exact kk H1 locs1 _ rfl ⟨hP, hD, hS⟩
theorem hp_zast (hx : p.tables.exec = Jvm.exec) (hb : c.code = cc) (hK : va_K D vwCl (tyl cy) s) (hh : Hp D A A H0 H locs cs ad en) {q a : Nat} (ha : ad q = a) (hq : q ∈ cs) {n : Nat} {f : Nat → Int32} (he : en q = .inl (cy 2, n, .inl f)) {i x : Int32} (hin : vp_in i n) (hdg : decode cc pc = .ok (.bastore, 1))
    (kk : ∀ (H1 : Heap) (locs1 : List Loc) (en1 : Nat → va_E), en1 = va_up en q (.inl (cy 2, n, .inl (upd f i.toNatClampNeg (vp_nar .boolean x)))) → Hp D A A H0 H1 locs1 cs ad en1 → W p l e R s m args below meth c H1 locs1 cells slots Q (F0 m (pc + 1) ls rest)) : W p l e R s m args below meth c H locs cells slots Q (F0 m pc ls (.int x :: .int i :: .ref a :: rest)) := by
  subst ha
  obtain ⟨k, hk, hck⟩ := wl_get (ad := ad) (en := en) hq
  rw [he] at hk
  refine va_zast hx hb hK hh.1 hh.2.1 hh.2.2 k 2 hk rfl hin hdg (fun H1 locs1 hP hD hS => ?_)
  rw [wl_set hh.2.1 hck] at hP hD
  exact kk H1 locs1 _ rfl ⟨hP, hD, hS⟩
theorem hp_last (hx : p.tables.exec = Jvm.exec) (hb : c.code = cc) (hK : va_K D vwCl (tyl cy) s) (hh : Hp D A A H0 H locs cs ad en) {q a : Nat} (ha : ad q = a) (hq : q ∈ cs) {n : Nat} {f : Nat → Int64} (he : en q = .inl (cy 1, n, .inr (.inl f))) {i : Int32} {x : Int64} (hin : vp_in i n) (hdg : decode cc pc = .ok (.lastore, 1))
    (kk : ∀ (H1 : Heap) (locs1 : List Loc) (en1 : Nat → va_E), en1 = va_up en q (.inl (cy 1, n, .inr (.inl (vp_updL f i.toNatClampNeg x)))) → Hp D A A H0 H1 locs1 cs ad en1 → W p l e R s m args below meth c H1 locs1 cells slots Q (F0 m (pc + 1) ls rest)) : W p l e R s m args below meth c H locs cells slots Q (F0 m pc ls (.long x :: .int i :: .ref a :: rest)) := by
  subst ha
  obtain ⟨k, hk, hck⟩ := wl_get (ad := ad) (en := en) hq
  rw [he] at hk
  refine va_last hx hb hK hh.1 hh.2.1 hh.2.2 k 1 hk rfl hin hdg (fun H1 locs1 hP hD hS => ?_)
  rw [wl_set hh.2.1 hck] at hP hD
  exact kk H1 locs1 _ rfl ⟨hP, hD, hS⟩
theorem hp_alen (hx : p.tables.exec = Jvm.exec) (hb : c.code = cc) (hK : va_K D vwCl (tyl cy) s) (hh : Hp D A B H0 H locs cs ad en) {q a : Nat} (ha : ad q = a) (hq : q ∈ cs) (t0 : Nat) {x : vp_A} (he : en q = .inl (cy t0, x)) {ty : FieldType} (ht : (tyl cy)[t0]? = some (cy t0, ty)) {v : Int32} (hv : Int32.ofNat x.1 = v) (hdg : decode cc pc = .ok (.arraylength, 1))
    (kk : W p l e R s m args below meth c H locs cells slots Q (F0 m (pc + 1) ls (.int v :: rest))) : W p l e R s m args below meth c H locs cells slots Q (F0 m pc ls (.ref a :: rest)) := by
  subst ha
  obtain ⟨k, hk, -⟩ := wl_get (ad := ad) (en := en) hq
  rw [he] at hk
  exact va_alen hx hb hK hh.1 k t0 hk ht hv hdg kk
/-- a load out of an array of references (objects or arrays) -/
theorem hp_aald (hx : p.tables.exec = Jvm.exec) (hb : c.code = cc) (hK : va_K D vwCl (tyl cy) s) (hh : Hp D A B H0 H locs cs ad en) {q a : Nat} (ha : ad q = a) (hq : q ∈ cs) (t0 : Nat) {ty : FieldType} {n : Nat} {f : Nat → Option Nat} (he : en q = .inl (cy t0, n, .inr (.inr (.inr (.inr f))))) (ht : (tyl cy)[t0]? = some (cy t0, ty)) (hty : ty.isReference = true) {i : Int32} (hin : vp_in i n) {v : Value} (hv : va_rf (f i.toNatClampNeg) = v) (hdg : decode cc pc = .ok (.aaload, 1))
    (kk : W p l e R s m args below meth c H locs cells slots Q (F0 m (pc + 1) ls (v :: rest))) : W p l e R s m args below meth c H locs cells slots Q (F0 m pc ls (.int i :: .ref a :: rest)) := by
  subst ha
  obtain ⟨k, hk, -⟩ := wl_get (ad := ad) (en := en) hq
  rw [he] at hk
  subst hv
  have hlt : i.toNatClampNeg < n := Nat.not_le.mp fun q => hin (Or.inr q)
  exact W.aald (v := va_rf (f i.toNatClampNeg)) (ty := ty) hx hb (hh.1 k _ hk) ((hK.2 t0 _ ht).1 n (fun j => va_rf (f j))) hty (fun q => by cases q) (by show ¬ (i < 0 ∨ (arrV _ _ _).slots.size ≤ _); rw [arrV_size]; exact hin) (by show (arrV _ _ _).slots[_]? = _; rw [arrV_read _ _ hlt]) rfl rfl hdg kk
/-- calls: a callee that only reads -/
theorem hp_callRi {post : Int32 → Unit → Prop} {st0 : List Value} {av : Array Value} (hr : va_Run p l e R s m args below meth c H locs cells slots 0 0 (F0 m pc ls st0) rest (va_Qi post (fun _ _ => True) (Nf H.size) av) (Nf H.size)) (hh : Hp D A B H0 H locs cs ad en) (hA : ∀ q, H0.size ≤ q → A q)
    (kk : ∀ (r : Int32) (H1 : Heap) (locs1 : List Loc), post r () → Hp D A B H0 H1 locs1 cs ad en → W p l e R s m args below meth c H1 locs1 cells slots Q (F0 m (pc + 3) ls (.int r :: rest))) : W p l e R s m args below meth c H locs cells slots Q (F0 m pc ls st0) := by
  refine va_calli hr hh.2.2 (fun q h1 h2 => absurd h2 (Nat.not_le.mpr h1)) (fun q h => hA q (Nat.le_trans hh.2.2.1 h)) (fun r u t H1 locs1 ht hvm hw hB hz hk hS => ?_)
  exact kk r H1 locs1 hw ⟨hh.1.kept (fun k q hq => hk q.1 ((hh.1 k q hq).lt) (Nat.not_le.mpr ((hh.1 k q hq).lt))), hh.2.1, hS⟩
theorem hp_callRl {post : Int64 → Unit → Prop} {st0 : List Value} {av : Array Value} (hr : va_Run p l e R s m args below meth c H locs cells slots 0 0 (F0 m pc ls st0) rest (va_Ql post (fun _ _ => True) (Nf H.size) av) (Nf H.size)) (hh : Hp D A B H0 H locs cs ad en) (hA : ∀ q, H0.size ≤ q → A q)
    (kk : ∀ (r : Int64) (H1 : Heap) (locs1 : List Loc), post r () → Hp D A B H0 H1 locs1 cs ad en → W p l e R s m args below meth c H1 locs1 cells slots Q (F0 m (pc + 3) ls (.long r :: rest))) : W p l e R s m args below meth c H locs cells slots Q (F0 m pc ls st0) := by
  refine va_calll hr hh.2.2 (fun q h1 h2 => absurd h2 (Nat.not_le.mpr h1)) (fun q h => hA q (Nat.le_trans hh.2.2.1 h)) (fun r u t H1 locs1 ht hvm hw hB hz hk hS => ?_)
  exact kk r H1 locs1 hw ⟨hh.1.kept (fun k q hq => hk q.1 ((hh.1 k q hq).lt) (Nat.not_le.mpr ((hh.1 k q hq).lt))), hh.2.1, hS⟩
/-- a callee that only reads and answers a reference (or null) -/
theorem hp_callRq {post : Option Nat → Unit → Prop} {st0 : List Value} {av : Array Value} (hr : va_Run p l e R s m args below meth c H locs cells slots 0 0 (F0 m pc ls st0) rest (va_Qq post (fun _ _ => True) (Nf H.size) av) (Nf H.size)) (hh : Hp D A B H0 H locs cs ad en) (hA : ∀ q, H0.size ≤ q → A q)
    (kk : ∀ (r : Option Nat) (H1 : Heap) (locs1 : List Loc), post r () → Hp D A B H0 H1 locs1 cs ad en → W p l e R s m args below meth c H1 locs1 cells slots Q (F0 m (pc + 3) ls (va_rf r :: rest))) : W p l e R s m args below meth c H locs cells slots Q (F0 m pc ls st0) := by
  refine va_callq hr hh.2.2 (fun q h1 h2 => absurd h2 (Nat.not_le.mpr h1)) (fun q h => hA q (Nat.le_trans hh.2.2.1 h)) (fun r u t H1 locs1 ht hvm hw hB hz hk hS => ?_)
  exact kk r H1 locs1 hw ⟨hh.1.kept (fun k q hq => hk q.1 ((hh.1 k q hq).lt) (Nat.not_le.mpr ((hh.1 k q hq).lt))), hh.2.1, hS⟩
/-- calls: a callee that writes into the cells, and makes none -/
theorem Af_in (hh : Hp D A A H0 H locs cs ad en) (hA : ∀ q, H0.size ≤ q → A q) : ∀ q, Af cs ad H.size q → A q := by
  intro q h
  rcases h with ⟨c, hc, rfl⟩ | h
  · obtain ⟨k, hk, -⟩ := wl_get (ad := ad) (en := en) hc
    exact hh.2.1.2 k _ hk
  · exact hA q (Nat.le_trans hh.2.2.1 h)
def PostM (D : va_G) (cs : List Nat) (ad : Nat → Nat) : (Nat → va_E) → State → Prop := fun en t => va_P D vwCl (wl cs ad en) t.heap
theorem hp_callMi {post : Int32 → (Nat → va_E) → Prop} {st0 : List Value} {av : Array Value} (hr : va_Run p l e R s m args below meth c H locs cells slots 0 0 (F0 m pc ls st0) rest (va_Qi post (PostM D cs ad) (Af cs ad H.size) av) (Af cs ad H.size)) (hh : Hp D A A H0 H locs cs ad en) (hA : ∀ q, H0.size ≤ q → A q)
    (kk : ∀ (r : Int32) (H1 : Heap) (locs1 : List Loc) (en1 : Nat → va_E), post r en1 → Hp D A A H0 H1 locs1 cs ad en1 → W p l e R s m args below meth c H1 locs1 cells slots Q (F0 m (pc + 3) ls (.int r :: rest))) : W p l e R s m args below meth c H locs cells slots Q (F0 m pc ls st0) := by
  refine va_calli hr hh.2.2 (fun q _ h => Af_in hh hA q h) (Af_in hh hA) (fun r u t H1 locs1 ht hvm hw hB hz hk hS => ?_)
  exact kk r H1 locs1 u hw ⟨by rw [← ht]; exact hB, wl_D hh.2.1, hS⟩
theorem hp_callMl {post : Int64 → (Nat → va_E) → Prop} {st0 : List Value} {av : Array Value} (hr : va_Run p l e R s m args below meth c H locs cells slots 0 0 (F0 m pc ls st0) rest (va_Ql post (PostM D cs ad) (Af cs ad H.size) av) (Af cs ad H.size)) (hh : Hp D A A H0 H locs cs ad en) (hA : ∀ q, H0.size ≤ q → A q)
    (kk : ∀ (r : Int64) (H1 : Heap) (locs1 : List Loc) (en1 : Nat → va_E), post r en1 → Hp D A A H0 H1 locs1 cs ad en1 → W p l e R s m args below meth c H1 locs1 cells slots Q (F0 m (pc + 3) ls (.long r :: rest))) : W p l e R s m args below meth c H locs cells slots Q (F0 m pc ls st0) := by
  refine va_calll hr hh.2.2 (fun q _ h => Af_in hh hA q h) (Af_in hh hA) (fun r u t H1 locs1 ht hvm hw hB hz hk hS => ?_)
  exact kk r H1 locs1 u hw ⟨by rw [← ht]; exact hB, wl_D hh.2.1, hS⟩
theorem hp_callMv {post : (Nat → va_E) → Prop} {st0 : List Value} {av : Array Value} (hr : va_Run p l e R s m args below meth c H locs cells slots 0 0 (F0 m pc ls st0) rest (va_Qv post (PostM D cs ad) (Af cs ad H.size) av) (Af cs ad H.size)) (hh : Hp D A A H0 H locs cs ad en) (hA : ∀ q, H0.size ≤ q → A q)
    (kk : ∀ (H1 : Heap) (locs1 : List Loc) (en1 : Nat → va_E), post en1 → Hp D A A H0 H1 locs1 cs ad en1 → W p l e R s m args below meth c H1 locs1 cells slots Q (F0 m (pc + 3) ls (rest))) : W p l e R s m args below meth c H locs cells slots Q (F0 m pc ls st0) := by
  refine va_callv hr hh.2.2 (fun q _ h => Af_in hh hA q h) (Af_in hh hA) (fun u t H1 locs1 ht hvm hw hB hz hk hS => ?_)
  exact kk H1 locs1 u hw ⟨by rw [← ht]; exact hB, wl_D hh.2.1, hS⟩
theorem hp_callMq {post : Option Nat → (Nat → va_E) → Prop} {st0 : List Value} {av : Array Value} (hr : va_Run p l e R s m args below meth c H locs cells slots 0 0 (F0 m pc ls st0) rest (va_Qq post (PostM D cs ad) (Af cs ad H.size) av) (Af cs ad H.size)) (hh : Hp D A A H0 H locs cs ad en) (hA : ∀ q, H0.size ≤ q → A q)
    (kk : ∀ (r : Option Nat) (H1 : Heap) (locs1 : List Loc) (en1 : Nat → va_E), post r en1 → Hp D A A H0 H1 locs1 cs ad en1 → W p l e R s m args below meth c H1 locs1 cells slots Q (F0 m (pc + 3) ls (va_rf r :: rest))) : W p l e R s m args below meth c H locs cells slots Q (F0 m pc ls st0) := by
  refine va_callq hr hh.2.2 (fun q _ h => Af_in hh hA q h) (Af_in hh hA) (fun r u t H1 locs1 ht hvm hw hB hz hk hS => ?_)
  exact kk r H1 locs1 u hw ⟨by rw [← ht]; exact hB, wl_D hh.2.1, hS⟩
/-- ends -/
theorem hp_iretR {post : Int32 → Unit → Prop} {v : Int32} {sz : Nat} (hx : p.tables.exec = Jvm.exec) (hb : c.code = cc) {ty : FieldType} (hr : meth.sig.returnType = some ty) (hn : narrow ty (.int v) = .int v) (hlocks : meth.locks = false) (hsz : s.heap.size = sz) (hh : Hp D (Nf sz) B s.heap H locs cs ad en) (hpost : post v ()) (hdg : decode cc pc = .ok (.ireturn, 1)) : W p l e R s m args below meth c H locs cells slots (MQ below (va_Qi post (fun _ _ => True) (Nf sz)) args s cells slots (Nf sz)) (F0 m pc ls [.int v]) :=
  W.zret hx hb hr hn (fun t ht hW => ⟨⟨v, (), rfl, hpost, trivial⟩, hh.2.2.F ht⟩) hh.2.2.2.2 hdg hlocks
theorem hp_lretR {post : Int64 → Unit → Prop} {v : Int64} {sz : Nat} (hx : p.tables.exec = Jvm.exec) (hb : c.code = cc) (hr : meth.sig.returnType = some .long) (hlocks : meth.locks = false) (hsz : s.heap.size = sz) (hh : Hp D (Nf sz) B s.heap H locs cs ad en) (hpost : post v ()) (hdg : decode cc pc = .ok (.lreturn, 1)) : W p l e R s m args below meth c H locs cells slots (MQ below (va_Ql post (fun _ _ => True) (Nf sz)) args s cells slots (Nf sz)) (F0 m pc ls [.long v]) :=
  W.lret hx hb hr (fun t ht hW => ⟨⟨v, (), rfl, hpost, trivial⟩, hh.2.2.F ht⟩) hh.2.2.2.2 hdg hlocks
theorem hp_aretR {post : Option Nat → Unit → Prop} {v : Option Nat} {va : Value} (hv : va = va_rf v) {sz : Nat} (hx : p.tables.exec = Jvm.exec) (hb : c.code = cc) {rt : FieldType} (hr : meth.sig.returnType = some rt) (hrt : (∃ n, rt = .object n) ∨ ∃ t, rt = .array t) (hlocks : meth.locks = false) (hsz : s.heap.size = sz) (hh : Hp D (Nf sz) B s.heap H locs cs ad en) (hpost : post v ()) (hdg : decode cc pc = .ok (.areturn, 1)) : W p l e R s m args below meth c H locs cells slots (MQ below (va_Qq post (fun _ _ => True) (Nf sz)) args s cells slots (Nf sz)) (F0 m pc ls [va]) := by
  subst hv
  exact W.aret hx hb hr hrt (va_rf_or v) (fun t ht hW => ⟨⟨v, (), rfl, hpost, trivial⟩, hh.2.2.F ht⟩) hh.2.2.2.2 hdg hlocks
theorem hp_iretM {post : Int32 → (Nat → va_E) → Prop} {v : Int32} {F : Nat → Prop} (hx : p.tables.exec = Jvm.exec) (hb : c.code = cc) {ty : FieldType} (hr : meth.sig.returnType = some ty) (hn : narrow ty (.int v) = .int v) (hlocks : meth.locks = false) (hh : Hp D F B s.heap H locs cs ad en) (hpost : post v en) (hdg : decode cc pc = .ok (.ireturn, 1)) : W p l e R s m args below meth c H locs cells slots (MQ below (va_Qi post (PostM D cs ad) F) args s cells slots F) (F0 m pc ls [.int v]) :=
  W.zret hx hb hr hn (fun t ht hW => ⟨⟨v, en, rfl, hpost, by show va_P _ _ _ t.heap; rw [ht]; exact hh.1⟩, hh.2.2.F ht⟩) hh.2.2.2.2 hdg hlocks
theorem hp_lretM {post : Int64 → (Nat → va_E) → Prop} {v : Int64} {F : Nat → Prop} (hx : p.tables.exec = Jvm.exec) (hb : c.code = cc) (hr : meth.sig.returnType = some .long) (hlocks : meth.locks = false) (hh : Hp D F B s.heap H locs cs ad en) (hpost : post v en) (hdg : decode cc pc = .ok (.lreturn, 1)) : W p l e R s m args below meth c H locs cells slots (MQ below (va_Ql post (PostM D cs ad) F) args s cells slots F) (F0 m pc ls [.long v]) :=
  W.lret hx hb hr (fun t ht hW => ⟨⟨v, en, rfl, hpost, by show va_P _ _ _ t.heap; rw [ht]; exact hh.1⟩, hh.2.2.F ht⟩) hh.2.2.2.2 hdg hlocks
theorem hp_vretM {post : (Nat → va_E) → Prop} {F : Nat → Prop} (hx : p.tables.exec = Jvm.exec) (hb : c.code = cc) (hr : meth.sig.returnType = none) (hlocks : meth.locks = false) (hh : Hp D F B s.heap H locs cs ad en) (hpost : post en) (hdg : decode cc pc = .ok (.return_, 1)) : W p l e R s m args below meth c H locs cells slots (MQ below (va_Qv post (PostM D cs ad) F) args s cells slots F) (F0 m pc ls []) :=
  W.vret hx hb hr (fun t ht hW => ⟨⟨en, rfl, hpost, by show va_P _ _ _ t.heap; rw [ht]; exact hh.1⟩, hh.2.2.F ht⟩) hh.2.2.2.2 hdg hlocks
theorem hp_aretM {post : Option Nat → (Nat → va_E) → Prop} {v : Option Nat} {va : Value} (hv : va = va_rf v) {F : Nat → Prop} (hx : p.tables.exec = Jvm.exec) (hb : c.code = cc) {rt : FieldType} (hr : meth.sig.returnType = some rt) (hrt : (∃ n, rt = .object n) ∨ ∃ t, rt = .array t) (hlocks : meth.locks = false) (hh : Hp D F B s.heap H locs cs ad en) (hpost : post v en) (hdg : decode cc pc = .ok (.areturn, 1)) : W p l e R s m args below meth c H locs cells slots (MQ below (va_Qq post (PostM D cs ad) F) args s cells slots F) (F0 m pc ls [va]) := by
  subst hv
  exact W.aret hx hb hr hrt (va_rf_or v) (fun t ht hW => ⟨⟨v, en, rfl, hpost, by show va_P _ _ _ t.heap; rw [ht]; exact hh.1⟩, hh.2.2.F ht⟩) hh.2.2.2.2 hdg hlocks
end LB1
/-- the room of a method whose calls go d deep and that makes nothing -/
abbrev rmN (d : Nat) : Room := { frames := d, cells := 0, slots := 0, locals := 40 * d }
