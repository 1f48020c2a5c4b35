theorem SX_pt {cy : Nat → ClassId} {cs : List Nat} {ad : Nat → Nat} {en en1 : Nat → va_E} (h : SX cy cs ad en) (P : Nat → Prop) (hu : ∀ c, ¬ P c → en1 c = en c) (hs : ∀ c, P c → c < 115 → shp cy ad c (en1 c)) : SX cy cs ad en1 := by
  refine ⟨h.1, fun c hc => ?_⟩
  by_cases e : P c
  · exact hs c e hc
  · rw [hu c e]
    exact h.2 c hc
theorem vals_upd {f : Nat → Int32} {n E v : Nat} (h : ∀ i, i < n → ∃ v, v < 6 ∧ f i = nI v) (hv : v < 6) : ∀ i, i < n → ∃ w, w < 6 ∧ upd f E (nI v) i = nI w := by
  intro i hi
  by_cases e : i = E
  · subst e
    exact ⟨v, hv, pk_us⟩
  · rw [pk_un e]
    exact h i hi
theorem bits_upd {f : Nat → Int32} {n E : Nat} {z : Int32} (h : ∀ i, i < n → (f i = 0 ∨ f i = 1)) (hz : z = 0 ∨ z = 1) : ∀ i, i < n → (upd f E z i = 0 ∨ upd f E z i = 1) := by
  intro i hi
  by_cases e : i = E
  · subst e
    rw [pk_us]
    exact hz
  · rw [pk_un e]
    exact h i hi
section LCI
variable {p : Program} {l : Launch} {e : Env} {R : Room} {s : State} {m : MethodId} {args : Array Value} {below : List Frame} {meth : Method} {c : Code} {H : Heap} {locs : List Loc} {cells slots : Nat} {Q : State → Prop}
variable {cc : ByteArray} {pc : Nat} {ls : Array Slot} {rest : List Value} {D : va_G} {A : Nat → Prop} {cy : Nat → ClassId} {H0 : Heap} {cs : List Nat} {ad : Nat → Nat} {en : Nat → va_E}
/-- System.arraycopy of ints between two arrays; sp, dp, k are the numbers -/
theorem hp_copyi (hx : p.tables.exec = Jvm.exec) (hb : c.code = cc) (hml : c.maxLocals = ls.size) {own : String} {index : Nat} (hown : s.vm.findClass own = some m.cls) (hlink : (Cond.methodLink own index arraycopyName).before args s = true) (hnat : (Cond.native arraycopyName).before args s = true) (hstat : (Cond.static arraycopyName).before args s = true) (hini : (Cond.initialized "java/lang/System").before args s = true)
    (hK : va_K D vwCl (tyl cy) s) (hh : Hp D A A H0 H locs cs ad en) {q0 q1 n0 n1 : Nat} (hq0 : q0 ∈ cs) (hq1 : q1 ∈ cs) {f g : Nat → Int32} (he0 : en q0 = .inl (cy 0, n0, .inl f)) (he1 : en q1 = .inl (cy 0, n1, .inl g)) (sp dp k : Nat) (hs : sp < 2 ^ 31) (hd : dp < 2 ^ 31) (hk : k < 2 ^ 31) (h4 : sp + k ≤ n0) (h5 : dp + k ≤ n1)
    (hframes : 1 ≤ R.frames) (hlocals : (rest.map fun v => v.category).sum + (nativeFrameWords "java/lang/System" "arraycopy" 5 + 11) ≤ R.locals) (hdg : decode cc pc = .ok (.invokestatic index, 3))
    (kk : ∀ (H1 : Heap) (locs1 : List Loc) (en1 : Nat → va_E), en1 = va_up en q1 (.inl (cy 0, n1, .inl (va_cpy f g sp dp k))) → Hp D A A H0 H1 locs1 cs ad en1 → W p l e R s m args below meth c H1 locs1 cells slots Q (F0 m (pc + 3) ls rest)) : W p l e R s m args below meth c H locs cells slots Q (F0 m pc ls (.int (nI k) :: .int (nI dp) :: .ref (ad q1) :: .int (nI sp) :: .ref (ad q0) :: rest)) := by
  obtain ⟨k0, hk0, -⟩ := wl_get (ad := ad) (en := en) hq0
  obtain ⟨k1, hk1, hck⟩ := wl_get (ad := ad) (en := en) hq1
  rw [he0] at hk0
  rw [he1] at hk1
  have c1 := nI_clamp hs
  have c2 := nI_clamp hd
  have c3 := nI_clamp hk
  refine va_copyi (ty := .int) hx hb hml hown hlink hnat hstat hini hK hh.1 hh.2.1 hh.2.2 k0 k1 0 0 hk0 hk1 rfl rfl rfl (nI_pos hs) (nI_pos hd) (nI_pos hk) (by rw [c1, c3]; exact h4) (by rw [c2, c3]; exact h5) (fun _ _ => rfl) hframes hlocals hdg (fun H1 locs1 hP hD hS => ?_)
  rw [wl_set hh.2.1 hck] at hP hD
  rw [c1, c2, c3] at hP hD
  exact kk H1 locs1 _ rfl ⟨hP, hD, hS⟩
end LCI
