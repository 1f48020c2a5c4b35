theorem n_le {a b : Nat} (h : nI a ≤ nI b) (ha : a < 2 ^ 31) (hb : b < 2 ^ 31) : a ≤ b := (nI_leI ha hb).mp h
theorem n_nle {a b : Nat} (h : ¬ nI a ≤ nI b) (ha : a < 2 ^ 31) (hb : b < 2 ^ 31) : b < a := Nat.not_le.mp (fun q => h ((nI_leI ha hb).mpr q))
theorem n_lt {a b : Nat} (h : nI a < nI b) (ha : a < 2 ^ 31) (hb : b < 2 ^ 31) : a < b := (nI_ltI ha hb).mp h
theorem n_nlt {a b : Nat} (h : ¬ nI a < nI b) (ha : a < 2 ^ 31) (hb : b < 2 ^ 31) : b ≤ a := Nat.not_lt.mp (fun q => h ((nI_ltI ha hb).mpr q))
theorem n_eq {a b : Nat} (h : nI a = nI b) (ha : a < 2 ^ 31) (hb : b < 2 ^ 31) : a = b := (nI_eq ha hb).mp h
theorem n_neq {a b : Nat} (h : ¬ nI a = nI b) (ha : a < 2 ^ 31) (hb : b < 2 ^ 31) : a ≠ b := fun q => h ((nI_eq ha hb).mpr q)
def sumTo (g : Nat → Int64) : Nat → Int64
  | 0 => 0
  | n + 1 => sumTo g n + g n
theorem md3 {r c d : Nat} (hr : r < d) (hc : c < d) (hd : d ≤ 3) : r * d + c < 9 := by
  have h1 : r ≤ 2 := by omega
  have h2 : r * d ≤ 2 * d := Nat.mul_le_mul_right d h1
  omega
theorem md3' {r c d : Nat} (hr : r < d) (hc : c < d) (hd : d ≤ 3) : r * d + c < d * d := by
  have h1 : r + 1 ≤ d := by omega
  have h2 : (r + 1) * d ≤ d * d := Nat.mul_le_mul_right d h1
  rw [Nat.add_mul] at h2
  omega
theorem nar_bit {x : Int32} (h : x = 0 ∨ x = 1) : narrow .boolean (.int x) = .int x := by
  rcases h with rfl | rfl <;> rfl
theorem vpn_bit {x : Int32} (h : x = 0 ∨ x = 1) : vp_nar .boolean x = x := by
  rcases h with rfl | rfl <;> rfl
theorem a6 {a b : Nat} (ha : a < 6) (hb : b < 6) : a * 6 + b < 36 := by omega
/-- the rest by mm, as the class reckons it -/
def restL (mm : Nat) (v : Int64) : Int64 := if mm = 0 then v else if (v - v / (nI mm).toInt64 * (nI mm).toInt64) < 0 then (v - v / (nI mm).toInt64 * (nI mm).toInt64) + (nI mm).toInt64 else (v - v / (nI mm).toInt64 * (nI mm).toInt64)
theorem l_ne0 {m : Nat} (h : 0 < m) (h2 : m < 2 ^ 31) : ¬ (nI m).toInt64 = 0 := by
  rw [nI_l h2]
  intro q
  have := (lN_eq (a := m) (b := 0) h2 (by decide)).mp q
  omega
def dotL (d : Nat) (fa fb : Nat → Int64) (r c : Nat) : Int64 := sumTo (fun k => fa (r * d + k) * fb (k * d + c)) d
def cpI (f : Nat → Int32) (a : Nat) : Nat → Int32
  | 0 => 0
  | b + 1 => cpI f a b + f (a * 6 + b)
def cpO (f : Nat → Int32) (n : Nat) : Nat → Int32
  | 0 => 0
  | a + 1 => cpO f n a + cpI f a n
def absL (x : Int64) : Int64 := if 0 < x then x else -x
def maxL (x y : Int64) : Int64 := if y < x then x else y
def rowN (d : Nat) (fa : Nat → Int64) (r : Nat) : Int64 := sumTo (fun c => absL (fa (r * d + c))) d
def normT (d : Nat) (fa : Nat → Int64) : Nat → Int64
  | 0 => 0
  | r + 1 => maxL (normT d fa r) (rowN d fa r)
def mulV (d mm : Nat) (fa fb : Nat → Int64) (i : Nat) : Int64 := restL mm (dotL d fa fb (i / d) (i % d))
def mulP (d mm : Nat) (fa fb fc g : Nat → Int64) (n : Nat) : Prop := (∀ i, i < n → g i = mulV d mm fa fb i) ∧ ∀ i, n ≤ i → g i = fc i
theorem mulP_0 {d mm : Nat} {fa fb fc : Nat → Int64} : mulP d mm fa fb fc fc 0 := ⟨fun i h => absurd h (Nat.not_lt_zero i), fun _ _ => rfl⟩
theorem mulP_s {d mm : Nat} {fa fb fc g : Nat → Int64} {r c : Nat} (hd : 0 < d) (hc : c < d) (h : mulP d mm fa fb fc g (r * d + c)) : mulP d mm fa fb fc (vp_updL g (r * d + c) (restL mm (dotL d fa fb r c))) (r * d + (c + 1)) := by
  have e1 : (r * d + c) / d = r := by
    rw [Nat.mul_comm, Nat.mul_add_div hd, Nat.div_eq_of_lt hc, Nat.add_zero]
  have e2 : (r * d + c) % d = c := by
    rw [Nat.mul_comm, Nat.mul_add_mod, Nat.mod_eq_of_lt hc]
  refine ⟨fun i hi => ?_, fun i hi => ?_⟩
  · by_cases e : i = r * d + c
    · rw [e, pk_uLs]
      unfold mulV
      rw [e1, e2]
    · rw [pk_uLn e]
      exact h.1 i (by omega)
  · rw [pk_uLn (by omega)]
    exact h.2 i (by omega)
theorem mulP_r {d mm : Nat} {fa fb fc g : Nat → Int64} {r c : Nat} (e : c = d) (h : mulP d mm fa fb fc g (r * d + c)) : mulP d mm fa fb fc g ((r + 1) * d) := by
  rw [e] at h
  rw [Nat.add_mul, Nat.one_mul]
  exact h
section LCP
variable {p : Program} {l : Launch} {e : Env} {R : Room} {s : State} {m : MethodId} {args : Array Value} {below : List Frame} {meth : Method} {c : Code} {H : Heap} {locs : List Loc} {cells slots : Nat} {Q : State → Prop}
variable {cc : ByteArray} {pc : Nat} {ls : Array Slot} {rest : List Value} {D : va_G} {A : Nat → Prop} {cy : Nat → ClassId} {H0 : Heap} {cs : List Nat} {ad : Nat → Nat} {en : Nat → va_E}
/-- System.arraycopy of longs between two arrays; sp, dp, k are the numbers -/
theorem hp_copyl (hx : p.tables.exec = Jvm.exec) (hb : c.code = cc) (hml : c.maxLocals = ls.size) {own : String} {index : Nat} (hown : s.vm.findClass own = some m.cls) (hlink : (Cond.methodLink own index arraycopyName).before args s = true) (hnat : (Cond.native arraycopyName).before args s = true) (hstat : (Cond.static arraycopyName).before args s = true) (hini : (Cond.initialized "java/lang/System").before args s = true)
    (hK : va_K D vwCl (tyl cy) s) (hh : Hp D A A H0 H locs cs ad en) {q0 q1 n0 n1 : Nat} (hq0 : q0 ∈ cs) (hq1 : q1 ∈ cs) {f g : Nat → Int64} (he0 : en q0 = .inl (cy 1, n0, .inr (.inl f))) (he1 : en q1 = .inl (cy 1, n1, .inr (.inl g))) (sp dp k : Nat) (hs : sp < 2 ^ 31) (hd : dp < 2 ^ 31) (hk : k < 2 ^ 31) (h4 : sp + k ≤ n0) (h5 : dp + k ≤ n1)
    (hframes : 1 ≤ R.frames) (hlocals : (rest.map fun v => v.category).sum + (nativeFrameWords "java/lang/System" "arraycopy" 5 + 11) ≤ R.locals) (hdg : decode cc pc = .ok (.invokestatic index, 3))
    (kk : ∀ (H1 : Heap) (locs1 : List Loc) (en1 : Nat → va_E), en1 = va_up en q1 (.inl (cy 1, n1, .inr (.inl (va_cpy f g sp dp k)))) → Hp D A A H0 H1 locs1 cs ad en1 → W p l e R s m args below meth c H1 locs1 cells slots Q (F0 m (pc + 3) ls rest)) : W p l e R s m args below meth c H locs cells slots Q (F0 m pc ls (.int (nI k) :: .int (nI dp) :: .ref (ad q1) :: .int (nI sp) :: .ref (ad q0) :: rest)) := by
  obtain ⟨k0, hk0, -⟩ := wl_get (ad := ad) (en := en) hq0
  obtain ⟨k1, hk1, hck⟩ := wl_get (ad := ad) (en := en) hq1
  rw [he0] at hk0
  rw [he1] at hk1
  have c1 := nI_clamp hs
  have c2 := nI_clamp hd
  have c3 := nI_clamp hk
  refine va_copyl (ty := .long) hx hb hml hown hlink hnat hstat hini hK hh.1 hh.2.1 hh.2.2 k0 k1 1 1 hk0 hk1 rfl rfl rfl (nI_pos hs) (nI_pos hd) (nI_pos hk) (by rw [c1, c3]; exact h4) (by rw [c2, c3]; exact h5) (fun _ _ => rfl) hframes hlocals hdg (fun H1 locs1 hP hD hS => ?_)
  rw [wl_set hh.2.1 hck] at hP hD
  rw [c1, c2, c3] at hP hD
  exact kk H1 locs1 _ rfl ⟨hP, hD, hS⟩
end LCP
theorem wi_natB {n a b : Int32} (h : wi n a b) (A B : Nat) (ha : a.toInt = A) (hb : b.toInt = B) : ∃ N : Nat, n = nI N ∧ A ≤ N ∧ N ≤ B := by
  have h1 := h.1
  have h2 := h.2
  have h4 : (0 : Int32).toInt = 0 := by decide
  obtain ⟨N, hN, rfl⟩ := nI_of (x := n) (fun q => by have := i_lt q; omega)
  rw [nI_toInt hN] at h1 h2
  exact ⟨N, rfl, by omega, by omega⟩
