/-! the reference's sheets: what its calls answer and leave -/
def RSH (k la n r : Int32) (en e1 : Nat → va_E) : Prop := r = spSheet k la n ∧ ((r ≠ 1 ∧ e1 3 = en 3 ∧ e1 4 = en 4 ∧ e1 5 = en 5) ∨ (r = 1 ∧ ∃ K N : Nat, k = nI K ∧ n = nI N ∧ K < 4 ∧ N ≤ 40 ∧ rdF (e1 3) = upd (rdF (en 3)) K la ∧ rdF (e1 4) = upd (rdF (en 4)) K (nI N) ∧ ∀ i, rdF (e1 5) i = if 40 * K ≤ i ∧ i < 40 * K + 40 then 0 else rdF (en 5) i))
def RLO (k r : Int32) (en e1 : Nat → va_E) : Prop := (¬ wi k 0 3 ∧ r = -1 ∧ e1 = en) ∨ ∃ K : Nat, k = nI K ∧ K < 4 ∧ ((rdF (en 3) K = -9 ∧ r = 0) ∨ (rdF (en 3) K ≠ -9 ∧ r = 1)) ∧ rdF (e1 3) = upd (rdF (en 3)) K (-9)
def putR (l sl k i : Int32) : Int32 := if wi k 0 3 then (if l = -9 then -11 else if (0 ≤ i.toInt ∧ i.toInt < sl.toInt) then 1 else -13) else -1
def RPU (k i v r : Int32) (en e1 : Nat → va_E) : Prop := r = putR (rdF (en 3) k.toNatClampNeg) (rdF (en 4) k.toNatClampNeg) k i ∧ ((r ≠ 1 ∧ e1 5 = en 5) ∨ (r = 1 ∧ ∃ K I : Nat, k = nI K ∧ i = nI I ∧ K < 4 ∧ I < 40 ∧ rdF (e1 5) = upd (rdF (en 5)) (40 * K + I) (narV (rdF (en 3) K) v)))
def atR (l sl cv k i la : Int32) : Int64 := if wi k 0 3 ∧ wi la 0 2 then (if (l ≠ -9 ∧ l ≠ la) then (-9223372036854775808) else if l = -9 then (-9223372036854775808) else if (0 ≤ i.toInt ∧ i.toInt < sl.toInt) then cv.toInt64 else (-9223372036854775808)) else (-9223372036854775808)
def RAT (k i la : Int32) (r : Int64) (en : Nat → va_E) : Prop := r = atR (rdF (en 3) k.toNatClampNeg) (rdF (en 4) k.toNatClampNeg) (rdF (en 5) (40 * k.toNatClampNeg + i.toNatClampNeg)) k i la
theorem z_40 {g g0 : Nat → Int32} {K j : Nat} (h : ∀ i, g i = if 40 * K ≤ i ∧ i < 40 * K + j then 0 else g0 i) (i : Nat) : upd g (40 * K + j) 0 i = if 40 * K ≤ i ∧ i < 40 * K + (j + 1) then 0 else g0 i := by
  by_cases e : i = 40 * K + j
  · rw [e, pk_us, if_pos (by omega)]
  · rw [pk_un e, h i]
    by_cases q : 40 * K ≤ i ∧ i < 40 * K + j
    · rw [if_pos q, if_pos (by omega)]
    · rw [if_neg q, if_neg (by omega)]
/-- the reference's table: what it answers and leaves -/
def okR (en : Nat → va_E) (K I m : Nat) : Prop := ∀ x, x < m → wi (rdF (en 5) (40 * K + I + x)) (-9) 9
def RTB (k la i r : Int32) (en e1 : Nat → va_E) : Prop := ∃ d cnt : Nat, 2 ≤ d ∧ d ≤ 3 ∧ cnt ≤ 6 ∧ rdI (en 0) 2 = nI d ∧ rdI (en 0) 4 = nI cnt ∧
  ((agF (rdF (en 3) k.toNatClampNeg) k la ≠ 0 ∧ r = agF (rdF (en 3) k.toNatClampNeg) k la ∧ KP en e1 ∧ e1 1 = en 1) ∨
   (agF (rdF (en 3) k.toNatClampNeg) k la = 0 ∧ ∃ K : Nat, k = nI K ∧ K < 4 ∧
     ((¬ (0 ≤ i.toInt ∧ i.toInt + ((d * d : Nat) : Int) ≤ (rdF (en 4) K).toInt) ∧ r = -13 ∧ KP en e1 ∧ e1 1 = en 1) ∨
      ∃ I : Nat, i = nI I ∧ (I : Int) + ((d * d : Nat) : Int) ≤ (rdF (en 4) K).toInt ∧ I + d * d ≤ 40 ∧
       ((¬ okR en K I (d * d) ∧ r = -2 ∧ KP en e1 ∧ e1 1 = en 1) ∨ (okR en K I (d * d) ∧ cnt = 6 ∧ r = -4 ∧ KP en e1 ∧ e1 1 = en 1) ∨
        (okR en K I (d * d) ∧ cnt < 6 ∧ r = nI cnt ∧ rdI (e1 0) 1 = rdI (en 0) 1 ∧ rdI (e1 0) 2 = rdI (en 0) 2 ∧ rdI (e1 0) 3 = rdI (en 0) 3 ∧ rdI (e1 0) 4 = nI (cnt + 1) ∧ rdI (e1 0) 25 = -9 ∧ rdI (e1 0) 30 = rdI (en 0) 30 ∧ ∀ x, rdF (e1 1) x = if 9 * cnt ≤ x ∧ x < 9 * cnt + d * d then rdF (en 5) (40 * K + I + (x - 9 * cnt)) else rdF (en 1) x)))))
theorem tb_upd {g g0 c : Nat → Int32} {a b j : Nat} (h : ∀ x, g x = if a ≤ x ∧ x < a + j then c (b + (x - a)) else g0 x) (x : Nat) : upd g (a + j) (c (b + j)) x = if a ≤ x ∧ x < a + (j + 1) then c (b + (x - a)) else g0 x := by
  by_cases e : x = a + j
  · rw [e, pk_us, if_pos (by omega), show a + j - a = j by omega]
  · rw [pk_un e, h x]
    by_cases q : a ≤ x ∧ x < a + j
    · rw [if_pos q, if_pos (by omega)]
    · rw [if_neg q, if_neg (by omega)]
theorem ns_lt {i sl : Int32} {b : Nat} (h : i < 0) : ¬ (0 ≤ i.toInt ∧ i.toInt + (b : Int) ≤ sl.toInt) := fun q => by
  have h1 := i_lt h
  have h0 : (0 : Int32).toInt = 0 := by decide
  have h2 := q.1
  omega
theorem ns_gt {i : Int32} {a b : Nat} (h : ¬ i ≤ nI a - nI b) (ha : a < 2 ^ 30) (hb : b < 2 ^ 30) : ¬ (0 ≤ i.toInt ∧ i.toInt + (b : Int) ≤ (nI a).toInt) := fun q => by
  have h1 := i_nle h
  rw [pk_sub_toInt ha hb] at h1
  have h2 := q.2
  rw [nI_toInt (by omega)] at h2
  omega
def RMA (a b z r : Int32) (en e1 : Nat → va_E) : Prop := (¬ (hasQ a (rdI (en 0) 4) ∧ hasQ b (rdI (en 0) 4)) ∧ r = -1 ∧ e1 2 = en 2) ∨ ∃ A B : Nat, a = nI A ∧ b = nI B ∧ A < 6 ∧ B < 6 ∧ hasQ a (rdI (en 0) 4) ∧ hasQ b (rdI (en 0) 4) ∧ ((rdF (en 2) (6 * A + B) = z ∧ r = 1) ∨ (rdF (en 2) (6 * A + B) ≠ z ∧ r = 0)) ∧ ((z = 0 ∧ rdF (e1 2) = upd (rdF (en 2)) (6 * A + B) 1) ∨ (z ≠ 0 ∧ rdF (e1 2) = upd (rdF (en 2)) (6 * A + B) 0))
def RLE (w i r : Int32) (en : Nat → va_E) : Prop := (¬ hasQ w (rdI (en 0) 30) ∧ r = -1) ∨ ∃ W : Nat, w = nI W ∧ W < 10 ∧ hasQ w (rdI (en 0) 30) ∧ ((hasQ i (rdF (en 19) W) ∧ r = rdF (en 18) (12 * W + i.toNatClampNeg)) ∨ (¬ hasQ i (rdF (en 19) W) ∧ r = -1))
def mxR (g : Nat → Int32) : Nat → Int32
  | 0 => g 0
  | n + 1 => maxI (mxR g n) (g n)
theorem maxI_self (x : Int32) : maxI x x = x := by
  unfold maxI
  by_cases h : x < x
  · rw [if_pos h]
  · rw [if_neg h]
theorem mxR_gmx {g : Nat → Int32} : ∀ (n : Nat), evP g (n + 1) → mxR g (n + 1) = gmx g (n + 1) := by
  intro n
  induction n with
  | zero =>
    intro h
    show maxI (g 0) (g 0) = maxI 0 (g 0)
    have h0 := h 0 (by omega)
    rw [maxI_self]
    unfold maxI
    by_cases e : (0 : Int32) < g 0
    · rw [if_pos e]
    · rw [if_neg e]
      have h1 := Int32.not_lt.mp h0
      have h2 := Int32.not_lt.mp e
      exact Int32.le_antisymm h2 h1
  | succ n ih =>
    intro h
    show maxI (mxR g (n + 1)) (g (n + 1)) = maxI (gmx g (n + 1)) (g (n + 1))
    rw [ih (fun i hi => h i (by omega))]
/-- the reference's kinds -/
theorem bI_1 {x : Int32} {P Q : Prop} (h : bI x P) (h1 : P → Q) (h2 : Q → P) : bI (x &&& 1) Q := by
  rcases h with ⟨rfl, h⟩ | ⟨rfl, h⟩
  · exact Or.inl ⟨by decide, h1 h⟩
  · exact Or.inr ⟨by decide, fun q => h (h2 q)⟩
theorem bI_0 {x : Int32} {P Q : Prop} (h : bI x P) (h1 : ¬ Q) : bI (x &&& 0) Q := by
  rcases h with ⟨rfl, h⟩ | ⟨rfl, h⟩
  · exact Or.inr ⟨by decide, h1⟩
  · exact Or.inr ⟨by decide, h1⟩
theorem bI_q {x : Int32} {P Q : Prop} (h : bI x P) (h1 : P → Q) (h2 : Q → P) : bI x Q := by
  rcases h with ⟨e, h⟩ | ⟨e, h⟩
  · exact Or.inl ⟨e, h1 h⟩
  · exact Or.inr ⟨e, fun q => h (h2 q)⟩
def evU (F : Nat → Int32) (d r c : Nat) : Prop := ∀ a b, b < d → (a < r ∨ (a = r ∧ b < c)) → ¬ F (d * a + b) < 0
def zoU (F : Nat → Int32) (d r c : Nat) : Prop := ∀ a b, b < d → (a < r ∨ (a = r ∧ b < c)) → (F (d * a + b) = 0 ∨ F (d * a + b) = 1)
def suU (F : Nat → Int32) (d r : Nat) : Prop := ∀ a, a < r → (sumI (fun z => F (d * a + z)) d = 1 ∧ sumI (fun z => F (d * z + a)) d = 1)
theorem evU_s {F : Nat → Int32} {d r c : Nat} {x v : Int32} (hv : F (d * r + c) = v) (h : bI x (evU F d r c)) (hn : ¬ v < 0) : bI (x &&& 1) (evU F d r (c + 1)) := by
  refine bI_1 h (fun q a b hb hab => ?_) (fun q a b hb hab => q a b hb (by omega))
  by_cases e : a = r ∧ b = c
  · rw [e.1, e.2, hv]; exact hn
  · exact q a b hb (by omega)
theorem evU_n {F : Nat → Int32} {d r c : Nat} {x v : Int32} (hv : F (d * r + c) = v) (h : bI x (evU F d r c)) (hc : c < d) (hn : v < 0) : bI (x &&& 0) (evU F d r (c + 1)) := by
  refine bI_0 h (fun q => ?_)
  have h9 := q r c hc (by omega)
  rw [hv] at h9
  exact h9 hn
theorem shU_s {F : Nat → Int32} {d r c : Nat} {x v : Int32} (hv : F (d * r + c) = v) (h : bI x (zoU F d r c ∧ suU F d r)) (hn : v = 0 ∨ v = 1) : bI (x &&& 1) (zoU F d r (c + 1) ∧ suU F d r) := by
  refine bI_1 h (fun q => ⟨fun a b hb hab => ?_, q.2⟩) (fun q => ⟨fun a b hb hab => q.1 a b hb (by omega), q.2⟩)
  by_cases e : a = r ∧ b = c
  · rw [e.1, e.2, hv]; exact hn
  · exact q.1 a b hb (by omega)
theorem shU_n {F : Nat → Int32} {d r c : Nat} {x v : Int32} (hv : F (d * r + c) = v) (h : bI x (zoU F d r c ∧ suU F d r)) (hc : c < d) (h0 : ¬ v = 0) (h1 : ¬ v = 1) : bI (x &&& 0) (zoU F d r (c + 1) ∧ suU F d r) := by
  refine bI_0 h (fun q => ?_)
  have h9 := q.1 r c hc (by omega)
  rw [hv] at h9
  rcases h9 with h9 | h9
  · exact h0 h9
  · exact h1 h9
theorem evU_o {F : Nat → Int32} {d r : Nat} {x : Int32} (h : bI x (evU F d r d)) : bI x (evU F d (r + 1) 0) :=
  bI_q h (fun q a b hb hab => q a b hb (by omega)) (fun q a b hb hab => q a b hb (by omega))
theorem shU_o1 {F : Nat → Int32} {d r : Nat} {x u v : Int32} (h : bI x (zoU F d r d ∧ suU F d r)) (hu : u = sumI (fun z => F (d * r + z)) d) (hw : v = sumI (fun z => F (d * z + r)) d) (h1 : u = 1) (h2 : v = 1) : bI (x &&& 1) (zoU F d (r + 1) 0 ∧ suU F d (r + 1)) := by
  refine bI_1 h (fun q => ⟨fun a b hb hab => q.1 a b hb (by omega), fun a ha => ?_⟩) (fun q => ⟨fun a b hb hab => q.1 a b hb (by omega), fun a ha => q.2 a (by omega)⟩)
  by_cases e : a = r
  · rw [e]; exact ⟨hu.symm.trans h1, hw.symm.trans h2⟩
  · exact q.2 a (by omega)
theorem shU_o0 {F : Nat → Int32} {d r : Nat} {x u v : Int32} (h : bI x (zoU F d r d ∧ suU F d r)) (hu : u = sumI (fun z => F (d * r + z)) d) (hw : v = sumI (fun z => F (d * z + r)) d) (hn : ¬ (u = 1 ∧ v = 1)) : bI (x &&& 0) (zoU F d (r + 1) 0 ∧ suU F d (r + 1)) := by
  refine bI_0 h (fun q => hn ?_)
  have h9 := q.2 r (by omega)
  exact ⟨hu.trans h9.1, hw.trans h9.2⟩
def RKD (F : Nat → Int32) (d : Nat) (r : Int32) : Prop := (r = 2 ∧ zoU F d d 0 ∧ suU F d d) ∨ (r = 1 ∧ ¬ (zoU F d d 0 ∧ suU F d d) ∧ evU F d d 0) ∨ (r = 0 ∧ ¬ (zoU F d d 0 ∧ suU F d d) ∧ ¬ evU F d d 0)
theorem bI_t {x : Int32} {P : Prop} (h : bI x P) (hn : ¬ x = 0) : P := by
  rcases h with ⟨-, h⟩ | ⟨e, -⟩
  · exact h
  · exact absurd e hn
theorem bI_f {x : Int32} {P : Prop} (h : bI x P) (hn : x = 0) : ¬ P := by
  rcases h with ⟨e, -⟩ | ⟨-, h⟩
  · rw [hn] at e; exact absurd e (by decide)
  · exact h
def mnG (f : Nat → Int32) (i : Nat) : Int32 := if f i = 0 then 1 else 0
def RTO (z r : Int32) (en : Nat → va_E) : Prop := (z = 0 ∧ r = rdI (en 0) 4) ∨ (z = 1 ∧ r = rdI (en 0) 2) ∨ (z = 2 ∧ r = rdI (en 0) 3) ∨ (z = 3 ∧ r = rdI (en 0) 30) ∨ (z = 4 ∧ r = cpO (mnG (rdF (en 2))) (rdI (en 0) 4).toNatClampNeg (rdI (en 0) 4).toNatClampNeg) ∨ (¬ z = 0 ∧ ¬ z = 1 ∧ ¬ z = 2 ∧ ¬ z = 3 ∧ ¬ z = 4 ∧ r = -2)
def rFt (en : Nat → va_E) (T : Nat) : Nat → Int32 := fun i => rdF (en 1) (9 * T + i)
def rD (en : Nat → va_E) : Nat := (rdI (en 0) 2).toNatClampNeg
def rTR (en : Nat → va_E) (T : Nat) : Int32 := sumI (fun i => rdF (en 1) (9 * T + (i * rD en + i))) (rD en)
def rGR (en : Nat → va_E) (T : Nat) : Int32 := mxR (rFt en T) (rD en * rD en)
def RTE (t r : Int32) (en e1 : Nat → va_E) : Prop := (¬ hasP t (rdI (en 0) 4) ∧ r = -1 ∧ rdI (e1 0) 1 = rdI (en 0) 1) ∨ ∃ (T : Nat) (k : Int32), t = nI T ∧ T < 6 ∧ hasP t (rdI (en 0) 4) ∧ RKD (rFt en T) (rD en) k ∧ ((k = 0 ∧ r = rTR en T ∧ rdI (e1 0) 1 = 31 * rdI (en 0) 1 + 1) ∨ (k = 1 ∧ r = rTR en T + rGR en T ∧ rdI (e1 0) 1 = 31 * (31 * rdI (en 0) 1 + 2) + 1) ∨ (k = 2 ∧ r = 2 * rTR en T + rGR en T ∧ rdI (e1 0) 1 = 31 * (31 * (31 * (31 * rdI (en 0) 1 + 3) + 2) + 1) + 1))
def RWE (t r : Int32) (en e1 : Nat → va_E) : Prop := (¬ hasP t (rdI (en 0) 4) ∧ r = -1 ∧ rdI (e1 0) 1 = rdI (en 0) 1) ∨ ∃ (T : Nat) (k : Int32), t = nI T ∧ T < 6 ∧ hasP t (rdI (en 0) 4) ∧ RKD (rFt en T) (rD en) k ∧ ((k = 2 ∧ r = 60 ∧ rdI (e1 0) 1 = 31 * rdI (en 0) 1 + 5) ∨ (k ≠ 2 ∧ r = t ∧ rdI (e1 0) 1 = 31 * rdI (en 0) 1 + 4))
def RAS (t z r : Int32) (en : Nat → va_E) : Prop := (¬ hasP t (rdI (en 0) 4) ∧ r = -1) ∨ (hasP t (rdI (en 0) 4) ∧ ¬ wi z 0 2 ∧ r = -2) ∨ ∃ T N v : Nat, t = nI T ∧ z = nI N ∧ N < 3 ∧ v < 3 ∧ T < 6 ∧ hasP t (rdI (en 0) 4) ∧ wi z 0 2 ∧ RKD (rFt en T) (rD en) (nI v) ∧ ((N ≤ v ∧ r = 1) ∨ (v < N ∧ r = -12))
/-- the reference's levels -/
def uV (d i : Nat) : Int64 := if i / d = i % d then 1 else 0
def goV (d mo n t : Nat) (L : Nat → Int64) (E : Nat → Int32) (i : Nat) : Int64 := restR mo (sumTo (fun k => L (9 * n + d * (i / d) + k) * (E (9 * t + d * k + i % d)).toInt64) d)
theorem dm_at {d r c : Nat} (hc : c < d) : (d * r + c) / d = r ∧ (d * r + c) % d = c := by
  have hd : 0 < d := by omega
  refine ⟨?_, ?_⟩
  · rw [Nat.mul_add_div hd, Nat.div_eq_of_lt hc, Nat.add_zero]
  · rw [Nat.mul_add_mod, Nat.mod_eq_of_lt hc]
theorem goV_at {d mo n t r c : Nat} {L : Nat → Int64} {E : Nat → Int32} (hc : c < d) : goV d mo n t L E (d * r + c) = restR mo (sumTo (fun k => L (9 * n + d * r + k) * (E (9 * t + d * k + c)).toInt64) d) := by
  unfold goV
  rw [(dm_at hc).1, (dm_at hc).2]
theorem uV_at {d r c : Nat} (hc : c < d) : uV d (d * r + c) = if r = c then 1 else 0 := by
  unfold uV
  rw [(dm_at hc).1, (dm_at hc).2]
theorem cpL_upd {g g0 c : Nat → Int64} {a j q j1 : Nat} {v : Int64} (h : ∀ x, g x = if a ≤ x ∧ x < a + j then c (x - a) else g0 x) (hq : q = a + j) (hj : j1 = j + 1) (hv : c j = v) (x : Nat) : vp_updL g q v x = if a ≤ x ∧ x < a + j1 then c (x - a) else g0 x := by
  subst hq
  subst hj
  by_cases e : x = a + j
  · rw [e, pk_uLs, if_pos (by omega), show a + j - a = j by omega, hv]
  · rw [pk_uLn e, h x]
    by_cases q : a ≤ x ∧ x < a + j
    · rw [if_pos q, if_pos (by omega)]
    · rw [if_neg q, if_neg (by omega)]
def BLV (en e1 : Nat → va_E) : Prop := ∀ x, rdL (e1 6) x = if 0 ≤ x ∧ x < 0 + (rdI (en 0) 2).toNatClampNeg * (rdI (en 0) 2).toNatClampNeg then uV (rdI (en 0) 2).toNatClampNeg (x - 0) else rdL (en 6) x
def GON (n t : Nat) (en e1 : Nat → va_E) : Prop := ∀ x, rdL (e1 6) x = if 9 * n + 9 ≤ x ∧ x < 9 * n + 9 + (rdI (en 0) 2).toNatClampNeg * (rdI (en 0) 2).toNatClampNeg then goV (rdI (en 0) 2).toNatClampNeg (rdI (en 0) 3).toNatClampNeg n t (rdL (en 6)) (rdF (en 1)) (x - (9 * n + 9)) else rdL (en 6) x
def rowR (d n : Nat) (L : Nat → Int64) (r : Nat) : Int64 := sumTo (fun c => absR (L (9 * n + d * r + c))) d
def normR (d n : Nat) (L : Nat → Int64) : Nat → Int64
  | 0 => 0
  | r + 1 => if normR d n L r < rowR d n L r then rowR d n L r else normR d n L r
theorem normR_n {d n r : Nat} {L : Nat → Int64} {x y : Int64} (hx : x = normR d n L r) (hy : y = rowR d n L r) (h : ¬ x < y) : x = normR d n L (r + 1) := by
  show _ = if normR d n L r < rowR d n L r then rowR d n L r else normR d n L r
  rw [← hx, ← hy, if_neg h]
theorem normR_p {d n r : Nat} {L : Nat → Int64} {x y : Int64} (hx : x = normR d n L r) (hy : y = rowR d n L r) (h : x < y) : y = normR d n L (r + 1) := by
  show _ = if normR d n L r < rowR d n L r then rowR d n L r else normR d n L r
  rw [← hx, ← hy, if_pos h]
def prM (d mo : Nat) (E : Nat → Int32) (l : Nat → Nat) : Nat → Nat → Int64
  | 0 => uV d
  | k + 1 => fun i => restR mo (sumTo (fun q => prM d mo E l k (d * (i / d) + q) * (E (9 * l k + d * q + i % d)).toInt64) d)
theorem rc_lt2 {d i k : Nat} (hi : i < d * d) (hk : k < d) : d * (i / d) + k < d * d := by
  have h1 : i / d < d := Nat.div_lt_of_lt_mul hi
  rw [Nat.mul_comm d (i / d)]
  exact rc_lt h1 hk
theorem prM_s {d mo n : Nat} {E : Nat → Int32} {L : Nat → Int64} {l : Nat → Nat} {t i : Nat} (hL : ∀ x, x < d * d → L (9 * n + x) = prM d mo E l n x) (ht : l n = t) (hi : i < d * d) : goV d mo n t L E i = prM d mo E l (n + 1) i := by
  subst ht
  show _ = restR mo (sumTo (fun q => prM d mo E l n (d * (i / d) + q) * (E (9 * l n + d * q + i % d)).toInt64) d)
  unfold goV
  refine congrArg (restR mo) (sumTo_c d (fun k hk => ?_))
  rw [Nat.add_assoc, hL _ (rc_lt2 hi hk)]
theorem rc_lt3 {d a b : Nat} (ha : a < d) (hb : b < d) : d * a + b < d * d := by
  rw [Nat.mul_comm d a]
  exact rc_lt ha hb
def MLT (w : Nat) (en e1 : Nat → va_E) : Prop := ∀ i, i < (rdI (en 0) 2).toNatClampNeg * (rdI (en 0) 2).toNatClampNeg → rdL (e1 6) (9 * (rdF (en 19) w).toNatClampNeg + i) = prM (rdI (en 0) 2).toNatClampNeg (rdI (en 0) 3).toNatClampNeg (rdF (en 1)) (fun x => (rdF (en 18) (12 * w + x)).toNatClampNeg) (rdF (en 19) w).toNatClampNeg i
def reP (w a b wc d : Int32) : Prop := eoP w a b wc d
def REO (w a b : Int32) (r : Int64) (en : Nat → va_E) : Prop := (eoP w a b (rdI (en 0) 30) (rdI (en 0) 2) ∧ r = prM (rdI (en 0) 2).toNatClampNeg (rdI (en 0) 3).toNatClampNeg (rdF (en 1)) (fun x => (rdF (en 18) (12 * w.toNatClampNeg + x)).toNatClampNeg) (rdF (en 19) w.toNatClampNeg).toNatClampNeg ((rdI (en 0) 2).toNatClampNeg * a.toNatClampNeg + b.toNatClampNeg)) ∨ (¬ eoP w a b (rdI (en 0) 30) (rdI (en 0) 2) ∧ r = (-9223372036854775808))
def RSZ (w z : Int32) (r : Int64) (en : Nat → va_E) : Prop := (hasQ w (rdI (en 0) 30) ∧ wi z 0 1 ∧ ∃ L : Nat → Int64, (∀ i, i < (rdI (en 0) 2).toNatClampNeg * (rdI (en 0) 2).toNatClampNeg → L (9 * (rdF (en 19) w.toNatClampNeg).toNatClampNeg + i) = prM (rdI (en 0) 2).toNatClampNeg (rdI (en 0) 3).toNatClampNeg (rdF (en 1)) (fun x => (rdF (en 18) (12 * w.toNatClampNeg + x)).toNatClampNeg) (rdF (en 19) w.toNatClampNeg).toNatClampNeg i) ∧ ((z = 0 ∧ r = normR (rdI (en 0) 2).toNatClampNeg (rdF (en 19) w.toNatClampNeg).toNatClampNeg L (rdI (en 0) 2).toNatClampNeg) ∨ (¬ z = 0 ∧ r = sumTo (fun i => L (9 * (rdF (en 19) w.toNatClampNeg).toNatClampNeg + (rdI (en 0) 2).toNatClampNeg * i + i)) (rdI (en 0) 2).toNatClampNeg))) ∨ (¬ (hasQ w (rdI (en 0) 30) ∧ wi z 0 1) ∧ r = (-9223372036854775808))
/-- what the reference says of a row of letters -/
def alM (g f : Nat → Int32) (n : Nat) : Prop := ∀ i, 1 ≤ i → i < n → g (6 * (f (i - 1)).toNatClampNeg + (f i).toNatClampNeg) = 0
def tuM (g f : Nat → Int32) (n : Nat) : Prop := g (6 * (f (n - 1)).toNatClampNeg + (f 0).toNatClampNeg) = 0
def baP (f : Nat → Int32) (n m : Nat) : Prop := ∃ i, i < n ∧ (∀ y, y < i → f y = f ((y + m) % n)) ∧ f ((i + m) % n) < f i
def ftP (f : Nat → Int32) (n : Nat) : Prop := ∀ m, 1 ≤ m → m < n → ¬ baP f n m
def noPer (f : Nat → Int32) (n : Nat) : Prop := ∀ y, 1 ≤ y → y < n → ¬ (n % y = 0 ∧ perP f n y)
theorem nI_lt9 {a b : Nat} (h : a < b) (hb : b < 2 ^ 31) : nI a < nI b := Int32.lt_iff_toInt_lt.mpr (by rw [nI_toInt (by omega), nI_toInt hb]; omega)
theorem rep_1 {f : Nat → Int32} {n : Nat} {r : Int32} (hn : n ≤ 12) (h : repP f n r) : (r = 1 → noPer f n) ∧ (noPer f n → r = 1) := by
  rcases h with ⟨p, h1, h2, h3, h4, h5, h6⟩ | ⟨h1, h2⟩
  · have hd : n / p ≤ n := Nat.div_le_self _ _
    refine ⟨fun q => ?_, fun q => absurd ⟨h3, h4⟩ (q p h1 h2)⟩
    rw [h5] at q
    have e : n / p = 1 := n_eq (b := 1) q (by omega) (by omega)
    have h9 := Nat.div_add_mod n p
    rw [e, h3] at h9
    omega
  · exact ⟨fun _ => h2, fun _ => h1⟩
def rgM (g f : Nat → Int32) (n : Nat) : Prop := alM g f n ∧ tuM g f n ∧ noPer f n ∧ ftP f n
def abM (g f : Nat → Int32) (n : Nat) (z r : Int32) : Prop := (z = 0 ∧ r = nI n) ∨ (z = 1 ∧ bI r (alM g f n)) ∨ (z = 2 ∧ bI r (rgM g f n)) ∨ (z = 3 ∧ repP f n r) ∨ (¬ z = 0 ∧ ¬ z = 1 ∧ ¬ z = 2 ∧ ¬ z = 3 ∧ r = -2)
def RAB (w z r : Int32) (en : Nat → va_E) : Prop := (¬ hasQ w (rdI (en 0) 30) ∧ r = -1) ∨ ∃ (W N : Nat) (f : Nat → Int32), w = nI W ∧ W < 10 ∧ hasQ w (rdI (en 0) 30) ∧ rdF (en 19) W = nI N ∧ 1 ≤ N ∧ N ≤ 12 ∧ (∀ x, x < N → f x = rdF (en 18) (12 * W + x)) ∧ abM (rdF (en 2)) f N z r
theorem WY_up {f : Nat → Int64} {g : Nat → Nat} {m : Nat} {v : Int64} (h : ∀ x, x < m → f x = nL (g x)) (hv : v = nL (g m)) : ∀ x, x < m + 1 → vp_updL f m v x = nL (g x) := by
  intro x hx
  by_cases e : x = m
  · rw [e, pk_uLs]; exact hv
  · rw [pk_uLn e]; exact h x (by omega)
theorem WY_un {f : Nat → Int64} {g : Nat → Nat} {m j : Nat} {v : Int64} (h : ∀ x, x < m → f x = nL (g x)) (hj : m ≤ j) : ∀ x, x < m → vp_updL f j v x = nL (g x) := by
  intro x hx
  rw [pk_uLn (by omega)]
  exact h x hx
def SPN (en : Nat → va_E) (n : Nat) : Nat := sumN (fun t => bw (rdI (en 0) 4).toNatClampNeg (alR (rdF (en 2))) (n - 1) t) (rdI (en 0) 4).toNatClampNeg
