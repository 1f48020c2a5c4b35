def sumI (g : Nat → Int32) : Nat → Int32
  | 0 => 0
  | n + 1 => sumI g n + g n
def maxI (x y : Int32) : Int32 := if x < y then y else x
def gmx (g : Nat → Int32) : Nat → Int32
  | 0 => 0
  | n + 1 => maxI (gmx g n) (g n)
/-- kinds of a row of d times d entries -/
def evP (f : Nat → Int32) (n : Nat) : Prop := ∀ i, i < n → ¬ f i < 0
def shP (f : Nat → Int32) (d : Nat) : Prop := evP f (d * d) ∧ ∀ i, i < d → (sumI (fun z => f (i * d + z)) d = 1 ∧ sumI (fun z => f (z * d + i)) d = 1)
def kdP (ci : Nat) (f : Nat → Int32) (d : Nat) : Prop := (ci = 4 ∧ shP f d) ∨ (ci = 1 ∧ ¬ shP f d ∧ evP f (d * d)) ∨ (ci = 6 ∧ ¬ evP f (d * d))
/-- a table of class ci, taken as one of the kind z -/
def okK (ci : Nat) (z : Int32) : Prop := z = 0 ∨ (ci ≠ 6 ∧ z = 1) ∨ (ci = 4 ∧ z = 2)
/-- an answer that is 1 where P, else 0 -/
def bI (x : Int32) (P : Prop) : Prop := (x = 1 ∧ P) ∨ (x = 0 ∧ ¬ P)
/-- what is said of a row of letters -/
def perP (f : Nat → Int32) (n p : Nat) : Prop := ∀ i, p ≤ i → i < n → f i = f (i - p)
def repP (f : Nat → Int32) (n : Nat) (r : Int32) : Prop := (∃ p, 1 ≤ p ∧ p < n ∧ n % p = 0 ∧ perP f n p ∧ r = nI (n / p) ∧ ∀ y, 1 ≤ y → y < p → ¬ (n % y = 0 ∧ perP f n y)) ∨ (r = 1 ∧ ∀ y, 1 ≤ y → y < n → ¬ (n % y = 0 ∧ perP f n y))
def ahP (f : Nat → Int32) (n m : Nat) : Prop := ∃ i, i < n ∧ (∀ y, y < i → f y = f ((y + m) % n)) ∧ f i < f ((i + m) % n)
def ahA (f : Nat → Int32) (n : Nat) : Prop := ∀ m, 1 ≤ m → m < n → ahP f n m
def alP (g f : Nat → Int32) (n : Nat) : Prop := ∀ i, 1 ≤ i → i < n → g ((f (i - 1)).toNatClampNeg * 6 + (f i).toNatClampNeg) = 1
def tuP (g f : Nat → Int32) (n : Nat) : Prop := g ((f (n - 1)).toNatClampNeg * 6 + (f 0).toNatClampNeg) = 1
theorem bI_01 {x : Int32} {P : Prop} (h : bI x P) : x = 0 ∨ x = 1 := h.elim (fun q => Or.inr q.1) (fun q => Or.inl q.1)
/-- the product of the letters l 0 .. l k, R the rows of the tables -/
def prW (d mm : Nat) (R : Nat → Nat → Int64) (l : Nat → Int32) : Nat → Nat → Int64
  | 0 => R (l 0).toNatClampNeg
  | k + 1 => mulV d mm (prW d mm R l k) (R (l (k + 1)).toNatClampNeg)
theorem prW_s {d mm : Nat} {R : Nat → Nat → Int64} {l : Nat → Int32} {j : Nat} (hj : 1 ≤ j) : prW d mm R l (j + 1 - 1) = mulV d mm (prW d mm R l (j - 1)) (R (l j).toNatClampNeg) := by
  obtain ⟨k, rfl⟩ : ∃ k, j = k + 1 := ⟨j - 1, by omega⟩
  rfl
theorem sumTo_c {f g : Nat → Int64} : ∀ n : Nat, (∀ z, z < n → f z = g z) → sumTo f n = sumTo g n := by
  intro n
  induction n with
  | zero => intro _; rfl
  | succ n ih =>
    intro h
    show sumTo f n + f n = sumTo g n + g n
    rw [ih (fun z hz => h z (by omega)), h n (by omega)]
theorem rc_lt {d a b : Nat} (ha : a < d) (hb : b < d) : a * d + b < d * d := by
  have h9 : (a + 1) * d ≤ d * d := Nat.mul_le_mul_right d ha
  rw [Nat.add_mul, Nat.one_mul] at h9
  omega
theorem mulV_c {d mm : Nat} {fa ga fb gb : Nat → Int64} {i : Nat} (hi : i < d * d) (ha : ∀ x, x < d * d → fa x = ga x) (hb : ∀ x, x < d * d → fb x = gb x) : mulV d mm fa fb i = mulV d mm ga gb i := by
  have h1 : i / d < d := Nat.div_lt_of_lt_mul hi
  have h0 : 0 < d := Nat.lt_of_le_of_lt (Nat.zero_le _) h1
  have h2 : i % d < d := Nat.mod_lt _ h0
  unfold mulV dotL
  refine congrArg (restL mm) (sumTo_c d (fun k hk => ?_))
  rw [ha _ (rc_lt h1 hk), hb _ (rc_lt hk h2)]
theorem prW_c {d mm : Nat} {R Q : Nat → Nat → Int64} {l g : Nat → Int32} : ∀ k : Nat, (∀ x, x ≤ k → ∀ i, i < d * d → R (l x).toNatClampNeg i = Q (g x).toNatClampNeg i) → ∀ i, i < d * d → prW d mm R l k i = prW d mm Q g k i := by
  intro k
  induction k with
  | zero => intro h i hi; exact h 0 (Nat.le_refl _) i hi
  | succ k ih =>
    intro h i hi
    exact mulV_c hi (ih (fun x hx => h x (by omega))) (h (k + 1) (Nat.le_refl _))
