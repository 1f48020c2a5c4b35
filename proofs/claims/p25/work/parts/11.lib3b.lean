def sumI (g : Nat → Int32) : Nat → Int32
  | 0 => 0
  | n + 1 => sumI g n + g n
def maxI (x y : Int32) : Int32 := if x < y then y else x
def gmx (g : Nat → Int32) : Nat → Int32
  | 0 => 0
  | n + 1 => maxI (gmx g n) (g n)
/-- kinds of a row of d times d entries -/
def evP (f : Nat → Int32) (n : Nat) : Prop := ∀ i, i < n → ¬ f i < 0
def shP (f : Nat → Int32) (d : Nat) : Prop := evP f (d * d) ∧ ∀ i, i < d → (sumI (fun z => f (i * d + z)) d = 1 ∧ sumI (fun z => f (z * d + i)) d = 1)
def kdP (ci : Nat) (f : Nat → Int32) (d : Nat) : Prop := (ci = 4 ∧ shP f d) ∨ (ci = 1 ∧ ¬ shP f d ∧ evP f (d * d)) ∨ (ci = 6 ∧ ¬ evP f (d * d))
/-- a table of class ci, taken as one of the kind z -/
def okK (ci : Nat) (z : Int32) : Prop := z = 0 ∨ (ci ≠ 6 ∧ z = 1) ∨ (ci = 4 ∧ z = 2)
/-- an answer that is 1 where P, else 0 -/
def bI (x : Int32) (P : Prop) : Prop := (x = 1 ∧ P) ∨ (x = 0 ∧ ¬ P)
/-- what is said of a row of letters -/
def perP (f : Nat → Int32) (n p : Nat) : Prop := ∀ i, p ≤ i → i < n → f i = f (i - p)
def repP (f : Nat → Int32) (n : Nat) (r : Int32) : Prop := (∃ p, 1 ≤ p ∧ p < n ∧ n % p = 0 ∧ perP f n p ∧ r = nI (n / p) ∧ ∀ y, 1 ≤ y → y < p → ¬ (n % y = 0 ∧ perP f n y)) ∨ (r = 1 ∧ ∀ y, 1 ≤ y → y < n → ¬ (n % y = 0 ∧ perP f n y))
def ahP (f : Nat → Int32) (n m : Nat) : Prop := ∃ i, i < n ∧ (∀ y, y < i → f y = f ((y + m) % n)) ∧ f i < f ((i + m) % n)
def ahA (f : Nat → Int32) (n : Nat) : Prop := ∀ m, 1 ≤ m → m < n → ahP f n m
def alP (g f : Nat → Int32) (n : Nat) : Prop := ∀ i, 1 ≤ i → i < n → g ((f (i - 1)).toNatClampNeg * 6 + (f i).toNatClampNeg) = 1
def tuP (g f : Nat → Int32) (n : Nat) : Prop := g ((f (n - 1)).toNatClampNeg * 6 + (f 0).toNatClampNeg) = 1
theorem bI_01 {x : Int32} {P : Prop} (h : bI x P) : x = 0 ∨ x = 1 := h.elim (fun q => Or.inr q.1) (fun q => Or.inl q.1)
