/-! the reference's sheets: what its calls answer and leave -/
def RSH (k la n r : Int32) (en e1 : Nat → va_E) : Prop := r = spSheet k la n ∧ ((r ≠ 1 ∧ e1 3 = en 3 ∧ e1 4 = en 4 ∧ e1 5 = en 5) ∨ (r = 1 ∧ ∃ K N : Nat, k = nI K ∧ n = nI N ∧ K < 4 ∧ N ≤ 40 ∧ rdF (e1 3) = upd (rdF (en 3)) K la ∧ rdF (e1 4) = upd (rdF (en 4)) K (nI N) ∧ ∀ i, rdF (e1 5) i = if 40 * K ≤ i ∧ i < 40 * K + 40 then 0 else rdF (en 5) i))
def RLO (k r : Int32) (en e1 : Nat → va_E) : Prop := (¬ wi k 0 3 ∧ r = -1 ∧ e1 = en) ∨ ∃ K : Nat, k = nI K ∧ K < 4 ∧ ((rdF (en 3) K = -9 ∧ r = 0) ∨ (rdF (en 3) K ≠ -9 ∧ r = 1)) ∧ rdF (e1 3) = upd (rdF (en 3)) K (-9)
def putR (l sl k i : Int32) : Int32 := if wi k 0 3 then (if l = -9 then -11 else if (0 ≤ i.toInt ∧ i.toInt < sl.toInt) then 1 else -13) else -1
def RPU (k i v r : Int32) (en e1 : Nat → va_E) : Prop := r = putR (rdF (en 3) k.toNatClampNeg) (rdF (en 4) k.toNatClampNeg) k i ∧ ((r ≠ 1 ∧ e1 5 = en 5) ∨ (r = 1 ∧ ∃ K I : Nat, k = nI K ∧ i = nI I ∧ K < 4 ∧ I < 40 ∧ rdF (e1 5) = upd (rdF (en 5)) (40 * K + I) (narV (rdF (en 3) K) v)))
def atR (l sl cv k i la : Int32) : Int64 := if wi k 0 3 ∧ wi la 0 2 then (if (l ≠ -9 ∧ l ≠ la) then (-9223372036854775808) else if l = -9 then (-9223372036854775808) else if (0 ≤ i.toInt ∧ i.toInt < sl.toInt) then cv.toInt64 else (-9223372036854775808)) else (-9223372036854775808)
def RAT (k i la : Int32) (r : Int64) (en : Nat → va_E) : Prop := r = atR (rdF (en 3) k.toNatClampNeg) (rdF (en 4) k.toNatClampNeg) (rdF (en 5) (40 * k.toNatClampNeg + i.toNatClampNeg)) k i la
theorem z_40 {g g0 : Nat → Int32} {K j : Nat} (h : ∀ i, g i = if 40 * K ≤ i ∧ i < 40 * K + j then 0 else g0 i) (i : Nat) : upd g (40 * K + j) 0 i = if 40 * K ≤ i ∧ i < 40 * K + (j + 1) then 0 else g0 i := by
  by_cases e : i = 40 * K + j
  · rw [e, pk_us, if_pos (by omega)]
  · rw [pk_un e, h i]
    by_cases q : 40 * K ≤ i ∧ i < 40 * K + j
    · rw [if_pos q, if_pos (by omega)]
    · rw [if_neg q, if_neg (by omega)]
