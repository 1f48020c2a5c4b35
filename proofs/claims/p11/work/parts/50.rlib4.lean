/-- all but words -/
def KPw (en e1 : Nat → va_E) : Prop := rdI (e1 0) 1 = rdI (en 0) 1 ∧ rdI (e1 0) 2 = rdI (en 0) 2 ∧ rdI (e1 0) 3 = rdI (en 0) 3 ∧ rdI (e1 0) 4 = rdI (en 0) 4 ∧ rdI (e1 0) 25 = rdI (en 0) 25
theorem KPw_of {a b : Nat → va_E} (h : KP a b) : KPw a b := ⟨h.1, h.2.1, h.2.2.1, h.2.2.2.1, h.2.2.2.2.1⟩
theorem KPw_fv {a b c : Nat → va_E} {A B : va_E} (h : KPw a b) (h1 : b 0 = A) (h2 : c 0 = B) (v1 v2 v3 v4 v6 : Int32) (j1 : rdI A 1 = v1) (j2 : rdI A 2 = v2) (j3 : rdI A 3 = v3) (j4 : rdI A 4 = v4) (j6 : rdI A 25 = v6) (k1 : rdI B 1 = v1) (k2 : rdI B 2 = v2) (k3 : rdI B 3 = v3) (k4 : rdI B 4 = v4) (k6 : rdI B 25 = v6) : KPw a c := by
  unfold KPw at h ⊢
  rw [h2, k1, k2, k3, k4, k6, ← j1, ← j2, ← j3, ← j4, ← j6, ← h1]
  exact h
theorem RWX_add {en e1 : Nat → va_E} {wo N : Nat} (h : RWX en) (hwo : wo < 10) (h0 : rdI (en 0) 30 = nI wo) (h1 : rdI (e1 0) 30 = nI (wo + 1)) (hN1 : 1 ≤ N) (hN : N ≤ 12) (h2 : rdF (e1 19) = upd (rdF (en 19)) wo (nI N)) : RWX e1 := by
  intro w hw
  rw [h1, nI_toInt (by omega)] at hw
  rw [h2]
  by_cases e : w = wo
  · rw [e, pk_us, nI_toInt (by omega)]
    omega
  · rw [pk_un e]
    exact h w (by rw [h0, nI_toInt (by omega)]; omega)
/-- word, join: what the reference answers and leaves -/
def RKO (P : Prop) (N : Nat) (g : Nat → Int32) (r : Int32) (en e1 : Nat → va_E) : Prop := (¬ P ∧ rdI (e1 0) 30 = rdI (en 0) 30 ∧ e1 18 = en 18 ∧ e1 19 = en 19) ∨ (P ∧ ∃ wo : Nat, r = nI wo ∧ rdI (en 0) 30 = nI wo ∧ wo < 10 ∧ 1 ≤ N ∧ N ≤ 12 ∧ rdI (e1 0) 30 = nI (wo + 1) ∧ rdF (e1 19) = upd (rdF (en 19)) wo (nI N) ∧ ∀ x, rdF (e1 18) x = if 12 * wo ≤ x ∧ x < 12 * wo + N then g (x - 12 * wo) else rdF (en 18) x)
def okWR (k la i n : Int32) (en : Nat → va_E) : Prop := agF (rdF (en 3) k.toNatClampNeg) k la = 0 ∧ 1 ≤ n.toInt ∧ n.toInt ≤ 12 ∧ 0 ≤ i.toInt ∧ i.toInt + n.toInt ≤ (rdF (en 4) k.toNatClampNeg).toInt ∧ (∀ x, x < n.toNatClampNeg → hasQ (rdF (en 5) (40 * k.toNatClampNeg + i.toNatClampNeg + x)) (rdI (en 0) 4)) ∧ (rdI (en 0) 30).toInt < 10
def RWO (k la i n r : Int32) (en e1 : Nat → va_E) : Prop := RKO (okWR k la i n en) n.toNatClampNeg (fun x => rdF (en 5) (40 * k.toNatClampNeg + i.toNatClampNeg + x)) r en e1
def jRG (en : Nat → va_E) (a b v y : Nat) : Int32 := if y < v then rdF (en 18) (12 * a + y) else rdF (en 18) (12 * b + (y - v))
def RJO (a b r : Int32) (en e1 : Nat → va_E) : Prop := jR (rdI (en 0) 30) (rdF (en 19) a.toNatClampNeg) (rdF (en 19) b.toNatClampNeg) a b r ∧ RKO (jOK (rdI (en 0) 30) (rdF (en 19) a.toNatClampNeg) (rdF (en 19) b.toNatClampNeg) a b) ((rdF (en 19) a.toNatClampNeg).toNatClampNeg + (rdF (en 19) b.toNatClampNeg).toNatClampNeg) (jRG en a.toNatClampNeg b.toNatClampNeg (rdF (en 19) a.toNatClampNeg).toNatClampNeg) r en e1
theorem cp_upd {g g0 c : Nat → Int32} {a j q j1 : Nat} {v : Int32} (h : ∀ x, g x = if a ≤ x ∧ x < a + j then c (x - a) else g0 x) (hq : q = a + j) (hj : j1 = j + 1) (hv : c j = v) (x : Nat) : upd g q v x = if a ≤ x ∧ x < a + j1 then c (x - a) else g0 x := by
  subst hq
  subst hj
  by_cases e : x = a + j
  · rw [e, pk_us, if_pos (by omega), show a + j - a = j by omega, hv]
  · rw [pk_un e, h x]
    by_cases q : a ≤ x ∧ x < a + j
    · rw [if_pos q, if_pos (by omega)]
    · rw [if_neg q, if_neg (by omega)]
theorem ak_upd {g : Nat → Int32} {j x : Nat} {v t : Int32} (h : x < j → g x = t) (hx : x < j + 1) (hv : x = j → t = v) : upd g j v x = t := by
  by_cases e : x = j
  · rw [e, pk_us]; exact (hv e).symm
  · rw [pk_un e]; exact h (by omega)
