/-- all but words -/
def KPw (en e1 : Nat → va_E) : Prop := rdI (e1 0) 1 = rdI (en 0) 1 ∧ rdI (e1 0) 2 = rdI (en 0) 2 ∧ rdI (e1 0) 3 = rdI (en 0) 3 ∧ rdI (e1 0) 4 = rdI (en 0) 4 ∧ rdI (e1 0) 25 = rdI (en 0) 25
theorem KPw_of {a b : Nat → va_E} (h : KP a b) : KPw a b := ⟨h.1, h.2.1, h.2.2.1, h.2.2.2.1, h.2.2.2.2.1⟩
theorem KPw_fv {a b c : Nat → va_E} {A B : va_E} (h : KPw a b) (h1 : b 0 = A) (h2 : c 0 = B) (v1 v2 v3 v4 v6 : Int32) (j1 : rdI A 1 = v1) (j2 : rdI A 2 = v2) (j3 : rdI A 3 = v3) (j4 : rdI A 4 = v4) (j6 : rdI A 25 = v6) (k1 : rdI B 1 = v1) (k2 : rdI B 2 = v2) (k3 : rdI B 3 = v3) (k4 : rdI B 4 = v4) (k6 : rdI B 25 = v6) : KPw a c := by
  unfold KPw at h ⊢
  rw [h2, k1, k2, k3, k4, k6, ← j1, ← j2, ← j3, ← j4, ← j6, ← h1]
  exact h
theorem RWX_add {en e1 : Nat → va_E} {wo N : Nat} (h : RWX en) (hwo : wo < 10) (h0 : rdI (en 0) 30 = nI wo) (h1 : rdI (e1 0) 30 = nI (wo + 1)) (hN1 : 1 ≤ N) (hN : N ≤ 12) (h2 : rdF (e1 19) = upd (rdF (en 19)) wo (nI N)) : RWX e1 := by
  intro w hw
  rw [h1, nI_toInt (by omega)] at hw
  rw [h2]
  by_cases e : w = wo
  · rw [e, pk_us, nI_toInt (by omega)]
    omega
  · rw [pk_un e]
    exact h w (by rw [h0, nI_toInt (by omega)]; omega)
