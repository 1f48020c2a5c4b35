/-! the reference: numbers, and what its calls keep -/
theorem mdr {r c d : Nat} (hr : r < d) (hc : c < d) (hd : d ≤ 3) : d * r + c < 9 := by rw [Nat.mul_comm]; exact md3 hr hc hd
theorem mww {d : Nat} (hd : d ≤ 3) : d * d ≤ 9 := Nat.mul_le_mul hd hd
theorem wj_m1 {x : Int32} {w : Nat} (hw : w < 2 ^ 31) : wj x.toInt64 0 ((nI w).toInt64 - 1) ↔ (0 ≤ x.toInt ∧ x.toInt < (w : Int)) := by
  have h0 : (0 : Int64).toInt = 0 := by decide
  unfold wj
  rw [Int32.toInt_toInt64, nI_l hw, h0]
  by_cases e : w = 0
  · subst e
    have h1 : (lN 0 - 1).toInt = -1 := by decide
    rw [h1]
    omega
  · rw [show (1 : Int64) = lN 1 from rfl, lN_sub (by omega), lN_toInt (by omega)]
    omega
theorem wi_nn {N : Nat} {a b : Int32} (h : wi (nI N) a b) (A B : Nat) (ha : a.toInt = A) (hb : b.toInt = B) (hN : N < 2 ^ 31) : A ≤ N ∧ N ≤ B := by
  have h1 := h.1
  have h2 := h.2
  rw [nI_toInt hN] at h1 h2
  omega
theorem le_sub_nat {i : Int32} {a b : Nat} (h0 : ¬ i < 0) (h : i ≤ nI a - nI b) (ha : a < 2 ^ 30) (hb : b < 2 ^ 30) : ∃ I, i = nI I ∧ I + b ≤ a := by
  obtain ⟨I, hI, rfl⟩ := nI_of h0
  have h1 := i_le h
  rw [pk_sub_toInt ha hb, nI_toInt hI] at h1
  exact ⟨I, rfl, by omega⟩
def absR (x : Int64) : Int64 := if x < 0 then -x else x
def restR (m : Nat) (v : Int64) : Int64 := if m = 0 then v else ((v - v / (nI m).toInt64 * (nI m).toInt64) + (nI m).toInt64) - ((v - v / (nI m).toInt64 * (nI m).toInt64) + (nI m).toInt64) / (nI m).toInt64 * (nI m).toInt64
/-- what most calls keep of the reference's object: history, wide, modulus, tables, products, words -/
def KP (en e1 : Nat → va_E) : Prop := rdI (e1 0) 1 = rdI (en 0) 1 ∧ rdI (e1 0) 2 = rdI (en 0) 2 ∧ rdI (e1 0) 3 = rdI (en 0) 3 ∧ rdI (e1 0) 4 = rdI (en 0) 4 ∧ rdI (e1 0) 25 = rdI (en 0) 25 ∧ rdI (e1 0) 30 = rdI (en 0) 30
theorem KP_rf (en : Nat → va_E) : KP en en := ⟨rfl, rfl, rfl, rfl, rfl, rfl⟩
theorem KP_tr {a b c : Nat → va_E} (h : KP a b) (k : KP b c) : KP a c := ⟨k.1.trans h.1, k.2.1.trans h.2.1, k.2.2.1.trans h.2.2.1, k.2.2.2.1.trans h.2.2.2.1, k.2.2.2.2.1.trans h.2.2.2.2.1, k.2.2.2.2.2.trans h.2.2.2.2.2⟩
theorem KP_same {a b c : Nat → va_E} (h : KP a b) (k : c 0 = b 0) : KP a c := by
  unfold KP at h ⊢
  rw [k]
  exact h
theorem KP_fs {a b c : Nat → va_E} {A B : va_E} (h : KP a b) (h1 : b 0 = A) (h2 : c 0 = B) (k1 : rdI B 1 = rdI A 1) (k2 : rdI B 2 = rdI A 2) (k3 : rdI B 3 = rdI A 3) (k4 : rdI B 4 = rdI A 4) (k5 : rdI B 25 = rdI A 25) (k6 : rdI B 30 = rdI A 30) : KP a c := by
  unfold KP at h ⊢
  rw [h2, k1, k2, k3, k4, k5, k6, ← h1]
  exact h
/-- what the walk of words keeps too: the numbers of what was found -/
def KPg (en e1 : Nat → va_E) : Prop := rdI (e1 0) 1 = rdI (en 0) 1 ∧ rdI (e1 0) 2 = rdI (en 0) 2 ∧ rdI (e1 0) 3 = rdI (en 0) 3 ∧ rdI (e1 0) 4 = rdI (en 0) 4 ∧ rdI (e1 0) 25 = rdI (en 0) 25 ∧ rdI (e1 0) 30 = rdI (en 0) 30 ∧ rdJ (e1 0) 15 = rdJ (en 0) 15 ∧ rdJ (e1 0) 16 = rdJ (en 0) 16 ∧ rdJ (e1 0) 17 = rdJ (en 0) 17 ∧ rdJ (e1 0) 18 = rdJ (en 0) 18 ∧ rdI (e1 0) 22 = rdI (en 0) 22 ∧ rdJ (e1 0) 23 = rdJ (en 0) 23
theorem KPg_rf (en : Nat → va_E) : KPg en en := ⟨rfl, rfl, rfl, rfl, rfl, rfl, rfl, rfl, rfl, rfl, rfl, rfl⟩
theorem KPg_tr {a b c : Nat → va_E} (h : KPg a b) (k : KPg b c) : KPg a c := ⟨k.1.trans h.1, k.2.1.trans h.2.1, k.2.2.1.trans h.2.2.1, k.2.2.2.1.trans h.2.2.2.1, k.2.2.2.2.1.trans h.2.2.2.2.1, k.2.2.2.2.2.1.trans h.2.2.2.2.2.1, k.2.2.2.2.2.2.1.trans h.2.2.2.2.2.2.1, k.2.2.2.2.2.2.2.1.trans h.2.2.2.2.2.2.2.1, k.2.2.2.2.2.2.2.2.1.trans h.2.2.2.2.2.2.2.2.1, k.2.2.2.2.2.2.2.2.2.1.trans h.2.2.2.2.2.2.2.2.2.1, k.2.2.2.2.2.2.2.2.2.2.1.trans h.2.2.2.2.2.2.2.2.2.2.1, k.2.2.2.2.2.2.2.2.2.2.2.trans h.2.2.2.2.2.2.2.2.2.2.2⟩
theorem KPg_same {a b c : Nat → va_E} (h : KPg a b) (k : c 0 = b 0) : KPg a c := by
  unfold KPg at h ⊢
  rw [k]
  exact h
theorem KPg_fv {a b c : Nat → va_E} {A B : va_E} (h : KPg a b) (h1 : b 0 = A) (h2 : c 0 = B) (v1 : Int32) (v2 : Int32) (v3 : Int32) (v4 : Int32) (v25 : Int32) (v30 : Int32) (v15 : Int64) (v16 : Int64) (v17 : Int64) (v18 : Int64) (v22 : Int32) (v23 : Int64) (j1 : rdI A 1 = v1) (j2 : rdI A 2 = v2) (j3 : rdI A 3 = v3) (j4 : rdI A 4 = v4) (j25 : rdI A 25 = v25) (j30 : rdI A 30 = v30) (j15 : rdJ A 15 = v15) (j16 : rdJ A 16 = v16) (j17 : rdJ A 17 = v17) (j18 : rdJ A 18 = v18) (j22 : rdI A 22 = v22) (j23 : rdJ A 23 = v23) (k1 : rdI B 1 = v1) (k2 : rdI B 2 = v2) (k3 : rdI B 3 = v3) (k4 : rdI B 4 = v4) (k25 : rdI B 25 = v25) (k30 : rdI B 30 = v30) (k15 : rdJ B 15 = v15) (k16 : rdJ B 16 = v16) (k17 : rdJ B 17 = v17) (k18 : rdJ B 18 = v18) (k22 : rdI B 22 = v22) (k23 : rdJ B 23 = v23) : KPg a c := by
  unfold KPg at h ⊢
  rw [h2, k1, k2, k3, k4, k25, k30, k15, k16, k17, k18, k22, k23, ← j1, ← j2, ← j3, ← j4, ← j25, ← j30, ← j15, ← j16, ← j17, ← j18, ← j22, ← j23, ← h1]
  exact h
theorem KPg.kp {a b : Nat → va_E} (h : KPg a b) : KP a b := ⟨h.1, h.2.1, h.2.2.1, h.2.2.2.1, h.2.2.2.2.1, h.2.2.2.2.2.1⟩
/-- the same without history -/
def KPx (en e1 : Nat → va_E) : Prop := rdI (e1 0) 2 = rdI (en 0) 2 ∧ rdI (e1 0) 3 = rdI (en 0) 3 ∧ rdI (e1 0) 4 = rdI (en 0) 4 ∧ rdI (e1 0) 25 = rdI (en 0) 25 ∧ rdI (e1 0) 30 = rdI (en 0) 30
theorem KPx_rf (en : Nat → va_E) : KPx en en := ⟨rfl, rfl, rfl, rfl, rfl⟩
theorem KPx_tr {a b c : Nat → va_E} (h : KPx a b) (k : KPx b c) : KPx a c := ⟨k.1.trans h.1, k.2.1.trans h.2.1, k.2.2.1.trans h.2.2.1, k.2.2.2.1.trans h.2.2.2.1, k.2.2.2.2.trans h.2.2.2.2⟩
theorem KPx_same {a b c : Nat → va_E} (h : KPx a b) (k : c 0 = b 0) : KPx a c := by
  unfold KPx at h ⊢
  rw [k]
  exact h
theorem KPx_fs {a b c : Nat → va_E} {A B : va_E} (h : KPx a b) (h1 : b 0 = A) (h2 : c 0 = B) (k2 : rdI B 2 = rdI A 2) (k3 : rdI B 3 = rdI A 3) (k4 : rdI B 4 = rdI A 4) (k5 : rdI B 25 = rdI A 25) (k6 : rdI B 30 = rdI A 30) : KPx a c := by
  unfold KPx at h ⊢
  rw [h2, k2, k3, k4, k5, k6, ← h1]
  exact h
theorem KP.x {a b : Nat → va_E} (h : KP a b) : KPx a b := h.2
/-- a sheet held against a lane -/
def agF (la k lane : Int32) : Int32 := if wi k 0 3 then (if wi lane 0 2 then (if (la ≠ -9 ∧ la ≠ lane) then -12 else if la = -9 then -11 else 0) else -2) else -1
theorem agF_0 {la k lane : Int32} (h : agF la k lane = 0) : wi k 0 3 ∧ wi lane 0 2 ∧ la = lane := by
  unfold agF at h
  by_cases h1 : wi k 0 3
  · rw [if_pos h1] at h
    by_cases h2 : wi lane 0 2
    · rw [if_pos h2] at h
      by_cases h3 : la ≠ -9 ∧ la ≠ lane
      · rw [if_pos h3] at h; exact absurd h (by decide)
      · rw [if_neg h3] at h
        by_cases h4 : la = -9
        · rw [if_pos h4] at h; exact absurd h (by decide)
        · exact ⟨h1, h2, Decidable.byContradiction (fun q => h3 ⟨h4, q⟩)⟩
    · rw [if_neg h2] at h; exact absurd h (by decide)
  · rw [if_neg h1] at h; exact absurd h (by decide)
theorem bit_and {x y : Int32} (hx : x = 0 ∨ x = 1) (hy : y = 0 ∨ y = 1) : x &&& y = 0 ∨ x &&& y = 1 := by
  rcases hx with rfl | rfl <;> rcases hy with rfl | rfl <;> decide
theorem z_upd {f : Nat → Int32} {j i : Nat} {x v : Int32} (hi : i < j + 1) (hx : x = v) (h : i < j → f i = v) : upd f j x i = v := by
  by_cases e : i = j
  · rw [e, pk_us]; exact hx
  · rw [pk_un e]; exact h (by omega)
theorem vp_bit0 : vp_nar .boolean 0 = 0 := rfl
theorem vp_bit1 : vp_nar .boolean 1 = 1 := rfl
/-- every word kept has a letter -/
def RWX (en : Nat → va_E) : Prop := ∀ w : Nat, (w : Int) < (rdI (en 0) 30).toInt → 1 ≤ (rdF (en 19) w).toInt
theorem RWX_1 {en : Nat → va_E} {w wo v : Nat} {f : Nat → Int32} (h : RWX en) (h0 : rdI (en 0) 30 = nI wo) (ho : wo ≤ 10) (hw : w < wo) (hf : rdF (en 19) = f) (hv : f w = nI v) (hv2 : v < 2 ^ 31) : 1 ≤ v := by
  have h1 := h w (by rw [h0, nI_toInt (by omega)]; omega)
  rw [hf, hv, nI_toInt hv2] at h1
  omega
theorem RWX_keep {en e1 : Nat → va_E} (h : RWX en) (h0 : rdI (e1 0) 30 = rdI (en 0) 30) (h1 : e1 19 = en 19) : RWX e1 := by
  intro w hw
  rw [h0] at hw
  rw [h1]
  exact h w hw
theorem KP_fv {a b c : Nat → va_E} {A B : va_E} (h : KP a b) (h1 : b 0 = A) (h2 : c 0 = B) (v1 v2 v3 v4 v5 v6 : Int32) (j1 : rdI A 1 = v1) (j2 : rdI A 2 = v2) (j3 : rdI A 3 = v3) (j4 : rdI A 4 = v4) (j5 : rdI A 25 = v5) (j6 : rdI A 30 = v6) (k1 : rdI B 1 = v1) (k2 : rdI B 2 = v2) (k3 : rdI B 3 = v3) (k4 : rdI B 4 = v4) (k5 : rdI B 25 = v5) (k6 : rdI B 30 = v6) : KP a c :=
  KP_fs h h1 h2 (k1.trans j1.symm) (k2.trans j2.symm) (k3.trans j3.symm) (k4.trans j4.symm) (k5.trans j5.symm) (k6.trans j6.symm)
theorem KPx_fv {a b c : Nat → va_E} {A B : va_E} (h : KPx a b) (h1 : b 0 = A) (h2 : c 0 = B) (v2 v3 v4 v5 v6 : Int32) (j2 : rdI A 2 = v2) (j3 : rdI A 3 = v3) (j4 : rdI A 4 = v4) (j5 : rdI A 25 = v5) (j6 : rdI A 30 = v6) (k2 : rdI B 2 = v2) (k3 : rdI B 3 = v3) (k4 : rdI B 4 = v4) (k5 : rdI B 25 = v5) (k6 : rdI B 30 = v6) : KPx a c :=
  KPx_fs h h1 h2 (k2.trans j2.symm) (k3.trans j3.symm) (k4.trans j4.symm) (k5.trans j5.symm) (k6.trans j6.symm)
