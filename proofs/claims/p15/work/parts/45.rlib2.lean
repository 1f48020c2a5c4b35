/-! the reference's walk of words: where it stands, and how far it is -/
def nsum (g : Nat → Int32) : Nat → Nat
  | 0 => 0
  | k + 1 => nsum g k + ((g k).toNatClampNeg + 1) * 8 ^ (8 - k)
def NWp (g : Nat → Int32) (d u : Nat) : Prop := (∀ i, i < d → ∃ v, v < 6 ∧ g i = nI v) ∧ g d + 1 = nI u ∧ u ≤ 6
def nmv (g : Nat → Int32) (d u : Nat) : Nat := nsum g d + (u + 1) * 8 ^ (8 - d)
theorem nsum_congr {g g' : Nat → Int32} : ∀ {d : Nat}, (∀ i, i < d → g' i = g i) → nsum g' d = nsum g d
  | 0, _ => rfl
  | d + 1, h => by
    show nsum g' d + _ = nsum g d + _
    rw [nsum_congr (d := d) (fun i hi => h i (by omega)), h d (by omega)]
theorem pow8 (k : Nat) (h : k < 8) : 8 ^ (8 - k) = 8 * 8 ^ (8 - (k + 1)) := by
  rw [show 8 - k = (8 - (k + 1)) + 1 by omega, Nat.pow_succ, Nat.mul_comm]
theorem nsum_le {g : Nat → Int32} : ∀ {d : Nat}, d ≤ 8 → (∀ i, i < d → ∃ v, v < 6 ∧ g i = nI v) → nsum g d + 8 * 8 ^ (8 - d) ≤ 134217728
  | 0, _, _ => by show 0 + 8 * 8 ^ 8 ≤ 134217728; decide
  | d + 1, hd, h => by
    have ih := nsum_le (d := d) (by omega) (fun i hi => h i (by omega))
    obtain ⟨v, hv, e⟩ := h d (by omega)
    show nsum g d + ((g d).toNatClampNeg + 1) * 8 ^ (8 - d) + _ ≤ _
    rw [e, nI_clamp (by omega), pow8 d (by omega)]
    rw [pow8 d (by omega)] at ih
    have h1 : (v + 1) * (8 * 8 ^ (8 - (d + 1))) ≤ 6 * (8 * 8 ^ (8 - (d + 1))) := Nat.mul_le_mul_right _ (by omega)
    omega
theorem nmv_lt {g : Nat → Int32} {d u : Nat} (h : NWp g d u) (hd : d ≤ 8) : nmv g d u < 134217728 := by
  have h1 := nsum_le hd h.1
  have h2 : (u + 1) * 8 ^ (8 - d) ≤ 7 * 8 ^ (8 - d) := Nat.mul_le_mul_right _ (by have := h.2.2; omega)
  have h3 : 0 < 8 ^ (8 - d) := Nat.pow_pos (by decide)
  unfold nmv
  omega
theorem NWp_desc {g g' : Nat → Int32} {d u w : Nat} (h : NWp g d u) (hd : d < 8) (ha : ∀ i, i < d → g' i = g i) (hw : g' d = nI w) (hw6 : w < 6) (huw : u ≤ w) (hm : g' (d + 1) = -1) : NWp g' (d + 1) 0 ∧ nmv g d u < nmv g' (d + 1) 0 := by
  refine ⟨⟨fun i hi => ?_, by rw [hm]; decide, by omega⟩, ?_⟩
  · by_cases e : i = d
    · exact ⟨w, hw6, by rw [e]; exact hw⟩
    · obtain ⟨v, hv, e1⟩ := h.1 i (by omega)
      exact ⟨v, hv, by rw [ha i (by omega)]; exact e1⟩
  · unfold nmv
    show _ < nsum g' d + ((g' d).toNatClampNeg + 1) * 8 ^ (8 - d) + _
    rw [nsum_congr ha, hw, nI_clamp (by omega)]
    have h1 : (u + 1) * 8 ^ (8 - d) ≤ (w + 1) * 8 ^ (8 - d) := Nat.mul_le_mul_right _ (by omega)
    have h3 : 0 < 8 ^ (8 - (d + 1)) := Nat.pow_pos (by decide)
    omega
theorem NWp_back {g g' : Nat → Int32} {d u v : Nat} (h : NWp g d u) (hd : d ≤ 8) (hd1 : 1 ≤ d) (ha : ∀ i, i < d → g' i = g i) (hv : v < 6) (he : g (d - 1) = nI v) : NWp g' (d - 1) (v + 1) ∧ nmv g d u < nmv g' (d - 1) (v + 1) := by
  obtain ⟨e, rfl⟩ : ∃ e, d = e + 1 := ⟨d - 1, by omega⟩
  rw [show e + 1 - 1 = e by omega] at he ⊢
  refine ⟨⟨fun i hi => ?_, by rw [ha e (by omega), he, nI_1], by omega⟩, ?_⟩
  · obtain ⟨v, hv, e1⟩ := h.1 i (by omega)
    exact ⟨v, hv, by rw [ha i (by omega)]; exact e1⟩
  · unfold nmv
    show nsum g e + ((g e).toNatClampNeg + 1) * 8 ^ (8 - e) + _ < _
    rw [nsum_congr (g' := g') (g := g) (fun i hi => ha i (by omega)), he, nI_clamp (by omega), pow8 e (by omega)]
    have h2 : (u + 1) * 8 ^ (8 - (e + 1)) ≤ 7 * 8 ^ (8 - (e + 1)) := Nat.mul_le_mul_right _ (by have := h.2.2; omega)
    have h3 : 0 < 8 ^ (8 - (e + 1)) := Nat.pow_pos (by decide)
    have h4 : (v + 1 + 1) * (8 * 8 ^ (8 - (e + 1))) = (v + 1) * (8 * 8 ^ (8 - (e + 1))) + 8 * 8 ^ (8 - (e + 1)) := Nat.succ_mul _ _
    omega
theorem NWp_ret {g g' : Nat → Int32} {d u w : Nat} (h : NWp g d u) (ha : ∀ i, i < d → g' i = g i) (hw : g' d = nI w) (hw6 : w < 6) (huw : u ≤ w) : NWp g' d (w + 1) ∧ nmv g d u < nmv g' d (w + 1) := by
  refine ⟨⟨fun i hi => ?_, by rw [hw, nI_1], by omega⟩, ?_⟩
  · obtain ⟨v, hv, e1⟩ := h.1 i (by omega)
    exact ⟨v, hv, by rw [ha i (by omega)]; exact e1⟩
  · unfold nmv
    rw [nsum_congr ha]
    have h3 : 0 < 8 ^ (8 - d) := Nat.pow_pos (by decide)
    have h1 : (u + 1) * 8 ^ (8 - d) ≤ (w + 1) * 8 ^ (8 - d) := Nat.mul_le_mul_right _ (by omega)
    have h4 : (w + 1 + 1) * 8 ^ (8 - d) = (w + 1) * 8 ^ (8 - d) + 8 ^ (8 - d) := Nat.succ_mul _ _
    omega
theorem NW_all {g : Nat → Int32} {n u : Nat} (h : NWp g (n - 1) u) (hn : 1 ≤ n) (hu : 1 ≤ u) : ∀ i, i < n → ∃ v, v < 6 ∧ g i = nI v := by
  intro i hi
  by_cases e : i = n - 1
  · refine ⟨u - 1, by have := h.2.2; omega, ?_⟩
    have h1 := h.2.1
    rw [e]
    have h2 : g (n - 1) = nI u - 1 := by rw [← h1, Int32.add_sub_cancel]
    rw [h2, show u = (u - 1) + 1 by omega, nI_pred]
    rfl
  · exact h.1 i (by omega)
/-- the walk stands at depth d (or at its end, n = d + 1), its letters so far are tables -/
def ND (en : Nat → va_E) (n d u : Nat) : Prop := d < n ∧ (rdI (en 0) 14 = nI d ∨ (rdI (en 0) 14 = nI n ∧ d + 1 = n)) ∧ NWp (rdF (en 7)) d u
def SD (a b : Nat → va_E) : Prop := rdI (b 0) 14 = rdI (a 0) 14 ∧ b 7 = a 7
theorem SD_rf (a : Nat → va_E) : SD a a := ⟨rfl, rfl⟩
theorem SD_same {a b c : Nat → va_E} (h : SD a b) (h0 : c 0 = b 0) (h7 : c 7 = b 7) : SD a c := ⟨by rw [h0]; exact h.1, h7.trans h.2⟩
theorem SD_fv {a b c : Nat → va_E} {A B : va_E} (h : SD a b) (h1 : b 0 = A) (h2 : c 0 = B) (h7 : c 7 = b 7) (v : Int32) (j : rdI A 14 = v) (k : rdI B 14 = v) : SD a c := ⟨by rw [h2, k, ← j, ← h1]; exact h.1, h7.trans h.2⟩
theorem ND_sd {a b : Nat → va_E} {n d u : Nat} (h : ND a n d u) (k : SD a b) : ND b n d u := by
  unfold ND
  rw [k.1, k.2]
  exact h
