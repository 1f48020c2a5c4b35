/-- the closure's part of the state: its arrays are made, or it was never sought -/
def CP (cy : Nat → ClassId) (cs : List Nat) (ad : Nat → Nat) (en : Nat → va_E) : Prop := (∃ ka kb kc, KK cs ka kb kc ∧ PC cy ad ka kb kc en) ∨ (en 70 = .inr (0, [.ref (ad 1), .ref (ad 71), .ref (ad 72), .ref (ad 73), .null, .null, .null, .int 0, .int 0, .int 0, .int 0, .int 0, .int 0]))
theorem CP_found {cy : Nat → ClassId} {cs : List Nat} {ad : Nat → Nat} {en : Nat → va_E} (h : CP cy cs ad en) (h1 : rdI (en 70) 7 = 1) : ∃ ka kb kc, KK cs ka kb kc ∧ PC cy ad ka kb kc en := by
  rcases h with h | e
  · exact h
  · rw [e] at h1
    exact absurd h1 (show ¬ (0 : Int32) = 1 by decide)
theorem PC_ct {cy : Nat → ClassId} {ad : Nat → Nat} {ka kb kc : Nat} {en : Nat → va_E} (h : PC cy ad ka kb kc en) : ∃ ct, ct ≤ 2000 ∧ rdI (en 70) 9 = nI ct := by
  obtain ⟨⟨sta, cc, ct, un, ow, hn, e, h1, h2, h3, h4⟩, -⟩ := h
  exact ⟨ct, h3, by rw [e]; rfl⟩
/-- the closure's part stays where its cells stay -/
theorem CP_keep {cy : Nat → ClassId} {cs : List Nat} {ad : Nat → Nat} {en en1 : Nat → va_E} (h : CP cy cs ad en) (hu : ∀ c, c = 70 ∨ 115 ≤ c → en1 c = en c) : CP cy cs ad en1 := by
  rcases h with ⟨ka, kb, kc, k, p⟩ | e
  · obtain ⟨-, -, -, k1, k2, k3⟩ := id k
    exact Or.inl ⟨ka, kb, kc, k, by rw [hu 70 (by omega)]; exact p.1, by rw [hu ka (by omega)]; exact p.2.1, by rw [hu kb (by omega)]; exact p.2.2.1, by rw [hu kc (by omega)]; exact p.2.2.2⟩
  · exact Or.inr (by rw [hu 70 (by omega)]; exact e)
