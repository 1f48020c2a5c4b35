theorem rows_rd {cy : Nat → ClassId} {cs : List Nat} {ad : Nat → Nat} {en : Nat → va_E} (h : SX cy cs ad en) : ∀ j, j < 6 → en (4 + j) = .inl (cy 1, 9, .inr (.inl (rdL (en (4 + j))))) := fun j hj => by
  obtain ⟨f, hf⟩ := get_row h hj
  rw [hf]
  rfl
