/-! the sheets' calls: what they answer and leave -/
def XSH (k la n r : Int32) (en e1 : Nat → va_E) : Prop := r = spSheet k la n ∧ ((r ≠ 1 ∧ ∀ c, c ≠ 0 → e1 c = en c) ∨ (r = 1 ∧ ∃ K N : Nat, k = nI K ∧ n = nI N ∧ K < 4 ∧ N ≤ 40 ∧ (∀ c, c ≠ 0 → c ≠ 107 + 2 * K → c ≠ 108 + 2 * K → e1 c = en c) ∧ rdI (e1 (107 + 2 * K)) 1 = nI N ∧ rdI (e1 (107 + 2 * K)) 2 = la ∧ rdI (e1 (107 + 2 * K)) 3 = 1 ∧ ∀ i, i < 40 → rdF (e1 (108 + 2 * K)) i = 0))
theorem XSH_s {k la n r : Int32} {en e1 e2 : Nat → va_E} (h : XSH k la n r en e1) (hu : ∀ c, c ≠ 0 → e2 c = e1 c) : XSH k la n r en e2 := by
  refine ⟨h.1, ?_⟩
  rcases h.2 with ⟨h1, h2⟩ | ⟨h0, K, N, h1, h2, h3, h4, h5, h6, h7, h8, h9⟩
  · exact Or.inl ⟨h1, fun c hc => (hu c hc).trans (h2 c hc)⟩
  · refine Or.inr ⟨h0, K, N, h1, h2, h3, h4, fun c a b d => (hu c a).trans (h5 c a b d), ?_, ?_, ?_, ?_⟩
    · rw [hu _ (by omega)]; exact h6
    · rw [hu _ (by omega)]; exact h7
    · rw [hu _ (by omega)]; exact h8
    · rw [hu _ (by omega)]; exact h9
def XLO (k r : Int32) (en e1 : Nat → va_E) : Prop := (¬ wi k 0 3 ∧ r = -1 ∧ e1 = en) ∨ ∃ K : Nat, k = nI K ∧ K < 4 ∧ ((rdI (en (107 + 2 * K)) 3 = 0 ∧ r = 0) ∨ (rdI (en (107 + 2 * K)) 3 = 1 ∧ r = 1)) ∧ (∀ c, c ≠ 107 + 2 * K → e1 c = en c) ∧ rdI (e1 (107 + 2 * K)) 3 = 0
def putF (sc sr k i : Int32) : Int32 := if wi k 0 3 then (if sr = 0 then -11 else if hcP sc i 1 then 1 else -13) else -1
def XPU (k i v r : Int32) (en e1 : Nat → va_E) : Prop := r = putF (rdI (en (107 + 2 * k.toNatClampNeg)) 1) (rdI (en (107 + 2 * k.toNatClampNeg)) 3) k i ∧ ((r ≠ 1 ∧ ∀ c, c ≠ 0 → e1 c = en c) ∨ (r = 1 ∧ ∃ K I : Nat, k = nI K ∧ i = nI I ∧ K < 4 ∧ I < 40 ∧ (∀ c, c ≠ 0 → c ≠ 108 + 2 * K → e1 c = en c) ∧ rdF (e1 (108 + 2 * K)) = upd (rdF (en (108 + 2 * K))) I (narV (rdI (en (107 + 2 * K)) 2) v)))
theorem XPU_s {k i v r : Int32} {en e1 e2 : Nat → va_E} (h : XPU k i v r en e1) (hu : ∀ c, c ≠ 0 → e2 c = e1 c) : XPU k i v r en e2 := by
  refine ⟨h.1, ?_⟩
  rcases h.2 with ⟨h1, h2⟩ | ⟨h0, K, I, h1, h2, h3, h4, h5, h6⟩
  · exact Or.inl ⟨h1, fun c hc => (hu c hc).trans (h2 c hc)⟩
  · exact Or.inr ⟨h0, K, I, h1, h2, h3, h4, fun c a b => (hu c a).trans (h5 c a b), by rw [hu _ (by omega)]; exact h6⟩
def XAT (k i la : Int32) (r : Int64) (en : Nat → va_E) : Prop := r = if lookF (rdI (en (107 + 2 * k.toNatClampNeg)) 1) (rdI (en (107 + 2 * k.toNatClampNeg)) 2) (rdI (en (107 + 2 * k.toNatClampNeg)) 3) k la i 1 = 1 then (rdF (en (108 + 2 * k.toNatClampNeg)) i.toNatClampNeg).toInt64 else (-9223372036854775808)
theorem sh_bit {cy : Nat → ClassId} {cs : List Nat} {ad : Nat → Nat} {en : Nat → va_E} (hI : SX cy cs ad en) {J : Nat} (hJ : J < 4) : rdI (en (107 + 2 * J)) 3 = 0 ∨ rdI (en (107 + 2 * J)) 3 = 1 := by
  obtain ⟨sc, sl, sr, e, h1, h2⟩ := get_sh hI hJ
  rw [e]
  exact nb1 h2
theorem bit_ne0 {x : Int32} (h : x = 0 ∨ x = 1) (hn : ¬ x = 0) : x = 1 := h.resolve_left hn
