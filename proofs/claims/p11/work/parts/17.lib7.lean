theorem i_and (a b : Nat) : nI a &&& nI b = nI (a &&& b) := by
  apply Int32.toBitVec_inj.1
  show BitVec.ofNat 32 a &&& BitVec.ofNat 32 b = BitVec.ofNat 32 (a &&& b)
  apply BitVec.eq_of_getLsbD_eq
  intro i hi
  simp [hi]
theorem i_all (x : Int32) : ∃ n, x = nI n := ⟨x.toBitVec.toNat, by
  apply Int32.toBitVec_inj.1
  show x.toBitVec = BitVec.ofNat 32 x.toBitVec.toNat
  rw [BitVec.ofNat_toNat, BitVec.setWidth_eq]⟩
theorem m4095 (n : Nat) : nI n &&& 4095 = nI (n % 4096) := by
  rw [show (4095 : Int32) = nI (2 ^ 12 - 1) from rfl, i_and, Nat.and_two_pow_sub_one_eq_mod]
theorem and4095 (x : Int32) : ∃ S, S < 4096 ∧ x &&& 4095 = nI S := by
  obtain ⟨n, rfl⟩ := i_all x
  exact ⟨n % 4096, Nat.mod_lt _ (by decide), m4095 n⟩
theorem vals_updB {B : Nat} {f : Nat → Int32} {n E v : Nat} (h : ∀ i, i < n → ∃ v, v < B ∧ f i = nI v) (hv : v < B) : ∀ i, i < n → ∃ w, w < B ∧ upd f E (nI v) i = nI w := by
  intro i hi
  by_cases e : i = E
  · subst e
    exact ⟨v, hv, pk_us⟩
  · rw [pk_un e]
    exact h i hi
