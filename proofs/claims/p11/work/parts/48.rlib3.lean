/-! the reference's closure -/
theorem l_and (a b : Nat) : lN a &&& lN b = lN (a &&& b) := by
  apply Int64.toBitVec_inj.1
  show BitVec.ofNat 64 a &&& BitVec.ofNat 64 b = BitVec.ofNat 64 (a &&& b)
  apply BitVec.eq_of_getLsbD_eq
  intro i hi
  simp [hi]
theorem l_all (x : Int64) : ∃ n, x = lN n := ⟨x.toBitVec.toNat, by
  apply Int64.toBitVec_inj.1
  show x.toBitVec = BitVec.ofNat 64 x.toBitVec.toNat
  rw [BitVec.ofNat_toNat, BitVec.setWidth_eq]⟩
theorem l4095 (x : Int64) : ∃ S, S < 4096 ∧ (x &&& 4095).toInt32 = nI S := by
  obtain ⟨n, rfl⟩ := l_all x
  refine ⟨n % 4096, Nat.mod_lt _ (by decide), ?_⟩
  rw [show (4095 : Int64) = lN (2 ^ 12 - 1) from rfl, l_and, Nat.and_two_pow_sub_one_eq_mod, lN_i]
def CH (en : Nat → va_E) (P : Nat) : Prop := P ≤ 2000 ∧ rdI (en 0) 25 = nI P ∧ (∀ k, k < 4096 → (rdF (en 16) k = -9 ∨ ∃ v, v < P ∧ rdF (en 16) k = nI v)) ∧ (∀ p, p < P → (rdF (en 17) p = -9 ∨ ∃ v, v < p ∧ rdF (en 17) p = nI v))
def CHX (en : Nat → va_E) : Prop := rdI (en 0) 25 = -9 ∨ ∃ P, 1 ≤ P ∧ CH en P
theorem CH_keep {en e1 : Nat → va_E} {P : Nat} (h : CH en P) (h0 : rdI (e1 0) 25 = rdI (en 0) 25) (h1 : e1 16 = en 16) (h2 : e1 17 = en 17) : CH e1 P := by
  unfold CH
  rw [h0, h1, h2]
  exact h
theorem CHX_keep {en e1 : Nat → va_E} (h : CHX en) (h0 : rdI (e1 0) 25 = rdI (en 0) 25) (h1 : e1 16 = en 16) (h2 : e1 17 = en 17) : CHX e1 := by
  rcases h with h | ⟨P, hP, h⟩
  · exact Or.inl (h0.trans h)
  · exact Or.inr ⟨P, hP, CH_keep h h0 h1 h2⟩
theorem nI_n9 {v : Nat} (h : v < 2 ^ 31) : nI v ≠ -9 := by
  intro q
  have h1 := i_eq q
  have h2 : (-9 : Int32).toInt = -9 := by decide
  rw [nI_toInt h, h2] at h1
  omega
theorem CHX_lt {en : Nat → va_E} {pr x : Int32} (h : CHX en) (h0 : rdI (en 0) 25 = pr) (hp : 0 ≤ x.toInt ∧ x.toInt < pr.toInt) : ∃ P K, pr = nI P ∧ P ≤ 2000 ∧ CH en P ∧ x = nI K ∧ K < P := by
  rcases h with h | ⟨P, hP, h⟩
  · rw [h] at h0
    rw [← h0] at hp
    have h2 : (-9 : Int32).toInt = -9 := by decide
    omega
  · have e : pr = nI P := h0.symm.trans h.2.1
    rw [e, nI_toInt (by have := h.1; omega)] at hp
    obtain ⟨K, hK, hK2⟩ := has_nat hp
    exact ⟨P, K, e, h.1, h, hK, hK2⟩
theorem CHX_n9 {en : Nat → va_E} {pr : Int32} (h : CHX en) (h0 : rdI (en 0) 25 = pr) (hp : ¬ pr = -9) : ∃ P, 1 ≤ P ∧ P ≤ 2000 ∧ pr = nI P ∧ CH en P := by
  rcases h with h | ⟨P, hP, h⟩
  · exact absurd (h0.symm.trans h) hp
  · exact ⟨P, hP, h.1, h0.symm.trans h.2.1, h⟩
theorem CH_0 {en : Nat → va_E} (h0 : rdI (en 0) 25 = nI 0) (h : ∀ k, k < 4096 → rdF (en 16) k = -9) : CH en 0 := ⟨by omega, h0, fun k hk => Or.inl (h k hk), fun p hp => absurd hp (Nat.not_lt_zero p)⟩
theorem CH_add {en e1 : Nat → va_E} {P S : Nat} {h c : Nat → Int32} (k : CH en P) (hP : P < 2000) (hS : S < 4096) (eh : rdF (en 16) = h) (ec : rdF (en 17) = c) (h0 : rdI (e1 0) 25 = nI (P + 1)) (h1 : rdF (e1 16) = upd h S (nI P)) (h2 : rdF (e1 17) = upd c P (h S)) : CH e1 (P + 1) := by
  obtain ⟨-, -, k3, k4⟩ := k
  rw [eh] at k3
  rw [ec] at k4
  refine ⟨by omega, h0, fun x hx => ?_, fun p hp => ?_⟩
  · rw [h1]
    by_cases e : x = S
    · rw [e, pk_us]
      exact Or.inr ⟨P, by omega, rfl⟩
    · rw [pk_un e]
      rcases k3 x hx with q | ⟨v, q1, q2⟩
      · exact Or.inl q
      · exact Or.inr ⟨v, by omega, q2⟩
  · rw [h2]
    by_cases e : p = P
    · rw [e, pk_us]
      exact k3 S hS
    · rw [pk_un e]
      exact k4 p (by omega)
/-- all but products -/
def KPp (en e1 : Nat → va_E) : Prop := rdI (e1 0) 1 = rdI (en 0) 1 ∧ rdI (e1 0) 2 = rdI (en 0) 2 ∧ rdI (e1 0) 3 = rdI (en 0) 3 ∧ rdI (e1 0) 4 = rdI (en 0) 4 ∧ rdI (e1 0) 30 = rdI (en 0) 30
theorem KPp_rf (en : Nat → va_E) : KPp en en := ⟨rfl, rfl, rfl, rfl, rfl⟩
theorem KPp_tr {a b c : Nat → va_E} (h : KPp a b) (k : KPp b c) : KPp a c := ⟨k.1.trans h.1, k.2.1.trans h.2.1, k.2.2.1.trans h.2.2.1, k.2.2.2.1.trans h.2.2.2.1, k.2.2.2.2.trans h.2.2.2.2⟩
theorem KPp_same {a b c : Nat → va_E} (h : KPp a b) (k : c 0 = b 0) : KPp a c := by
  unfold KPp at h ⊢
  rw [k]
  exact h
theorem KPp_fv {a b c : Nat → va_E} {A B : va_E} (h : KPp a b) (h1 : b 0 = A) (h2 : c 0 = B) (v1 v2 v3 v4 v6 : Int32) (j1 : rdI A 1 = v1) (j2 : rdI A 2 = v2) (j3 : rdI A 3 = v3) (j4 : rdI A 4 = v4) (j6 : rdI A 30 = v6) (k1 : rdI B 1 = v1) (k2 : rdI B 2 = v2) (k3 : rdI B 3 = v3) (k4 : rdI B 4 = v4) (k6 : rdI B 30 = v6) : KPp a c := by
  unfold KPp at h ⊢
  rw [h2, k1, k2, k3, k4, k6, ← j1, ← j2, ← j3, ← j4, ← j6, ← h1]
  exact h
