/-! about: the class's words and the reference's -/
theorem bI_eq {P Q : Prop} {r r' : Int32} (h : P ↔ Q) (hr : bI r P) (hr' : bI r' Q) : r = r' := by
  rcases hr with ⟨e, p⟩ | ⟨e, p⟩ <;> rcases hr' with ⟨e', p'⟩ | ⟨e', p'⟩
  · exact e.trans e'.symm
  · exact absurd (h.mp p) p'
  · exact absurd (h.mpr p') p
  · exact e.trans e'.symm
theorem AR_10 {eX eM : Nat → va_E} (h : AR eX eM) {x y : Nat} (hx : x < 36) (e : x = y) : rdF (eX 10) x = 1 ↔ rdF (eM 2) y = 0 := by
  subst e
  rcases h x hx with ⟨p, q⟩ | ⟨p, q⟩
  · exact ⟨fun _ => q, fun _ => p⟩
  · rw [p, q]
    exact ⟨fun w => absurd w (by decide), fun w => absurd w (by decide)⟩
theorem l6 {f : Nat → Int32} {n : Nat} (hv : ∀ i, i < n → ∃ v, v < 6 ∧ f i = nI v) {i : Nat} (hi : i < n) : (f i).toNatClampNeg < 6 := by
  obtain ⟨v, h1, h2⟩ := hv i hi
  rw [h2, nI_clamp (by omega)]
  exact h1
theorem al_iff {eX eM : Nat → va_E} {f : Nat → Int32} {n : Nat} (h : AR eX eM) (hv : ∀ i, i < n → ∃ v, v < 6 ∧ f i = nI v) : alP (rdF (eX 10)) f n ↔ alM (rdF (eM 2)) f n := by
  constructor
  · intro q i h1 h2
    have a := l6 hv h2
    have b := l6 hv (show i - 1 < n by omega)
    exact (AR_10 h (by omega) (by rw [Nat.mul_comm 6])).mp (q i h1 h2)
  · intro q i h1 h2
    have a := l6 hv h2
    have b := l6 hv (show i - 1 < n by omega)
    exact (AR_10 h (by omega) (by rw [Nat.mul_comm 6])).mpr (q i h1 h2)
theorem tu_iff {eX eM : Nat → va_E} {f : Nat → Int32} {n : Nat} (h : AR eX eM) (hn : 1 ≤ n) (hv : ∀ i, i < n → ∃ v, v < 6 ∧ f i = nI v) : tuP (rdF (eX 10)) f n ↔ tuM (rdF (eM 2)) f n := by
  have a := l6 hv (show 0 < n by omega)
  have b := l6 hv (show n - 1 < n by omega)
  exact AR_10 h (by omega) (by rw [Nat.mul_comm 6])
theorem ah_ba {f : Nat → Int32} {n m : Nat} (h : ahP f n m) : ¬ baP f n m := by
  intro h'
  obtain ⟨i, hi, he, hl⟩ := h
  obtain ⟨k, hk, he', hl'⟩ := h'
  have q := i_lt hl
  have q' := i_lt hl'
  rcases Nat.lt_trichotomy i k with w | w | w
  · rw [← he' i w] at q
    omega
  · rw [w] at q
    omega
  · rw [← he k w] at q'
    omega
theorem per_mod {f : Nat → Int32} {n y : Nat} (hy : 1 ≤ y) (h : perP f n y) : ∀ k i : Nat, i < k → i < n → f i = f (i % y) := by
  intro k
  induction k with
  | zero => intro i hi; omega
  | succ k ih =>
    intro i hi hn
    by_cases e : i < y
    · rw [Nat.mod_eq_of_lt e]
    · rw [Nat.mod_eq_sub_mod (by omega), h i (by omega) hn]
      exact ih (i - y) (by omega) (by omega)
theorem rot_per {f : Nat → Int32} {n y : Nat} (hy : 1 ≤ y) (hn : y < n) (hd : n % y = 0) (h : perP f n y) : ∀ i, i < n → f i = f ((i + y) % n) := by
  intro i hi
  have hm : (i + y) % n < n := Nat.mod_lt _ (by omega)
  rw [per_mod hy h (i + 1) i (by omega) hi, per_mod hy h ((i + y) % n + 1) ((i + y) % n) (by omega) hm]
  rw [Nat.mod_mod_of_dvd _ (Nat.dvd_of_mod_eq_zero hd), Nat.add_mod_right]
theorem first_diff {f : Nat → Int32} {n m : Nat} : ∀ k : Nat, (∀ y, y < k → f y = f ((y + m) % n)) ∨ ∃ i, i < k ∧ (∀ y, y < i → f y = f ((y + m) % n)) ∧ ¬ f i = f ((i + m) % n) := by
  intro k
  induction k with
  | zero => exact Or.inl (fun y hy => absurd hy (Nat.not_lt_zero y))
  | succ k ih =>
    rcases ih with h | ⟨i, h1, h2, h3⟩
    · by_cases e : f k = f ((k + m) % n)
      · refine Or.inl (fun y hy => ?_)
        by_cases q : y = k
        · rw [q]; exact e
        · exact h y (by omega)
      · exact Or.inr ⟨k, by omega, h, e⟩
    · exact Or.inr ⟨i, by omega, h2, h3⟩
theorem rot_it {f : Nat → Int32} {n m : Nat} (hn : 0 < n) (h : ∀ y, y < n → f y = f ((y + m) % n)) : ∀ j y : Nat, y < n → f y = f ((y + j * m) % n) := by
  intro j
  induction j with
  | zero => intro y hy; rw [Nat.zero_mul, Nat.add_zero, Nat.mod_eq_of_lt hy]
  | succ j ih =>
    intro y hy
    rw [ih y hy, h _ (Nat.mod_lt _ hn), Nat.mod_add_mod, Nat.add_mul, Nat.one_mul, Nat.add_assoc]
def jW (n m : Nat) : Nat := ((List.range 13).find? (fun j => (j * m) % n == Nat.gcd n m % n)).getD 0
theorem gcd12 : ∀ n, n < 13 → ∀ m, m < n → 1 ≤ m → (1 ≤ Nat.gcd n m ∧ Nat.gcd n m < n ∧ n % Nat.gcd n m = 0 ∧ (jW n m * m) % n = Nat.gcd n m % n) := by decide +kernel
theorem ah_iff {f : Nat → Int32} {n : Nat} (hn : n ≤ 12) : ahA f n ↔ (noPer f n ∧ ftP f n) := by
  constructor
  · intro h
    refine ⟨fun y h1 h2 q => ?_, fun m h1 h2 => ah_ba (h m h1 h2)⟩
    obtain ⟨i, hi, he, hl⟩ := h y h1 h2
    have h9 := i_lt hl
    rw [← rot_per h1 h2 q.1 q.2 i hi] at h9
    omega
  · intro h m h1 h2
    rcases first_diff (f := f) (n := n) (m := m) n with q | ⟨i, hi, he, hne⟩
    · exfalso
      obtain ⟨g1, g2, g3, g4⟩ := gcd12 n (by omega) m h2 h1
      refine h.1 (Nat.gcd n m) g1 g2 ⟨g3, fun i hi1 hi2 => ?_⟩
      have r := rot_it (by omega) q (jW n m) (i - Nat.gcd n m) (by omega)
      rw [Nat.add_mod, g4, ← Nat.add_mod, show i - Nat.gcd n m + Nat.gcd n m = i by omega, Nat.mod_eq_of_lt hi2] at r
      exact r.symm
    · refine ⟨i, hi, he, ?_⟩
      rcases Int32.lt_or_le (f i) (f ((i + m) % n)) with w | w
      · exact w
      · exfalso
        refine h.2 m h1 h2 ⟨i, hi, he, ?_⟩
        apply Int32.lt_iff_toInt_lt.mpr
        have w1 := i_le w
        have w2 : (f ((i + m) % n)).toInt ≠ (f i).toInt := fun e => hne (Int32.toInt_inj.mp e.symm)
        omega
theorem repP_eq {f : Nat → Int32} {n : Nat} {r r' : Int32} (hn : n ≤ 12) (h : repP f n r) (h' : repP f n r') : r = r' := by
  rcases h with ⟨p, h1, h2, h3, h4, h5, h6⟩ | ⟨h1, h2⟩
  · rcases h' with ⟨p', g1, g2, g3, g4, g5, g6⟩ | ⟨g1, g2⟩
    · have e : p = p' := by
        rcases Nat.lt_trichotomy p p' with w | w | w
        · exact absurd ⟨h3, h4⟩ (g6 p h1 w)
        · exact w
        · exact absurd ⟨g3, g4⟩ (h6 p' g1 w)
      rw [h5, g5, e]
    · exact absurd ⟨h3, h4⟩ (g2 p h1 h2)
  · rcases h' with ⟨p', g1, g2, g3, g4, g5, g6⟩ | ⟨g1, g2⟩
    · exact absurd ⟨g3, g4⟩ (h2 p' g1 g2)
    · exact h1.trans g1.symm
theorem about_rel {cy : Nat → ClassId} {cs : List Nat} {ad : Nat → Nat} {eX eM : Nat → va_E} {w z r r' : Int32} (hI : SX cy cs ad eX) (hA : AR eX eM) (hW : WR eX eM) (hx : XAB w z r eX) (hm : RAB w z r' eM) : r = r' := by
  unfold RAB at hm
  rw [← hW.1] at hm
  rcases hx with ⟨x1, x2⟩ | ⟨W, N, xw, xW, xq, xN, xN1, xN12, xa⟩
  · rcases hm with ⟨m1, m2⟩ | ⟨W', N', f, -, -, mq, -⟩
    · exact x2.trans m2.symm
    · exact absurd mq x1
  · rcases hm with ⟨m1, -⟩ | ⟨W', N', f, mw, mW, mq, mN, mN1, mN12, mf, ma⟩
    · exact absurd xq m1
    · have eW : W = W' := n_eq (xw.symm.trans mw) (by omega) (by omega)
      subst eW
      have hw9 : (W : Int) < (rdI (eX 0) 6).toInt := by
        have h9 := xq.2
        rw [xw, nI_toInt (by omega)] at h9
        exact h9
      obtain ⟨N0, n12, h1, h2, h3⟩ := hW.2 W xW hw9
      have e1 : N = N0 := n_eq (xN.symm.trans h1) (by omega) (by omega)
      have e2 : N = N' := (n_eq ((mN.symm.trans h2).trans (h1.symm.trans xN)) (by omega) (by omega)).symm
      subst e1
      subst e2
      obtain ⟨g, eg, hv⟩ := get_wol hI (j := W) xW
      have hv : ∀ i, i < N → ∃ v, v < 6 ∧ rdF (eX (78 + 3 * W)) i = nI v := fun i hi => by rw [eg]; exact hv i (by omega)
      have hf : ∀ x, x < N → f x = rdF (eX (78 + 3 * W)) x := fun x hx => (mf x hx).trans (h3 x hx).symm
      have hf' : ∀ x, x < N → rdF (eX (78 + 3 * W)) x = f x := fun x hx => (hf x hx).symm
      rcases xa with ⟨a, x⟩ | ⟨a, x⟩ | ⟨a, x⟩ | ⟨a, x⟩ | ⟨a0, a1, a2, a3, x⟩
      · rcases ma with ⟨b, y⟩ | ⟨b, y⟩ | ⟨b, y⟩ | ⟨b, y⟩ | ⟨b0, b1, b2, b3, y⟩ <;> first | exact x.trans y.symm | exact absurd (a.symm.trans b) (by decide) | exact absurd a b0
      · rcases ma with ⟨b, y⟩ | ⟨b, y⟩ | ⟨b, y⟩ | ⟨b, y⟩ | ⟨b0, b1, b2, b3, y⟩
        · exact absurd (a.symm.trans b) (by decide)
        · exact bI_eq ((al_iff hA hv).trans ⟨alM_c hf', alM_c hf⟩) x y
        · exact absurd (a.symm.trans b) (by decide)
        · exact absurd (a.symm.trans b) (by decide)
        · exact absurd a b1
      · rcases ma with ⟨b, y⟩ | ⟨b, y⟩ | ⟨b, y⟩ | ⟨b, y⟩ | ⟨b0, b1, b2, b3, y⟩
        · exact absurd (a.symm.trans b) (by decide)
        · exact absurd (a.symm.trans b) (by decide)
        · refine bI_eq (Iff.trans (b := rgM (rdF (eM 2)) (rdF (eX (78 + 3 * W))) N) ?_ ⟨rgM_c xN1 hf', rgM_c xN1 hf⟩) x y
          have e1 := al_iff hA hv
          have e2 := tu_iff hA xN1 hv
          have e3 := ah_iff (f := rdF (eX (78 + 3 * W))) xN12
          exact ⟨fun q => ⟨e1.mp q.1, e2.mp q.2.1, (e3.mp q.2.2).1, (e3.mp q.2.2).2⟩, fun q => ⟨e1.mpr q.1, e2.mpr q.2.1, e3.mpr ⟨q.2.2.1, q.2.2.2⟩⟩⟩
        · exact absurd (a.symm.trans b) (by decide)
        · exact absurd a b2
      · rcases ma with ⟨b, y⟩ | ⟨b, y⟩ | ⟨b, y⟩ | ⟨b, y⟩ | ⟨b0, b1, b2, b3, y⟩
        · exact absurd (a.symm.trans b) (by decide)
        · exact absurd (a.symm.trans b) (by decide)
        · exact absurd (a.symm.trans b) (by decide)
        · exact repP_eq xN12 x (repP_c hf y)
        · exact absurd a b3
      · rcases ma with ⟨b, y⟩ | ⟨b, y⟩ | ⟨b, y⟩ | ⟨b, y⟩ | ⟨b0, b1, b2, b3, y⟩
        · exact absurd b a0
        · exact absurd b a1
        · exact absurd b a2
        · exact absurd b a3
        · exact x.trans y.symm
