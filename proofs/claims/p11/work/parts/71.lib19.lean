/-! the sheets of the two sides hold the same -/
def S1 (eX eM : Nat → va_E) (k : Nat) : Prop := (rdI (eX (107 + 2 * k)) 3 = 0 ∧ rdF (eM 3) k = -9) ∨ (rdI (eX (107 + 2 * k)) 3 = 1 ∧ rdF (eM 3) k = rdI (eX (107 + 2 * k)) 2 ∧ wi (rdF (eM 3) k) 0 2 ∧ rdF (eM 4) k = rdI (eX (107 + 2 * k)) 1 ∧ ∀ i, i < 40 → rdF (eM 5) (40 * k + i) = rdF (eX (108 + 2 * k)) i)
def SR (eX eM : Nat → va_E) : Prop := ∀ k, k < 4 → S1 eX eM k
theorem SR_keep {eX eM eX1 eM1 : Nat → va_E} (h : SR eX eM) (hx : ∀ c, 107 ≤ c ∧ c < 115 → eX1 c = eX c) (hm : ∀ c, c = 3 ∨ c = 4 ∨ c = 5 → eM1 c = eM c) : SR eX1 eM1 := by
  intro k hk
  unfold S1
  rw [hx (107 + 2 * k) (by omega), hx (108 + 2 * k) (by omega), hm 3 (by omega), hm 4 (by omega), hm 5 (by omega)]
  exact h k hk
theorem wi_K {K : Nat} (h : K < 4) : wi (nI K) 0 3 := by
  have h0 : (0 : Int32).toInt = 0 := by decide
  have h3 : (3 : Int32).toInt = 3 := by decide
  refine ⟨?_, ?_⟩
  · rw [h0, nI_toInt (by omega)]; omega
  · rw [h3, nI_toInt (by omega)]; omega
theorem n4 {K J : Nat} {k : Int32} (h : k = nI K) (h1 : k = nI J) (hK : K < 2 ^ 31) (hJ : J < 2 ^ 31) : J = K := n_eq (h1.symm.trans h) hJ hK
theorem spSheet_1 {k la n : Int32} (h : spSheet k la n = 1) : wi la 0 2 := by
  unfold spSheet at h
  by_cases h1 : wi k 0 3
  · rw [if_pos h1] at h
    by_cases h2 : wi la 0 2 ∧ n.toInt ≤ 40
    · exact h2.1
    · rw [if_neg h2] at h; exact absurd h (by decide)
  · rw [if_neg h1] at h; exact absurd h (by decide)
theorem SR_sheet {eX eM eX1 eM1 : Nat → va_E} {k la n r r' : Int32} (h : SR eX eM) (hx : XSH k la n r eX eX1) (hm : RSH k la n r' eM eM1) : SR eX1 eM1 := by
  have er : r = r' := hx.1.trans hm.1.symm
  subst er
  intro j hj
  rcases hx.2 with ⟨x1, x2⟩ | ⟨x0, K, N, xk, xn, xK, xN, xu, x1, x2, x3, x4⟩
  · rcases hm.2 with ⟨m1, m3, m4, m5⟩ | ⟨m0, -⟩
    · unfold S1
      rw [x2 (107 + 2 * j) (by omega), x2 (108 + 2 * j) (by omega), m3, m4, m5]
      exact h j hj
    · exact absurd m0 x1
  · rcases hm.2 with ⟨m1, -⟩ | ⟨m0, K', N', mk, mn, mK, mN, m3, m4, m5⟩
    · exact absurd x0 m1
    · have eK := n4 xk mk (by omega) (by omega)
      have eN := n4 xn mn (by omega) (by omega)
      subst eK
      subst eN
      unfold S1
      rw [m3, m4]
      by_cases e : j = K'
      · subst e
        right
        refine ⟨x3, by rw [pk_us, x2], ?_, by rw [pk_us, x1], fun i hi => ?_⟩
        · rw [pk_us]
          exact spSheet_1 (hx.1.symm.trans x0)
        · rw [m5, if_pos (by omega), x4 i hi]
      · rw [pk_un e, pk_un e, xu (107 + 2 * j) (by omega) (by omega) (by omega), xu (108 + 2 * j) (by omega) (by omega) (by omega)]
        rcases h j hj with q | ⟨q1, q2, q3, q4, q5⟩
        · exact Or.inl q
        · exact Or.inr ⟨q1, q2, q3, q4, fun i hi => by rw [m5, if_neg (by omega)]; exact q5 i hi⟩
theorem SR_lose {eX eM eX1 eM1 : Nat → va_E} {k r r' : Int32} (h : SR eX eM) (hx : XLO k r eX eX1) (hm : RLO k r' eM eM1) (h4 : eM1 4 = eM 4) (h5 : eM1 5 = eM 5) : SR eX1 eM1 ∧ r = r' := by
  rcases hx with ⟨x1, x2, x3⟩ | ⟨K, xk, xK, xr, xu, x3⟩
  · rcases hm with ⟨m1, m2, m3⟩ | ⟨K, mk, mK, -⟩
    · rw [x3, m3]
      exact ⟨h, x2.trans m2.symm⟩
    · exact absurd (by rw [mk]; exact wi_K mK) x1
  · rcases hm with ⟨m1, -⟩ | ⟨K', mk, mK, mr, m3⟩
    · exact absurd (by rw [xk]; exact wi_K xK) m1
    · have eK := n4 xk mk (by omega) (by omega)
      subst eK
      refine ⟨fun j hj => ?_, ?_⟩
      · unfold S1
        rw [m3, h4, h5]
        by_cases e : j = K'
        · subst e
          exact Or.inl ⟨x3, pk_us⟩
        · rw [pk_un e, xu (107 + 2 * j) (by omega), xu (108 + 2 * j) (by omega)]
          exact h j hj
      · have n9 : ∀ x : Int32, wi x 0 2 → x ≠ -9 := fun x hw q => by
          rw [q] at hw
          exact absurd hw.1 (by decide)
        rcases h K' xK with ⟨q1, q2⟩ | ⟨q1, q2, q3, -⟩
        · rcases xr with ⟨a, b⟩ | ⟨a, b⟩
          · rcases mr with ⟨c, d⟩ | ⟨c, d⟩
            · rw [b, d]
            · exact absurd q2 c
          · rw [q1] at a; exact absurd a (by decide)
        · rcases xr with ⟨a, b⟩ | ⟨a, b⟩
          · rw [q1] at a; exact absurd a (by decide)
          · rcases mr with ⟨c, d⟩ | ⟨c, d⟩
            · exact absurd c (n9 _ q3)
            · rw [b, d]
theorem wi_k4 {k : Int32} (h : wi k 0 3) : ∃ K, K < 4 ∧ k = nI K := by
  obtain ⟨K, e, -, h2⟩ := wi_natB h 0 3 (by decide) (by decide)
  exact ⟨K, by omega, e⟩
theorem put_eq {eX eM : Nat → va_E} {k i : Int32} (h : SR eX eM) : putF (rdI (eX (107 + 2 * k.toNatClampNeg)) 1) (rdI (eX (107 + 2 * k.toNatClampNeg)) 3) k i = putR (rdF (eM 3) k.toNatClampNeg) (rdF (eM 4) k.toNatClampNeg) k i := by
  unfold putF putR
  by_cases hk : wi k 0 3
  · rw [if_pos hk, if_pos hk]
    obtain ⟨K, hK, rfl⟩ := wi_k4 hk
    rw [nI_clamp (by omega)]
    rcases h K hK with ⟨q1, q2⟩ | ⟨q1, q2, q3, q4, -⟩
    · rw [if_pos q1, if_pos q2]
    · have n9 : rdF (eM 3) K ≠ -9 := fun q => by
        rw [q] at q3
        exact absurd q3.1 (by decide)
      rw [if_neg (by rw [q1]; decide), if_neg n9, q4]
      by_cases q : hcP (rdI (eX (107 + 2 * K)) 1) i 1
      · rw [if_pos q, if_pos (by rcases q with q | q; exact absurd q (by decide); exact ⟨q.1, by have := q.2; omega⟩)]
      · rw [if_neg q, if_neg (fun w => q (Or.inr ⟨w.1, by have := w.2; omega⟩))]
  · rw [if_neg hk, if_neg hk]
theorem SR_put {eX eM eX1 eM1 : Nat → va_E} {k i v r r' : Int32} (h : SR eX eM) (hx : XPU k i v r eX eX1) (hm : RPU k i v r' eM eM1) (h3 : eM1 3 = eM 3) (h4 : eM1 4 = eM 4) : SR eX1 eM1 ∧ r = r' := by
  have er : r = r' := hx.1.trans ((put_eq h).trans hm.1.symm)
  refine ⟨?_, er⟩
  subst er
  intro j hj
  rcases hx.2 with ⟨x1, x2⟩ | ⟨x0, K, I, xk, xi, xK, xI, xu, x4⟩
  · rcases hm.2 with ⟨m1, m5⟩ | ⟨m0, -⟩
    · unfold S1
      rw [x2 (107 + 2 * j) (by omega), x2 (108 + 2 * j) (by omega), h3, h4, m5]
      exact h j hj
    · exact absurd m0 x1
  · rcases hm.2 with ⟨m1, -⟩ | ⟨m0, K', I', mk, mi, mK, mI, m5⟩
    · exact absurd x0 m1
    · have eK := n4 xk mk (by omega) (by omega)
      have eI := n4 xi mi (by omega) (by omega)
      subst eK
      subst eI
      unfold S1
      rw [h3, h4, m5, xu (107 + 2 * j) (by omega) (by omega)]
      by_cases e : j = K'
      · subst e
        rcases h j hj with q | ⟨q1, q2, q3, q4, q5⟩
        · exact Or.inl q
        · refine Or.inr ⟨q1, q2, q3, q4, fun i9 hi9 => ?_⟩
          rw [x4]
          by_cases e9 : i9 = I'
          · rw [e9, pk_us, pk_us, q2]
          · rw [pk_un (by omega), pk_un e9]
            exact q5 i9 hi9
      · rw [xu (108 + 2 * j) (by omega) (by omega)]
        rcases h j hj with q | ⟨q1, q2, q3, q4, q5⟩
        · exact Or.inl q
        · exact Or.inr ⟨q1, q2, q3, q4, fun i9 hi9 => by rw [pk_un (by omega)]; exact q5 i9 hi9⟩
theorem at_eq {cy : Nat → ClassId} {cs : List Nat} {ad : Nat → Nat} {eX eM : Nat → va_E} {k i la : Int32} {r r' : Int64} (hI : SX cy cs ad eX) (h : SR eX eM) (hx : XAT k i la r eX) (hm : RAT k i la r' eM) : r = r' := by
  refine hx.trans (Eq.trans ?_ hm.symm)
  unfold atR
  by_cases hk : wi k 0 3
  · by_cases hl : wi la 0 2
    · rw [if_pos (⟨hk, hl⟩ : wi k 0 3 ∧ wi la 0 2)]
      obtain ⟨K, hK, rfl⟩ := wi_k4 hk
      rw [nI_clamp (by omega)]
      obtain ⟨sc, sl, sr, e, hsc, -⟩ := get_sh hI hK
      have e1 : rdI (eX (107 + 2 * K)) 1 = nI sc := by rw [e]; rfl
      rcases h K hK with ⟨q1, q2⟩ | ⟨q1, q2, q3, q4, q5⟩
      · have hL : lookF (rdI (eX (107 + 2 * K)) 1) (rdI (eX (107 + 2 * K)) 2) (rdI (eX (107 + 2 * K)) 3) (nI K) la i 1 = -11 := by
          unfold lookF
          rw [if_pos hk, if_pos hl, if_neg (fun q : rdI (eX (107 + 2 * K)) 3 ≠ 0 ∧ rdI (eX (107 + 2 * K)) 2 ≠ la => q.1 q1), if_pos q1]
        rw [hL, if_neg (by decide), if_neg (fun q : rdF (eM 3) K ≠ -9 ∧ rdF (eM 3) K ≠ la => q.1 q2), if_pos q2]
      · have n9 : rdF (eM 3) K ≠ -9 := fun q => by
          rw [q] at q3
          exact absurd q3.1 (by decide)
        have n0 : rdI (eX (107 + 2 * K)) 3 ≠ 0 := by rw [q1]; decide
        by_cases ql : rdF (eM 3) K = la
        · have m1 : ¬ (rdI (eX (107 + 2 * K)) 3 ≠ 0 ∧ rdI (eX (107 + 2 * K)) 2 ≠ la) := fun q => q.2 (q2.symm.trans ql)
          have m2 : ¬ (rdF (eM 3) K ≠ -9 ∧ rdF (eM 3) K ≠ la) := fun q => q.2 ql
          have h8 : ((1 : Int32).toNatClampNeg : Int) = 1 := by decide
          by_cases q : hcP (nI sc) i (1 : Int32).toNatClampNeg
          · have q' : 0 ≤ i.toInt ∧ i.toInt < (sc : Int) := by
              rcases q with q | q
              · exact absurd q (by decide)
              · have h9 := q.2
                rw [nI_toInt (by omega)] at h9
                exact ⟨q.1, by omega⟩
            have hL : lookF (rdI (eX (107 + 2 * K)) 1) (rdI (eX (107 + 2 * K)) 2) (rdI (eX (107 + 2 * K)) 3) (nI K) la i 1 = 1 := by
              unfold lookF
              rw [if_pos hk, if_pos hl, if_neg m1, if_neg n0, if_neg (show ¬ (1 : Int32) < 0 by decide), e1, if_pos q]
            rw [hL, if_pos rfl, if_neg m2, if_neg n9, q4, e1, nI_toInt (by omega), if_pos q']
            obtain ⟨I, rfl, hI9⟩ := has_nat q'
            rw [nI_clamp (by omega), q5 I (by omega)]
          · have q' : ¬ (0 ≤ i.toInt ∧ i.toInt < (sc : Int)) := by
              intro w
              apply q
              right
              refine ⟨w.1, ?_⟩
              have h7 := w.2
              rw [nI_toInt (by omega)]
              omega
            have hL : lookF (rdI (eX (107 + 2 * K)) 1) (rdI (eX (107 + 2 * K)) 2) (rdI (eX (107 + 2 * K)) 3) (nI K) la i 1 = -13 := by
              unfold lookF
              rw [if_pos hk, if_pos hl, if_neg m1, if_neg n0, if_neg (show ¬ (1 : Int32) < 0 by decide), e1, if_neg q]
            rw [hL, if_neg (by decide), if_neg m2, if_neg n9, q4, e1, nI_toInt (by omega), if_neg q']
        · have hL : lookF (rdI (eX (107 + 2 * K)) 1) (rdI (eX (107 + 2 * K)) 2) (rdI (eX (107 + 2 * K)) 3) (nI K) la i 1 = -12 := by
            unfold lookF
            rw [if_pos hk, if_pos hl, if_pos (⟨n0, fun q => ql (q2.trans q)⟩ : rdI (eX (107 + 2 * K)) 3 ≠ 0 ∧ rdI (eX (107 + 2 * K)) 2 ≠ la)]
          rw [hL, if_neg (by decide), if_pos (⟨n9, ql⟩ : rdF (eM 3) K ≠ -9 ∧ rdF (eM 3) K ≠ la)]
    · have hL : lookF (rdI (eX (107 + 2 * k.toNatClampNeg)) 1) (rdI (eX (107 + 2 * k.toNatClampNeg)) 2) (rdI (eX (107 + 2 * k.toNatClampNeg)) 3) k la i 1 = -2 := by
        unfold lookF
        rw [if_pos hk, if_neg hl]
      rw [hL, if_neg (by decide), if_neg (fun q : wi k 0 3 ∧ wi la 0 2 => hl q.2)]
  · have hL : lookF (rdI (eX (107 + 2 * k.toNatClampNeg)) 1) (rdI (eX (107 + 2 * k.toNatClampNeg)) 2) (rdI (eX (107 + 2 * k.toNatClampNeg)) 3) k la i 1 = -1 := by
      unfold lookF
      rw [if_neg hk]
    rw [hL, if_neg (by decide), if_neg (fun q : wi k 0 3 ∧ wi la 0 2 => hk q.1)]
theorem SR_new {eX eM : Nat → va_E} (hx : ∀ j, j < 4 → rdI (eX (107 + 2 * j)) 3 = 0) (hm : ∀ j, j < 4 → rdF (eM 3) j = -9) : SR eX eM := fun k hk => Or.inl ⟨hx k hk, hm k hk⟩
