/-! the tables, the allowed pairs, the words and the history of the two sides hold the same -/
def T1 (eX eM : Nat → va_E) : Prop := rdI (eX 1) 4 = rdI (eM 0) 4 ∧ rdI (eX 1) 5 = rdI (eM 0) 2 ∧ rdI (eX 1) 6 = rdI (eM 0) 3
def AR (eX eM : Nat → va_E) : Prop := ∀ i, i < 36 → ((rdF (eX 10) i = 1 ∧ rdF (eM 2) i = 0) ∨ (rdF (eX 10) i = 0 ∧ rdF (eM 2) i = 1))
def HR (eX eM : Nat → va_E) : Prop := rdI (eX 76) 0 = rdI (eM 0) 1
def W1 (eX eM : Nat → va_E) (w : Nat) : Prop := ∃ N : Nat, N ≤ 12 ∧ rdI (eX (77 + 3 * w)) 2 = nI N ∧ rdF (eM 19) w = nI N ∧ ∀ x, x < N → rdF (eX (78 + 3 * w)) x = rdF (eM 18) (12 * w + x)
def WR (eX eM : Nat → va_E) : Prop := rdI (eX 0) 6 = rdI (eM 0) 30 ∧ ∀ w : Nat, w < 10 → (w : Int) < (rdI (eX 0) 6).toInt → W1 eX eM w
def ER (F : Nat → Nat → Int32) (eX eM : Nat → va_E) : Prop := ∀ t i : Nat, (t : Int) < (rdI (eX 1) 4).toInt → i < (rdI (eX 1) 5).toNatClampNeg * (rdI (eX 1) 5).toNatClampNeg → F t i = rdF (eM 1) (9 * t + i)
/-- the words' letters are tables, their products are kept -/
def PW1 (F : Nat → Nat → Int32) (en : Nat → va_E) (w : Nat) : Prop := (∀ x, x < (rdI (en (77 + 3 * w)) 2).toNatClampNeg → ((rdF (en (78 + 3 * w)) x).toNatClampNeg : Int) < (rdI (en 1) 4).toInt) ∧ ∀ i, i < (rdI (en 1) 5).toNatClampNeg * (rdI (en 1) 5).toNatClampNeg → rdL (en (79 + 3 * w)) i = prW (rdI (en 1) 5).toNatClampNeg (rdI (en 1) 6).toNatClampNeg (fun t i => restL (rdI (en 1) 6).toNatClampNeg (F t i).toInt64) (rdF (en (78 + 3 * w))) ((rdI (en (77 + 3 * w)) 2).toNatClampNeg - 1) i
def PWX (F : Nat → Nat → Int32) (en : Nat → va_E) : Prop := ∀ w : Nat, w < 10 → (w : Int) < (rdI (en 0) 6).toInt → PW1 F en w
def RWP (F : Nat → Nat → Int32) (en : Nat → va_E) : Prop := RW F en ∧ PWX F en
theorem PW1_keep {F : Nat → Nat → Int32} {a a1 : Nat → va_E} {w : Nat} (h : PW1 F a w) (h1 : a1 1 = a 1) (h7 : a1 (77 + 3 * w) = a (77 + 3 * w)) (h8 : a1 (78 + 3 * w) = a (78 + 3 * w)) (h9 : a1 (79 + 3 * w) = a (79 + 3 * w)) : PW1 F a1 w := by
  unfold PW1
  rw [h1, h7, h8, h9]
  exact h
theorem RWP_keep {F : Nat → Nat → Int32} {a a1 : Nat → va_E} (h : RWP F a) (h6 : rdI (a1 0) 6 = rdI (a 0) 6) (hu : ∀ c, c = 1 ∨ (4 ≤ c ∧ c < 10) ∨ (77 ≤ c ∧ c < 107) → a1 c = a c) : RWP F a1 :=
  ⟨RW_keep h.1 (hu 1 (by omega)) (fun t ht => hu _ (by omega)), fun w hw hl => PW1_keep (h.2 w hw (by rw [← h6]; exact hl)) (hu 1 (by omega)) (hu _ (by omega)) (hu _ (by omega)) (hu _ (by omega))⟩
theorem PWX_add {F : Nat → Nat → Int32} {en en1 : Nat → va_E} {wc N : Nat} {g : Nat → Int32} (h : RWP F en) (h6 : rdI (en 0) 6 = nI wc) (hwc : wc < 10) (hN1 : 1 ≤ N) (hN : N ≤ 12) (k : KW en en1 wc N g) (kp : KWP en en1 wc N g) (hg : ∀ x, x < N → ((g x).toNatClampNeg : Int) < (rdI (en 1) 4).toInt ∧ (g x).toNatClampNeg < 6) : RWP F en1 := by
  obtain ⟨k1, k2, k3, k4⟩ := k
  have e1 : en1 1 = en 1 := k4 1 (by omega) (by omega) (by omega) (by omega) (by omega)
  refine ⟨RW_keep h.1 e1 (fun t ht => k4 _ (by omega) (by omega) (by omega) (by omega) (by omega)), fun w hw hl => ?_⟩
  rw [k1, nI_toInt (by omega)] at hl
  by_cases e : w = wc
  · subst e
    unfold PW1
    rw [k2, nI_clamp (n := N) (by omega), e1]
    refine ⟨fun x hx => by rw [k3 x hx]; exact (hg x hx).1, fun i hi => ?_⟩
    rw [kp i hi]
    refine prW_c (N - 1) (fun x hx i hi => ?_) i hi
    rw [k3 x (by omega)]
    exact h.1 _ i (hg x (by omega)).2 (hg x (by omega)).1 hi
  · exact PW1_keep (h.2 w hw (by rw [h6, nI_toInt (by omega)]; omega)) e1 (k4 _ (by omega) (by omega) (by omega) (by omega) (by omega)) (k4 _ (by omega) (by omega) (by omega) (by omega) (by omega)) (k4 _ (by omega) (by omega) (by omega) (by omega) (by omega))
theorem PWX_t {F F1 : Nat → Nat → Int32} {k la i r : Int32} {a a1 : Nat → va_E} (hWX : WX a) (h : PWX F a) (hx : XTB F F1 k la i r a a1) (h6 : rdI (a1 0) 6 = rdI (a 0) 6) (hu : ∀ c, 77 ≤ c ∧ c < 107 → a1 c = a c) : PWX F1 a1 := by
  obtain ⟨d, cnt, hd2, hd3, hc, x5, x4, y5, y6, hx⟩ := hx
  have key : ∃ c1 : Nat, c1 ≤ 6 ∧ cnt ≤ c1 ∧ rdI (a1 1) 4 = nI c1 ∧ ∀ t, t < cnt → F1 t = F t := by
    rcases hx with ⟨-, -, xF, xc⟩ | ⟨-, K, I, -, -, -, -, hx⟩
    · exact ⟨cnt, hc, Nat.le_refl _, xc, fun t _ => by rw [xF]⟩
    · rcases hx with ⟨-, -, xF, xc⟩ | ⟨-, -, -, xF, xc⟩ | ⟨-, hc6, -, xc, xo, -⟩
      · exact ⟨cnt, hc, Nat.le_refl _, xc, fun t _ => by rw [xF]⟩
      · exact ⟨cnt, hc, Nat.le_refl _, xc, fun t _ => by rw [xF]⟩
      · exact ⟨cnt + 1, by omega, by omega, xc, fun t ht => xo t (by omega)⟩
  obtain ⟨c1, c6, cc, xc, xF⟩ := key
  intro w hw hl
  rw [h6] at hl
  obtain ⟨p1, p2⟩ := h w hw hl
  rw [x4, nI_toInt (by omega)] at p1
  rw [x5] at p2
  unfold PW1
  rw [hu (77 + 3 * w) (by omega), hu (78 + 3 * w) (by omega), hu (79 + 3 * w) (by omega), xc, nI_toInt (by omega), y5, y6]
  refine ⟨fun x hx => by have := p1 x hx; omega, fun i hi => ?_⟩
  rw [p2 i hi]
  have hlen := hWX w hl
  have t1 : (rdI (a (77 + 3 * w)) 2).toNatClampNeg = (rdI (a (77 + 3 * w)) 2).toInt.toNat := rfl
  refine prW_c _ (fun x hx i hi => ?_) i hi
  have h9 := p1 x (by omega)
  rw [xF _ (by omega)]
def RLX (F : Nat → Nat → Int32) (eX eM : Nat → va_E) : Prop := SR eX eM ∧ T1 eX eM ∧ AR eX eM ∧ HR eX eM ∧ WR eX eM ∧ ER F eX eM ∧ RWP F eX
def XK (a a1 : Nat → va_E) : Prop := rdI (a1 0) 6 = rdI (a 0) 6 ∧ ∀ c, c = 1 ∨ (4 ≤ c ∧ c < 10) ∨ c = 10 ∨ c = 76 ∨ (77 ≤ c ∧ c < 115) → a1 c = a c
def MK (b b1 : Nat → va_E) : Prop := (rdI (b1 0) 1 = rdI (b 0) 1 ∧ rdI (b1 0) 2 = rdI (b 0) 2 ∧ rdI (b1 0) 3 = rdI (b 0) 3 ∧ rdI (b1 0) 4 = rdI (b 0) 4 ∧ rdI (b1 0) 30 = rdI (b 0) 30) ∧ ∀ c, c = 1 ∨ c = 2 ∨ c = 3 ∨ c = 4 ∨ c = 5 ∨ c = 18 ∨ c = 19 → b1 c = b c
theorem XK_rf (a : Nat → va_E) : XK a a := ⟨rfl, fun _ _ => rfl⟩
theorem MK_rf (b : Nat → va_E) : MK b b := ⟨⟨rfl, rfl, rfl, rfl, rfl⟩, fun _ _ => rfl⟩
theorem MK_KP {b b1 : Nat → va_E} (h : KP b b1) (hu : ∀ c, c = 1 ∨ c = 2 ∨ c = 3 ∨ c = 4 ∨ c = 5 ∨ c = 18 ∨ c = 19 → b1 c = b c) : MK b b1 := ⟨⟨h.1, h.2.1, h.2.2.1, h.2.2.2.1, h.2.2.2.2.2⟩, hu⟩
theorem MK_0 {b b1 : Nat → va_E} (h : b1 0 = b 0) (hu : ∀ c, c = 1 ∨ c = 2 ∨ c = 3 ∨ c = 4 ∨ c = 5 ∨ c = 18 ∨ c = 19 → b1 c = b c) : MK b b1 := ⟨⟨by rw [h], by rw [h], by rw [h], by rw [h], by rw [h]⟩, hu⟩
theorem T1_keep {a b a1 b1 : Nat → va_E} (h : T1 a b) (hx : a1 1 = a 1) (h2 : rdI (b1 0) 2 = rdI (b 0) 2) (h3 : rdI (b1 0) 3 = rdI (b 0) 3) (h4 : rdI (b1 0) 4 = rdI (b 0) 4) : T1 a1 b1 := ⟨by rw [hx, h4]; exact h.1, by rw [hx, h2]; exact h.2.1, by rw [hx, h3]; exact h.2.2⟩
theorem AR_keep {a b a1 b1 : Nat → va_E} (h : AR a b) (hx : a1 10 = a 10) (hm : b1 2 = b 2) : AR a1 b1 := fun i hi => by rw [hx, hm]; exact h i hi
theorem HR_keep {a b a1 b1 : Nat → va_E} (h : HR a b) (hx : a1 76 = a 76) (hm : rdI (b1 0) 1 = rdI (b 0) 1) : HR a1 b1 := by
  unfold HR
  rw [hx, hm]
  exact h
theorem WR_keep {a b a1 b1 : Nat → va_E} (h : WR a b) (h6 : rdI (a1 0) 6 = rdI (a 0) 6) (hx : ∀ c, 77 ≤ c ∧ c < 107 → a1 c = a c) (h30 : rdI (b1 0) 30 = rdI (b 0) 30) (h18 : b1 18 = b 18) (h19 : b1 19 = b 19) : WR a1 b1 := by
  refine ⟨by rw [h6, h30]; exact h.1, fun w hw hl => ?_⟩
  rw [h6] at hl
  obtain ⟨N, q1, q2, q3, q4⟩ := h.2 w hw hl
  exact ⟨N, q1, by rw [hx _ (by omega)]; exact q2, by rw [h19]; exact q3, fun x hx9 => by rw [hx _ (by omega), h18]; exact q4 x hx9⟩
theorem ER_keep {F : Nat → Nat → Int32} {a b a1 b1 : Nat → va_E} (h : ER F a b) (hx : a1 1 = a 1) (hm : b1 1 = b 1) : ER F a1 b1 := fun t i ht hi => by
  rw [hx] at ht hi
  rw [hm]
  exact h t i ht hi
theorem RLX_keep {F : Nat → Nat → Int32} {a b a1 b1 : Nat → va_E} (h : RLX F a b) (x : XK a a1) (m : MK b b1) : RLX F a1 b1 :=
  ⟨SR_keep h.1 (fun c hc => x.2 c (by omega)) (fun c hc => m.2 c (by omega)), T1_keep h.2.1 (x.2 1 (by omega)) m.1.2.1 m.1.2.2.1 m.1.2.2.2.1, AR_keep h.2.2.1 (x.2 10 (by omega)) (m.2 2 (by omega)), HR_keep h.2.2.2.1 (x.2 76 (by omega)) m.1.1, WR_keep h.2.2.2.2.1 x.1 (fun c hc => x.2 c (by omega)) m.1.2.2.2.2 (m.2 18 (by omega)) (m.2 19 (by omega)), ER_keep h.2.2.2.2.2.1 (x.2 1 (by omega)) (m.2 1 (by omega)), RWP_keep h.2.2.2.2.2.2 x.1 (fun c hc => x.2 c (by omega))⟩
theorem RLX_begin {F : Nat → Nat → Int32} {a b a1 b1 : Nat → va_E} {d0 m0 r r' : Int32} {Q : Prop} (h : RLX F a b) (er : r = r') (hx : (r = -2 ∧ a1 = a) ∨ (r = 1 ∧ rdI (a1 0) 6 = nI 0 ∧ rdI (a1 1) 4 = nI 0 ∧ Q ∧ rdI (a1 1) 5 = d0 ∧ rdI (a1 1) 6 = m0 ∧ ∀ i, i < 36 → rdF (a1 10) i = 1)) (hxu : ∀ c, c = 76 ∨ (107 ≤ c ∧ c < 115) → a1 c = a c) (hm : (r' = -2 ∧ b1 = b) ∨ (r' = 1 ∧ (rdI (b1 0) 1 = rdI (b 0) 1 ∧ rdI (b1 0) 2 = d0 ∧ rdI (b1 0) 3 = m0 ∧ rdI (b1 0) 4 = nI 0 ∧ rdI (b1 0) 25 = -9 ∧ rdI (b1 0) 30 = nI 0) ∧ ∀ i, i < 36 → rdF (b1 2) i = 0)) (hmu : ∀ c, c = 3 ∨ c = 4 ∨ c = 5 → b1 c = b c) : RLX F a1 b1 := by
  subst er
  rcases hx with ⟨x0, x1⟩ | ⟨x0, x1, x2, -, x3, x4, x5⟩
  · rcases hm with ⟨m0, m1⟩ | ⟨m0, -⟩
    · rw [x1, m1]; exact h
    · exact absurd (x0.symm.trans m0) (by decide)
  · rcases hm with ⟨m0, -⟩ | ⟨m0, ⟨m1, m2, m3, m4, -, m6⟩, m7⟩
    · exact absurd (x0.symm.trans m0) (by decide)
    · have z0 : (nI 0).toInt = 0 := by decide
      exact ⟨SR_keep h.1 (fun c hc => hxu c (by omega)) hmu, ⟨x2.trans m4.symm, x3.trans m2.symm, x4.trans m3.symm⟩, fun i hi => Or.inl ⟨x5 i hi, m7 i hi⟩, HR_keep h.2.2.2.1 (hxu 76 (by omega)) m1, ⟨x1.trans m6.symm, fun w hw hl => by rw [x1, z0] at hl; omega⟩, fun t i ht hi => by rw [x2, z0] at ht; omega, ⟨fun t i h6 ht hi => by rw [x2, z0] at ht; omega, fun w hw hl => by rw [x1, z0] at hl; omega⟩⟩
theorem RLX_sh {F : Nat → Nat → Int32} {a b a1 b1 : Nat → va_E} (h : RLX F a b) (hS : SR a1 b1) (h6 : rdI (a1 0) 6 = rdI (a 0) 6) (hx : ∀ c, c = 1 ∨ (4 ≤ c ∧ c < 10) ∨ c = 10 ∨ c = 76 ∨ (77 ≤ c ∧ c < 107) → a1 c = a c) (m1 : rdI (b1 0) 1 = rdI (b 0) 1) (m2 : rdI (b1 0) 2 = rdI (b 0) 2) (m3 : rdI (b1 0) 3 = rdI (b 0) 3) (m4 : rdI (b1 0) 4 = rdI (b 0) 4) (m30 : rdI (b1 0) 30 = rdI (b 0) 30) (hm : ∀ c, c = 1 ∨ c = 2 ∨ c = 18 ∨ c = 19 → b1 c = b c) : RLX F a1 b1 :=
  ⟨hS, T1_keep h.2.1 (hx 1 (by omega)) m2 m3 m4, AR_keep h.2.2.1 (hx 10 (by omega)) (hm 2 (by omega)), HR_keep h.2.2.2.1 (hx 76 (by omega)) m1, WR_keep h.2.2.2.2.1 h6 (fun c hc => hx c (by omega)) m30 (hm 18 (by omega)) (hm 19 (by omega)), ER_keep h.2.2.2.2.2.1 (hx 1 (by omega)) (hm 1 (by omega)), RWP_keep h.2.2.2.2.2.2 h6 (fun c hc => hx c (by omega))⟩
theorem RLX_h {F : Nat → Nat → Int32} {a b a1 b1 : Nat → va_E} (h : RLX F a b) (hH : HR a1 b1) (hx : ∀ c, c ≠ 76 → a1 c = a c) (m2 : rdI (b1 0) 2 = rdI (b 0) 2) (m3 : rdI (b1 0) 3 = rdI (b 0) 3) (m4 : rdI (b1 0) 4 = rdI (b 0) 4) (m30 : rdI (b1 0) 30 = rdI (b 0) 30) (hm : ∀ c, c ≠ 0 → b1 c = b c) : RLX F a1 b1 :=
  ⟨SR_keep h.1 (fun c hc => hx c (by omega)) (fun c hc => hm c (by omega)), T1_keep h.2.1 (hx 1 (by omega)) m2 m3 m4, AR_keep h.2.2.1 (hx 10 (by omega)) (hm 2 (by omega)), hH, WR_keep h.2.2.2.2.1 (by rw [hx 0 (by omega)]) (fun c hc => hx c (by omega)) m30 (hm 18 (by omega)) (hm 19 (by omega)), ER_keep h.2.2.2.2.2.1 (hx 1 (by omega)) (hm 1 (by omega)), RWP_keep h.2.2.2.2.2.2 (by rw [hx 0 (by omega)]) (fun c hc => hx c (by omega))⟩
theorem RLX_a {F : Nat → Nat → Int32} {a b a1 b1 : Nat → va_E} (h : RLX F a b) (hA : AR a1 b1) (hx : ∀ c, c ≠ 10 ∧ (c < 12 ∨ 70 ≤ c) → a1 c = a c) (hm : ∀ c, c ≠ 2 → b1 c = b c) : RLX F a1 b1 :=
  ⟨SR_keep h.1 (fun c hc => hx c (by omega)) (fun c hc => hm c (by omega)), T1_keep h.2.1 (hx 1 (by omega)) (by rw [hm 0 (by omega)]) (by rw [hm 0 (by omega)]) (by rw [hm 0 (by omega)]), hA, HR_keep h.2.2.2.1 (hx 76 (by omega)) (by rw [hm 0 (by omega)]), WR_keep h.2.2.2.2.1 (by rw [hx 0 (by omega)]) (fun c hc => hx c (by omega)) (by rw [hm 0 (by omega)]) (hm 18 (by omega)) (hm 19 (by omega)), ER_keep h.2.2.2.2.2.1 (hx 1 (by omega)) (hm 1 (by omega)), RWP_keep h.2.2.2.2.2.2 (by rw [hx 0 (by omega)]) (fun c hc => hx c (by omega))⟩
theorem RLX_w {F : Nat → Nat → Int32} {a b a1 b1 : Nat → va_E} (h : RLX F a b) (hW : WR a1 b1) (hP : RWP F a1) (hx : ∀ c, c = 1 ∨ c = 10 ∨ c = 76 ∨ (107 ≤ c ∧ c < 115) → a1 c = a c) (k : KPw b b1) (hm : ∀ c, c = 1 ∨ c = 2 ∨ c = 3 ∨ c = 4 ∨ c = 5 → b1 c = b c) : RLX F a1 b1 :=
  ⟨SR_keep h.1 (fun c hc => hx c (by omega)) (fun c hc => hm c (by omega)), T1_keep h.2.1 (hx 1 (by omega)) k.2.1 k.2.2.1 k.2.2.2.1, AR_keep h.2.2.1 (hx 10 (by omega)) (hm 2 (by omega)), HR_keep h.2.2.2.1 (hx 76 (by omega)) k.1, hW, ER_keep h.2.2.2.2.2.1 (hx 1 (by omega)) (hm 1 (by omega)), hP⟩
theorem RLX_t {F F1 : Nat → Nat → Int32} {a b a1 b1 : Nat → va_E} (h : RLX F a b) (hT : T1 a1 b1) (hE : ER F1 a1 b1) (hP : RWP F1 a1) (h6 : rdI (a1 0) 6 = rdI (a 0) 6) (hx : ∀ c, c = 10 ∨ c = 76 ∨ (77 ≤ c ∧ c < 115) → a1 c = a c) (m1 : rdI (b1 0) 1 = rdI (b 0) 1) (m30 : rdI (b1 0) 30 = rdI (b 0) 30) (hm : ∀ c, c = 2 ∨ c = 3 ∨ c = 4 ∨ c = 5 ∨ c = 18 ∨ c = 19 → b1 c = b c) : RLX F1 a1 b1 :=
  ⟨SR_keep h.1 (fun c hc => hx c (by omega)) (fun c hc => hm c (by omega)), hT, AR_keep h.2.2.1 (hx 10 (by omega)) (hm 2 (by omega)), HR_keep h.2.2.2.1 (hx 76 (by omega)) m1, WR_keep h.2.2.2.2.1 h6 (fun c hc => hx c (by omega)) m30 (hm 18 (by omega)) (hm 19 (by omega)), hE, hP⟩
theorem AR_may {eX eM eX1 eM1 : Nat → va_E} {a b z r r' : Int32} (ht : rdI (eX 1) 4 = rdI (eM 0) 4) (h : AR eX eM) (hz : z = 0 ∨ z = 1) (hx : XMA a b z r eX eX1) (hm : RMA a b z r' eM eM1) : AR eX1 eM1 ∧ r = r' := by
  rcases hx with ⟨x1, x2, x3⟩ | ⟨A, B, xa, xb, xA, xB, xq, xp, xc⟩
  · rcases hm with ⟨m1, m2, m3⟩ | ⟨A', B', -, -, -, -, mq, mp, -⟩
    · exact ⟨fun i hi => by rw [x3, m3]; exact h i hi, x2.trans m2.symm⟩
    · rw [← ht] at mq mp
      exact absurd ⟨mq, mp⟩ x1
  · rcases hm with ⟨m1, -⟩ | ⟨A', B', ma, mb, mA, mB, mq, mp, mc, mu⟩
    · rw [← ht] at m1
      exact absurd ⟨xq, xp⟩ m1
    · have eA : A' = A := n_eq (ma.symm.trans xa) (by omega) (by omega)
      have eB : B' = B := n_eq (mb.symm.trans xb) (by omega) (by omega)
      subst eA
      subst eB
      rw [show 6 * A' + B' = A' * 6 + B' by omega] at mc mu
      refine ⟨fun i hi => ?_, ?_⟩
      · by_cases e : i = A' * 6 + B'
        · have hX1 : rdF (eX1 10) i = z := by
            rcases xc with ⟨c1, -, c3⟩ | ⟨-, -, c3⟩
            · rw [c3, e]; exact c1
            · rw [c3, e]; exact pk_us
          rcases mu with ⟨u1, u2⟩ | ⟨u1, u2⟩
          · exact Or.inr ⟨hX1.trans u1, by rw [u2, e]; exact pk_us⟩
          · exact Or.inl ⟨hX1.trans (hz.resolve_left u1), by rw [u2, e]; exact pk_us⟩
        · have hX1 : rdF (eX1 10) i = rdF (eX 10) i := by
            rcases xc with ⟨c1, -, c3⟩ | ⟨-, -, c3⟩
            · rw [c3]
            · rw [c3, pk_un e]
          have hM1 : rdF (eM1 2) i = rdF (eM 2) i := by
            rcases mu with ⟨-, u2⟩ | ⟨-, u2⟩
            · rw [u2, pk_un e]
            · rw [u2, pk_un e]
          rw [hX1, hM1]
          exact h i hi
      · rcases h (A' * 6 + B') (by omega) with ⟨p, q⟩ | ⟨p, q⟩ <;> rcases hz with rfl | rfl <;> rcases xc with ⟨c1, c2, -⟩ | ⟨c1, c2, -⟩ <;> rcases mc with ⟨d1, d2⟩ | ⟨d1, d2⟩ <;> first | exact c2.trans d2.symm | exact absurd (c1.symm.trans p) (by decide) | exact absurd (d1.symm.trans q) (by decide) | exact absurd p c1 | exact absurd q d1
theorem cpI_eq {f g : Nat → Int32} {a : Nat} : ∀ n : Nat, (∀ b, b < n → f (a * 6 + b) = g (a * 6 + b)) → cpI f a n = cpI g a n := by
  intro n
  induction n with
  | zero => intro _; rfl
  | succ n ih =>
    intro h
    show cpI f a n + f (a * 6 + n) = cpI g a n + g (a * 6 + n)
    rw [ih (fun b hb => h b (by omega)), h n (by omega)]
theorem cpO_eq {f g : Nat → Int32} {n : Nat} : ∀ k : Nat, (∀ a b, a < k → b < n → f (a * 6 + b) = g (a * 6 + b)) → cpO f n k = cpO g n k := by
  intro k
  induction k with
  | zero => intro _; rfl
  | succ k ih =>
    intro h
    show cpO f n k + cpI f k n = cpO g n k + cpI g k n
    rw [ih (fun a b ha hb => h a b (by omega) hb), cpI_eq n (fun b hb => h k b (by omega) hb)]
theorem told_eq {eX eM : Nat → va_E} {z r r' : Int32} (hT : T1 eX eM) (hw : rdI (eX 0) 6 = rdI (eM 0) 30) (hA : AR eX eM) (hc : (rdI (eX 1) 4).toNatClampNeg ≤ 6) (hx : XTO z r eX) (hm : RTO z r' eM) : r = r' := by
  have hq : cpO (rdF (eX 10)) (rdI (eX 1) 4).toNatClampNeg (rdI (eX 1) 4).toNatClampNeg = cpO (mnG (rdF (eM 2))) (rdI (eM 0) 4).toNatClampNeg (rdI (eM 0) 4).toNatClampNeg := by
    rw [← hT.1]
    refine cpO_eq _ (fun a b ha hb => ?_)
    unfold mnG
    rcases hA (a * 6 + b) (by omega) with ⟨p, q⟩ | ⟨p, q⟩
    · rw [p, if_pos q]
    · rw [p, if_neg (by rw [q]; decide)]
  rcases hx with ⟨a, x⟩ | ⟨a, x⟩ | ⟨a, x⟩ | ⟨a, x⟩ | ⟨a, x⟩ | ⟨a0, a1, a2, a3, a4, x⟩ <;> rcases hm with ⟨b, y⟩ | ⟨b, y⟩ | ⟨b, y⟩ | ⟨b, y⟩ | ⟨b, y⟩ | ⟨b0, b1, b2, b3, b4, y⟩ <;> first | exact x.trans (hT.1.trans y.symm) | exact x.trans (hT.2.1.trans y.symm) | exact x.trans (hT.2.2.trans y.symm) | exact x.trans (hw.trans y.symm) | exact x.trans (hq.trans y.symm) | exact x.trans y.symm | exact absurd (a.symm.trans b) (by decide) | exact absurd a b0 | exact absurd a b1 | exact absurd a b2 | exact absurd a b3 | exact absurd a b4 | exact absurd b a0 | exact absurd b a1 | exact absurd b a2 | exact absurd b a3 | exact absurd b a4
theorem letter_eq {eX eM : Nat → va_E} {w i r r' : Int32} (h : WR eX eM) (hx : XLE w i r eX) (hm : RLE w i r' eM) : r = r' := by
  rcases hx with ⟨x1, x2⟩ | ⟨W, xw, xW, xq, xc⟩
  · rcases hm with ⟨m1, m2⟩ | ⟨W', -, -, mq, -⟩
    · exact x2.trans m2.symm
    · rw [← h.1] at mq
      exact absurd mq x1
  · rcases hm with ⟨m1, -⟩ | ⟨W', mw, mW, mq, mc⟩
    · rw [← h.1] at m1
      exact absurd xq m1
    · have eW : W' = W := n_eq (mw.symm.trans xw) (by omega) (by omega)
      subst eW
      have hw9 : (W' : Int) < (rdI (eX 0) 6).toInt := by
        have h9 := xq.2
        rw [xw, nI_toInt (by omega)] at h9
        exact h9
      obtain ⟨N, hN, h1, h2, h3⟩ := h.2 W' mW hw9
      rw [h1] at xc
      rw [h2] at mc
      rcases xc with ⟨c1, c2⟩ | ⟨c1, c2⟩ <;> rcases mc with ⟨d1, d2⟩ | ⟨d1, d2⟩
      · refine c2.trans (Eq.trans (h3 _ ?_) d2.symm)
        obtain ⟨q1, q2⟩ := c1
        rw [nI_toInt (by omega)] at q2
        have e1 : i.toNatClampNeg = i.toInt.toNat := rfl
        omega
      · exact absurd c1 d1
      · exact absurd d1 c1
      · exact c2.trans d2.symm
theorem entry_eq9 {F G : Nat → Nat → Int32} {t a b cnt d cnt' d' : Int32} {r r' : Int64} (h1 : cnt = cnt') (h2 : d = d') (h : inP t a b cnt d → F t.toNatClampNeg (a.toNatClampNeg * d.toNatClampNeg + b.toNatClampNeg) = G t.toNatClampNeg (a.toNatClampNeg * d.toNatClampNeg + b.toNatClampNeg)) (hx : XEN F t a b cnt d r) (hm : XEN G t a b cnt' d' r') : r = r' := by
  subst h1
  subst h2
  rcases hx with ⟨x1, x2⟩ | ⟨x1, x2⟩ <;> rcases hm with ⟨m1, m2⟩ | ⟨m1, m2⟩
  · rw [x2, m2, h x1]
  · exact absurd x1 m1
  · exact absurd m1 x1
  · exact x2.trans m2.symm
/-! kinds: the class's (kdP) and the reference's (RKD) -/
theorem add_small {a b : Int32} (h1 : 0 ≤ a.toInt) (h2 : a.toInt ≤ 1000) (h3 : 0 ≤ b.toInt) (h4 : b.toInt ≤ 1000) : (a + b).toInt = a.toInt + b.toInt := by
  rw [Int32.toInt_add]
  exact Int.bmod_eq_of_le (by omega) (by omega)
theorem sum_bd {g : Nat → Int32} : ∀ n : Nat, n ≤ 3 → (∀ z, z < n → 0 ≤ (g z).toInt ∧ (g z).toInt ≤ 9) → 0 ≤ (sumI g n).toInt ∧ (sumI g n).toInt ≤ 9 * (n : Int) ∧ ∀ z, z < n → (g z).toInt ≤ (sumI g n).toInt := by
  intro n
  induction n with
  | zero =>
    intro _ _
    have h0 : (sumI g 0).toInt = 0 := by show (0 : Int32).toInt = 0; decide
    exact ⟨by omega, by omega, fun z hz => absurd hz (by omega)⟩
  | succ n ih =>
    intro hn h
    obtain ⟨i1, i2, i3⟩ := ih (by omega) (fun z hz => h z (by omega))
    obtain ⟨g1, g2⟩ := h n (by omega)
    have e : (sumI g (n + 1)).toInt = (sumI g n).toInt + (g n).toInt := add_small i1 (by omega) g1 (by omega)
    refine ⟨by omega, by omega, fun z hz => ?_⟩
    by_cases q : z = n
    · rw [q]; omega
    · have := i3 z (by omega); omega
theorem sum_01 {g : Nat → Int32} {n : Nat} (hn : n ≤ 3) (h : ∀ z, z < n → 0 ≤ (g z).toInt ∧ (g z).toInt ≤ 9) (hs : sumI g n = 1) {z : Nat} (hz : z < n) : g z = 0 ∨ g z = 1 := by
  obtain ⟨-, -, h3⟩ := sum_bd n hn h
  have h4 := h3 z hz
  rw [hs, show (1 : Int32).toInt = 1 by decide] at h4
  have h5 := (h z hz).1
  have h6 : (g z).toInt = 0 ∨ (g z).toInt = 1 := by omega
  rcases h6 with h6 | h6
  · exact Or.inl (Int32.toInt_inj.mp (h6.trans (by decide)))
  · exact Or.inr (Int32.toInt_inj.mp (h6.trans (by decide)))
theorem ix_lt {d a b : Nat} (hd : d ≤ 3) (ha : a < d) (hb : b < d) : d * a + b < d * d := by
  rcases (show d = 0 ∨ d = 1 ∨ d = 2 ∨ d = 3 by omega) with rfl | rfl | rfl | rfl <;> omega
theorem ev_iff {F : Nat → Int32} {d : Nat} (hd : d ≤ 3) : evU F d d 0 ↔ evP F (d * d) := by
  constructor
  · intro h i hi
    have d0 : 0 < d := by
      rcases Nat.eq_zero_or_pos d with e | e
      · rw [e] at hi; omega
      · exact e
    have h9 := h (i / d) (i % d) (Nat.mod_lt _ d0) (Or.inl (Nat.div_lt_of_lt_mul hi))
    rw [Nat.div_add_mod] at h9
    exact h9
  · intro h a b hb hab
    exact h _ (ix_lt hd (by omega) hb)
theorem sh_iff {F : Nat → Int32} {d : Nat} (hd : d ≤ 3) (hw : ∀ i, i < d * d → wi (F i) (-9) 9) : (zoU F d d 0 ∧ suU F d d) ↔ shP F d := by
  have m9 : (9 : Int32).toInt = 9 := by decide
  have z0 : (0 : Int32).toInt = 0 := by decide
  constructor
  · intro h
    refine ⟨(ev_iff hd).mp (fun a b hb hab => ?_), fun i hi => ?_⟩
    · rcases h.1 a b hb hab with q | q
      · rw [q]; decide
      · rw [q]; decide
    · have h9 := h.2 i hi
      rw [Nat.mul_comm i d]
      refine ⟨h9.1, Eq.trans (congrArg (fun g => sumI g d) (funext (fun z => ?_))) h9.2⟩
      rw [Nat.mul_comm z d]
  · intro h
    have hs : suU F d d := fun i hi => by
      have h9 := h.2 i hi
      rw [Nat.mul_comm i d] at h9
      refine ⟨h9.1, Eq.trans (congrArg (fun g => sumI g d) (funext (fun z => ?_))) h9.2⟩
      rw [Nat.mul_comm z d]
    refine ⟨fun a b hb hab => ?_, hs⟩
    refine sum_01 (g := fun z => F (d * a + z)) hd (fun z hz => ?_) (hs a (by omega)).1 hb
    have hi := ix_lt hd (show a < d by omega) hz
    have h8 := h.1 _ hi
    have h7 := (hw _ hi).2
    have h6 : ¬ (F (d * a + z)).toInt < 0 := fun q => h8 (Int32.lt_iff_toInt_lt.mpr (by rw [z0]; exact q))
    exact ⟨by omega, by omega⟩
theorem kd_rel {F : Nat → Int32} {d ci : Nat} {k : Int32} (hd : d ≤ 3) (hw : ∀ i, i < d * d → wi (F i) (-9) 9) (hx : kdP ci F d) (hm : RKD F d k) : (ci = 4 ∧ k = 2) ∨ (ci = 1 ∧ k = 1) ∨ (ci = 6 ∧ k = 0) := by
  have e1 := ev_iff (F := F) hd
  have e2 := sh_iff hd hw
  rcases hx with ⟨x1, x2⟩ | ⟨x1, x2, x3⟩ | ⟨x1, x2⟩ <;> rcases hm with ⟨m1, m2⟩ | ⟨m1, m2, m3⟩ | ⟨m1, m2, m3⟩
  · exact Or.inl ⟨x1, m1⟩
  · exact absurd (e2.mpr x2) m2
  · exact absurd (e2.mpr x2) m2
  · exact absurd (e2.mp m2) x2
  · exact Or.inr (Or.inl ⟨x1, m1⟩)
  · exact absurd (e1.mpr x3) m3
  · exact absurd (e2.mp m2).1 x2
  · exact absurd (e1.mp m3) x2
  · exact Or.inr (Or.inr ⟨x1, m1⟩)
/-! a look at the cells of a sheet: the class's and the reference's -/
theorem look_ag {eX eM : Nat → va_E} {k la i : Int32} {n : Nat} (hS : SR eX eM) (hn1 : 1 ≤ n) (hn : n ≤ 40) :
    (agF (rdF (eM 3) k.toNatClampNeg) k la ≠ 0 ∧ lookF (rdI (eX (107 + 2 * k.toNatClampNeg)) 1) (rdI (eX (107 + 2 * k.toNatClampNeg)) 2) (rdI (eX (107 + 2 * k.toNatClampNeg)) 3) k la i (nI n) = agF (rdF (eM 3) k.toNatClampNeg) k la ∧ agF (rdF (eM 3) k.toNatClampNeg) k la ≠ 1) ∨
    (agF (rdF (eM 3) k.toNatClampNeg) k la = 0 ∧ ∃ K : Nat, K < 4 ∧ k = nI K ∧ rdF (eM 4) K = rdI (eX (107 + 2 * K)) 1 ∧ (∀ x, x < 40 → rdF (eM 5) (40 * K + x) = rdF (eX (108 + 2 * K)) x) ∧ ((hcP (rdI (eX (107 + 2 * K)) 1) i n ∧ lookF (rdI (eX (107 + 2 * k.toNatClampNeg)) 1) (rdI (eX (107 + 2 * k.toNatClampNeg)) 2) (rdI (eX (107 + 2 * k.toNatClampNeg)) 3) k la i (nI n) = 1) ∨ (¬ hcP (rdI (eX (107 + 2 * K)) 1) i n ∧ lookF (rdI (eX (107 + 2 * k.toNatClampNeg)) 1) (rdI (eX (107 + 2 * k.toNatClampNeg)) 2) (rdI (eX (107 + 2 * k.toNatClampNeg)) 3) k la i (nI n) = -13))) := by
  have z0 : (0 : Int32).toInt = 0 := by decide
  have hn0 : ¬ nI n < 0 := fun q => by
    have h9 := i_lt q
    rw [nI_toInt (by omega)] at h9
    omega
  by_cases hk : wi k 0 3
  · obtain ⟨K, hK, rfl⟩ := wi_k4 hk
    rw [nI_clamp (n := K) (by omega)]
    by_cases hl : wi la 0 2
    · rcases hS K hK with ⟨q1, q2⟩ | ⟨q1, q2, q3, q4, q5⟩
      · left
        have hA : agF (rdF (eM 3) K) (nI K) la = -11 := by
          unfold agF
          rw [if_pos hk, if_pos hl, if_neg (fun q : rdF (eM 3) K ≠ -9 ∧ rdF (eM 3) K ≠ la => q.1 q2), if_pos q2]
        rw [hA]
        refine ⟨by decide, ?_, by decide⟩
        unfold lookF
        rw [if_pos hk, if_pos hl, if_neg (fun q : rdI (eX (107 + 2 * K)) 3 ≠ 0 ∧ rdI (eX (107 + 2 * K)) 2 ≠ la => q.1 q1), if_pos q1]
      · have n9 : rdF (eM 3) K ≠ -9 := fun q => by
          rw [q] at q3
          exact absurd q3.1 (by decide)
        have n0 : rdI (eX (107 + 2 * K)) 3 ≠ 0 := by rw [q1]; decide
        by_cases ql : rdF (eM 3) K = la
        · right
          have hA : agF (rdF (eM 3) K) (nI K) la = 0 := by
            unfold agF
            rw [if_pos hk, if_pos hl, if_neg (fun q : rdF (eM 3) K ≠ -9 ∧ rdF (eM 3) K ≠ la => q.2 ql), if_neg n9]
          have m1 : ¬ (rdI (eX (107 + 2 * K)) 3 ≠ 0 ∧ rdI (eX (107 + 2 * K)) 2 ≠ la) := fun q => q.2 (q2.symm.trans ql)
          refine ⟨hA, K, hK, rfl, q4, q5, ?_⟩
          by_cases q : hcP (rdI (eX (107 + 2 * K)) 1) i n
          · left
            refine ⟨q, ?_⟩
            unfold lookF
            rw [if_pos hk, if_pos hl, if_neg m1, if_neg n0, if_neg hn0, nI_clamp (n := n) (by omega), if_pos q]
          · right
            refine ⟨q, ?_⟩
            unfold lookF
            rw [if_pos hk, if_pos hl, if_neg m1, if_neg n0, if_neg hn0, nI_clamp (n := n) (by omega), if_neg q]
        · left
          have hA : agF (rdF (eM 3) K) (nI K) la = -12 := by
            unfold agF
            rw [if_pos hk, if_pos hl, if_pos (⟨n9, ql⟩ : rdF (eM 3) K ≠ -9 ∧ rdF (eM 3) K ≠ la)]
          rw [hA]
          refine ⟨by decide, ?_, by decide⟩
          unfold lookF
          rw [if_pos hk, if_pos hl, if_pos (⟨n0, fun q => ql (q2.trans q)⟩ : rdI (eX (107 + 2 * K)) 3 ≠ 0 ∧ rdI (eX (107 + 2 * K)) 2 ≠ la)]
    · left
      have hA : agF (rdF (eM 3) K) (nI K) la = -2 := by
        unfold agF
        rw [if_pos hk, if_neg hl]
      rw [hA]
      refine ⟨by decide, ?_, by decide⟩
      unfold lookF
      rw [if_pos hk, if_neg hl]
  · left
    have hA : agF (rdF (eM 3) k.toNatClampNeg) k la = -1 := by
      unfold agF
      rw [if_neg hk]
    rw [hA]
    refine ⟨by decide, ?_, by decide⟩
    unfold lookF
    rw [if_neg hk]
/-! table -/
theorem TB_rel {F F1 : Nat → Nat → Int32} {eX eM eX1 eM1 : Nat → va_E} {k la i r r' : Int32} (hS : SR eX eM) (hT : T1 eX eM) (hE : ER F eX eM) (hx : XTB F F1 k la i r eX eX1) (hm : RTB k la i r' eM eM1) : r = r' ∧ T1 eX1 eM1 ∧ ER F1 eX1 eM1 := by
  obtain ⟨d, cnt, hd2, hd3, hc, x5, x4, y5, y6, hx⟩ := hx
  obtain ⟨d', cnt', -, hd3', hc', m2, m4, hm⟩ := hm
  have ed : d = d' := n_eq (x5.symm.trans (hT.2.1.trans m2)) (by omega) (by omega)
  have ec : cnt = cnt' := n_eq (x4.symm.trans (hT.1.trans m4)) (by omega) (by omega)
  subst ed
  subst ec
  have hdd : d * d ≤ 9 := Nat.mul_le_mul hd3 hd3
  have hdd4 : 4 ≤ d * d := Nat.mul_le_mul hd2 hd2
  have same : F1 = F → rdI (eX1 1) 4 = nI cnt → KP eM eM1 → eM1 1 = eM 1 → T1 eX1 eM1 ∧ ER F1 eX1 eM1 := fun e1 e2 e3 e4 => by
    refine ⟨⟨e2.trans (m4.symm.trans e3.2.2.2.1.symm), y5.trans (m2.symm.trans e3.2.1.symm), y6.trans (hT.2.2.trans e3.2.2.1.symm)⟩, fun t j ht hj => ?_⟩
    rw [e2] at ht
    rw [y5] at hj
    rw [e1, e4]
    exact hE t j (by rw [x4]; exact ht) (by rw [x5]; exact hj)
  rcases look_ag (k := k) (la := la) (i := i) hS (show 1 ≤ d * d by omega) (by omega) with ⟨a1, a2, a3⟩ | ⟨a1, K, hK, ek, e4, e5, hc9⟩
  · rcases hx with ⟨x1, xr, xF, xc⟩ | ⟨x1, -⟩
    · rcases hm with ⟨m1, mr, mk, me⟩ | ⟨m1, -⟩
      · exact ⟨xr.trans (a2.trans mr.symm), same xF xc mk me⟩
      · exact absurd m1 a1
    · exact absurd (a2.symm.trans x1) a3
  · rcases hm with ⟨m1, -⟩ | ⟨-, K', mk, mK, hm⟩
    · exact absurd a1 m1
    · have eK : K = K' := n_eq (ek.symm.trans mk) (by omega) (by omega)
      subst eK
      rcases hc9 with ⟨q, w⟩ | ⟨q, w⟩
      · rcases hx with ⟨x1, -⟩ | ⟨-, K', I, xk, xi, xK, xI, hx⟩
        · exact absurd w x1
        · have eK : K = K' := n_eq (ek.symm.trans xk) (by omega) (by omega)
          subst eK
          have q' : 0 ≤ i.toInt ∧ i.toInt + ((d * d : Nat) : Int) ≤ (rdF (eM 4) K).toInt := by
            rw [e4]
            rcases q with q | q
            · omega
            · exact q
          rcases hm with ⟨m1, -⟩ | ⟨I', mi, mI, mI40, hm⟩
          · exact absurd q' m1
          · have eI : I = I' := n_eq (xi.symm.trans mi) (by omega) (by omega)
            subst eI
            have hv : ∀ x, x < d * d → rdF (eM 5) (40 * K + I + x) = rdF (eX (108 + 2 * K)) (I + x) := fun x hx => by
              rw [Nat.add_assoc]
              exact e5 (I + x) (by omega)
            have hok : okC eX K I (d * d) ↔ okR eM K I (d * d) := ⟨fun h x hx => by rw [hv x hx]; exact h x hx, fun h x hx => by rw [← hv x hx]; exact h x hx⟩
            rcases hx with ⟨h1, xr, xF, xc⟩ | ⟨h1, h2, xr, xF, xc⟩ | ⟨h1, h2, xr, xc, xo, xn⟩
            · rcases hm with ⟨g1, mr, mk, me⟩ | ⟨g1, -⟩ | ⟨g1, -⟩
              · exact ⟨xr.trans mr.symm, same xF xc mk me⟩
              · exact absurd (hok.mpr g1) h1
              · exact absurd (hok.mpr g1) h1
            · rcases hm with ⟨g1, -⟩ | ⟨g1, g2, mr, mk, me⟩ | ⟨g1, g2, -⟩
              · exact absurd (hok.mp h1) g1
              · exact ⟨xr.trans mr.symm, same xF xc mk me⟩
              · omega
            · rcases hm with ⟨g1, -⟩ | ⟨g1, g2, -⟩ | ⟨g1, g2, mr, m1, mm2, mm3, mm4, -, -, mv⟩
              · exact absurd (hok.mp h1) g1
              · omega
              · refine ⟨xr.trans mr.symm, ⟨xc.trans mm4.symm, y5.trans (m2.symm.trans mm2.symm), y6.trans (hT.2.2.trans mm3.symm)⟩, fun t j ht hj => ?_⟩
                rw [xc, nI_toInt (by omega)] at ht
                rw [y5, nI_clamp (by omega)] at hj
                rw [mv]
                by_cases e : t = cnt
                · rw [e, xn j hj, if_pos (by omega), show 9 * cnt + j - 9 * cnt = j by omega, hv j hj]
                · rw [xo t e, if_neg (by omega)]
                  exact hE t j (by rw [x4, nI_toInt (by omega)]; omega) (by rw [x5, nI_clamp (by omega)]; exact hj)
      · rcases hx with ⟨x1, xr, xF, xc⟩ | ⟨x1, -⟩
        · rcases hm with ⟨m1, mr, mk, me⟩ | ⟨I', mi, mI, mI40, -⟩
          · exact ⟨xr.trans (w.trans mr.symm), same xF xc mk me⟩
          · refine absurd (Or.inr ⟨?_, ?_⟩) q
            · rw [mi, nI_toInt (by omega)]; omega
            · rw [mi, nI_toInt (by omega), ← e4]
              exact mI
        · exact absurd (w.symm.trans x1) (by decide)
theorem RTB_k {k la i r : Int32} {en e1 : Nat → va_E} (h : RTB k la i r en e1) : rdI (e1 0) 1 = rdI (en 0) 1 ∧ rdI (e1 0) 30 = rdI (en 0) 30 := by
  obtain ⟨d, cnt, -, -, -, -, -, h⟩ := h
  rcases h with ⟨-, -, k, -⟩ | ⟨-, K, -, -, h⟩
  · exact ⟨k.1, k.2.2.2.2.2⟩
  · rcases h with ⟨-, -, k, -⟩ | ⟨I, -, -, -, h⟩
    · exact ⟨k.1, k.2.2.2.2.2⟩
    · rcases h with ⟨-, -, k, -⟩ | ⟨-, -, -, k, -⟩ | ⟨-, -, -, k1, -, -, -, -, k30, -⟩
      · exact ⟨k.1, k.2.2.2.2.2⟩
      · exact ⟨k.1, k.2.2.2.2.2⟩
      · exact ⟨k1, k30⟩
/-! words -/
theorem okW_cells {cy : Nat → ClassId} {cs : List Nat} {ad : Nat → Nat} {eX eM : Nat → va_E} {k la i n : Int32} (hI : SX cy cs ad eX) (hS : SR eX eM) (h : okW k la i n eX) : agF (rdF (eM 3) k.toNatClampNeg) k la = 0 ∧ 0 ≤ i.toInt ∧ i.toInt + n.toInt ≤ (rdF (eM 4) k.toNatClampNeg).toInt ∧ ∀ x, x < n.toNatClampNeg → rdF (eX (108 + 2 * k.toNatClampNeg)) (i.toNatClampNeg + x) = rdF (eM 5) (40 * k.toNatClampNeg + i.toNatClampNeg + x) := by
  obtain ⟨h1, h2, h3, -, -⟩ := h
  have z0 : (0 : Int32).toInt = 0 := by decide
  obtain ⟨N, hN, rfl⟩ := nat_of (n := n) (fun q => by have h9 := i_lt q; omega)
  rw [nI_toInt hN] at h2 h3 ⊢
  rw [nI_clamp (n := N) (by omega)]
  rcases look_ag (k := k) (la := la) (i := i) hS (show 1 ≤ N by omega) (by omega) with ⟨a1, a2, a3⟩ | ⟨a1, K, hK, ek, e4, e5, ⟨q, w⟩ | ⟨q, w⟩⟩
  · exact absurd (a2.symm.trans h1) a3
  · subst ek
    rw [nI_clamp (n := K) (by omega)] at a1 ⊢
    obtain ⟨sc, sl, sr, e, hsc, -⟩ := get_sh hI hK
    have e1 : rdI (eX (107 + 2 * K)) 1 = nI sc := by rw [e]; rfl
    rw [e1] at q
    obtain ⟨I, rfl, hI9⟩ := hcP_nat (by omega) q (by omega)
    rw [nI_clamp (n := I) (by omega), nI_toInt (n := I) (by omega), e4, e1, nI_toInt (n := sc) (by omega)]
    exact ⟨a1, by omega, by omega, fun x hx => by rw [Nat.add_assoc]; exact (e5 (I + x) (by omega)).symm⟩
  · exact absurd (w.symm.trans h1) (by decide)
theorem ok_iff {cy : Nat → ClassId} {cs : List Nat} {ad : Nat → Nat} {eX eM : Nat → va_E} {k la i n : Int32} (hI : SX cy cs ad eX) (hS : SR eX eM) (hT4 : rdI (eX 1) 4 = rdI (eM 0) 4) (h6 : rdI (eX 0) 6 = rdI (eM 0) 30) : okW k la i n eX ↔ okWR k la i n eM := by
  constructor
  · intro h
    obtain ⟨c1, c2, c3, c4⟩ := okW_cells hI hS h
    obtain ⟨-, h2, h3, h4, h5⟩ := h
    exact ⟨c1, h2, h3, c2, c3, fun x hx => by rw [← c4 x hx, ← hT4]; exact h4 x hx, by rw [← h6]; exact h5⟩
  · intro h
    obtain ⟨h1, h2, h3, h4, h5, h7, h8⟩ := h
    have z0 : (0 : Int32).toInt = 0 := by decide
    obtain ⟨N, hN, rfl⟩ := nat_of (n := n) (fun q => by have h9 := i_lt q; omega)
    have hNi : (nI N).toInt = (N : Int) := nI_toInt hN
    rcases look_ag (k := k) (la := la) (i := i) hS (show 1 ≤ N by omega) (by omega) with ⟨a1, -⟩ | ⟨a1, K, hK, ek, e4, e5, ⟨q, w⟩ | ⟨q, w⟩⟩
    · exact absurd h1 a1
    · have hok : ∀ x, x < (nI N).toNatClampNeg → hasQ (rdF (eX (108 + 2 * k.toNatClampNeg)) (i.toNatClampNeg + x)) (rdI (eX 1) 4) := by
        intro x hx
        have h9 := h7 x hx
        rw [ek, nI_clamp (n := K) (by omega)] at h9 ⊢
        rw [nI_clamp hN] at hx
        obtain ⟨sc, sl, sr, e, hsc, -⟩ := get_sh hI hK
        have e1 : rdI (eX (107 + 2 * K)) 1 = nI sc := by rw [e]; rfl
        rw [e1] at q
        obtain ⟨I, ei, hI9⟩ := hcP_nat (by omega) q (by omega)
        rw [ei, nI_clamp (n := I) (by omega)] at h9 ⊢
        rw [Nat.add_assoc, e5 (I + x) (by omega), ← hT4] at h9
        exact h9
      exact ⟨w, h2, h3, hok, by rw [h6]; exact h8⟩
    · refine absurd (Or.inr ⟨h4, ?_⟩) q
      rw [ek, nI_clamp (n := K) (by omega), e4, hNi] at h5
      exact h5
theorem WR_add {eX eM eX1 eM1 : Nat → va_E} {wc N : Nat} {g g' : Nat → Int32} (hW : WR eX eM) (h6 : rdI (eX 0) 6 = nI wc) (hwc : wc < 10) (hN : N ≤ 12) (k : KW eX eX1 wc N g) (m7 : rdI (eM1 0) 30 = nI (wc + 1)) (m8 : rdF (eM1 19) = upd (rdF (eM 19)) wc (nI N)) (m9 : ∀ x, rdF (eM1 18) x = if 12 * wc ≤ x ∧ x < 12 * wc + N then g' (x - 12 * wc) else rdF (eM 18) x) (hg : ∀ x, x < N → g x = g' x) : WR eX1 eM1 := by
  obtain ⟨k1, k2, k3, k4⟩ := k
  refine ⟨k1.trans m7.symm, fun w hw hl => ?_⟩
  rw [k1, nI_toInt (by omega)] at hl
  by_cases e : w = wc
  · subst e
    refine ⟨N, hN, k2, by rw [m8]; exact pk_us, fun x hx => ?_⟩
    rw [k3 x hx, hg x hx, m9, if_pos (by omega), show 12 * w + x - 12 * w = x by omega]
  · obtain ⟨N', q1, q2, q3, q4⟩ := hW.2 w hw (by rw [h6, nI_toInt (by omega)]; omega)
    refine ⟨N', q1, by rw [k4 _ (by omega) (by omega) (by omega) (by omega) (by omega)]; exact q2, by rw [m8, pk_un e]; exact q3, fun x hx => ?_⟩
    rw [k4 _ (by omega) (by omega) (by omega) (by omega) (by omega), m9, if_neg (by omega)]
    exact q4 x hx
theorem WR_word {cy : Nat → ClassId} {cs : List Nat} {ad : Nat → Nat} {eX eM eX1 eM1 : Nat → va_E} {k la i n r r' : Int32} (hI : SX cy cs ad eX) (hS : SR eX eM) (hT : T1 eX eM) (hW : WR eX eM) (hx : XWO k la i n r eX eX1) (hm : RWO k la i n r' eM eM1) : WR eX1 eM1 := by
  have hif := ok_iff (k := k) (la := la) (i := i) (n := n) hI hS hT.1 hW.1
  rcases hx with ⟨x1, x2, x3⟩ | ⟨x1, wc, x2, x3, x4, x5, x6, x7, -⟩
  · rcases hm with ⟨m1, m2, m3, m4⟩ | ⟨m1, -⟩
    · exact WR_keep hW x3 (fun c hc => x2 c (by omega)) m2 m3 m4
    · exact absurd (hif.mpr m1) x1
  · rcases hm with ⟨m1, -⟩ | ⟨m1, wo, m2, m3, m4, m5, m6, m7, m8, m9⟩
    · exact absurd (hif.mp x1) m1
    · have ew : wc = wo := n_eq (x3.symm.trans (hW.1.trans m3)) (by omega) (by omega)
      subst ew
      exact WR_add hW x3 x4 x6 x7 m7 m8 m9 (okW_cells hI hS x1).2.2.2
theorem jR_no {wc la lb a b r : Int32} (h : jR wc la lb a b r) (hq : ¬ (hasQ a wc ∧ hasQ b wc)) : r = -1 := by
  rcases h with ⟨-, h⟩ | ⟨p, -⟩ | ⟨p, -⟩ | ⟨⟨p1, p2, -⟩, -⟩
  · exact h
  · exact absurd p hq
  · exact absurd p hq
  · exact absurd ⟨p1, p2⟩ hq
theorem join_rel {cy : Nat → ClassId} {cs : List Nat} {ad : Nat → Nat} {eX eM eX1 eM1 : Nat → va_E} {a b r r' : Int32} (hI : SX cy cs ad eX) (hW : WR eX eM) (hx : XJO a b r eX eX1) (hm : RJO a b r' eM eM1) : r = r' ∧ WR eX1 eM1 := by
  obtain ⟨wc, lf, e, hwc⟩ := get_A hI
  have h6 : rdI (eX 0) 6 = nI wc := by rw [e]; rfl
  unfold XJO at hx
  unfold RJO at hm
  rw [← hW.1] at hm
  by_cases hq : hasQ a (rdI (eX 0) 6) ∧ hasQ b (rdI (eX 0) 6)
  · obtain ⟨⟨p1, p2⟩, p3, p4⟩ := id hq
    rw [h6, nI_toInt (by omega)] at p2 p4
    obtain ⟨A, rfl, hA⟩ := has_nat ⟨p1, p2⟩
    obtain ⟨B, rfl, hB⟩ := has_nat ⟨p3, p4⟩
    obtain ⟨NA, na, xa, ma, la⟩ := hW.2 A (by omega) (by rw [h6, nI_toInt (by omega)]; omega)
    obtain ⟨NB, nb, xb, mb, lb⟩ := hW.2 B (by omega) (by rw [h6, nI_toInt (by omega)]; omega)
    rw [nI_clamp (n := A) (by omega), nI_clamp (n := B) (by omega), xa, xb] at hx
    rw [nI_clamp (n := A) (by omega), nI_clamp (n := B) (by omega), ma, mb] at hm
    refine ⟨jR_eq hx.1 hm.1, ?_⟩
    rcases hx.2 with ⟨x1, x2, x3⟩ | ⟨x1, wc', x2, x3, x4, x5, x6, x7, -⟩
    · rcases hm.2 with ⟨m1, m2, m3, m4⟩ | ⟨m1, -⟩
      · exact WR_keep hW x3 (fun c hc => x2 c (by omega)) m2 m3 m4
      · exact absurd m1 x1
    · rcases hm.2 with ⟨m1, -⟩ | ⟨m1, wo, m2, m3, m4, m5, m6, m7, m8, m9⟩
      · exact absurd x1 m1
      · have ew : wc' = wo := n_eq (x3.symm.trans (hW.1.trans m3)) (by omega) (by omega)
        subst ew
        refine WR_add hW x3 x4 x6 x7 m7 m8 m9 (fun x hx9 => ?_)
        rw [nI_clamp (n := NA) (by omega), nI_clamp (n := NB) (by omega)] at hx9
        unfold jG jRG
        rw [nI_clamp (n := A) (by omega), nI_clamp (n := B) (by omega), xa, nI_clamp (n := NA) (by omega)]
        by_cases e9 : x < NA
        · rw [if_pos e9, if_pos e9]
          exact la x e9
        · rw [if_neg e9, if_neg e9]
          exact lb (x - NA) (by omega)
  · refine ⟨(jR_no hx.1 hq).trans (jR_no hm.1 hq).symm, ?_⟩
    rcases hx.2 with ⟨x1, x2, x3⟩ | ⟨x1, -⟩
    · rcases hm.2 with ⟨m1, m2, m3, m4⟩ | ⟨m1, -⟩
      · exact WR_keep hW x3 (fun c hc => x2 c (by omega)) m2 m3 m4
      · exact absurd ⟨m1.1, m1.2.1⟩ hq
    · exact absurd ⟨x1.1, x1.2.1⟩ hq
/-! tell, weigh, as -/
theorem sumI_c {f g : Nat → Int32} : ∀ n : Nat, (∀ z, z < n → f z = g z) → sumI f n = sumI g n := by
  intro n
  induction n with
  | zero => intro _; rfl
  | succ n ih =>
    intro h
    show sumI f n + f n = sumI g n + g n
    rw [ih (fun z hz => h z (by omega)), h n (by omega)]
theorem mxR_c {f g : Nat → Int32} (h0 : f 0 = g 0) : ∀ n : Nat, (∀ z, z < n → f z = g z) → mxR f n = mxR g n := by
  intro n
  induction n with
  | zero => intro _; exact h0
  | succ n ih =>
    intro h
    show maxI (mxR f n) (f n) = maxI (mxR g n) (g n)
    rw [ih (fun z hz => h z (by omega)), h n (by omega)]
theorem RKD_c {F G : Nat → Int32} {d : Nat} {k : Int32} (hd : d ≤ 3) (h : ∀ i, i < d * d → F i = G i) (hm : RKD G d k) : RKD F d k := by
  have hz : zoU F d d 0 ↔ zoU G d d 0 := ⟨fun q a b hb hab => by rw [← h _ (ix_lt hd (by omega) hb)]; exact q a b hb hab, fun q a b hb hab => by rw [h _ (ix_lt hd (by omega) hb)]; exact q a b hb hab⟩
  have he : evU F d d 0 ↔ evU G d d 0 := ⟨fun q a b hb hab => by rw [← h _ (ix_lt hd (by omega) hb)]; exact q a b hb hab, fun q a b hb hab => by rw [h _ (ix_lt hd (by omega) hb)]; exact q a b hb hab⟩
  have e1 : ∀ a, a < d → sumI (fun z => F (d * a + z)) d = sumI (fun z => G (d * a + z)) d := fun a ha => sumI_c d (fun z hz => h _ (ix_lt hd ha hz))
  have e2 : ∀ a, a < d → sumI (fun z => F (d * z + a)) d = sumI (fun z => G (d * z + a)) d := fun a ha => sumI_c d (fun z hz => h _ (ix_lt hd hz ha))
  have hs : suU F d d ↔ suU G d d := ⟨fun q a ha => ⟨(e1 a ha).symm.trans (q a ha).1, (e2 a ha).symm.trans (q a ha).2⟩, fun q a ha => ⟨(e1 a ha).trans (q a ha).1, (e2 a ha).trans (q a ha).2⟩⟩
  rcases hm with ⟨m1, m2, m3⟩ | ⟨m1, m2, m3⟩ | ⟨m1, m2, m3⟩
  · exact Or.inl ⟨m1, hz.mpr m2, hs.mpr m3⟩
  · exact Or.inr (Or.inl ⟨m1, fun q => m2 ⟨hz.mp q.1, hs.mp q.2⟩, he.mpr m3⟩)
  · exact Or.inr (Or.inr ⟨m1, fun q => m2 ⟨hz.mp q.1, hs.mp q.2⟩, fun q => m3 (he.mp q)⟩)
theorem tb_get {cy : Nat → ClassId} {cs : List Nat} {ad : Nat → Nat} {F : Nat → Nat → Int32} {eX eM : Nat → va_E} {T d : Nat} (hI : SX cy cs ad eX) (hTX : TXF cy cs ad eX F) (hT : T1 eX eM) (hE : ER F eX eM) (h5 : rdI (eX 1) 5 = nI d) (hd : d ≤ 3) (hT6 : T < 6) (hp : hasP (nI T) (rdI (eX 1) 4)) : 2 ≤ d ∧ rD eM = d ∧ (∀ i, i < d * d → F T i = rFt eM T i) ∧ ∀ i, i < d * d → wi (F T i) (-9) 9 := by
  obtain ⟨cn, d9, mm, e, -, hd2, hd3, -⟩ := get_T hI
  have e5 : d9 = d := n_eq ((show nI d9 = rdI (eX 1) 5 by rw [e]; rfl).trans h5) (by omega) (by omega)
  have ht : (T : Int) < (rdI (eX 1) 4).toInt := by
    have h9 := hp.2
    rw [nI_toInt (by omega)] at h9
    exact h9
  refine ⟨by omega, by unfold rD; rw [← hT.2.1, h5, nI_clamp (by omega)], fun i hi => hE T i ht (by rw [h5, nI_clamp (by omega)]; exact hi), (hTX T d hd h5 ht).2⟩
theorem tell_rel {cy : Nat → ClassId} {cs : List Nat} {ad : Nat → Nat} {F : Nat → Nat → Int32} {eX eM eX1 eM1 : Nat → va_E} {t r r' : Int32} (hI : SX cy cs ad eX) (hTX : TXF cy cs ad eX F) (hT : T1 eX eM) (hE : ER F eX eM) (hH : HR eX eM) (hx : XTE F t r eX eX1) (hm : RTE t r' eM eM1) : r = r' ∧ HR eX1 eM1 := by
  rcases hx with ⟨x1, x2, x3⟩ | ⟨T, d, ci, xt, xp, x5, xd, xT, xk, xl⟩
  · rcases hm with ⟨m1, m2, m3⟩ | ⟨T', k, mt, mT, mp, -⟩
    · exact ⟨x2.trans m2.symm, by unfold HR; rw [x3, m3]; exact hH⟩
    · rw [← hT.1] at mp
      exact absurd mp x1
  · rcases hm with ⟨m1, -⟩ | ⟨T', k, mt, mT, mp, mk, ml⟩
    · rw [← hT.1] at m1
      exact absurd xp m1
    · have eT : T = T' := n_eq (xt.symm.trans mt) (by omega) (by omega)
      subst eT
      obtain ⟨hd2, hrD, hF, hw⟩ := tb_get hI hTX hT hE x5 xd mT (by rw [← mt]; exact xp)
      rw [hrD] at mk
      have hk := kd_rel xd hw xk (RKD_c xd hF mk)
      have hdd : 4 ≤ d * d := Nat.mul_le_mul hd2 hd2
      have hs : sumI (fun i => F T (i * d + i)) d = rTR eM T := by
        unfold rTR
        rw [hrD]
        exact sumI_c d (fun z hz => hF _ (by rw [Nat.mul_comm z d]; exact ix_lt xd hz hz))
      have ev : ci ≠ 6 → evP (F T) (d * d) := fun hc => by
        rcases xk with ⟨-, q⟩ | ⟨-, -, q⟩ | ⟨q, -⟩
        · exact q.1
        · exact q
        · exact absurd q hc
      have hg : ci ≠ 6 → gmx (F T) (d * d) = rGR eM T := fun hc => by
        have ev9 := ev hc
        unfold rGR
        rw [hrD]
        obtain ⟨n, hn⟩ : ∃ n, d * d = n + 1 := ⟨d * d - 1, by omega⟩
        rw [hn] at ev9 hF ⊢
        exact (mxR_gmx n ev9).symm.trans (mxR_c (hF 0 (by omega)) (n + 1) hF)
      rcases hk with ⟨a, b⟩ | ⟨a, b⟩ | ⟨a, b⟩
      · rcases xl with ⟨c, -, -⟩ | ⟨c, -, -⟩ | ⟨-, xr, xh⟩
        · omega
        · omega
        · rcases ml with ⟨c, -, -⟩ | ⟨c, -, -⟩ | ⟨-, mr, mh⟩
          · exact absurd (c.symm.trans b) (by decide)
          · exact absurd (c.symm.trans b) (by decide)
          · refine ⟨?_, by unfold HR; rw [xh, mh, show rdI (eX 76) 0 = rdI (eM 0) 1 from hH]⟩
            rw [xr, mr, hs, hg (by omega), Int32.two_mul, Int32.add_assoc, Int32.add_comm (rGR eM T) (rTR eM T)]
            exact (Int32.add_assoc _ _ _).symm
      · rcases xl with ⟨c, -, -⟩ | ⟨-, xr, xh⟩ | ⟨c, -, -⟩
        · omega
        · rcases ml with ⟨c, -, -⟩ | ⟨-, mr, mh⟩ | ⟨c, -, -⟩
          · exact absurd (c.symm.trans b) (by decide)
          · refine ⟨?_, by unfold HR; rw [xh, mh, show rdI (eX 76) 0 = rdI (eM 0) 1 from hH]⟩
            rw [xr, mr, hs, hg (by omega)]
          · exact absurd (c.symm.trans b) (by decide)
        · omega
      · rcases xl with ⟨-, xr, xh⟩ | ⟨c, -, -⟩ | ⟨c, -, -⟩
        · rcases ml with ⟨-, mr, mh⟩ | ⟨c, -, -⟩ | ⟨c, -, -⟩
          · refine ⟨?_, by unfold HR; rw [xh, mh, show rdI (eX 76) 0 = rdI (eM 0) 1 from hH]⟩
            rw [xr, mr, hs]
          · exact absurd (c.symm.trans b) (by decide)
          · exact absurd (c.symm.trans b) (by decide)
        · omega
        · omega
theorem weigh_rel {cy : Nat → ClassId} {cs : List Nat} {ad : Nat → Nat} {F : Nat → Nat → Int32} {eX eM eX1 eM1 : Nat → va_E} {t r r' : Int32} (hI : SX cy cs ad eX) (hTX : TXF cy cs ad eX F) (hT : T1 eX eM) (hE : ER F eX eM) (hH : HR eX eM) (hx : XWE F t r eX eX1) (hm : RWE t r' eM eM1) : r = r' ∧ HR eX1 eM1 := by
  rcases hx with ⟨x1, x2, x3⟩ | ⟨T, d, ci, xt, xp, x5, xd, xT, xk, xl⟩
  · rcases hm with ⟨m1, m2, m3⟩ | ⟨T', k, mt, mT, mp, -⟩
    · exact ⟨x2.trans m2.symm, by unfold HR; rw [x3, m3]; exact hH⟩
    · rw [← hT.1] at mp
      exact absurd mp x1
  · rcases hm with ⟨m1, -⟩ | ⟨T', k, mt, mT, mp, mk, ml⟩
    · rw [← hT.1] at m1
      exact absurd xp m1
    · have eT : T = T' := n_eq (xt.symm.trans mt) (by omega) (by omega)
      subst eT
      obtain ⟨hd2, hrD, hF, hw⟩ := tb_get hI hTX hT hE x5 xd mT (by rw [← mt]; exact xp)
      rw [hrD] at mk
      have hk := kd_rel xd hw xk (RKD_c xd hF mk)
      rcases xl with ⟨c, xr, xh⟩ | ⟨c, xr, xh⟩ <;> rcases ml with ⟨c', mr, mh⟩ | ⟨c', mr, mh⟩
      · rcases hk with ⟨a, b⟩ | ⟨a, b⟩ | ⟨a, b⟩
        · exact absurd a c
        · exact absurd (c'.symm.trans b) (by decide)
        · exact absurd (c'.symm.trans b) (by decide)
      · exact ⟨xr.trans mr.symm, by unfold HR; rw [xh, mh, show rdI (eX 76) 0 = rdI (eM 0) 1 from hH]⟩
      · exact ⟨xr.trans mr.symm, by unfold HR; rw [xh, mh, show rdI (eX 76) 0 = rdI (eM 0) 1 from hH]⟩
      · rcases hk with ⟨a, b⟩ | ⟨a, b⟩ | ⟨a, b⟩
        · exact absurd b c'
        · omega
        · omega
theorem as_rel {cy : Nat → ClassId} {cs : List Nat} {ad : Nat → Nat} {F : Nat → Nat → Int32} {eX eM : Nat → va_E} {t z r r' : Int32} (hI : SX cy cs ad eX) (hTX : TXF cy cs ad eX F) (hT : T1 eX eM) (hE : ER F eX eM) (hx : XAS F t z r eX) (hm : RAS t z r' eM) : r = r' := by
  unfold RAS at hm
  rw [← hT.1] at hm
  rcases hx with ⟨x1, x2⟩ | ⟨x1, x2, x3⟩ | ⟨T, d, ci, xt, xp, xz, x5, xd, xT, xk, xl⟩
  · rcases hm with ⟨m1, m2⟩ | ⟨m1, -⟩ | ⟨T', N, v, -, -, -, -, -, mp, -⟩
    · exact x2.trans m2.symm
    · exact absurd m1 x1
    · exact absurd mp x1
  · rcases hm with ⟨m1, -⟩ | ⟨m1, m2, m3⟩ | ⟨T', N, v, -, -, -, -, -, -, mz, -⟩
    · exact absurd x1 m1
    · exact x3.trans m3.symm
    · exact absurd mz x2
  · rcases hm with ⟨m1, -⟩ | ⟨m1, m2, -⟩ | ⟨T', N, v, mt, mn, hN, hv, mT, mp, mz, mk, ml⟩
    · exact absurd xp m1
    · exact absurd xz m2
    · have eT : T = T' := n_eq (xt.symm.trans mt) (by omega) (by omega)
      subst eT
      subst mn
      obtain ⟨hd2, hrD, hF, hw⟩ := tb_get hI hTX hT hE x5 xd mT (by rw [← mt]; exact xp)
      rw [hrD] at mk
      have hk := kd_rel xd hw xk (RKD_c xd hF mk)
      have key : okK ci (nI N) ↔ N ≤ v := by
        rcases (show N = 0 ∨ N = 1 ∨ N = 2 by omega) with rfl | rfl | rfl <;> rcases hk with ⟨a, b⟩ | ⟨a, b⟩ | ⟨a, b⟩ <;> rcases (show v = 0 ∨ v = 1 ∨ v = 2 by omega) with rfl | rfl | rfl <;> first | exact absurd b (by decide) | (subst a; unfold okK; decide)
      rcases xl with ⟨c, xr⟩ | ⟨c, xr⟩ <;> rcases ml with ⟨c', mr⟩ | ⟨c', mr⟩
      · exact xr.trans mr.symm
      · have h9 := key.mp c; omega
      · exact absurd (key.mpr c') c
      · exact xr.trans mr.symm
theorem entry_rel {cy : Nat → ClassId} {cs : List Nat} {ad : Nat → Nat} {F : Nat → Nat → Int32} {eX eM : Nat → va_E} {t a b : Int32} {r r' : Int64} (hI : SX cy cs ad eX) (hT : T1 eX eM) (hE : ER F eX eM) (hx : XEN F t a b (rdI (eX 1) 4) (rdI (eX 1) 5) r) (hm : XEN (fun x y => rdF (eM 1) (9 * x + y)) t a b (rdI (eM 0) 4) (rdI (eM 0) 2) r') : r = r' := by
  refine entry_eq9 hT.1 hT.2.1 (fun hp => ?_) hx hm
  obtain ⟨cn, d, mm, e, hcn, -, hd3, -⟩ := get_T hI
  have e5 : rdI (eX 1) 5 = nI d := by rw [e]; rfl
  obtain ⟨⟨p1, p2⟩, ⟨p3, p4⟩, p5, p6⟩ := hp
  rw [e5, nI_toInt (by omega)] at p4 p6
  rw [e5, nI_clamp (by omega)]
  have t1 : t.toNatClampNeg = t.toInt.toNat := rfl
  have t2 : a.toNatClampNeg = a.toInt.toNat := rfl
  have t3 : b.toNatClampNeg = b.toInt.toNat := rfl
  refine hE t.toNatClampNeg (a.toNatClampNeg * d + b.toNatClampNeg) (by omega) ?_
  rw [e5, nI_clamp (by omega), Nat.mul_comm a.toNatClampNeg d]
  exact ix_lt hd3 (by omega) (by omega)
theorem RLX_new {F : Nat → Nat → Int32} {eX eM : Nat → va_E} (hS : SR eX eM) (hT : T1 eX eM) (x4 : rdI (eX 1) 4 = nI 0) (hA : ∀ i, i < 36 → rdF (eX 10) i = 1 ∧ rdF (eM 2) i = 0) (hH : HR eX eM) (x6 : rdI (eX 0) 6 = nI 0) (m30 : rdI (eM 0) 30 = nI 0) : RLX F eX eM := by
  have z0 : (nI 0).toInt = 0 := by decide
  exact ⟨hS, hT, fun i hi => Or.inl (hA i hi), hH, ⟨x6.trans m30.symm, fun w hw hl => by rw [x6, z0] at hl; omega⟩, fun t i ht hi => by rw [x4, z0] at ht; omega, ⟨fun t i h6 ht hi => by rw [x4, z0] at ht; omega, fun w hw hl => by rw [x6, z0] at hl; omega⟩⟩
theorem cnt_6 {cy : Nat → ClassId} {cs : List Nat} {ad : Nat → Nat} {en : Nat → va_E} (hI : SX cy cs ad en) : (rdI (en 1) 4).toNatClampNeg ≤ 6 := by
  obtain ⟨cn, d, mm, e, hcn, -⟩ := get_T hI
  rw [show rdI (en 1) 4 = nI cn from by rw [e]; rfl, nI_clamp (by omega)]
  exact hcn
