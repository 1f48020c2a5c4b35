/-! the sheets' calls: what they answer and leave -/
def XSH (k la n r : Int32) (en e1 : Nat → va_E) : Prop := r = spSheet k la n ∧ ((r ≠ 1 ∧ ∀ c, c ≠ 0 → e1 c = en c) ∨ (r = 1 ∧ ∃ K N : Nat, k = nI K ∧ n = nI N ∧ K < 4 ∧ N ≤ 40 ∧ (∀ c, c ≠ 0 → c ≠ 107 + 2 * K → c ≠ 108 + 2 * K → e1 c = en c) ∧ rdI (e1 (107 + 2 * K)) 1 = nI N ∧ rdI (e1 (107 + 2 * K)) 2 = la ∧ rdI (e1 (107 + 2 * K)) 3 = 1 ∧ ∀ i, i < 40 → rdF (e1 (108 + 2 * K)) i = 0))
theorem XSH_s {k la n r : Int32} {en e1 e2 : Nat → va_E} (h : XSH k la n r en e1) (hu : ∀ c, c ≠ 0 → e2 c = e1 c) : XSH k la n r en e2 := by
  refine ⟨h.1, ?_⟩
  rcases h.2 with ⟨h1, h2⟩ | ⟨h0, K, N, h1, h2, h3, h4, h5, h6, h7, h8, h9⟩
  · exact Or.inl ⟨h1, fun c hc => (hu c hc).trans (h2 c hc)⟩
  · refine Or.inr ⟨h0, K, N, h1, h2, h3, h4, fun c a b d => (hu c a).trans (h5 c a b d), ?_, ?_, ?_, ?_⟩
    · rw [hu _ (by omega)]; exact h6
    · rw [hu _ (by omega)]; exact h7
    · rw [hu _ (by omega)]; exact h8
    · rw [hu _ (by omega)]; exact h9
def XLO (k r : Int32) (en e1 : Nat → va_E) : Prop := (¬ wi k 0 3 ∧ r = -1 ∧ e1 = en) ∨ ∃ K : Nat, k = nI K ∧ K < 4 ∧ ((rdI (en (107 + 2 * K)) 3 = 0 ∧ r = 0) ∨ (rdI (en (107 + 2 * K)) 3 = 1 ∧ r = 1)) ∧ (∀ c, c ≠ 107 + 2 * K → e1 c = en c) ∧ rdI (e1 (107 + 2 * K)) 3 = 0
def putF (sc sr k i : Int32) : Int32 := if wi k 0 3 then (if sr = 0 then -11 else if hcP sc i 1 then 1 else -13) else -1
def XPU (k i v r : Int32) (en e1 : Nat → va_E) : Prop := r = putF (rdI (en (107 + 2 * k.toNatClampNeg)) 1) (rdI (en (107 + 2 * k.toNatClampNeg)) 3) k i ∧ ((r ≠ 1 ∧ ∀ c, c ≠ 0 → e1 c = en c) ∨ (r = 1 ∧ ∃ K I : Nat, k = nI K ∧ i = nI I ∧ K < 4 ∧ I < 40 ∧ (∀ c, c ≠ 0 → c ≠ 108 + 2 * K → e1 c = en c) ∧ rdF (e1 (108 + 2 * K)) = upd (rdF (en (108 + 2 * K))) I (narV (rdI (en (107 + 2 * K)) 2) v)))
theorem XPU_s {k i v r : Int32} {en e1 e2 : Nat → va_E} (h : XPU k i v r en e1) (hu : ∀ c, c ≠ 0 → e2 c = e1 c) : XPU k i v r en e2 := by
  refine ⟨h.1, ?_⟩
  rcases h.2 with ⟨h1, h2⟩ | ⟨h0, K, I, h1, h2, h3, h4, h5, h6⟩
  · exact Or.inl ⟨h1, fun c hc => (hu c hc).trans (h2 c hc)⟩
  · exact Or.inr ⟨h0, K, I, h1, h2, h3, h4, fun c a b => (hu c a).trans (h5 c a b), by rw [hu _ (by omega)]; exact h6⟩
def XAT (k i la : Int32) (r : Int64) (en : Nat → va_E) : Prop := r = if lookF (rdI (en (107 + 2 * k.toNatClampNeg)) 1) (rdI (en (107 + 2 * k.toNatClampNeg)) 2) (rdI (en (107 + 2 * k.toNatClampNeg)) 3) k la i 1 = 1 then (rdF (en (108 + 2 * k.toNatClampNeg)) i.toNatClampNeg).toInt64 else (-9223372036854775808)
theorem sh_bit {cy : Nat → ClassId} {cs : List Nat} {ad : Nat → Nat} {en : Nat → va_E} (hI : SX cy cs ad en) {J : Nat} (hJ : J < 4) : rdI (en (107 + 2 * J)) 3 = 0 ∨ rdI (en (107 + 2 * J)) 3 = 1 := by
  obtain ⟨sc, sl, sr, e, h1, h2⟩ := get_sh hI hJ
  rw [e]
  exact nb1 h2
theorem bit_ne0 {x : Int32} (h : x = 0 ∨ x = 1) (hn : ¬ x = 0) : x = 1 := h.resolve_left hn
/-- may, told, letter: what they answer and leave -/
def hasQ (t cnt : Int32) : Prop := 0 ≤ t.toInt ∧ t.toInt < cnt.toInt
def XMA (a b z r : Int32) (en e1 : Nat → va_E) : Prop := (¬ (hasQ a (rdI (en 1) 4) ∧ hasQ b (rdI (en 1) 4)) ∧ r = -1 ∧ e1 10 = en 10) ∨ ∃ A B : Nat, a = nI A ∧ b = nI B ∧ A < 6 ∧ B < 6 ∧ hasQ a (rdI (en 1) 4) ∧ hasQ b (rdI (en 1) 4) ∧ ((rdF (en 10) (A * 6 + B) = z ∧ r = 0 ∧ e1 10 = en 10) ∨ (rdF (en 10) (A * 6 + B) ≠ z ∧ r = 1 ∧ rdF (e1 10) = upd (rdF (en 10)) (A * 6 + B) z))
def XTO (z r : Int32) (en : Nat → va_E) : Prop := (z = 0 ∧ r = rdI (en 1) 4) ∨ (z = 1 ∧ r = rdI (en 1) 5) ∨ (z = 2 ∧ r = rdI (en 1) 6) ∨ (z = 3 ∧ r = rdI (en 0) 6) ∨ (z = 4 ∧ r = cpO (rdF (en 10)) (rdI (en 1) 4).toNatClampNeg (rdI (en 1) 4).toNatClampNeg) ∨ (¬ z = 0 ∧ ¬ z = 1 ∧ ¬ z = 2 ∧ ¬ z = 3 ∧ ¬ z = 4 ∧ r = -2)
def XLE (w i r : Int32) (en : Nat → va_E) : Prop := (¬ hasQ w (rdI (en 0) 6) ∧ r = -1) ∨ ∃ W : Nat, w = nI W ∧ W < 10 ∧ hasQ w (rdI (en 0) 6) ∧ ((hasQ i (rdI (en (77 + 3 * W)) 2) ∧ r = rdF (en (78 + 3 * W)) i.toNatClampNeg) ∨ (¬ hasQ i (rdI (en (77 + 3 * W)) 2) ∧ r = -1))
theorem wi_of1 {i : Int32} {c : Nat} (hc : c < 2 ^ 31) (h1 : 0 ≤ i.toInt) (h2 : i.toInt < (c : Int)) : wi i 0 (nI c - 1) := by
  have h0 : (0 : Int32).toInt = 0 := by decide
  rw [show (1 : Int32) = nI 1 from rfl, pk_sub (a := c) (b := 1) (by omega)]
  refine ⟨by omega, ?_⟩
  rw [nI_toInt (by omega)]
  omega
/-- the product of the word that is kept -/
def PRW (en en1 : Nat → va_E) (wc : Nat) : Prop := ∀ i, i < (rdI (en 1) 5).toNatClampNeg * (rdI (en 1) 5).toNatClampNeg → rdL (en1 (79 + 3 * wc)) i = prW (rdI (en 1) 5).toNatClampNeg (rdI (en 1) 6).toNatClampNeg (fun j => rdL (en (4 + j))) (rdF (en (78 + 3 * wc))) ((rdI (en (77 + 3 * wc)) 2).toNatClampNeg - 1) i
def KWP (en en1 : Nat → va_E) (wc N : Nat) (g : Nat → Int32) : Prop := ∀ i, i < (rdI (en 1) 5).toNatClampNeg * (rdI (en 1) 5).toNatClampNeg → rdL (en1 (79 + 3 * wc)) i = prW (rdI (en 1) 5).toNatClampNeg (rdI (en 1) 6).toNatClampNeg (fun j => rdL (en (4 + j))) g (N - 1) i
theorem KWP_of {en E0 e1 : Nat → va_E} {wc N : Nat} {g : Nat → Int32} (hp : PRW E0 e1 wc) (h1 : E0 1 = en 1) (hr : ∀ j, j < 6 → E0 (4 + j) = en (4 + j)) (hl : rdI (E0 (77 + 3 * wc)) 2 = nI N) (hN1 : 1 ≤ N) (hN : N ≤ 12) (hlet : ∀ x, x < N → rdF (E0 (78 + 3 * wc)) x = g x) (h6 : ∀ x, x < N → ∃ v, v < 6 ∧ g x = nI v) : KWP en e1 wc N g := by
  intro i hi
  have h := hp i (by rw [h1]; exact hi)
  rw [h1, hl, nI_clamp (n := N) (by omega)] at h
  rw [h]
  refine prW_c (N - 1) (fun x hx i hi => ?_) i hi
  obtain ⟨v, hv, e⟩ := h6 x (by omega)
  rw [hlet x (by omega), e, nI_clamp (n := v) (by omega)]
  show rdL (E0 (4 + v)) i = rdL (en (4 + v)) i
  rw [hr v hv]
/-- word, join: what they answer and leave -/
def KWK (P : Prop) (N : Nat) (g : Nat → Int32) (r : Int32) (en en1 : Nat → va_E) : Prop := (¬ P ∧ en1 = en) ∨ (P ∧ ∃ wc : Nat, r = nI wc ∧ rdI (en 0) 6 = nI wc ∧ wc < 10 ∧ 1 ≤ N ∧ N ≤ 12 ∧ KW en en1 wc N g ∧ KWP en en1 wc N g)
def WKO (P : Prop) (N : Nat) (g : Nat → Int32) (r : Int32) (en en1 : Nat → va_E) : Prop := (¬ P ∧ (∀ c, c ≠ 0 → en1 c = en c) ∧ rdI (en1 0) 6 = rdI (en 0) 6) ∨ (P ∧ ∃ wc : Nat, r = nI wc ∧ rdI (en 0) 6 = nI wc ∧ wc < 10 ∧ 1 ≤ N ∧ N ≤ 12 ∧ KW en en1 wc N g ∧ KWP en en1 wc N g)
theorem WK_of {P : Prop} {N : Nat} {g : Nat → Int32} {r : Int32} {en en1 : Nat → va_E} (h : WKO P N g r en en1) : WK r en en1 := by
  rcases h with ⟨-, h⟩ | ⟨-, wc, h1, h2, h3, h4, h5, h6, -⟩
  · exact Or.inl h
  · exact Or.inr ⟨wc, N, g, h1, h2, h3, h4, h5, h6⟩
theorem WKO_s {P : Prop} {N : Nat} {g : Nat → Int32} {r : Int32} {en e1 e2 : Nat → va_E} (h : KWK P N g r en e1) (hu : ∀ c, c ≠ 0 → e2 c = e1 c) (h0 : rdI (e2 0) 6 = rdI (e1 0) 6) : WKO P N g r en e2 := by
  rcases h with ⟨h, rfl⟩ | ⟨h, wc, h1, h2, h3, h4, h5, ⟨h6, h7, h8, h9⟩, hp9⟩
  · exact Or.inl ⟨h, hu, h0⟩
  · exact Or.inr ⟨h, wc, h1, h2, h3, h4, h5, ⟨h0.trans h6, by rw [hu _ (by omega)]; exact h7, fun x hx => by rw [hu _ (by omega)]; exact h8 x hx, fun c a b d e f => (hu c a).trans (h9 c a b d e f)⟩, fun i hi => by rw [hu _ (by omega)]; exact hp9 i hi⟩
def okW (k la i n : Int32) (en : Nat → va_E) : Prop := lookF (rdI (en (107 + 2 * k.toNatClampNeg)) 1) (rdI (en (107 + 2 * k.toNatClampNeg)) 2) (rdI (en (107 + 2 * k.toNatClampNeg)) 3) k la i n = 1 ∧ 1 ≤ n.toInt ∧ n.toInt ≤ 12 ∧ (∀ x, x < n.toNatClampNeg → hasQ (rdF (en (108 + 2 * k.toNatClampNeg)) (i.toNatClampNeg + x)) (rdI (en 1) 4)) ∧ (rdI (en 0) 6).toInt < 10
def jOK (wc la lb a b : Int32) : Prop := hasQ a wc ∧ hasQ b wc ∧ la.toInt + lb.toInt ≤ 12 ∧ wc.toInt < 10
def jR (wc la lb a b r : Int32) : Prop := (¬ (hasQ a wc ∧ hasQ b wc) ∧ r = -1) ∨ ((hasQ a wc ∧ hasQ b wc) ∧ ¬ la.toInt + lb.toInt ≤ 12 ∧ r = -2) ∨ ((hasQ a wc ∧ hasQ b wc) ∧ la.toInt + lb.toInt ≤ 12 ∧ ¬ wc.toInt < 10 ∧ r = -4) ∨ (jOK wc la lb a b ∧ r = wc)
theorem jR_eq {wc la lb a b r r' : Int32} (h : jR wc la lb a b r) (h' : jR wc la lb a b r') : r = r' := by
  rcases h with ⟨p, h⟩ | ⟨p, q, h⟩ | ⟨p, q, t, h⟩ | ⟨⟨p1, p2, q, t⟩, h⟩ <;> rcases h' with ⟨p', h'⟩ | ⟨p', q', h'⟩ | ⟨p', q', t', h'⟩ | ⟨⟨p1', p2', q', t'⟩, h'⟩ <;> first | exact h.trans h'.symm | exact absurd p' p | exact absurd p p' | exact absurd q' q | exact absurd q q' | exact absurd t' t | exact absurd t t' | exact absurd ⟨p1', p2'⟩ p | exact absurd ⟨p1, p2⟩ p'
def jG (en : Nat → va_E) (a b : Int32) (x : Nat) : Int32 := if x < (rdI (en (77 + 3 * a.toNatClampNeg)) 2).toNatClampNeg then rdF (en (78 + 3 * a.toNatClampNeg)) x else rdF (en (78 + 3 * b.toNatClampNeg)) (x - (rdI (en (77 + 3 * a.toNatClampNeg)) 2).toNatClampNeg)
theorem jG_6 {cy : Nat → ClassId} {cs : List Nat} {ad : Nat → Nat} {en : Nat → va_E} (hI : SX cy cs ad en) {A B x : Nat} (hA : A < 10) (hB : B < 10) (hx : x < 12) : ∃ v, v < 6 ∧ jG en (nI A) (nI B) x = nI v := by
  obtain ⟨f, ef, hf⟩ := get_wol hI (j := A) hA
  obtain ⟨g, eg, hg⟩ := get_wol hI (j := B) hB
  unfold jG
  rw [nI_clamp (n := A) (by omega), nI_clamp (n := B) (by omega), show rdF (en (78 + 3 * A)) = f from by rw [ef]; rfl, show rdF (en (78 + 3 * B)) = g from by rw [eg]; rfl]
  by_cases e : x < (rdI (en (77 + 3 * A)) 2).toNatClampNeg
  · rw [if_pos e]; exact hf x hx
  · rw [if_neg e]; exact hg _ (by omega)
def XJO (a b r : Int32) (en en1 : Nat → va_E) : Prop := jR (rdI (en 0) 6) (rdI (en (77 + 3 * a.toNatClampNeg)) 2) (rdI (en (77 + 3 * b.toNatClampNeg)) 2) a b r ∧ WKO (jOK (rdI (en 0) 6) (rdI (en (77 + 3 * a.toNatClampNeg)) 2) (rdI (en (77 + 3 * b.toNatClampNeg)) 2) a b) ((rdI (en (77 + 3 * a.toNatClampNeg)) 2).toNatClampNeg + (rdI (en (77 + 3 * b.toNatClampNeg)) 2).toNatClampNeg) (jG en a b) r en en1
def XWO (k la i n r : Int32) (en en1 : Nat → va_E) : Prop := WKO (okW k la i n en) n.toNatClampNeg (fun x => rdF (en (108 + 2 * k.toNatClampNeg)) (i.toNatClampNeg + x)) r en en1
/-- about: what it answers -/
def rgP (g f : Nat → Int32) (n : Nat) : Prop := alP g f n ∧ tuP g f n ∧ ahA f n
def abR (g f : Nat → Int32) (n : Nat) (z r : Int32) : Prop := (z = 0 ∧ r = nI n) ∨ (z = 1 ∧ bI r (alP g f n)) ∨ (z = 2 ∧ bI r (rgP g f n)) ∨ (z = 3 ∧ repP f n r) ∨ (¬ z = 0 ∧ ¬ z = 1 ∧ ¬ z = 2 ∧ ¬ z = 3 ∧ r = -2)
def XAB (w z r : Int32) (en : Nat → va_E) : Prop := (¬ hasQ w (rdI (en 0) 6) ∧ r = -1) ∨ ∃ W N : Nat, w = nI W ∧ W < 10 ∧ hasQ w (rdI (en 0) 6) ∧ rdI (en (77 + 3 * W)) 2 = nI N ∧ 1 ≤ N ∧ N ≤ 12 ∧ abR (rdF (en 10)) (rdF (en (78 + 3 * W))) N z r
/-- entryOf, size: what they answer -/
def eoP (w a b wc d : Int32) : Prop := hasQ w wc ∧ (0 ≤ a.toInt ∧ a.toInt < d.toInt) ∧ (0 ≤ b.toInt ∧ b.toInt < d.toInt)
def XEO (w a b : Int32) (r : Int64) (en : Nat → va_E) : Prop := (eoP w a b (rdI (en 0) 6) (rdI (en 1) 5) ∧ r = rdL (en (79 + 3 * w.toNatClampNeg)) (a.toNatClampNeg * (rdI (en 1) 5).toNatClampNeg + b.toNatClampNeg)) ∨ (¬ eoP w a b (rdI (en 0) 6) (rdI (en 1) 5) ∧ r = (-9223372036854775808))
def XSZ (w z : Int32) (r : Int64) (en : Nat → va_E) : Prop := (hasQ w (rdI (en 0) 6) ∧ wi z 0 1 ∧ ((z = 0 ∧ r = normT (rdI (en 1) 5).toNatClampNeg (rdL (en (79 + 3 * w.toNatClampNeg))) (rdI (en 1) 5).toNatClampNeg) ∨ (¬ z = 0 ∧ r = sumTo (fun i => rdL (en (79 + 3 * w.toNatClampNeg)) (i * (rdI (en 1) 5).toNatClampNeg + i)) (rdI (en 1) 5).toNatClampNeg))) ∨ (¬ (hasQ w (rdI (en 0) 6) ∧ wi z 0 1) ∧ r = (-9223372036854775808))
