/-- what a cell holds, read off it: an object's int, its long, an array's ints, longs, references -/
def rdI (x : va_E) (k : Nat) : Int32 := match x with
  | .inr (_, fs) => (match fs[k]? with | some (.int v) => v | _ => 0)
  | _ => 0
def rdF (x : va_E) : Nat → Int32 := match x with
  | .inl (_, _, .inl f) => f
  | _ => fun _ => 0
abbrev hcP (sc i : Int32) (n : Nat) : Prop := n = 0 ∨ (0 ≤ i.toInt ∧ i.toInt + (n : Int) ≤ sc.toInt)
/-- what a look at n cells of a row answers: the row's length, lane and whether it is there -/
def lookF (sc sl sr k lane i n : Int32) : Int32 := if wi k 0 3 then (if wi lane 0 2 then (if (sr ≠ 0 ∧ sl ≠ lane) then -12 else if sr = 0 then -11 else if n < 0 then -14 else if hcP sc i n.toNatClampNeg then 1 else -13) else -2) else -1
theorem lookF_1 {sc sl sr k lane i n : Int32} (h : lookF sc sl sr k lane i n = 1) : wi k 0 3 ∧ sr ≠ 0 ∧ sl = lane ∧ ¬ n < 0 ∧ hcP sc i n.toNatClampNeg := by
  unfold lookF at h
  by_cases h1 : wi k 0 3
  · rw [if_pos h1] at h
    by_cases h2 : wi lane 0 2
    · rw [if_pos h2] at h
      by_cases h3 : sr ≠ 0 ∧ sl ≠ lane
      · rw [if_pos h3] at h; exact absurd h (by decide)
      · rw [if_neg h3] at h
        by_cases h4 : sr = 0
        · rw [if_pos h4] at h; exact absurd h (by decide)
        · rw [if_neg h4] at h
          by_cases h5 : n < 0
          · rw [if_pos h5] at h; exact absurd h (by decide)
          · rw [if_neg h5] at h
            by_cases h6 : hcP sc i n.toNatClampNeg
            · exact ⟨h1, h4, Decidable.byContradiction (fun q => h3 ⟨h4, q⟩), h5, h6⟩
            · rw [if_neg h6] at h; exact absurd h (by decide)
    · rw [if_neg h2] at h; exact absurd h (by decide)
  · rw [if_neg h1] at h; exact absurd h (by decide)
/-- cells that are there: their numbers -/
theorem hcP_nat {i : Int32} {sc n : Nat} (hs : sc < 2 ^ 31) (h : hcP (nI sc) i n) (hn : 1 ≤ n) : ∃ I, i = nI I ∧ I + n ≤ sc := by
  rcases h with h | ⟨h1, h2⟩
  · omega
  · rw [nI_toInt hs] at h2
    have h0 : (0 : Int32).toInt = 0 := by decide
    obtain ⟨I, hI, rfl⟩ := nI_of (x := i) (fun q => by have := i_lt q; omega)
    rw [nI_toInt hI] at h2
    exact ⟨I, rfl, by omega⟩
theorem nat_of {n : Int32} (h : ¬ n < 0) : ∃ N, N < 2 ^ 31 ∧ n = nI N := by
  obtain ⟨N, hN, rfl⟩ := nI_of (x := n) h
  exact ⟨N, hN, rfl⟩
theorem nb1 {v : Nat} (h : v ≤ 1) : nI v = 0 ∨ nI v = 1 := by
  rcases (show v = 0 ∨ v = 1 by omega) with rfl | rfl
  · exact Or.inl rfl
  · exact Or.inr rfl
def narV (sl v : Int32) : Int32 := if sl = 0 then v.toInt8.toInt32 else if sl = 1 then v.toInt16.toInt32 else v
theorem has_nat {x : Int32} {c : Nat} (h : 0 ≤ x.toInt ∧ x.toInt < (c : Int)) : ∃ v, x = nI v ∧ v < c := by
  have h0 : (0 : Int32).toInt = 0 := by decide
  obtain ⟨v, hv, rfl⟩ := nI_of (x := x) (fun q => by have := i_lt q; omega)
  rw [nI_toInt hv] at h
  exact ⟨v, rfl, by omega⟩
theorem wi_m1 {w : Int32} {c : Nat} (h : wi w 0 (nI c - 1)) (hc : c < 2 ^ 31) : ∃ W, w = nI W ∧ W < c := by
  have h0 : (0 : Int32).toInt = 0 := by decide
  by_cases e : c = 0
  · subst e
    have h1 := h.1
    have h2 := h.2
    have h3 : (nI 0 - 1).toInt = -1 := by decide
    omega
  · rw [show (1 : Int32) = nI 1 from rfl, pk_sub (a := c) (b := 1) (by omega)] at h
    have h1 := h.1
    have h2 := h.2
    rw [nI_toInt (by omega)] at h2
    exact has_nat ⟨by omega, by omega⟩
/-- every kept word has a letter -/
def WX (en : Nat → va_E) : Prop := ∀ w : Nat, (w : Int) < (rdI (en 0) 6).toInt → 1 ≤ (rdI (en (77 + 3 * w)) 2).toInt
theorem WX_lc {en : Nat → va_E} {wc lc W : Nat} (h : WX en) (h0 : rdI (en 0) 6 = nI wc) (hc : wc < 2 ^ 31) (h1 : rdI (en (77 + 3 * W)) 2 = nI lc) (hl : lc < 2 ^ 31) (hW : W < wc) : 1 ≤ lc := by
  have h9 := h W (by rw [h0, nI_toInt hc]; omega)
  rw [h1, nI_toInt hl] at h9
  omega
def rdL (x : va_E) : Nat → Int64 := match x with
  | .inl (_, _, .inr (.inl f)) => f
  | _ => fun _ => 0
/-- a word is kept: the number of words, the new word's letters; other cells stay -/
def KW (en en1 : Nat → va_E) (wc N : Nat) (g : Nat → Int32) : Prop := rdI (en1 0) 6 = nI (wc + 1) ∧ rdI (en1 (77 + 3 * wc)) 2 = nI N ∧ (∀ x, x < N → rdF (en1 (78 + 3 * wc)) x = g x) ∧ (∀ c, c ≠ 0 → c ≠ 11 → c ≠ 77 + 3 * wc → c ≠ 78 + 3 * wc → c ≠ 79 + 3 * wc → en1 c = en c)
theorem KW_WX {en en1 : Nat → va_E} {wc N : Nat} {g : Nat → Int32} (h : WX en) (h0 : rdI (en 0) 6 = nI wc) (hc : wc < 10) (hN : 1 ≤ N) (hN2 : N ≤ 12) (k : KW en en1 wc N g) : WX en1 := by
  intro w hw
  rw [k.1, nI_toInt (by omega)] at hw
  by_cases e : w = wc
  · subst e
    rw [k.2.1, nI_toInt (by omega)]
    omega
  · rw [k.2.2.2 (77 + 3 * w) (by omega) (by omega) (by omega) (by omega) (by omega)]
    exact h w (by rw [h0, nI_toInt (by omega)]; omega)
/-- what a call that may keep a word leaves: all but cell 0 as it was, or one word more -/
def WK (r : Int32) (en en1 : Nat → va_E) : Prop := ((∀ c, c ≠ 0 → en1 c = en c) ∧ rdI (en1 0) 6 = rdI (en 0) 6) ∨ ∃ (wc N : Nat) (g : Nat → Int32), r = nI wc ∧ rdI (en 0) 6 = nI wc ∧ wc < 10 ∧ 1 ≤ N ∧ N ≤ 12 ∧ KW en en1 wc N g
theorem KW_s {en e1 e2 : Nat → va_E} {wc N : Nat} {g : Nat → Int32} (h : KW en e1 wc N g) (hu : ∀ c, c ≠ 0 → e2 c = e1 c) (h0 : rdI (e2 0) 6 = rdI (e1 0) 6) : KW en e2 wc N g :=
  ⟨h0.trans h.1, by rw [hu _ (by omega)]; exact h.2.1, fun x hx => by rw [hu _ (by omega)]; exact h.2.2.1 x hx, fun c h1 h2 h3 h4 h5 => (hu c h1).trans (h.2.2.2 c h1 h2 h3 h4 h5)⟩
theorem WX_keep {en en1 : Nat → va_E} (h : WX en) (h0 : rdI (en1 0) 6 = rdI (en 0) 6) (hc : rdI (en 0) 6 = rdI (en 0) 6) (hu : ∀ c, 77 ≤ c → c < 107 → en1 c = en c) (h10 : (rdI (en 0) 6).toInt ≤ 10) : WX en1 := fun w hw => by
  rw [h0] at hw
  rw [hu _ (by omega) (by omega)]
  exact h w hw
theorem WK_WX {r : Int32} {en en1 : Nat → va_E} (h : WX en) (k : WK r en en1) : WX en1 := by
  rcases k with ⟨hu, h0⟩ | ⟨wc, N, g, -, h1, h2, h3, h4, h5⟩
  · intro w hw
    rw [h0] at hw
    rw [hu _ (by omega)]
    exact h w hw
  · exact KW_WX h h1 h2 h3 h4 h5
theorem WK_s {r : Int32} {en e1 e2 : Nat → va_E} (h : e1 = en ∨ ∃ (wc N : Nat) (g : Nat → Int32), r = nI wc ∧ rdI (en 0) 6 = nI wc ∧ wc < 10 ∧ 1 ≤ N ∧ N ≤ 12 ∧ KW en e1 wc N g) (hu : ∀ c, c ≠ 0 → e2 c = e1 c) (h0 : rdI (e2 0) 6 = rdI (e1 0) 6) : WK r en e2 := by
  rcases h with rfl | ⟨wc, N, g, a, b, c, d, e, f⟩
  · exact Or.inl ⟨hu, h0⟩
  · exact Or.inr ⟨wc, N, g, a, b, c, d, e, KW_s f hu h0⟩
