/-! the reference's walk of words: where it stands, and how far it is -/
def nsum (g : Nat → Int32) : Nat → Nat
  | 0 => 0
  | k + 1 => nsum g k + ((g k).toNatClampNeg + 1) * 8 ^ (8 - k)
def NWp (g : Nat → Int32) (d u : Nat) : Prop := (∀ i, i < d → ∃ v, v < 6 ∧ g i = nI v) ∧ g d + 1 = nI u ∧ u ≤ 6
def nmv (g : Nat → Int32) (d u : Nat) : Nat := nsum g d + (u + 1) * 8 ^ (8 - d)
theorem nsum_congr {g g' : Nat → Int32} : ∀ {d : Nat}, (∀ i, i < d → g' i = g i) → nsum g' d = nsum g d
  | 0, _ => rfl
  | d + 1, h => by
    show nsum g' d + _ = nsum g d + _
    rw [nsum_congr (d := d) (fun i hi => h i (by omega)), h d (by omega)]
theorem pow8 (k : Nat) (h : k < 8) : 8 ^ (8 - k) = 8 * 8 ^ (8 - (k + 1)) := by
  rw [show 8 - k = (8 - (k + 1)) + 1 by omega, Nat.pow_succ, Nat.mul_comm]
theorem nsum_le {g : Nat → Int32} : ∀ {d : Nat}, d ≤ 8 → (∀ i, i < d → ∃ v, v < 6 ∧ g i = nI v) → nsum g d + 8 * 8 ^ (8 - d) ≤ 134217728
  | 0, _, _ => by show 0 + 8 * 8 ^ 8 ≤ 134217728; decide
  | d + 1, hd, h => by
    have ih := nsum_le (d := d) (by omega) (fun i hi => h i (by omega))
    obtain ⟨v, hv, e⟩ := h d (by omega)
    show nsum g d + ((g d).toNatClampNeg + 1) * 8 ^ (8 - d) + _ ≤ _
    rw [e, nI_clamp (by omega), pow8 d (by omega)]
    rw [pow8 d (by omega)] at ih
    have h1 : (v + 1) * (8 * 8 ^ (8 - (d + 1))) ≤ 6 * (8 * 8 ^ (8 - (d + 1))) := Nat.mul_le_mul_right _ (by omega)
    omega
theorem nmv_lt {g : Nat → Int32} {d u : Nat} (h : NWp g d u) (hd : d ≤ 8) : nmv g d u < 134217728 := by
  have h1 := nsum_le hd h.1
  have h2 : (u + 1) * 8 ^ (8 - d) ≤ 7 * 8 ^ (8 - d) := Nat.mul_le_mul_right _ (by have := h.2.2; omega)
  have h3 : 0 < 8 ^ (8 - d) := Nat.pow_pos (by decide)
  unfold nmv
  omega
theorem NWp_desc {g g' : Nat → Int32} {d u w : Nat} (h : NWp g d u) (hd : d < 8) (ha : ∀ i, i < d → g' i = g i) (hw : g' d = nI w) (hw6 : w < 6) (huw : u ≤ w) (hm : g' (d + 1) = -1) : NWp g' (d + 1) 0 ∧ nmv g d u < nmv g' (d + 1) 0 := by
  refine ⟨⟨fun i hi => ?_, by rw [hm]; decide, by omega⟩, ?_⟩
  · by_cases e : i = d
    · exact ⟨w, hw6, by rw [e]; exact hw⟩
    · obtain ⟨v, hv, e1⟩ := h.1 i (by omega)
      exact ⟨v, hv, by rw [ha i (by omega)]; exact e1⟩
  · unfold nmv
    show _ < nsum g' d + ((g' d).toNatClampNeg + 1) * 8 ^ (8 - d) + _
    rw [nsum_congr ha, hw, nI_clamp (by omega)]
    have h1 : (u + 1) * 8 ^ (8 - d) ≤ (w + 1) * 8 ^ (8 - d) := Nat.mul_le_mul_right _ (by omega)
    have h3 : 0 < 8 ^ (8 - (d + 1)) := Nat.pow_pos (by decide)
    omega
theorem NWp_back {g g' : Nat → Int32} {d u v : Nat} (h : NWp g d u) (hd : d ≤ 8) (hd1 : 1 ≤ d) (ha : ∀ i, i < d → g' i = g i) (hv : v < 6) (he : g (d - 1) = nI v) : NWp g' (d - 1) (v + 1) ∧ nmv g d u < nmv g' (d - 1) (v + 1) := by
  obtain ⟨e, rfl⟩ : ∃ e, d = e + 1 := ⟨d - 1, by omega⟩
  rw [show e + 1 - 1 = e by omega] at he ⊢
  refine ⟨⟨fun i hi => ?_, by rw [ha e (by omega), he, nI_1], by omega⟩, ?_⟩
  · obtain ⟨v, hv, e1⟩ := h.1 i (by omega)
    exact ⟨v, hv, by rw [ha i (by omega)]; exact e1⟩
  · unfold nmv
    show nsum g e + ((g e).toNatClampNeg + 1) * 8 ^ (8 - e) + _ < _
    rw [nsum_congr (g' := g') (g := g) (fun i hi => ha i (by omega)), he, nI_clamp (by omega), pow8 e (by omega)]
    have h2 : (u + 1) * 8 ^ (8 - (e + 1)) ≤ 7 * 8 ^ (8 - (e + 1)) := Nat.mul_le_mul_right _ (by have := h.2.2; omega)
    have h3 : 0 < 8 ^ (8 - (e + 1)) := Nat.pow_pos (by decide)
    have h4 : (v + 1 + 1) * (8 * 8 ^ (8 - (e + 1))) = (v + 1) * (8 * 8 ^ (8 - (e + 1))) + 8 * 8 ^ (8 - (e + 1)) := Nat.succ_mul _ _
    omega
theorem NWp_ret {g g' : Nat → Int32} {d u w : Nat} (h : NWp g d u) (ha : ∀ i, i < d → g' i = g i) (hw : g' d = nI w) (hw6 : w < 6) (huw : u ≤ w) : NWp g' d (w + 1) ∧ nmv g d u < nmv g' d (w + 1) := by
  refine ⟨⟨fun i hi => ?_, by rw [hw, nI_1], by omega⟩, ?_⟩
  · obtain ⟨v, hv, e1⟩ := h.1 i (by omega)
    exact ⟨v, hv, by rw [ha i (by omega)]; exact e1⟩
  · unfold nmv
    rw [nsum_congr ha]
    have h3 : 0 < 8 ^ (8 - d) := Nat.pow_pos (by decide)
    have h1 : (u + 1) * 8 ^ (8 - d) ≤ (w + 1) * 8 ^ (8 - d) := Nat.mul_le_mul_right _ (by omega)
    have h4 : (w + 1 + 1) * 8 ^ (8 - d) = (w + 1) * 8 ^ (8 - d) + 8 ^ (8 - d) := Nat.succ_mul _ _
    omega
theorem NW_all {g : Nat → Int32} {n u : Nat} (h : NWp g (n - 1) u) (hn : 1 ≤ n) (hu : 1 ≤ u) : ∀ i, i < n → ∃ v, v < 6 ∧ g i = nI v := by
  intro i hi
  by_cases e : i = n - 1
  · refine ⟨u - 1, by have := h.2.2; omega, ?_⟩
    have h1 := h.2.1
    rw [e]
    have h2 : g (n - 1) = nI u - 1 := by rw [← h1, Int32.add_sub_cancel]
    rw [h2, show u = (u - 1) + 1 by omega, nI_pred]
    rfl
  · exact h.1 i (by omega)
/-- the walk stands at depth d (or at its end, n = d + 1), its letters so far are tables -/
def ND (en : Nat → va_E) (n d u : Nat) : Prop := d < n ∧ (rdI (en 0) 14 = nI d ∨ (rdI (en 0) 14 = nI n ∧ d + 1 = n)) ∧ NWp (rdF (en 7)) d u
def SD (a b : Nat → va_E) : Prop := rdI (b 0) 14 = rdI (a 0) 14 ∧ b 7 = a 7 ∧ b 6 = a 6
theorem SD_rf (a : Nat → va_E) : SD a a := ⟨rfl, rfl, rfl⟩
theorem SD_same {a b c : Nat → va_E} (h : SD a b) (h0 : c 0 = b 0) (h7 : c 7 = b 7) (h6 : c 6 = b 6) : SD a c := ⟨by rw [h0]; exact h.1, h7.trans h.2.1, h6.trans h.2.2⟩
theorem SD_fv {a b c : Nat → va_E} {A B : va_E} (h : SD a b) (h1 : b 0 = A) (h2 : c 0 = B) (h7 : c 7 = b 7) (h6 : c 6 = b 6) (v : Int32) (j : rdI A 14 = v) (k : rdI B 14 = v) : SD a c := ⟨by rw [h2, k, ← j, ← h1]; exact h.1, h7.trans h.2.1, h6.trans h.2.2⟩
theorem ND_sd {a b : Nat → va_E} {n d u : Nat} (h : ND a n d u) (k : SD a b) : ND b n d u := by
  unfold ND
  rw [k.1, k.2.1]
  exact h
/-! what is left of the walk, its levels -/
def nwF (en : Nat → va_E) (x : Nat) : Nat := (rdF (en 7) x).toNatClampNeg
def LVS (en : Nat → va_E) (d : Nat) : Prop := ∀ k, k ≤ d → ∀ i, i < (rdI (en 0) 2).toNatClampNeg * (rdI (en 0) 2).toNatClampNeg → rdL (en 6) (9 * k + i) = prM (rdI (en 0) 2).toNatClampNeg (rdI (en 0) 3).toNatClampNeg (rdF (en 1)) (nwF en) k i
def RM9 (en : Nat → va_E) (n d u : Nat) : List (List Nat) := rem9 (rdI (en 0) 4).toNatClampNeg (alR (rdF (en 2))) n (nwF en) d u
theorem pv_at {g : Nat → Nat} {d v : Nat} (hd : 1 ≤ d) (h : g (d - 1) = v) : pv g d = some v := by
  obtain ⟨k, rfl⟩ : ∃ k, d = k + 1 := ⟨d - 1, by omega⟩
  exact congrArg some h
theorem okR_no {g : Nat → Int32} {p : Option Nat} {v w : Nat} (hp : p = some v) (h : ¬ g (6 * v + w) = 0) : okk (alR g) p w = false := by
  rw [hp]
  exact decide_eq_false h
theorem okR_yes {g : Nat → Int32} {p : Option Nat} {v w : Nat} (hp : p = some v) (h : g (6 * v + w) = 0) : okk (alR g) p w = true := by
  rw [hp]
  exact decide_eq_true h
theorem okR_0 {al : Nat → Nat → Bool} {g : Nat → Nat} {d w : Nat} (h : d = 0) : okk al (pv g d) w = true := by
  subst h
  rfl
theorem RB9 {K : Nat} {al : Nat → Nat → Bool} {n : Nat} {g h : Nat → Nat} {d w v : Nat} {L : List (List Nat)} (hd : 1 ≤ d) (hK : K ≤ w) (q : rem9 K al n g d w = L) (hv : g (d - 1) = v) (e : ∀ i, i < d - 1 → h i = g i) : rem9 K al n h (d - 1) (v + 1) = L := by
  obtain ⟨k, rfl⟩ : ∃ k, d = k + 1 := ⟨d - 1, by omega⟩
  rw [rem9_back hK] at q
  rw [show k + 1 - 1 = k by omega] at hv e ⊢
  rw [hv] at q
  rw [rem9_c k (v + 1) e]
  exact q
theorem RT9 {K : Nat} {al : Nat → Nat → Bool} {n : Nat} {g h : Nat → Nat} {d w : Nat} {L : List (List Nat)} (q : rem9 K al n g d w = L) (hw : w < K) (ho : okk al (pv g d) w = true) (hd : d + 1 = n) (e : ∀ i, i < d → h i = g i) (hh : h d = w) : L = pre h n :: rem9 K al n h (n - 1) (w + 1) := by
  subst hd
  rw [← q, rem9_take hw ho rfl, pre_s, pre_c e, hh, show d + 1 - 1 = d by omega, rem9_c d (w + 1) e]
theorem prM_c9 {d mo : Nat} {E : Nat → Int32} {l g : Nat → Nat} : ∀ k : Nat, (∀ x, x < k → l x = g x) → prM d mo E l k = prM d mo E g k := by
  intro k
  induction k with
  | zero => intro _; rfl
  | succ k ih =>
    intro h
    funext i
    show restR mo (sumTo (fun q => prM d mo E l k (d * (i / d) + q) * (E (9 * l k + d * q + i % d)).toInt64) d) = restR mo (sumTo (fun q => prM d mo E g k (d * (i / d) + q) * (E (9 * g k + d * q + i % d)).toInt64) d)
    rw [ih (fun x hx => h x (by omega)), h k (by omega)]
theorem LV_go {wd mo D t : Nat} {L0 L1 : Nat → Int64} {E : Nat → Int32} {l h : Nat → Nat} (h0 : ∀ k, k ≤ D → ∀ i, i < wd * wd → L0 (9 * k + i) = prM wd mo E l k i) (hg : ∀ x, L1 x = if 9 * D + 9 ≤ x ∧ x < 9 * D + 9 + wd * wd then goV wd mo D t L0 E (x - (9 * D + 9)) else L0 x) (hw : wd * wd ≤ 9) (e : ∀ x, x < D → h x = l x) (ht : h D = t) : ∀ k, k ≤ D + 1 → ∀ i, i < wd * wd → L1 (9 * k + i) = prM wd mo E h k i := by
  intro k hk i hi
  by_cases q : k ≤ D
  · rw [hg, if_neg (by omega), h0 k q i hi]
    exact congrFun (prM_c9 k (fun x hx => (e x (by omega)).symm)) i
  · have ek : k = D + 1 := by omega
    subst ek
    rw [hg, if_pos (by omega), show 9 * (D + 1) + i - (9 * D + 9) = i by omega]
    refine prM_s (fun x hx => ?_) ht hi
    rw [h0 D (Nat.le_refl _) x hx]
    exact congrFun (prM_c9 D (fun x hx => (e x hx).symm)) x
theorem LV_c {wd mo D : Nat} {L0 L1 : Nat → Int64} {E : Nat → Int32} {l h : Nat → Nat} (h0 : ∀ k, k ≤ D → ∀ i, i < wd * wd → L0 (9 * k + i) = prM wd mo E l k i) {D' : Nat} (hD : D' ≤ D) (hL : L1 = L0) (e : ∀ x, x < D' → h x = l x) : ∀ k, k ≤ D' → ∀ i, i < wd * wd → L1 (9 * k + i) = prM wd mo E h k i := by
  intro k hk i hi
  rw [hL, h0 k (by omega) i hi]
  exact congrFun (prM_c9 k (fun x hx => (e x (by omega)).symm)) i
/-! going through the words: what is noted -/
abbrev GT9 : Type := Int64 × Int64 × Int64 × Int64 × (Nat → Int32) × (Nat → Int32)
def gtS (en : Nat → va_E) : GT9 := (rdJ (en 0) 15, rdJ (en 0) 16, rdJ (en 0) 17, rdJ (en 0) 18, rdF (en 10), rdF (en 11))
def gtA (n : Nat) (nm : Int64) (g : Nat → Int32) (s : GT9) : GT9 := if s.1 = 0 ∨ s.2.1 < nm then (s.1, nm, s.2.2.1, s.2.2.2.1, cpN n g s.2.2.2.2.1, s.2.2.2.2.2) else s
def gtB (n : Nat) (nm : Int64) (g : Nat → Int32) (s : GT9) : GT9 := if s.1 = 0 ∨ nm < s.2.2.1 then (s.1, s.2.1, nm, s.2.2.2.1, s.2.2.2.2.1, cpN n g s.2.2.2.2.2) else s
def gtC (nm : Int64) (s : GT9) : GT9 := (s.1 + 1, s.2.1, s.2.2.1, s.2.2.2.1 + (if nm = 0 then 1 else 0), s.2.2.2.2.1, s.2.2.2.2.2)
def nmW (d mo n : Nat) (E : Nat → Int32) (w : List Nat) : Int64 := normR d 0 (prM d mo E (fun x => w.getD x 0) n) d
def trW (d mo n : Nat) (E : Nat → Int32) (w : List Nat) : Int64 := sumTo (fun i => prM d mo E (fun x => w.getD x 0) n (d * i + i)) d
def gt1 (d mo n : Nat) (E : Nat → Int32) (s : GT9) (w : List Nat) : GT9 := gtC (nmW d mo n E w) (gtB n (nmW d mo n E w) (lF w) (gtA n (nmW d mo n E w) (lF w) s))
theorem cpN_0 {g a : Nat → Int32} : cpN 0 g a = a := by
  funext x
  unfold cpN
  rw [if_neg (by omega)]
theorem cpN_s {g a h : Nat → Int32} {j : Nat} {v : Int32} (hh : h = cpN j g a) (hv : g j = v) : upd h j v = cpN (j + 1) g a := by
  funext x
  unfold cpN
  by_cases e : x = j
  · rw [e, pk_us, if_pos (by omega), hv]
  · rw [pk_un e, hh]
    unfold cpN
    by_cases q : x < j
    · rw [if_pos q, if_pos (by omega)]
    · rw [if_neg q, if_neg (by omega)]
theorem pre_getD {g : Nat → Nat} {n x : Nat} (h : x < n) : (pre g n).getD x 0 = g x := by
  unfold pre
  rw [List.getD_eq_getElem?_getD, List.getElem?_map, List.getElem?_range h]
  rfl
theorem nrm_c {d n : Nat} {L M : Nat → Int64} (h : ∀ i, i < d * d → L (9 * n + i) = M i) : ∀ r : Nat, r ≤ d → normR d n L r = normR d 0 M r := by
  intro r
  induction r with
  | zero => intro _; rfl
  | succ r ih =>
    intro hr
    have e : rowR d n L r = rowR d 0 M r := sumTo_c d (fun c hc => by
      rw [Nat.mul_zero, Nat.zero_add, Nat.add_assoc, h _ (by rw [Nat.mul_comm d r]; exact rc_lt (show r < d by omega) hc)])
    show (if normR d n L r < rowR d n L r then rowR d n L r else normR d n L r) = if normR d 0 M r < rowR d 0 M r then rowR d 0 M r else normR d 0 M r
    rw [ih (by omega), e]
theorem gtA_pos {n : Nat} {nm : Int64} {g : Nat → Int32} {s : GT9} (h : s.1 = 0 ∨ s.2.1 < nm) : gtA n nm g s = (s.1, nm, s.2.2.1, s.2.2.2.1, cpN n g s.2.2.2.2.1, s.2.2.2.2.2) := if_pos h
theorem gtA_neg {n : Nat} {nm : Int64} {g : Nat → Int32} {s : GT9} (h : ¬ (s.1 = 0 ∨ s.2.1 < nm)) : gtA n nm g s = s := if_neg h
theorem gtB_pos {n : Nat} {nm : Int64} {g : Nat → Int32} {s : GT9} (h : s.1 = 0 ∨ nm < s.2.2.1) : gtB n nm g s = (s.1, s.2.1, nm, s.2.2.2.1, s.2.2.2.2.1, cpN n g s.2.2.2.2.2) := if_pos h
theorem gtB_neg {n : Nat} {nm : Int64} {g : Nat → Int32} {s : GT9} (h : ¬ (s.1 = 0 ∨ nm < s.2.2.1)) : gtB n nm g s = s := if_neg h
theorem gtS_of {en : Nat → va_E} {a b c d : Int64} {f g : Nat → Int32} (h1 : rdJ (en 0) 15 = a) (h2 : rdJ (en 0) 16 = b) (h3 : rdJ (en 0) 17 = c) (h4 : rdJ (en 0) 18 = d) (h5 : rdF (en 10) = f) (h6 : rdF (en 11) = g) : gtS en = (a, b, c, d, f, g) := by
  unfold gtS
  rw [h1, h2, h3, h4, h5, h6]
theorem gtS_10 {E E' : Nat → va_E} {a b c d : Int64} {f f' g : Nat → Int32} (h : gtS E = (a, b, c, d, f, g)) (h0 : E' 0 = E 0) (h11 : E' 11 = E 11) (h10 : rdF (E' 10) = f') : gtS E' = (a, b, c, d, f', g) := by
  have e1 : rdJ (E 0) 15 = a := congrArg (fun s : GT9 => s.1) h
  have e2 : rdJ (E 0) 16 = b := congrArg (fun s : GT9 => s.2.1) h
  have e3 : rdJ (E 0) 17 = c := congrArg (fun s : GT9 => s.2.2.1) h
  have e4 : rdJ (E 0) 18 = d := congrArg (fun s : GT9 => s.2.2.2.1) h
  have e6 : rdF (E 11) = g := congrArg (fun s : GT9 => s.2.2.2.2.2) h
  exact gtS_of (by rw [h0, e1]) (by rw [h0, e2]) (by rw [h0, e3]) (by rw [h0, e4]) h10 (by rw [h11, e6])
theorem gtS_11 {E E' : Nat → va_E} {a b c d : Int64} {f g g' : Nat → Int32} (h : gtS E = (a, b, c, d, f, g)) (h0 : E' 0 = E 0) (h10 : E' 10 = E 10) (h11 : rdF (E' 11) = g') : gtS E' = (a, b, c, d, f, g') := by
  have e1 : rdJ (E 0) 15 = a := congrArg (fun s : GT9 => s.1) h
  have e2 : rdJ (E 0) 16 = b := congrArg (fun s : GT9 => s.2.1) h
  have e3 : rdJ (E 0) 17 = c := congrArg (fun s : GT9 => s.2.2.1) h
  have e4 : rdJ (E 0) 18 = d := congrArg (fun s : GT9 => s.2.2.2.1) h
  have e5 : rdF (E 10) = f := congrArg (fun s : GT9 => s.2.2.2.2.1) h
  exact gtS_of (by rw [h0, e1]) (by rw [h0, e2]) (by rw [h0, e3]) (by rw [h0, e4]) (by rw [h10, e5]) h11
theorem gtS_next {E E' : Nat → va_E} (k : KPg E E') (h10 : E' 10 = E 10) (h11 : E' 11 = E 11) : gtS E' = gtS E := gtS_of k.2.2.2.2.2.2.1 k.2.2.2.2.2.2.2.1 k.2.2.2.2.2.2.2.2.1 k.2.2.2.2.2.2.2.2.2.1 (by rw [h10]) (by rw [h11])
theorem RM9_c {a b : Nat → va_E} {n d u : Nat} (h4 : rdI (b 0) 4 = rdI (a 0) 4) (h2 : b 2 = a 2) (h7 : b 7 = a 7) : RM9 b n d u = RM9 a n d u := by
  unfold RM9
  have e : nwF b = nwF a := by funext x; unfold nwF; rw [h7]
  rw [h4, h2, e]
theorem LVS_of {a b : Nat → va_E} {D : Nat} (h : ∀ k, k ≤ D → ∀ i, i < (rdI (a 0) 2).toNatClampNeg * (rdI (a 0) 2).toNatClampNeg → rdL (b 6) (9 * k + i) = prM (rdI (a 0) 2).toNatClampNeg (rdI (a 0) 3).toNatClampNeg (rdF (a 1)) (nwF b) k i) (h2 : rdI (b 0) 2 = rdI (a 0) 2) (h3 : rdI (b 0) 3 = rdI (a 0) 3) (h1 : b 1 = a 1) : LVS b D := by
  unfold LVS
  rw [h2, h3, h1]
  exact h
theorem LVS_sd {a b : Nat → va_E} {D D' : Nat} (h : LVS a D) (hD : D' ≤ D) (k : SD a b) (h2 : rdI (b 0) 2 = rdI (a 0) 2) (h3 : rdI (b 0) 3 = rdI (a 0) 3) (h1 : b 1 = a 1) : LVS b D' := by
  unfold LVS
  have e : nwF b = nwF a := by funext x; unfold nwF; rw [k.2.1]
  rw [h2, h3, h1, e, k.2.2]
  exact fun q hq => h q (by omega)
theorem LVS_0 {a b : Nat → va_E} (h : BLV a b) (h2 : rdI (b 0) 2 = rdI (a 0) 2) (h3 : rdI (b 0) 3 = rdI (a 0) 3) : LVS b 0 := by
  intro k hk i hi
  obtain rfl : k = 0 := by omega
  rw [h2] at hi ⊢
  rw [h (9 * 0 + i), if_pos (by omega), show 9 * 0 + i - 0 = i by omega]
  rfl
theorem nm_at {en : Nat → va_E} {n : Nat} (h : LVS en n) {r : Int64} (hr : r = normR (rdI (en 0) 2).toNatClampNeg n (rdL (en 6)) (rdI (en 0) 2).toNatClampNeg) : r = nmW (rdI (en 0) 2).toNatClampNeg (rdI (en 0) 3).toNatClampNeg n (rdF (en 1)) (pre (nwF en) n) := by
  rw [hr]
  unfold nmW
  refine nrm_c (fun i hi => ?_) _ (Nat.le_refl _)
  rw [h n (Nat.le_refl _) i hi]
  exact congrFun (prM_c9 n (fun x hx => (pre_getD hx).symm)) i
theorem tr_at {en : Nat → va_E} {n : Nat} (h : LVS en n) {r : Int64} (hr : r = sumTo (fun i => rdL (en 6) (9 * n + (rdI (en 0) 2).toNatClampNeg * i + i)) (rdI (en 0) 2).toNatClampNeg) : r = trW (rdI (en 0) 2).toNatClampNeg (rdI (en 0) 3).toNatClampNeg n (rdF (en 1)) (pre (nwF en) n) := by
  rw [hr]
  unfold trW
  refine sumTo_c _ (fun i hi => ?_)
  rw [Nat.add_assoc, h n (Nat.le_refl _) _ (rc_lt3 hi hi)]
  exact congrFun (prM_c9 n (fun x hx => (pre_getD hx).symm)) _
theorem lF_at {en : Nat → va_E} {n j v : Nat} (hj : j < n) (h : rdF (en 7) j = nI v) (hv : v < 6) : lF (pre (nwF en) n) j = nI v := by
  unfold lF
  rw [pre_getD hj]
  unfold nwF
  rw [h, nI_clamp (by omega)]
/-! rings: what is noted -/
theorem repP_c {f g : Nat → Int32} {n : Nat} {r : Int32} (h : ∀ x, x < n → f x = g x) (hp : repP f n r) : repP g n r := by
  have h' : ∀ x, x < n → g x = f x := fun x hx => (h x hx).symm
  rcases hp with ⟨p, h1, h2, h3, h4, h5, h6⟩ | ⟨h1, h2⟩
  · exact Or.inl ⟨p, h1, h2, h3, perP_c h h4, h5, fun y a b q => h6 y a b ⟨q.1, perP_c h' q.2⟩⟩
  · exact Or.inr ⟨h1, fun y a b q => h2 y a b ⟨q.1, perP_c h' q.2⟩⟩
theorem noPer_c {f g : Nat → Int32} {n : Nat} (h : ∀ x, x < n → f x = g x) (hp : noPer f n) : noPer g n := fun y a b q => hp y a b ⟨q.1, perP_c (fun x hx => (h x hx).symm) q.2⟩
theorem baP_c {f g : Nat → Int32} {n m : Nat} (h : ∀ x, x < n → f x = g x) (hp : baP f n m) : baP g n m := by
  obtain ⟨i, hi, he, hl⟩ := hp
  have hm : ∀ y, (y + m) % n < n := fun y => Nat.mod_lt _ (by omega)
  refine ⟨i, hi, fun y hy => ?_, ?_⟩
  · rw [← h y (by omega), ← h _ (hm y)]
    exact he y hy
  · rw [← h i hi, ← h _ (hm i)]
    exact hl
theorem ftP_c {f g : Nat → Int32} {n : Nat} (h : ∀ x, x < n → f x = g x) (hp : ftP f n) : ftP g n := fun m a b q => hp m a b (baP_c (fun x hx => (h x hx).symm) q)
theorem alM_c {k f g : Nat → Int32} {n : Nat} (h : ∀ x, x < n → f x = g x) (hp : alM k f n) : alM k g n := fun i h1 h2 => by
  rw [← h i h2, ← h (i - 1) (by omega)]
  exact hp i h1 h2
theorem tuM_c {k f g : Nat → Int32} {n : Nat} (hn : 1 ≤ n) (h : ∀ x, x < n → f x = g x) (hp : tuM k f n) : tuM k g n := by
  unfold tuM at hp ⊢
  rw [← h (n - 1) (by omega), ← h 0 (by omega)]
  exact hp
theorem rgM_c {k f g : Nat → Int32} {n : Nat} (hn : 1 ≤ n) (h : ∀ x, x < n → f x = g x) (hp : rgM k f n) : rgM k g n := ⟨alM_c h hp.1, tuM_c hn h hp.2.1, noPer_c h hp.2.2.1, ftP_c h hp.2.2.2⟩
theorem nwF_sd {a b : Nat → va_E} (k : SD a b) : nwF b = nwF a := by
  funext x
  unfold nwF
  rw [k.2.1]
abbrev FR9 : Type := Int32 × Int64 × (Nat → Int32)
def frS (en : Nat → va_E) : FR9 := (rdI (en 0) 22, rdJ (en 0) 23, rdF (en 13))
def frB (n : Nat) (tr : Int64) (g : Nat → Int32) (s : FR9) : FR9 := if s.1 = 0 ∨ absR s.2.1 < absR tr then (s.1, tr, cpN n g s.2.2) else s
def frI (s : FR9) : FR9 := (s.1 + 1, s.2.1, s.2.2)
def fr1 (d mo n : Nat) (E : Nat → Int32) (R : List Nat → Bool) (s : FR9) (w : List Nat) : FR9 := if R w then frI (frB n (trW d mo n E w) (lF w) s) else s
theorem frB_pos {n : Nat} {tr : Int64} {g : Nat → Int32} {s : FR9} (h : s.1 = 0 ∨ absR s.2.1 < absR tr) : frB n tr g s = (s.1, tr, cpN n g s.2.2) := if_pos h
theorem frB_neg {n : Nat} {tr : Int64} {g : Nat → Int32} {s : FR9} (h : ¬ (s.1 = 0 ∨ absR s.2.1 < absR tr)) : frB n tr g s = s := if_neg h
theorem frS_of {en : Nat → va_E} {a : Int32} {b : Int64} {f : Nat → Int32} (h1 : rdI (en 0) 22 = a) (h2 : rdJ (en 0) 23 = b) (h3 : rdF (en 13) = f) : frS en = (a, b, f) := by
  unfold frS
  rw [h1, h2, h3]
theorem frS_same {E E' : Nat → va_E} {s : FR9} (h : frS E = s) (h0 : E' 0 = E 0) (h13 : E' 13 = E 13) : frS E' = s := by
  unfold frS at h ⊢
  rw [h0, h13]
  exact h
theorem frS_next {E E' : Nat → va_E} (k : KPg E E') (h13 : E' 13 = E 13) : frS E' = frS E := frS_of k.2.2.2.2.2.2.2.2.2.2.1 k.2.2.2.2.2.2.2.2.2.2.2 (by rw [h13])
theorem frS_13 {E E' : Nat → va_E} {a : Int32} {b : Int64} {f f' : Nat → Int32} (h : frS E = (a, b, f)) (h0 : E' 0 = E 0) (h13 : rdF (E' 13) = f') : frS E' = (a, b, f') := by
  have e1 : rdI (E 0) 22 = a := congrArg (fun s : FR9 => s.1) h
  have e2 : rdJ (E 0) 23 = b := congrArg (fun s : FR9 => s.2.1) h
  exact frS_of (by rw [h0, e1]) (by rw [h0, e2]) h13
theorem fr1_no {d mo n : Nat} {E : Nat → Int32} {R : List Nat → Bool} {s : FR9} {w : List Nat} (h : ¬ R w = true) : fr1 d mo n E R s w = s := if_neg h
theorem fr1_yes {d mo n : Nat} {E : Nat → Int32} {R : List Nat → Bool} {s : FR9} {w : List Nat} (h : R w = true) : fr1 d mo n E R s w = frI (frB n (trW d mo n E w) (lF w) s) := if_pos h
/-! the answers -/
def GTF9 (en : Nat → va_E) (n : Nat) : GT9 := List.foldl (gt1 (rdI (en 0) 2).toNatClampNeg (rdI (en 0) 3).toNatClampNeg n (rdF (en 1))) (0, -9223372036854775808, -9223372036854775808, 0, rdF (en 10), rdF (en 11)) (wds (rdI (en 0) 4).toNatClampNeg (alR (rdF (en 2))) n none)
def FRF9 (en : Nat → va_E) (n : Nat) (R : List Nat → Bool) : FR9 := List.foldl (fr1 (rdI (en 0) 2).toNatClampNeg (rdI (en 0) 3).toNatClampNeg n (rdF (en 1)) R) (0, 0, rdF (en 13)) (wds (rdI (en 0) 4).toNatClampNeg (alR (rdF (en 2))) n none)
theorem GTF9_c {a b : Nat → va_E} {n : Nat} (h0 : b 0 = a 0) (h1 : b 1 = a 1) (h2 : b 2 = a 2) (h10 : b 10 = a 10) (h11 : b 11 = a 11) : GTF9 b n = GTF9 a n := by
  unfold GTF9
  rw [h0, h1, h2, h10, h11]
theorem FRF9_c {a b : Nat → va_E} {n : Nat} {R : List Nat → Bool} (h0 : b 0 = a 0) (h1 : b 1 = a 1) (h2 : b 2 = a 2) (h13 : b 13 = a 13) : FRF9 b n R = FRF9 a n R := by
  unfold FRF9
  rw [h0, h1, h2, h13]
def pick4 (V : Nat) (s : GT9) : Int64 := if V = 0 then s.1 else if V = 1 then s.2.1 else if V = 2 then s.2.2.1 else s.2.2.2.1
def pickX (V J : Nat) (s : GT9) : Int32 := if s.1 = 0 then -9 else if V = 0 then s.2.2.2.2.1 J else s.2.2.2.2.2 J
def pickT (s : FR9) : Int64 := if s.1 = 0 then -9223372036854775808 else s.2.1
def pickR (J : Nat) (s : FR9) : Int32 := if s.1 = 0 then -9 else s.2.2 J
def RLN (n w : Int32) (r : Int64) (en : Nat → va_E) : Prop := (¬ (wi n 1 8 ∧ wi w 0 3) ∧ r = -9223372036854775808) ∨ ∃ N V, n = nI N ∧ w = nI V ∧ 1 ≤ N ∧ N ≤ 8 ∧ V ≤ 3 ∧ ((20000 < SPN en N ∧ r = -9223372036854775808) ∨ (¬ 20000 < SPN en N ∧ r = pick4 V (GTF9 en N)))
def RXT (n z i r : Int32) (en : Nat → va_E) : Prop := ((¬ wi n 1 8 ∨ ¬ wi z 0 1 ∨ ∃ N : Nat, n = nI N ∧ N ≤ 8 ∧ ¬ (0 ≤ i.toInt ∧ i.toInt < (N : Int))) ∧ r = -2) ∨ ∃ N V J, n = nI N ∧ z = nI V ∧ i = nI J ∧ 1 ≤ N ∧ N ≤ 8 ∧ V ≤ 1 ∧ J < N ∧ ((20000 < SPN en N ∧ r = -6) ∨ (¬ 20000 < SPN en N ∧ r = pickX V J (GTF9 en N)))
def RRG (n r : Int32) (R : Nat → List Nat → Bool) (en : Nat → va_E) : Prop := (¬ wi n 1 8 ∧ r = -2) ∨ ∃ N, n = nI N ∧ 1 ≤ N ∧ N ≤ 8 ∧ ((20000 < SPN en N ∧ r = -6) ∨ (¬ 20000 < SPN en N ∧ r = (FRF9 en N (R N)).1))
def RRT (n : Int32) (r : Int64) (R : Nat → List Nat → Bool) (en : Nat → va_E) : Prop := (¬ wi n 1 8 ∧ r = -9223372036854775808) ∨ ∃ N, n = nI N ∧ 1 ≤ N ∧ N ≤ 8 ∧ ((20000 < SPN en N ∧ r = -9223372036854775808) ∨ (¬ 20000 < SPN en N ∧ r = pickT (FRF9 en N (R N))))
def RRI (n i r : Int32) (R : Nat → List Nat → Bool) (en : Nat → va_E) : Prop := ((¬ wi n 1 8 ∨ ∃ N : Nat, n = nI N ∧ N ≤ 8 ∧ ¬ (0 ≤ i.toInt ∧ i.toInt < (N : Int))) ∧ r = -2) ∨ ∃ N J, n = nI N ∧ i = nI J ∧ 1 ≤ N ∧ N ≤ 8 ∧ J < N ∧ ((20000 < SPN en N ∧ r = -6) ∨ (¬ 20000 < SPN en N ∧ r = pickR J (FRF9 en N (R N))))
def hRR (R : Nat → List Nat → Bool) (en : Nat → va_E) : Prop := ∀ n w, R n w = true ↔ rgM (rdF (en 2)) (lF w) n
theorem exRR (en : Nat → va_E) : ∃ R : Nat → List Nat → Bool, hRR R en := ⟨fun n w => @decide (rgM (rdF (en 2)) (lF w) n) (Classical.propDecidable _), fun n w => @decide_eq_true_iff (rgM (rdF (en 2)) (lF w) n) (Classical.propDecidable _)⟩
/-! growth -/
theorem SPN_k {a b : Nat → va_E} {n : Nat} (h4 : rdI (b 0) 4 = rdI (a 0) 4) (h2 : b 2 = a 2) : SPN b n = SPN a n := by
  unfold SPN
  rw [h4, h2]
def W9 (en : Nat → va_E) (k : Nat) : List (List Nat) := wds (rdI (en 0) 4).toNatClampNeg (alR (rdF (en 2))) k none
def GP9 (en : Nat → va_E) (A B k : Nat) (w : List Nat) : Prop := rdF (en 2) (6 * w.getD (k - 1) 0 + w.getD 0 0) = 0 ∧ (rdI (en 0) 2).toInt64 * pwR (nI A).toInt64 k < absR (trW (rdI (en 0) 2).toNatClampNeg (rdI (en 0) 3).toNatClampNeg k (rdF (en 1)) w) * pwR (nI B).toInt64 k
def GN9 (en : Nat → va_E) (A B k : Nat) (w : List Nat) : Prop := nmW (rdI (en 0) 2).toNatClampNeg (rdI (en 0) 3).toNatClampNeg k (rdF (en 1)) w * pwR (nI B).toInt64 k < pwR (nI A).toInt64 k
def GI9 (en : Nat → va_E) (A B k : Nat) (Rm : List (List Nat)) (al : Int32) : Prop := ∃ dn, W9 en k = dn ++ Rm ∧ (∀ w, w ∈ dn → ¬ GP9 en A B k w) ∧ bI al (∀ w, w ∈ dn → GN9 en A B k w)
def GO9 (en : Nat → va_E) (A B k : Nat) (be : Int32) : Prop := (∀ q w, 1 ≤ q → q < k → w ∈ W9 en q → ¬ GP9 en A B q w) ∧ bI be (∃ q, 1 ≤ q ∧ q < k ∧ ∀ w, w ∈ W9 en q → GN9 en A B q w)
def GRR (en : Nat → va_E) (A B N : Nat) (r : Int32) : Prop := (r = 1 ∧ ∃ k w, 1 ≤ k ∧ k ≤ N ∧ w ∈ W9 en k ∧ GP9 en A B k w) ∨ ((∀ k w, 1 ≤ k → k ≤ N → w ∈ W9 en k → ¬ GP9 en A B k w) ∧ ((r = -1 ∧ ∃ k, 1 ≤ k ∧ k ≤ N ∧ ∀ w, w ∈ W9 en k → GN9 en A B k w) ∨ (r = 0 ∧ ∀ k, 1 ≤ k → k ≤ N → ¬ ∀ w, w ∈ W9 en k → GN9 en A B k w)))
def RGW (a b n r : Int32) (en : Nat → va_E) : Prop := ((¬ wi a 1 9 ∨ ¬ wi b 1 9 ∨ ¬ wi n 1 7) ∧ r = -2) ∨ ∃ A B N, a = nI A ∧ b = nI B ∧ n = nI N ∧ 1 ≤ A ∧ A ≤ 9 ∧ 1 ≤ B ∧ B ≤ 9 ∧ 1 ≤ N ∧ N ≤ 7 ∧ (((0 < (rdI (en 0) 3).toInt ∨ rdI (en 0) 4 = 0) ∧ r = -3) ∨ ((¬ 0 < (rdI (en 0) 3).toInt ∧ ¬ rdI (en 0) 4 = 0) ∧ (((∃ k, 1 ≤ k ∧ k ≤ N ∧ 20000 < SPN en k) ∧ r = -6) ∨ ((∀ k, 1 ≤ k → k ≤ N → ¬ 20000 < SPN en k) ∧ GRR en A B N r))))
theorem GI9_0 {en : Nat → va_E} {A B k : Nat} {Rm : List (List Nat)} (h : Rm = W9 en k) : GI9 en A B k Rm 1 := ⟨[], h.symm, fun w h => absurd h List.not_mem_nil, Or.inl ⟨rfl, fun w h => absurd h List.not_mem_nil⟩⟩
theorem GI9_in {en : Nat → va_E} {A B k : Nat} {w : List Nat} {Rm : List (List Nat)} {al : Int32} (h : GI9 en A B k (w :: Rm) al) : w ∈ W9 en k := by
  obtain ⟨dn, h1, -⟩ := h
  rw [h1]
  exact List.mem_append_right _ List.mem_cons_self
theorem GI9_s {en : Nat → va_E} {A B k : Nat} {w : List Nat} {Rm : List (List Nat)} {al z : Int32} (h : GI9 en A B k (w :: Rm) al) (hp : ¬ GP9 en A B k w) (hz : bI z (GN9 en A B k w)) : GI9 en A B k Rm (al &&& z) := by
  obtain ⟨dn, h1, h2, h3⟩ := h
  refine ⟨dn ++ [w], by rw [h1, List.append_assoc]; rfl, fun u hu => ?_, ?_⟩
  · rcases List.mem_append.mp hu with q | q
    · exact h2 u q
    · rw [List.mem_singleton.mp q]; exact hp
  · rcases h3 with ⟨e, p⟩ | ⟨e, p⟩
    · rcases hz with ⟨e', p'⟩ | ⟨e', p'⟩
      · refine Or.inl ⟨by rw [e, e']; decide, fun u hu => ?_⟩
        rcases List.mem_append.mp hu with q | q
        · exact p u q
        · rw [List.mem_singleton.mp q]; exact p'
      · exact Or.inr ⟨by rw [e, e']; decide, fun q => p' (q w (List.mem_append_right _ (List.mem_singleton.mpr rfl)))⟩
    · refine Or.inr ⟨?_, fun q => p (fun u hu => q u (List.mem_append_left _ hu))⟩
      rcases hz with ⟨e', -⟩ | ⟨e', -⟩ <;> rw [e, e'] <;> decide
theorem GO9_0 {en : Nat → va_E} {A B : Nat} : GO9 en A B 1 0 := ⟨fun q w h1 h2 => absurd h2 (by omega), Or.inr ⟨rfl, fun ⟨q, h1, h2, _⟩ => absurd h2 (by omega)⟩⟩
theorem GO9_s {en : Nat → va_E} {A B k : Nat} {be al : Int32} (hk : 1 ≤ k) (h : GO9 en A B k be) (hi : GI9 en A B k [] al) : GO9 en A B (k + 1) (be ||| al) := by
  obtain ⟨dn, h1, h2, h3⟩ := hi
  rw [List.append_nil] at h1
  rw [← h1] at h2 h3
  refine ⟨fun q w a b c => ?_, ?_⟩
  · by_cases e : q = k
    · rw [e] at c ⊢; exact h2 w c
    · exact h.1 q w a (by omega) c
  · rcases h3 with ⟨e, p⟩ | ⟨e, p⟩
    · refine Or.inl ⟨?_, k, hk, by omega, p⟩
      rcases h.2 with ⟨e', -⟩ | ⟨e', -⟩ <;> rw [e, e'] <;> decide
    · rcases h.2 with ⟨e', q, a, b, c⟩ | ⟨e', p'⟩
      · exact Or.inl ⟨by rw [e, e']; decide, q, a, by omega, c⟩
      · refine Or.inr ⟨by rw [e, e']; decide, fun ⟨q, a, b, c⟩ => ?_⟩
        by_cases e9 : q = k
        · rw [e9] at c; exact p c
        · exact p' ⟨q, a, by omega, c⟩
theorem GO9_e {en : Nat → va_E} {A B N : Nat} {be : Int32} (h : GO9 en A B (N + 1) be) : (be = 0 → GRR en A B N 0) ∧ (¬ be = 0 → GRR en A B N (-1)) := by
  refine ⟨fun e => Or.inr ⟨fun k w a b c => h.1 k w a (by omega) c, Or.inr ⟨rfl, fun k a b c => ?_⟩⟩, fun e => Or.inr ⟨fun k w a b c => h.1 k w a (by omega) c, Or.inl ⟨rfl, ?_⟩⟩⟩
  · rcases h.2 with ⟨e', -⟩ | ⟨-, p⟩
    · rw [e] at e'; exact absurd e' (by decide)
    · exact p ⟨k, a, by omega, c⟩
  · rcases h.2 with ⟨-, q, a, b, c⟩ | ⟨e', -⟩
    · exact ⟨q, a, by omega, c⟩
    · exact absurd e' e
theorem nw_at {en : Nat → va_E} {n j v : Nat} (hj : j < n) (h : rdF (en 7) j = nI v) (hv : v < 6) : (pre (nwF en) n).getD j 0 = v := by
  rw [pre_getD hj]
  unfold nwF
  rw [h, nI_clamp (by omega)]
