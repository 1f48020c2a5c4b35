/-! lengths: the two sides answer the same -/
def RLN9 (F : Nat → Nat → Int32) (eX eM : Nat → va_E) : Prop := RLX F eX eM ∧ LNX eX
theorem wds_mem {K : Nat} {al : Nat → Nat → Bool} : ∀ (k : Nat) (p : Option Nat) (w : List Nat), w ∈ wds K al k p → w.length = k ∧ (∀ x, x < k → w.getD x 0 < K) ∧ (∀ a, p = some a → 0 < k → al a (w.getD 0 0) = true) ∧ ∀ x, 1 ≤ x → x < k → al (w.getD (x - 1) 0) (w.getD x 0) = true := by
  intro k
  induction k with
  | zero =>
    intro p w h
    have e : w = [] := List.mem_singleton.mp h
    subst e
    exact ⟨rfl, fun x hx => absurd hx (Nat.not_lt_zero x), fun _ _ h => absurd h (Nat.lt_irrefl 0), fun x _ h2 => absurd h2 (Nat.not_lt_zero x)⟩
  | succ k ih =>
    intro p w h
    obtain ⟨t, ht, hw⟩ := List.mem_flatMap.mp h
    have htK := List.mem_range.mp ht
    by_cases e : okk al p t = true
    · rw [if_pos e] at hw
      obtain ⟨v, hv, rfl⟩ := List.mem_map.mp hw
      obtain ⟨h1, h2, h3, h4⟩ := ih (some t) v hv
      refine ⟨by rw [List.length_cons, h1], fun x hx => ?_, fun a ha _ => ?_, fun x hx1 hx2 => ?_⟩
      · cases x with
        | zero => exact htK
        | succ x => exact h2 x (by omega)
      · subst ha
        exact e
      · cases x with
        | zero => omega
        | succ x =>
          cases x with
          | zero => exact h3 t rfl (by omega)
          | succ x => exact h4 (x + 1) (by omega) (by omega)
    · rw [if_neg e] at hw
      exact absurd hw List.not_mem_nil
theorem wds_c {K : Nat} {al al' : Nat → Nat → Bool} (h : ∀ a b, a < K → b < K → al a b = al' a b) : ∀ (k : Nat) (p : Option Nat), (∀ a, p = some a → a < K) → wds K al k p = wds K al' k p := by
  intro k
  induction k with
  | zero => intro p _; rfl
  | succ k ih =>
    intro p hp
    show (List.range K).flatMap (fun t => if okk al p t then (wds K al k (some t)).map (t :: ·) else []) = (List.range K).flatMap (fun t => if okk al' p t then (wds K al' k (some t)).map (t :: ·) else [])
    refine fm_c (fun t ht => ?_)
    have htK := List.mem_range.mp ht
    have e : okk al p t = okk al' p t := by
      cases p with
      | none => rfl
      | some a => exact h a t (hp a rfl) htK
    rw [e, ih (some t) (fun a ha => by cases ha; exact htK)]
theorem bw_c {K : Nat} {al al' : Nat → Nat → Bool} (h : ∀ a b, a < K → b < K → al a b = al' a b) : ∀ (k t : Nat), t < K → bw K al k t = bw K al' k t := by
  intro k
  induction k with
  | zero => intro t _; rfl
  | succ k ih =>
    intro t ht
    exact sumN_c K (fun u hu => by rw [h t u ht hu, ih u hu])
theorem al_XR {eX eM : Nat → va_E} (h : AR eX eM) {a b : Nat} (ha : a < 6) (hb : b < 6) : aX eX a b = alR (rdF (eM 2)) a b := by
  have e := AR_10 h (x := a * 6 + b) (y := 6 * a + b) (by omega) (by omega)
  exact decide_eq_decide.mpr e
theorem kX_6 {cy : Nat → ClassId} {cs : List Nat} {ad : Nat → Nat} {eX : Nat → va_E} (hI : SX cy cs ad eX) : kX eX ≤ 6 ∧ (rdI (eX 1) 4).toInt = (kX eX : Int) := by
  obtain ⟨cn, d, mm, e1, hcn, -⟩ := get_T hI
  have x4 : rdI (eX 1) 4 = nI cn := by rw [e1]; rfl
  unfold kX
  rw [x4, nI_clamp (by omega), nI_toInt (by omega)]
  exact ⟨hcn, rfl⟩
theorem wd_eq {cy : Nat → ClassId} {cs : List Nat} {ad : Nat → Nat} {eX eM : Nat → va_E} {n : Nat} (hI : SX cy cs ad eX) (hT : T1 eX eM) (hA : AR eX eM) : wds (rdI (eM 0) 4).toNatClampNeg (alR (rdF (eM 2))) n none = wds (kX eX) (aX eX) n none := by
  have h6 := (kX_6 hI).1
  rw [← hT.1]
  exact (wds_c (K := kX eX) (fun a b ha hb => al_XR hA (by omega) (by omega)) n none (fun a h => nomatch h)).symm
theorem sp_eq {cy : Nat → ClassId} {cs : List Nat} {ad : Nat → Nat} {eX eM : Nat → va_E} {n : Nat} (hI : SX cy cs ad eX) (hT : T1 eX eM) (hA : AR eX eM) : SPN eM n = CNX eX n := by
  have h6 := (kX_6 hI).1
  unfold SPN
  rw [← hT.1]
  exact sumN_c (kX eX) (fun t ht => (bw_c (K := kX eX) (fun a b ha hb => al_XR hA (by omega) (by omega)) (n - 1) t ht).symm)
/-! bounds -/
theorem sumTo_b {f : Nat → Int64} {B : Int} (hB : 0 ≤ B) (hB2 : B * 3 ≤ 4000000000000) : ∀ n : Nat, n ≤ 3 → (∀ z, z < n → -B ≤ (f z).toInt ∧ (f z).toInt ≤ B) → -(B * (n : Int)) ≤ (sumTo f n).toInt ∧ (sumTo f n).toInt ≤ B * (n : Int) := by
  intro n
  induction n with
  | zero =>
    intro _ _
    have z0 : (0 : Int64).toInt = 0 := by decide
    show -(B * ((0 : Nat) : Int)) ≤ (0 : Int64).toInt ∧ (0 : Int64).toInt ≤ B * ((0 : Nat) : Int)
    rw [z0]
    constructor <;> simp
  | succ n ih =>
    intro hn h
    obtain ⟨h1, h2⟩ := ih (by omega) (fun z hz => h z (by omega))
    obtain ⟨h3, h4⟩ := h n (by omega)
    have e : B * ((n + 1 : Nat) : Int) = B * (n : Int) + B := by rw [Int.natCast_add, Int.mul_add]; simp
    have h5 : B * ((n + 1 : Nat) : Int) ≤ B * 3 := Int.mul_le_mul_of_nonneg_left (by omega) hB
    have q : (sumTo f n + f n).toInt = (sumTo f n).toInt + (f n).toInt := i64_add (by omega) (by omega)
    show -(B * ((n + 1 : Nat) : Int)) ≤ (sumTo f n + f n).toInt ∧ (sumTo f n + f n).toInt ≤ B * ((n + 1 : Nat) : Int)
    rw [q]
    constructor <;> omega
theorem absR_b {x : Int64} {B : Int} (h1 : -B ≤ x.toInt) (h2 : x.toInt ≤ B) (hB : B ≤ 4000000000000) : 0 ≤ (absR x).toInt ∧ (absR x).toInt ≤ B := by
  have z0 : (0 : Int64).toInt = 0 := by decide
  unfold absR
  by_cases h : x < 0
  · rw [if_pos h]
    have h9 := Int64.lt_iff_toInt_lt.mp h
    have q : (0 - x).toInt = (0 : Int64).toInt - x.toInt := i64_sub (by omega) (by omega)
    have e : (-x) = 0 - x := by rw [Int64.zero_sub]
    rw [e, q]
    omega
  · rw [if_neg h]
    have h9 : ¬ x.toInt < (0 : Int64).toInt := fun q => h (Int64.lt_iff_toInt_lt.mpr q)
    omega
theorem prM_b {d : Nat} {E : Nat → Int32} {l : Nat → Nat} {N : Nat} (hd2 : 2 ≤ d) (hd3 : d ≤ 3) (hE : ∀ x, x < N → ∀ i, i < d * d → -9 ≤ (E (9 * l x + i)).toInt ∧ (E (9 * l x + i)).toInt ≤ 9) : ∀ k : Nat, k ≤ N → k ≤ 8 → ∀ i, i < d * d → -((27 ^ k : Nat) : Int) ≤ (prM d 0 E l k i).toInt ∧ (prM d 0 E l k i).toInt ≤ ((27 ^ k : Nat) : Int) := by
  intro k
  induction k with
  | zero =>
    intro _ _ i hi
    have z0 : (0 : Int64).toInt = 0 := by decide
    have z1 : (1 : Int64).toInt = 1 := by decide
    show -((27 ^ 0 : Nat) : Int) ≤ (uV d i).toInt ∧ (uV d i).toInt ≤ ((27 ^ 0 : Nat) : Int)
    unfold uV
    by_cases e : i / d = i % d
    · rw [if_pos e, z1]; decide
    · rw [if_neg e, z0]; decide
  | succ k ih =>
    intro hN h8 i hi
    have hp : (27 ^ k : Nat) ≤ 27 ^ 7 := Nat.pow_le_pow_right (by omega) (by omega)
    have h27 : (27 ^ 7 : Nat) = 10460353203 := by decide
    have hs : (27 ^ (k + 1) : Nat) = 27 * 27 ^ k := by rw [Nat.pow_succ, Nat.mul_comm]
    have h1 : i / d < d := Nat.div_lt_of_lt_mul hi
    have h2 : i % d < d := Nat.mod_lt _ (by omega)
    generalize (27 ^ k : Nat) = p at *
    show -((27 ^ (k + 1) : Nat) : Int) ≤ (restR 0 (sumTo (fun q => prM d 0 E l k (d * (i / d) + q) * (E (9 * l k + d * q + i % d)).toInt64) d)).toInt ∧ (restR 0 (sumTo (fun q => prM d 0 E l k (d * (i / d) + q) * (E (9 * l k + d * q + i % d)).toInt64) d)).toInt ≤ _
    rw [restR_0, hs]
    have hb := sumTo_b (f := fun q => prM d 0 E l k (d * (i / d) + q) * (E (9 * l k + d * q + i % d)).toInt64) (B := 9 * (p : Int)) (by omega) (by omega) d hd3 (fun z hz => by
      obtain ⟨a1, a2⟩ := ih (by omega) (by omega) (d * (i / d) + z) (rc_lt3 h1 hz)
      obtain ⟨b1, b2⟩ := hE k (by omega) (d * z + i % d) (rc_lt3 hz h2)
      rw [← Nat.add_assoc] at b1 b2
      have c1 : ((E (9 * l k + d * z + i % d)).toInt64).toInt = (E (9 * l k + d * z + i % d)).toInt := Int32.toInt_toInt64 _
      generalize prM d 0 E l k (d * (i / d) + z) = a at *
      generalize (E (9 * l k + d * z + i % d)).toInt64 = b at *
      rw [c1.symm] at b1 b2
      have m1 : a.toInt * b.toInt ≤ 9 * (p : Int) := by
        rcases Int.le_total 0 b.toInt with hb0 | hb0
        · have := Int.mul_le_mul_of_nonneg_right a2 hb0
          have := Int.mul_le_mul_of_nonneg_left b2 (show (0 : Int) ≤ (p : Int) by omega)
          omega
        · have := Int.mul_le_mul_of_nonpos_right a1 hb0
          have := Int.mul_le_mul_of_nonneg_left b1 (show (0 : Int) ≤ (p : Int) by omega)
          have e1 : -(p : Int) * b.toInt = -((p : Int) * b.toInt) := Int.neg_mul _ _
          omega
      have m2 : -(9 * (p : Int)) ≤ a.toInt * b.toInt := by
        rcases Int.le_total 0 b.toInt with hb0 | hb0
        · have := Int.mul_le_mul_of_nonneg_right a1 hb0
          have := Int.mul_le_mul_of_nonneg_left b2 (show (0 : Int) ≤ (p : Int) by omega)
          have e1 : -(p : Int) * b.toInt = -((p : Int) * b.toInt) := Int.neg_mul _ _
          omega
        · have := Int.mul_le_mul_of_nonpos_right a2 hb0
          have := Int.mul_le_mul_of_nonneg_left b1 (show (0 : Int) ≤ (p : Int) by omega)
          omega
      rw [i64_mul (by omega) (by omega)]
      exact ⟨m2, m1⟩)
    have h9 : 9 * (p : Int) * (d : Int) ≤ 9 * (p : Int) * 3 := Int.mul_le_mul_of_nonneg_left (by omega) (by omega)
    rw [show ((27 * p : Nat) : Int) = 27 * (p : Int) by omega]
    omega
theorem normR_b {d : Nat} {L : Nat → Int64} {B : Int} (hd3 : d ≤ 3) (hB : 0 ≤ B) (hB2 : B * 3 ≤ 4000000000000) (h : ∀ i, i < d * d → -B ≤ (L i).toInt ∧ (L i).toInt ≤ B) : ∀ r : Nat, r ≤ d → 0 ≤ (normR d 0 L r).toInt ∧ (normR d 0 L r).toInt ≤ B * 3 := by
  intro r
  induction r with
  | zero =>
    intro _
    have z0 : (0 : Int64).toInt = 0 := by decide
    show 0 ≤ (0 : Int64).toInt ∧ (0 : Int64).toInt ≤ B * 3
    rw [z0]
    omega
  | succ r ih =>
    intro hr
    obtain ⟨h1, h2⟩ := ih (by omega)
    have hb := sumTo_b (f := fun c => absR (L (9 * 0 + d * r + c))) hB hB2 d hd3 (fun z hz => by
      obtain ⟨a1, a2⟩ := h (d * r + z) (rc_lt3 (show r < d by omega) hz)
      have q := absR_b a1 a2 (by omega)
      rw [show 9 * 0 + d * r + z = d * r + z by omega]
      omega)
    have h9 : B * (d : Int) ≤ B * 3 := Int.mul_le_mul_of_nonneg_left (by omega) hB
    show 0 ≤ (if normR d 0 L r < rowR d 0 L r then rowR d 0 L r else normR d 0 L r).toInt ∧ (if normR d 0 L r < rowR d 0 L r then rowR d 0 L r else normR d 0 L r).toInt ≤ B * 3
    by_cases q : normR d 0 L r < rowR d 0 L r
    · rw [if_pos q]
      have w := Int64.lt_iff_toInt_lt.mp q
      have hb2 : (rowR d 0 L r).toInt ≤ B * (d : Int) := hb.2
      omega
    · rw [if_neg q]
      exact ⟨h1, h2⟩
/-! a word's product -/
theorem pw_eq {cy : Nat → ClassId} {cs : List Nat} {ad : Nat → Nat} {F : Nat → Nat → Int32} {eX eM : Nat → va_E} {w : List Nat} {n : Nat} (hI : SX cy cs ad eX) (hTX : TXF cy cs ad eX F) (hT : T1 eX eM) (hE : ER F eX eM) (hP : RWP F eX) (hn1 : 1 ≤ n) (hn : n ≤ 8) (hw : ∀ x, x < n → w.getD x 0 < kX eX) : (∀ i, i < dX eX * dX eX → prW (dX eX) (mX eX) (rX eX) (lF w) (n - 1) i = prM (dX eX) (mX eX) (rdF (eM 1)) (fun x => w.getD x 0) n i) ∧ nmX (dX eX) (mX eX) n (rX eX) w = nmW (dX eX) (mX eX) n (rdF (eM 1)) w ∧ trX (dX eX) (mX eX) n (rX eX) w = trW (dX eX) (mX eX) n (rdF (eM 1)) w ∧ 0 ≤ (nmW (dX eX) (mX eX) n (rdF (eM 1)) w).toInt ∧ (nmW (dX eX) (mX eX) n (rdF (eM 1)) w).toInt ≤ 4000000000000 := by
  obtain ⟨cn, d, mm, e1, hcn, hd2, hd3, hmm⟩ := get_T hI
  have x4 : rdI (eX 1) 4 = nI cn := by rw [e1]; rfl
  have x5 : rdI (eX 1) 5 = nI d := by rw [e1]; rfl
  have x6 : rdI (eX 1) 6 = nI mm := by rw [e1]; rfl
  have ek : kX eX = cn := by unfold kX; rw [x4]; exact nI_clamp (by omega)
  have ed : dX eX = d := by unfold dX; rw [x5]; exact nI_clamp (by omega)
  have em : mX eX = mm := by unfold mX; rw [x6]; exact nI_clamp (by omega)
  have c5 : (nI d).toNatClampNeg = d := nI_clamp (by omega)
  have c6 : (nI mm).toNatClampNeg = mm := nI_clamp (by omega)
  rw [ed, em]
  rw [ek] at hw
  have hlc : ∀ x, x < n → (lF w x).toNatClampNeg = w.getD x 0 := fun x hx => nI_clamp (by have := hw x hx; omega)
  have hF : ∀ x, x < n → ∀ i, i < d * d → F (w.getD x 0) i = rdF (eM 1) (9 * w.getD x 0 + i) := fun x hx i hi => hE _ i (by rw [x4, nI_toInt (by omega)]; have := hw x hx; omega) (by rw [x5, c5]; exact hi)
  have hb : ∀ x, x < n → ∀ i, i < d * d → wi (F (w.getD x 0) i) (-9) 9 := fun x hx i hi => (hTX _ d hd3 x5 (by rw [x4, nI_toInt (by omega)]; have := hw x hx; omega)).2 i hi
  have m9 : (9 : Int32).toInt = 9 := by decide
  have n9 : (-9 : Int32).toInt = -9 := by decide
  have hE9 : ∀ x, x < n → ∀ i, i < d * d → -9 ≤ (rdF (eM 1) (9 * w.getD x 0 + i)).toInt ∧ (rdF (eM 1) (9 * w.getD x 0 + i)).toInt ≤ 9 := fun x hx i hi => by
    rw [← hF x hx i hi]
    have h9 := hb x hx i hi
    obtain ⟨h8, h7⟩ := h9
    exact ⟨by omega, by omega⟩
  have q := pr_eq (d := d) (m := mm) (R := rX eX) (E := rdF (eM 1)) (l := lF w) (N := n) hd2 hd3 hmm (fun x hx i hi => by
    have h9 := hw x hx
    rw [hlc x hx, rX_at (by omega), hP.1 _ i (by omega) (by rw [x4, nI_toInt (by omega)]; omega) (by rw [x5, c5]; exact hi), x6, c6, hF x hx i hi]) (fun x hx i hi => by rw [hlc x hx]; exact hE9 x hx i hi) (n - 1) (by omega)
  have p1 : ∀ i, i < d * d → prW d mm (rX eX) (lF w) (n - 1) i = prM d mm (rdF (eM 1)) (fun x => w.getD x 0) n i := fun i hi => by
    rw [(q i hi).1, show n - 1 + 1 = n by omega]
    exact congrFun (prM_c n (fun x hx => hlc x hx)) i
  refine ⟨p1, ?_, ?_, ?_⟩
  · exact norm_eq (n := 0) (fun i hi => by rw [Nat.mul_zero, Nat.zero_add]; exact p1 i hi) _ (Nat.le_refl _)
  · exact sumTo_c d (fun i hi => by rw [p1 _ (rc_lt hi hi), Nat.mul_comm i d])
  · have key : ∀ i, i < d * d → -(282429536481 : Int) ≤ (prM d mm (rdF (eM 1)) (fun x => w.getD x 0) n i).toInt ∧ (prM d mm (rdF (eM 1)) (fun x => w.getD x 0) n i).toInt ≤ 282429536481 := by
      intro i hi
      rcases Nat.eq_zero_or_pos mm with h0 | h0
      · have b := prM_b (l := fun x => w.getD x 0) (N := n) hd2 hd3 hE9 n (Nat.le_refl _) hn i hi
        have hp : (27 ^ n : Nat) ≤ 27 ^ 8 := Nat.pow_le_pow_right (by omega) hn
        have h27 : (27 ^ 8 : Nat) = 282429536481 := by decide
        rw [h0]
        omega
      · have b := (q i hi).2 h0
        rw [p1 i hi] at b
        omega
    have b := normR_b hd3 (B := 282429536481) (by omega) (by omega) key d (Nat.le_refl _)
    exact ⟨b.1, by have h9 : (nmW d mm n (rdF (eM 1)) w).toInt ≤ 282429536481 * 3 := b.2; omega⟩
/-! going through the words, on both sides -/
def RN9 (n k : Nat) (s : NV9) (t : GT9) : Prop := t.1 = nL k ∧ (∃ z : Nat, z ≤ k ∧ s.1 = nI z ∧ t.2.2.2.1 = nL z) ∧ ((k = 0 ∧ s.2.1 = -1 ∧ s.2.2.1 = 9223372036854775807 ∧ t.2.1 = -9223372036854775808 ∧ t.2.2.1 = -9223372036854775808) ∨ (1 ≤ k ∧ s.2.1 = t.2.1 ∧ s.2.2.1 = t.2.2.1 ∧ (∀ x, x < n → s.2.2.2.1 x = t.2.2.2.2.1 x) ∧ ∀ x, x < n → s.2.2.2.2 x = t.2.2.2.2.2 x))
theorem nL_ne0 {k : Nat} (h1 : 1 ≤ k) (h2 : k < 2 ^ 31) : ¬ nL k = 0 := fun q => by
  have h3 := congrArg Int64.toInt q
  rw [nL_toInt (by omega), show (0 : Int64).toInt = 0 by decide] at h3
  omega
theorem nL_1 (k : Nat) : nL k + 1 = nL (k + 1) := (Int64.ofNat_add k 1).symm
theorem cpN_in {n x : Nat} {g a : Nat → Int32} (h : x < n) : cpN n g a x = g x := if_pos h
theorem RN9_s {n k : Nat} {s : NV9} {t : GT9} {v : Int64} {g : Nat → Int32} (h : RN9 n k s t) (hk : k + 1 < 2 ^ 31) (h0 : 0 ≤ v.toInt) (h1 : v.toInt ≤ 4000000000000) : RN9 n (k + 1) (nnV n v g s) (gtC v (gtB n v g (gtA n v g t))) := by
  obtain ⟨ht, ⟨z, hz, hs, hn⟩, h⟩ := h
  have zz : ∃ z9 : Nat, z9 ≤ k + 1 ∧ (if v = 0 then s.1 + 1 else s.1) = nI z9 ∧ t.2.2.2.1 + (if v = 0 then 1 else 0) = nL z9 := by
    by_cases e : v = 0
    · exact ⟨z + 1, by omega, by rw [if_pos e, hs, nI_1], by rw [if_pos e, hn, nL_1]⟩
    · exact ⟨z, by omega, by rw [if_neg e, hs], by rw [if_neg e, hn]; exact Int64.add_zero _⟩
  rcases h with ⟨hk0, a1, a2, a3, a4⟩ | ⟨hk1, a1, a2, a3, a4⟩
  · have t0 : t.1 = 0 := by rw [ht, hk0]; rfl
    have c1 : s.2.1 < v := Int64.lt_iff_toInt_lt.mpr (by rw [a1, show (-1 : Int64).toInt = -1 by decide]; omega)
    have c2 : v < s.2.2.1 := Int64.lt_iff_toInt_lt.mpr (by rw [a2, show (9223372036854775807 : Int64).toInt = 9223372036854775807 by decide]; omega)
    have e1 : gtA n v g t = (t.1, v, t.2.2.1, t.2.2.2.1, cpN n g t.2.2.2.2.1, t.2.2.2.2.2) := gtA_pos (Or.inl t0)
    have e2 : gtB n v g (gtA n v g t) = (t.1, v, v, t.2.2.2.1, cpN n g t.2.2.2.2.1, cpN n g t.2.2.2.2.2) := by rw [e1]; exact gtB_pos (Or.inl t0)
    rw [e2]
    refine ⟨by show t.1 + 1 = _; rw [ht, nL_1], zz, Or.inr ⟨by omega, if_pos c1, if_pos c2, fun x hx => ?_, fun x hx => ?_⟩⟩
    · show (if s.2.1 < v then cpN n g s.2.2.2.1 else s.2.2.2.1) x = cpN n g t.2.2.2.2.1 x
      rw [if_pos c1, cpN_in hx, cpN_in hx]
    · show (if v < s.2.2.1 then cpN n g s.2.2.2.2 else s.2.2.2.2) x = cpN n g t.2.2.2.2.2 x
      rw [if_pos c2, cpN_in hx, cpN_in hx]
  · have t0 : ¬ t.1 = 0 := by rw [ht]; exact nL_ne0 hk1 (by omega)
    have e1 : (gtA n v g t).1 = t.1 ∧ (gtA n v g t).2.1 = (if s.2.1 < v then v else s.2.1) ∧ (gtA n v g t).2.2.1 = t.2.2.1 ∧ (gtA n v g t).2.2.2.1 = t.2.2.2.1 ∧ (∀ x, x < n → (if s.2.1 < v then cpN n g s.2.2.2.1 else s.2.2.2.1) x = (gtA n v g t).2.2.2.2.1 x) ∧ (gtA n v g t).2.2.2.2.2 = t.2.2.2.2.2 := by
      by_cases c : s.2.1 < v
      · rw [gtA_pos (Or.inr (by rw [← a1]; exact c)), if_pos c, if_pos c]
        exact ⟨rfl, rfl, rfl, rfl, fun x hx => by dsimp only; rw [cpN_in hx, cpN_in hx], rfl⟩
      · rw [gtA_neg (fun q => q.elim t0 (fun q => c (by rw [a1]; exact q))), if_neg c, if_neg c]
        exact ⟨rfl, a1.symm, rfl, rfl, a3, rfl⟩
    generalize gtA n v g t = u at e1 ⊢
    obtain ⟨u1, u2, u3, u4, u5, u6⟩ := e1
    have e2 : (gtB n v g u).1 = t.1 ∧ (gtB n v g u).2.1 = u.2.1 ∧ (gtB n v g u).2.2.1 = (if v < s.2.2.1 then v else s.2.2.1) ∧ (gtB n v g u).2.2.2.1 = t.2.2.2.1 ∧ (gtB n v g u).2.2.2.2.1 = u.2.2.2.2.1 ∧ (∀ x, x < n → (if v < s.2.2.1 then cpN n g s.2.2.2.2 else s.2.2.2.2) x = (gtB n v g u).2.2.2.2.2 x) := by
      by_cases c : v < s.2.2.1
      · rw [gtB_pos (Or.inr (by rw [u3, ← a2]; exact c)), if_pos c, if_pos c]
        exact ⟨u1, rfl, rfl, u4, rfl, fun x hx => by dsimp only; rw [cpN_in hx, cpN_in hx]⟩
      · rw [gtB_neg (fun q => q.elim (by rw [u1]; exact t0) (fun q => c (by rw [a2, ← u3]; exact q))), if_neg c, if_neg c]
        exact ⟨u1, rfl, u3.trans a2.symm, u4, rfl, fun x hx => by rw [u6]; exact a4 x hx⟩
    generalize gtB n v g u = y at e2 ⊢
    obtain ⟨y1, y2, y3, y4, y5, y6⟩ := e2
    refine ⟨by show y.1 + 1 = _; rw [y1, ht, nL_1], ?_, Or.inr ⟨by omega, ?_, ?_, fun x hx => ?_, fun x hx => ?_⟩⟩
    · obtain ⟨z9, q1, q2, q3⟩ := zz
      exact ⟨z9, q1, q2, by show y.2.2.2.1 + (if v = 0 then 1 else 0) = _; rw [y4]; exact q3⟩
    · exact (y2.trans u2).symm
    · exact y3.symm
    · show (if s.2.1 < v then cpN n g s.2.2.2.1 else s.2.2.2.1) x = y.2.2.2.2.1 x
      rw [y5]
      exact u5 x hx
    · exact y6 x hx
theorem RN9_l {d mm n : Nat} {R : Nat → Nat → Int64} {E : Nat → Int32} : ∀ (L : List (List Nat)) (k : Nat) (s : NV9) (t : GT9), (∀ w, w ∈ L → nmX d mm n R w = nmW d mm n E w ∧ 0 ≤ (nmW d mm n E w).toInt ∧ (nmW d mm n E w).toInt ≤ 4000000000000) → RN9 n k s t → k + L.length < 2 ^ 31 → RN9 n (k + L.length) (List.foldl (nn1 d mm n R) s L) (List.foldl (gt1 d mm n E) t L) := by
  intro L
  induction L with
  | nil => intro k s t _ h _; exact h
  | cons w L ih =>
    intro k s t hv h hk
    obtain ⟨q1, q2, q3⟩ := hv w List.mem_cons_self
    rw [List.length_cons] at hk ⊢
    have h9 := ih (k + 1) (nn1 d mm n R s w) (gt1 d mm n E t w) (fun u hu => hv u (List.mem_cons_of_mem _ hu)) (by
      unfold nn1 gt1
      rw [q1]
      exact RN9_s h (by omega) q2 q3) (by omega)
    rw [show k + (L.length + 1) = k + 1 + L.length by omega]
    exact h9
theorem nrm_rel {cy : Nat → ClassId} {cs : List Nat} {ad : Nat → Nat} {F : Nat → Nat → Int32} {eX eM : Nat → va_E} {n : Nat} {f g : Nat → Int32} (hI : SX cy cs ad eX) (hTX : TXF cy cs ad eX F) (hT : T1 eX eM) (hA : AR eX eM) (hE : ER F eX eM) (hP : RWP F eX) (hn1 : 1 ≤ n) (hn : n ≤ 8) : RN9 n (CNX eX n) (NF9 eX n f g) (GTF9 eM n) := by
  have h6 := (kX_6 hI).1
  have hl : (wds (kX eX) (aX eX) n none).length = CNX eX n := by
    obtain ⟨k, rfl⟩ : ∃ k, n = k + 1 := ⟨n - 1, by omega⟩
    exact len_all
  have hc : CNX eX n ≤ 1679616 := cnt_le (al := aX eX) h6 (by omega)
  unfold NF9 GTF9
  rw [wd_eq hI hT hA, ← hT.2.1, ← hT.2.2, ← hl, show (wds (kX eX) (aX eX) n none).length = 0 + (wds (kX eX) (aX eX) n none).length by omega]
  refine RN9_l (d := dX eX) (mm := mX eX) _ 0 _ _ (fun w hw => ?_) ⟨rfl, ⟨0, Nat.le_refl _, rfl, rfl⟩, Or.inl ⟨rfl, rfl, rfl, rfl, rfl⟩⟩ (by rw [hl]; omega)
  obtain ⟨-, q2, -, q4, q5⟩ := pw_eq hI hTX hT hE hP hn1 hn (wds_mem n none w hw).2.1
  exact ⟨q2, q4, q5⟩
theorem n64 {k : Nat} (h : k < 2 ^ 31) : (nI k).toInt64 = nL k := Int64.toInt_inj.mp (by rw [Int32.toInt_toInt64, nI_toInt h, nL_toInt (by omega)])
theorem length_rel {cy : Nat → ClassId} {cs : List Nat} {ad : Nat → Nat} {F : Nat → Nat → Int32} {eX eM : Nat → va_E} {n w : Int32} {r r' : Int64} (hI : SX cy cs ad eX) (hTX : TXF cy cs ad eX F) (hT : T1 eX eM) (hA : AR eX eM) (hE : ER F eX eM) (hP : RWP F eX) (hx : XLN n w r eX) (hm : RLN n w r' eM) : r = r' := by
  rcases hx with ⟨x1, x2⟩ | ⟨N, V, rfl, rfl, n1, n8, v3, hx⟩
  · rcases hm with ⟨m1, m2⟩ | ⟨N', V', rfl, rfl, m1, m8, w3, -⟩
    · exact x2.trans m2.symm
    · exact absurd ⟨⟨by rw [nI_toInt (by omega), show (1 : Int32).toInt = 1 by decide]; omega, by rw [nI_toInt (by omega), show (8 : Int32).toInt = 8 by decide]; omega⟩, ⟨by rw [nI_toInt (by omega), show (0 : Int32).toInt = 0 by decide]; omega, by rw [nI_toInt (by omega), show (3 : Int32).toInt = 3 by decide]; omega⟩⟩ x1
  · rcases hm with ⟨m1, m2⟩ | ⟨N', V', e1, e2, m1, m8, w3, hm⟩
    · exact absurd ⟨⟨by rw [nI_toInt (by omega), show (1 : Int32).toInt = 1 by decide]; omega, by rw [nI_toInt (by omega), show (8 : Int32).toInt = 8 by decide]; omega⟩, ⟨by rw [nI_toInt (by omega), show (0 : Int32).toInt = 0 by decide]; omega, by rw [nI_toInt (by omega), show (3 : Int32).toInt = 3 by decide]; omega⟩⟩ m1
    · have e3 : N = N' := n_eq e1 (by omega) (by omega)
      have e4 : V = V' := n_eq e2 (by omega) (by omega)
      subst e3
      subst e4
      rw [sp_eq hI hT hA] at hm
      rcases hx with ⟨x1, x2⟩ | ⟨x1, f, g, x2⟩
      · rcases hm with ⟨y1, y2⟩ | ⟨y1, -⟩
        · exact x2.trans y2.symm
        · exact absurd x1 y1
      · rcases hm with ⟨y1, -⟩ | ⟨-, y2⟩
        · exact absurd y1 x1
        · rw [x2, y2]
          obtain ⟨q1, ⟨z, z1, z2, z3⟩, q2⟩ := nrm_rel (f := f) (g := g) hI hTX hT hA hE hP n1 n8
          generalize NF9 eX N f g = s at *
          generalize GTF9 eM N = t at *
          generalize CNX eX N = C at *
          unfold pickC pick4
          by_cases v0 : V = 0
          · rw [if_pos v0, if_pos v0, q1, n64 (by omega)]
          · rw [if_neg v0, if_neg v0]
            by_cases v1 : V = 1
            · rw [if_pos v1, if_pos v1]
              rcases q2 with ⟨c0, -, -, p3, -⟩ | ⟨c1, p1, -⟩
              · rw [if_pos c0, p3]
              · rw [if_neg (by omega), p1]
            · rw [if_neg v1, if_neg v1]
              by_cases v2 : V = 2
              · rw [if_pos v2, if_pos v2]
                rcases q2 with ⟨c0, -, -, -, p4⟩ | ⟨c1, -, p2, -⟩
                · rw [if_pos c0, p4]
                · rw [if_neg (by omega), p2]
              · rw [if_neg v2, if_neg v2, z2, z3, n64 (by omega)]
theorem wi_lo {N : Nat} (n1 : 1 ≤ N) (n8 : N ≤ 8) : wi (nI N) 1 8 := ⟨by rw [nI_toInt (by omega), show (1 : Int32).toInt = 1 by decide]; omega, by rw [nI_toInt (by omega), show (8 : Int32).toInt = 8 by decide]; omega⟩
theorem wi_01 {V : Nat} (h : V ≤ 1) : wi (nI V) 0 1 := ⟨by rw [nI_toInt (by omega), show (0 : Int32).toInt = 0 by decide]; omega, by rw [nI_toInt (by omega), show (1 : Int32).toInt = 1 by decide]; omega⟩
theorem wi_J {i : Int32} {N : Nat} (n1 : 1 ≤ N) (n8 : N ≤ 8) : wi i 0 (nI (N - 1)) ↔ (0 ≤ i.toInt ∧ i.toInt < (N : Int)) := by
  unfold wi
  rw [nI_toInt (by omega), show (0 : Int32).toInt = 0 by decide]
  omega
theorem in_J {J N : Nat} (h : J < N) (n8 : N ≤ 8) : 0 ≤ (nI J).toInt ∧ (nI J).toInt < (N : Int) := by
  rw [nI_toInt (by omega)]
  omega
theorem extreme_rel {cy : Nat → ClassId} {cs : List Nat} {ad : Nat → Nat} {F : Nat → Nat → Int32} {eX eM : Nat → va_E} {n z i r r' : Int32} (hI : SX cy cs ad eX) (hTX : TXF cy cs ad eX F) (hT : T1 eX eM) (hA : AR eX eM) (hE : ER F eX eM) (hP : RWP F eX) (hx : XXT n z i r eX) (hm : RXT n z i r' eM) : r = r' := by
  rcases hx with ⟨x1, x2⟩ | ⟨N, V, J, rfl, rfl, rfl, n1, n8, v1, j1, hx⟩
  · rcases hm with ⟨m1, m2⟩ | ⟨N', V', J', rfl, rfl, rfl, m1, m8, w1, k1, -⟩
    · exact x2.trans m2.symm
    · rcases x1 with x1 | x1 | ⟨N, e, p1, p8, x1⟩
      · exact absurd (wi_lo m1 m8) x1
      · exact absurd (wi_01 w1) x1
      · have e3 : N' = N := n_eq e (by omega) (by omega)
        subst e3
        exact absurd ((wi_J m1 m8).mpr (in_J k1 m8)) x1
  · rcases hm with ⟨m1, m2⟩ | ⟨N', V', J', e1, e2, e3, m1, m8, w1, k1, hm⟩
    · rcases m1 with m1 | m1 | ⟨N', e, p8, m1⟩
      · exact absurd (wi_lo n1 n8) m1
      · exact absurd (wi_01 v1) m1
      · have e3 : N = N' := n_eq e (by omega) (by omega)
        subst e3
        exact absurd (in_J j1 n8) m1
    · have q1 : N = N' := n_eq e1 (by omega) (by omega)
      have q2 : V = V' := n_eq e2 (by omega) (by omega)
      have q3 : J = J' := n_eq e3 (by omega) (by omega)
      subst q1
      subst q2
      subst q3
      rw [sp_eq hI hT hA] at hm
      rcases hx with ⟨x1, x2⟩ | ⟨x1, f, g, x2⟩
      · rcases hm with ⟨y1, y2⟩ | ⟨y1, -⟩
        · exact x2.trans y2.symm
        · exact absurd x1 y1
      · rcases hm with ⟨y1, -⟩ | ⟨-, y2⟩
        · exact absurd y1 x1
        · rw [x2, y2]
          obtain ⟨q1, -, q2⟩ := nrm_rel (f := f) (g := g) hI hTX hT hA hE hP n1 n8
          generalize NF9 eX N f g = s at *
          generalize GTF9 eM N = t at *
          generalize CNX eX N = C at *
          unfold pickE pickX
          rcases q2 with ⟨c0, -⟩ | ⟨c1, -, -, p3, p4⟩
          · rw [if_pos c0, if_pos (by rw [q1, c0]; rfl)]
          · rw [if_neg (show ¬ C = 0 by omega), if_neg (show ¬ t.1 = 0 by rw [q1]; exact nL_ne0 c1 (by omega))]
            by_cases v0 : V = 0
            · rw [if_pos v0, if_pos v0]
              exact p3 J j1
            · rw [if_neg v0, if_neg v0]
              exact p4 J j1
/-! rings -/
def RR9 (n k : Nat) (s : RV9) (t : FR9) : Prop := s.1 = nI k ∧ t.1 = nI k ∧ s.2.1 = t.2.1 ∧ (k = 0 ∨ ∀ x, x < n → s.2.2 x = t.2.2 x)
theorem RR9_s {n k : Nat} {s : RV9} {t : FR9} {v : Int64} {g : Nat → Int32} (h : RR9 n k s t) (hk : k + 1 < 2 ^ 31) : RR9 n (k + 1) (nrV n v g s) (frI (frB n v g t)) := by
  obtain ⟨h1, h2, h3, h4⟩ := h
  have e1 : s.1 + 1 = nI (k + 1) := by rw [h1, nI_1]
  have e2 : t.1 + 1 = nI (k + 1) := by rw [h2, nI_1]
  have c : (s.1 + 1 = 1 ∨ absL s.2.1 < absL v) ↔ (t.1 = 0 ∨ absR t.2.1 < absR v) := by
    rw [abs_LR, abs_LR, h3, e1, h2]
    constructor
    · rintro (q | q)
      · have q9 : k + 1 = 1 := n_eq (a := k + 1) (b := 1) q (by omega) (by omega)
        exact Or.inl (by rw [show k = 0 by omega]; rfl)
      · exact Or.inr q
    · rintro (q | q)
      · have q9 : k = 0 := n_eq (a := k) (b := 0) q (by omega) (by omega)
        exact Or.inl (by rw [q9]; rfl)
      · exact Or.inr q
  unfold nrV frB
  by_cases d : t.1 = 0 ∨ absR t.2.1 < absR v
  · rw [if_pos (c.mpr d), if_pos d]
    exact ⟨e1, e2, rfl, Or.inr (fun x hx => by show cpN n g s.2.2 x = cpN n g t.2.2 x; rw [cpN_in hx, cpN_in hx])⟩
  · rw [if_neg (fun q => d (c.mp q)), if_neg d]
    refine ⟨e1, e2, h3, Or.inr ?_⟩
    rcases h4 with k0 | h4
    · exact absurd (Or.inl (by rw [h2, k0]; rfl)) d
    · exact h4
theorem RR9_l {d mm n : Nat} {R : Nat → Nat → Int64} {E : Nat → Int32} {Q P : List Nat → Bool} : ∀ (L : List (List Nat)) (k : Nat) (s : RV9) (t : FR9), (∀ w, w ∈ L → trX d mm n R w = trW d mm n E w ∧ Q w = P w) → RR9 n k s t → k + L.length < 2 ^ 31 → ∃ k', k' < 2 ^ 31 ∧ RR9 n k' (List.foldl (nr1 d mm n R Q) s L) (List.foldl (fr1 d mm n E P) t L) := by
  intro L
  induction L with
  | nil => intro k s t _ h hk; exact ⟨k, hk, h⟩
  | cons w L ih =>
    intro k s t hv h hk
    obtain ⟨q1, q2⟩ := hv w List.mem_cons_self
    rw [List.length_cons] at hk
    have hv' : ∀ u, u ∈ L → trX d mm n R u = trW d mm n E u ∧ Q u = P u := fun u hu => hv u (List.mem_cons_of_mem _ hu)
    show ∃ k', k' < 2 ^ 31 ∧ RR9 n k' (List.foldl (nr1 d mm n R Q) (nr1 d mm n R Q s w) L) (List.foldl (fr1 d mm n E P) (fr1 d mm n E P t w) L)
    by_cases e : P w = true
    · rw [fr1_yes e, show nr1 d mm n R Q s w = nrV n (trX d mm n R w) (lF w) s from if_pos (by rw [q2]; exact e), q1]
      exact ih (k + 1) _ _ hv' (RR9_s h (by omega)) (by omega)
    · rw [fr1_no e, show nr1 d mm n R Q s w = s from if_neg (by rw [q2]; exact e)]
      exact ih k _ _ hv' h (by omega)
theorem ring_iff {cy : Nat → ClassId} {cs : List Nat} {ad : Nat → Nat} {eX eM : Nat → va_E} {n : Nat} {w : List Nat} {Q P : List Nat → Bool} (hI : SX cy cs ad eX) (hA : AR eX eM) (hn1 : 1 ≤ n) (hn : n ≤ 8) (hQ : hQQ Q (rdF (eX 10)) n) (hPR : ∀ w, P w = true ↔ rgM (rdF (eM 2)) (lF w) n) (hw : w ∈ wds (kX eX) (aX eX) n none) : Q w = P w := by
  have h6 := (kX_6 hI).1
  obtain ⟨-, m2, -, m4⟩ := wds_mem n none w hw
  have hv : ∀ i, i < n → ∃ v, v < 6 ∧ lF w i = nI v := fun i hi => ⟨w.getD i 0, by have := m2 i hi; omega, rfl⟩
  have hlc : ∀ x, x < n → (lF w x).toNatClampNeg = w.getD x 0 := fun x hx => nI_clamp (by have := m2 x hx; omega)
  have hal : alP (rdF (eX 10)) (lF w) n := fun i h1 h2 => by
    rw [hlc i h2, hlc (i - 1) (by omega)]
    exact of_decide_eq_true (m4 i h1 h2)
  have e1 := al_iff hA hv
  have e2 := tu_iff hA hn1 hv
  have e3 := ah_iff (f := lF w) (show n ≤ 12 by omega)
  have e : Q w = true ↔ P w = true := by
    rw [hQ w, hPR w]
    exact ⟨fun q => ⟨e1.mp hal, e2.mp q.1, (e3.mp q.2).1, (e3.mp q.2).2⟩, fun q => ⟨e2.mpr q.2.1, e3.mpr ⟨q.2.2.1, q.2.2.2⟩⟩⟩
  exact Bool.eq_iff_iff.2 e
theorem rng_rel {cy : Nat → ClassId} {cs : List Nat} {ad : Nat → Nat} {F : Nat → Nat → Int32} {eX eM : Nat → va_E} {n : Nat} {Q P : List Nat → Bool} {f : Nat → Int32} (hI : SX cy cs ad eX) (hTX : TXF cy cs ad eX F) (hT : T1 eX eM) (hA : AR eX eM) (hE : ER F eX eM) (hP : RWP F eX) (hn1 : 1 ≤ n) (hn : n ≤ 8) (hQ : hQQ Q (rdF (eX 10)) n) (hPR : ∀ w, P w = true ↔ rgM (rdF (eM 2)) (lF w) n) : ∃ k, k < 2 ^ 31 ∧ RR9 n k (RF9 eX n Q f) (FRF9 eM n P) := by
  have h6 := (kX_6 hI).1
  have hl : (wds (kX eX) (aX eX) n none).length = CNX eX n := by
    obtain ⟨k, rfl⟩ : ∃ k, n = k + 1 := ⟨n - 1, by omega⟩
    exact len_all
  have hc : CNX eX n ≤ 1679616 := cnt_le (al := aX eX) h6 (by omega)
  unfold RF9 FRF9
  rw [wd_eq hI hT hA, ← hT.2.1, ← hT.2.2]
  refine RR9_l (d := dX eX) (mm := mX eX) _ 0 _ _ (fun w hw => ?_) ⟨rfl, rfl, rfl, Or.inl rfl⟩ (by rw [hl]; omega)
  obtain ⟨-, -, q3, -⟩ := pw_eq hI hTX hT hE hP hn1 hn (wds_mem n none w hw).2.1
  exact ⟨q3, ring_iff hI hA hn1 hn hQ hPR hw⟩
theorem rings_rel {cy : Nat → ClassId} {cs : List Nat} {ad : Nat → Nat} {F : Nat → Nat → Int32} {eX eM : Nat → va_E} {n r r' : Int32} (hI : SX cy cs ad eX) (hTX : TXF cy cs ad eX F) (hT : T1 eX eM) (hA : AR eX eM) (hE : ER F eX eM) (hP : RWP F eX) (hx : XRG n r eX) (hm : ∃ R, hRR R eM ∧ RRG n r' R eM) : r = r' := by
  obtain ⟨R, hR, hm⟩ := hm
  rcases hx with ⟨x1, x2⟩ | ⟨N, rfl, n1, n8, hx⟩
  · rcases hm with ⟨m1, m2⟩ | ⟨N', rfl, m1, m8, -⟩
    · exact x2.trans m2.symm
    · exact absurd (wi_lo m1 m8) x1
  · rcases hm with ⟨m1, m2⟩ | ⟨N', e1, m1, m8, hm⟩
    · exact absurd (wi_lo n1 n8) m1
    · have q1 : N = N' := n_eq e1 (by omega) (by omega)
      subst q1
      rw [sp_eq hI hT hA] at hm
      rcases hx with ⟨x1, x2⟩ | ⟨x1, x2⟩
      · rcases hm with ⟨y1, y2⟩ | ⟨y1, -⟩
        · exact x2.trans y2.symm
        · exact absurd x1 y1
      · rcases hm with ⟨y1, -⟩ | ⟨-, y2⟩
        · exact absurd y1 x1
        · obtain ⟨Q, hQ⟩ := exQ (fun w => tuP (rdF (eX 10)) (lF w) N ∧ ahA (lF w) N)
          obtain ⟨f, x3⟩ := x2 Q hQ
          obtain ⟨k, -, h1, h2, -⟩ := rng_rel (f := f) hI hTX hT hA hE hP n1 n8 hQ (hR N)
          rw [x3, y2, h1, h2]
theorem ringTrack_rel {cy : Nat → ClassId} {cs : List Nat} {ad : Nat → Nat} {F : Nat → Nat → Int32} {eX eM : Nat → va_E} {n : Int32} {r r' : Int64} (hI : SX cy cs ad eX) (hTX : TXF cy cs ad eX F) (hT : T1 eX eM) (hA : AR eX eM) (hE : ER F eX eM) (hP : RWP F eX) (hx : XRT n r eX) (hm : ∃ R, hRR R eM ∧ RRT n r' R eM) : r = r' := by
  obtain ⟨R, hR, hm⟩ := hm
  rcases hx with ⟨x1, x2⟩ | ⟨N, rfl, n1, n8, hx⟩
  · rcases hm with ⟨m1, m2⟩ | ⟨N', rfl, m1, m8, -⟩
    · exact x2.trans m2.symm
    · exact absurd (wi_lo m1 m8) x1
  · rcases hm with ⟨m1, m2⟩ | ⟨N', e1, m1, m8, hm⟩
    · exact absurd (wi_lo n1 n8) m1
    · have q1 : N = N' := n_eq e1 (by omega) (by omega)
      subst q1
      rw [sp_eq hI hT hA] at hm
      rcases hx with ⟨x1, x2⟩ | ⟨x1, x2⟩
      · rcases hm with ⟨y1, y2⟩ | ⟨y1, -⟩
        · exact x2.trans y2.symm
        · exact absurd x1 y1
      · rcases hm with ⟨y1, -⟩ | ⟨-, y2⟩
        · exact absurd y1 x1
        · obtain ⟨Q, hQ⟩ := exQ (fun w => tuP (rdF (eX 10)) (lF w) N ∧ ahA (lF w) N)
          obtain ⟨f, x3⟩ := x2 Q hQ
          obtain ⟨k, -, h1, h2, h3, -⟩ := rng_rel (f := f) hI hTX hT hA hE hP n1 n8 hQ (hR N)
          rw [x3, y2]
          unfold pickQ pickT
          rw [h1, h2, h3]
theorem ring_rel {cy : Nat → ClassId} {cs : List Nat} {ad : Nat → Nat} {F : Nat → Nat → Int32} {eX eM : Nat → va_E} {n i r r' : Int32} (hI : SX cy cs ad eX) (hTX : TXF cy cs ad eX F) (hT : T1 eX eM) (hA : AR eX eM) (hE : ER F eX eM) (hP : RWP F eX) (hx : XRI n i r eX) (hm : ∃ R, hRR R eM ∧ RRI n i r' R eM) : r = r' := by
  obtain ⟨R, hR, hm⟩ := hm
  rcases hx with ⟨x1, x2⟩ | ⟨N, J, rfl, rfl, n1, n8, j1, hx⟩
  · rcases hm with ⟨m1, m2⟩ | ⟨N', J', rfl, rfl, m1, m8, k1, -⟩
    · exact x2.trans m2.symm
    · rcases x1 with x1 | ⟨N, e, p1, p8, x1⟩
      · exact absurd (wi_lo m1 m8) x1
      · have e3 : N' = N := n_eq e (by omega) (by omega)
        subst e3
        exact absurd ((wi_J m1 m8).mpr (in_J k1 m8)) x1
  · rcases hm with ⟨m1, m2⟩ | ⟨N', J', e1, e2, m1, m8, k1, hm⟩
    · rcases m1 with m1 | ⟨N', e, p8, m1⟩
      · exact absurd (wi_lo n1 n8) m1
      · have e3 : N = N' := n_eq e (by omega) (by omega)
        subst e3
        exact absurd (in_J j1 n8) m1
    · have q1 : N = N' := n_eq e1 (by omega) (by omega)
      have q2 : J = J' := n_eq e2 (by omega) (by omega)
      subst q1
      subst q2
      rw [sp_eq hI hT hA] at hm
      rcases hx with ⟨x1, x2⟩ | ⟨x1, x2⟩
      · rcases hm with ⟨y1, y2⟩ | ⟨y1, -⟩
        · exact x2.trans y2.symm
        · exact absurd x1 y1
      · rcases hm with ⟨y1, -⟩ | ⟨-, y2⟩
        · exact absurd y1 x1
        · obtain ⟨Q, hQ⟩ := exQ (fun w => tuP (rdF (eX 10)) (lF w) N ∧ ahA (lF w) N)
          obtain ⟨f, x3⟩ := x2 Q hQ
          obtain ⟨k, hk, h1, h2, h3, h4⟩ := rng_rel (f := f) hI hTX hT hA hE hP n1 n8 hQ (hR N)
          rw [x3, y2]
          unfold pickS pickR
          rw [h1, h2]
          by_cases k0 : nI k = 0
          · rw [if_pos k0, if_pos k0]
          · rw [if_neg k0, if_neg k0]
            rcases h4 with h4 | h4
            · exact absurd (by rw [h4]; rfl) k0
            · exact h4 J j1
/-! growth -/
theorem i64_mulB {a b : Int64} (h1 : -9000000000000000000 ≤ a.toInt * b.toInt) (h2 : a.toInt * b.toInt ≤ 9000000000000000000) : (a * b).toInt = a.toInt * b.toInt := by
  rw [Int64.toInt_mul]
  exact Int.bmod_eq_of_le (by omega) (by omega)
theorem pw_i {A : Nat} (hA : A ≤ 9) : ∀ k : Nat, k ≤ 7 → (pwR (nI A).toInt64 k).toInt = ((A ^ k : Nat) : Int) ∧ A ^ k ≤ 4782969 := by
  intro k
  induction k with
  | zero => intro _; exact ⟨by show (1 : Int64).toInt = 1; decide, by rw [Nat.pow_zero]; omega⟩
  | succ k ih =>
    intro hk
    obtain ⟨h1, h2⟩ := ih (by omega)
    have h3 : A ^ (k + 1) ≤ 9 ^ 7 := Nat.le_trans (Nat.pow_le_pow_left hA _) (Nat.pow_le_pow_right (by omega) hk)
    have h4 : (9 : Nat) ^ 7 = 4782969 := by decide
    have e : ((nI A).toInt64).toInt = (A : Int) := by rw [Int32.toInt_toInt64]; exact nI_toInt (by omega)
    have e2 : ((A ^ (k + 1) : Nat) : Int) = ((A ^ k : Nat) : Int) * (A : Int) := by rw [Nat.pow_succ, Int.natCast_mul]
    have q : (pwR (nI A).toInt64 k * (nI A).toInt64).toInt = (pwR (nI A).toInt64 k).toInt * ((nI A).toInt64).toInt := i64_mulB (by rw [h1, e, ← e2]; omega) (by rw [h1, e, ← e2]; omega)
    refine ⟨?_, by omega⟩
    show (pwR (nI A).toInt64 k * (nI A).toInt64).toInt = _
    rw [q, h1, e, e2]
theorem mx_l {f : List Nat → Int64} {P : List Nat → Prop} [DecidablePred P] : ∀ (L : List (List Nat)) (s : Int64), s.toInt ≤ (List.foldl (fun s w => if P w then maxL s (f w) else s) s L).toInt ∧ (∀ w, w ∈ L → P w → (f w).toInt ≤ (List.foldl (fun s w => if P w then maxL s (f w) else s) s L).toInt) ∧ (List.foldl (fun s w => if P w then maxL s (f w) else s) s L = s ∨ ∃ w, w ∈ L ∧ P w ∧ List.foldl (fun s w => if P w then maxL s (f w) else s) s L = f w) := by
  intro L
  induction L with
  | nil => intro s; exact ⟨Int.le_refl _, fun w h => absurd h List.not_mem_nil, Or.inl rfl⟩
  | cons u L ih =>
    intro s
    have key : s.toInt ≤ (if P u then maxL s (f u) else s).toInt ∧ (P u → (f u).toInt ≤ (if P u then maxL s (f u) else s).toInt) ∧ ((if P u then maxL s (f u) else s) = s ∨ (P u ∧ (if P u then maxL s (f u) else s) = f u)) := by
      by_cases p : P u
      · rw [if_pos p]
        unfold maxL
        by_cases c : f u < s
        · rw [if_pos c]
          have h9 := Int64.lt_iff_toInt_lt.mp c
          exact ⟨Int.le_refl _, fun _ => by omega, Or.inl rfl⟩
        · rw [if_neg c]
          have h9 : ¬ (f u).toInt < s.toInt := fun q => c (Int64.lt_iff_toInt_lt.mpr q)
          exact ⟨by omega, fun _ => Int.le_refl _, Or.inr ⟨p, rfl⟩⟩
      · rw [if_neg p]
        exact ⟨Int.le_refl _, fun q => absurd q p, Or.inl rfl⟩
    obtain ⟨k1, k2, k3⟩ := key
    obtain ⟨h1, h2, h3⟩ := ih (if P u then maxL s (f u) else s)
    refine ⟨Int.le_trans k1 h1, fun w hw pw => ?_, ?_⟩
    · rcases List.mem_cons.mp hw with e | e
      · subst e; exact Int.le_trans (k2 pw) h1
      · exact h2 w e pw
    · rcases h3 with e | ⟨w, a, b, c⟩
      · rcases k3 with e' | ⟨p, e'⟩
        · exact Or.inl (e.trans e')
        · exact Or.inr ⟨u, List.mem_cons_self, p, e.trans e'⟩
      · exact Or.inr ⟨w, List.mem_cons_of_mem _ a, b, c⟩
theorem fold_c {α β : Type} {f g : β → α → β} : ∀ (L : List α) (s : β), (∀ s w, w ∈ L → f s w = g s w) → List.foldl f s L = List.foldl g s L := by
  intro L
  induction L with
  | nil => intro s _; rfl
  | cons u L ih =>
    intro s h
    show List.foldl f (f s u) L = List.foldl g (g s u) L
    rw [h s u List.mem_cons_self]
    exact ih _ (fun s w hw => h s w (List.mem_cons_of_mem _ hw))
/-- products without a modulus, at most seven letters -/
theorem pw_7 {cy : Nat → ClassId} {cs : List Nat} {ad : Nat → Nat} {F : Nat → Nat → Int32} {eX eM : Nat → va_E} {w : List Nat} {n : Nat} (hI : SX cy cs ad eX) (hTX : TXF cy cs ad eX F) (hE : ER F eX eM) (hm : mX eX = 0) (hn : n ≤ 7) (hw : ∀ x, x < n → w.getD x 0 < kX eX) : (nmW (dX eX) (mX eX) n (rdF (eM 1)) w).toInt ≤ 31381059609 ∧ 0 ≤ (absR (trW (dX eX) (mX eX) n (rdF (eM 1)) w)).toInt ∧ (absR (trW (dX eX) (mX eX) n (rdF (eM 1)) w)).toInt ≤ 31381059609 := by
  obtain ⟨cn, d, mm, e1, hcn, hd2, hd3, hmm⟩ := get_T hI
  have x4 : rdI (eX 1) 4 = nI cn := by rw [e1]; rfl
  have x5 : rdI (eX 1) 5 = nI d := by rw [e1]; rfl
  have ek : kX eX = cn := by unfold kX; rw [x4]; exact nI_clamp (by omega)
  have ed : dX eX = d := by unfold dX; rw [x5]; exact nI_clamp (by omega)
  have c5 : (nI d).toNatClampNeg = d := nI_clamp (by omega)
  rw [ed, hm]
  rw [ek] at hw
  have hF : ∀ x, x < n → ∀ i, i < d * d → F (w.getD x 0) i = rdF (eM 1) (9 * w.getD x 0 + i) := fun x hx i hi => hE _ i (by rw [x4, nI_toInt (by omega)]; have := hw x hx; omega) (by rw [x5, c5]; exact hi)
  have hb : ∀ x, x < n → ∀ i, i < d * d → wi (F (w.getD x 0) i) (-9) 9 := fun x hx i hi => (hTX _ d hd3 x5 (by rw [x4, nI_toInt (by omega)]; have := hw x hx; omega)).2 i hi
  have m9 : (9 : Int32).toInt = 9 := by decide
  have n9 : (-9 : Int32).toInt = -9 := by decide
  have hE9 : ∀ x, x < n → ∀ i, i < d * d → -9 ≤ (rdF (eM 1) (9 * w.getD x 0 + i)).toInt ∧ (rdF (eM 1) (9 * w.getD x 0 + i)).toInt ≤ 9 := fun x hx i hi => by
    rw [← hF x hx i hi]
    have h9 := hb x hx i hi
    obtain ⟨h8, h7⟩ := h9
    exact ⟨by omega, by omega⟩
  have hp : (27 ^ n : Nat) ≤ 27 ^ 7 := Nat.pow_le_pow_right (by omega) hn
  have h27 : (27 ^ 7 : Nat) = 10460353203 := by decide
  have key : ∀ i, i < d * d → -(10460353203 : Int) ≤ (prM d 0 (rdF (eM 1)) (fun x => w.getD x 0) n i).toInt ∧ (prM d 0 (rdF (eM 1)) (fun x => w.getD x 0) n i).toInt ≤ 10460353203 := by
    intro i hi
    have b := prM_b (l := fun x => w.getD x 0) (N := n) hd2 hd3 hE9 n (Nat.le_refl _) (by omega) i hi
    omega
  have b := normR_b hd3 (B := 10460353203) (by omega) (by omega) key d (Nat.le_refl _)
  have t := sumTo_b (f := fun i => prM d 0 (rdF (eM 1)) (fun x => w.getD x 0) n (d * i + i)) (B := 10460353203) (by omega) (by omega) d hd3 (fun z hz => key _ (rc_lt3 hz hz))
  have t2 := absR_b (x := trW d 0 n (rdF (eM 1)) w) (B := 31381059609) (by have h9 : -(10460353203 * (d : Int)) ≤ (trW d 0 n (rdF (eM 1)) w).toInt := t.1; omega) (by have h9 : (trW d 0 n (rdF (eM 1)) w).toInt ≤ 10460353203 * (d : Int) := t.2; omega) (by omega)
  exact ⟨by have h9 : (nmW d 0 n (rdF (eM 1)) w).toInt ≤ 10460353203 * 3 := b.2; omega, t2.1, t2.2⟩
theorem mulC {x : Int64} {P : Nat} {p : Int64} (hp : p.toInt = (P : Int)) (hP : P ≤ 4782969) (h1 : -1 ≤ x.toInt) (h2 : x.toInt ≤ 31381059609) : (x * p).toInt = x.toInt * (P : Int) := by
  have a1 : x.toInt * (P : Int) ≤ 31381059609 * (P : Int) := Int.mul_le_mul_of_nonneg_right h2 (by omega)
  have a2 : -1 * (P : Int) ≤ x.toInt * (P : Int) := Int.mul_le_mul_of_nonneg_right h1 (by omega)
  rw [i64_mulB (by rw [hp]; omega) (by rw [hp]; omega), hp]
theorem XP_iff {cy : Nat → ClassId} {cs : List Nat} {ad : Nat → Nat} {F : Nat → Nat → Int32} {eX eM : Nat → va_E} {A B k : Nat} (hI : SX cy cs ad eX) (hTX : TXF cy cs ad eX F) (hT : T1 eX eM) (hA : AR eX eM) (hE : ER F eX eM) (hP : RWP F eX) (hm : mX eX = 0) (hA9 : A ≤ 9) (hB9 : B ≤ 9) (hk1 : 1 ≤ k) (hk : k ≤ 7) : XP9 eX (nI A) (nI B) k ↔ ∃ w, w ∈ W9 eM k ∧ GP9 eM A B k w := by
  have h6 := (kX_6 hI).1
  obtain ⟨cn, d, mm, e1, hcn, hd2, hd3, hmm⟩ := get_T hI
  have x5 : rdI (eX 1) 5 = nI d := by rw [e1]; rfl
  have ed : dX eX = d := by unfold dX; rw [x5]; exact nI_clamp (by omega)
  obtain ⟨pa, pa9⟩ := pw_i hA9 k hk
  obtain ⟨pb, pb9⟩ := pw_i hB9 k hk
  have hW : W9 eM k = wds (kX eX) (aX eX) k none := wd_eq hI hT hA
  have hmem := fun w (hw : w ∈ wds (kX eX) (aX eX) k none) => wds_mem k none w hw
  have hv := fun w (hw : w ∈ wds (kX eX) (aX eX) k none) => pw_eq (eM := eM) hI hTX hT hE hP hk1 (show k ≤ 8 by omega) (hmem w hw).2.1
  have hb := fun w (hw : w ∈ wds (kX eX) (aX eX) k none) => pw_7 (eM := eM) hI hTX hE hm hk (hmem w hw).2.1
  -- the wide side
  have wd : ((rdI (eX 1) 5).toInt64 * pwR (nI A).toInt64 k).toInt = (d : Int) * ((A ^ k : Nat) : Int) := by
    have e5 : ((rdI (eX 1) 5).toInt64).toInt = (d : Int) := by rw [x5, Int32.toInt_toInt64]; exact nI_toInt (by omega)
    rw [mulC pa pa9 (by omega) (by omega), e5]
  -- turnable
  have tu : ∀ w, w ∈ wds (kX eX) (aX eX) k none → (rdF (eX 10) ((lF w (k - 1)).toNatClampNeg * 6 + (lF w 0).toNatClampNeg) = 1 ↔ rdF (eM 2) (6 * w.getD (k - 1) 0 + w.getD 0 0) = 0) := fun w hw => by
    have m2 := (hmem w hw).2.1
    have a1 := m2 (k - 1) (by omega)
    have a2 := m2 0 (by omega)
    rw [show (lF w (k - 1)).toNatClampNeg = w.getD (k - 1) 0 from nI_clamp (by omega), show (lF w 0).toNatClampNeg = w.getD 0 0 from nI_clamp (by omega)]
    exact AR_10 hA (by omega) (by omega)
  have mx := mx_l (f := fun w => absL (trX (dX eX) (mX eX) k (rX eX) w)) (P := fun w => rdF (eX 10) ((lF w (k - 1)).toNatClampNeg * 6 + (lF w 0).toNatClampNeg) = 1) (wds (kX eX) (aX eX) k none) (-1)
  have eT : TF9 eX k = List.foldl (fun s w => if rdF (eX 10) ((lF w (k - 1)).toNatClampNeg * 6 + (lF w 0).toNatClampNeg) = 1 then maxL s (absL (trX (dX eX) (mX eX) k (rX eX) w)) else s) (-1) (wds (kX eX) (aX eX) k none) := rfl
  rw [← eT] at mx
  obtain ⟨m1, m2, m3⟩ := mx
  have f1 : (-1 : Int64).toInt = -1 := by decide
  rw [f1] at m1
  have tw : ∀ w, w ∈ wds (kX eX) (aX eX) k none → absL (trX (dX eX) (mX eX) k (rX eX) w) = absR (trW (dX eX) (mX eX) k (rdF (eM 1)) w) := fun w hw => by rw [abs_LR, (hv w hw).2.2.1]
  have hub : (TF9 eX k).toInt ≤ 31381059609 := by
    rcases m3 with e | ⟨w, a, -, e⟩
    · rw [e, f1]; omega
    · rw [e, tw w a]; exact (hb w a).2.2
  have gp : ∀ w, GP9 eM A B k w ↔ (rdF (eM 2) (6 * w.getD (k - 1) 0 + w.getD 0 0) = 0 ∧ (rdI (eX 1) 5).toInt64 * pwR (nI A).toInt64 k < absR (trW (dX eX) (mX eX) k (rdF (eM 1)) w) * pwR (nI B).toInt64 k) := fun w => by
    unfold GP9
    rw [← hT.2.1, ← hT.2.2]
    rfl
  rw [hW]
  constructor
  · intro q
    have q1 := Int64.lt_iff_toInt_lt.mp q
    rw [wd, mulC pb pb9 m1 hub] at q1
    rcases m3 with e | ⟨w, a, b, e⟩
    · rw [e, f1] at q1
      have z : 0 ≤ (d : Int) * ((A ^ k : Nat) : Int) := Int.mul_nonneg (by omega) (by omega)
      omega
    · refine ⟨w, a, (gp w).mpr ⟨(tu w a).mp b, Int64.lt_iff_toInt_lt.mpr ?_⟩⟩
      rw [wd, mulC pb pb9 (by have := (hb w a).2.1; omega) (hb w a).2.2, ← tw w a, ← e]
      exact q1
  · rintro ⟨w, a, g⟩
    obtain ⟨g1, g2⟩ := (gp w).mp g
    have q1 := Int64.lt_iff_toInt_lt.mp g2
    rw [wd, mulC pb pb9 (by have := (hb w a).2.1; omega) (hb w a).2.2] at q1
    have le := m2 w a ((tu w a).mpr g1)
    rw [tw w a] at le
    have q2 := Int.mul_le_mul_of_nonneg_right le (show (0 : Int) ≤ ((B ^ k : Nat) : Int) by omega)
    refine Int64.lt_iff_toInt_lt.mpr ?_
    rw [wd, mulC pb pb9 m1 hub]
    omega
theorem mg_l {f : List Nat → Int64} : ∀ (L : List (List Nat)) (s : Int64), s.toInt ≤ (List.foldl (fun s w => if s < f w then f w else s) s L).toInt ∧ (∀ w, w ∈ L → (f w).toInt ≤ (List.foldl (fun s w => if s < f w then f w else s) s L).toInt) ∧ (List.foldl (fun s w => if s < f w then f w else s) s L = s ∨ ∃ w, w ∈ L ∧ List.foldl (fun s w => if s < f w then f w else s) s L = f w) := by
  intro L
  induction L with
  | nil => intro s; exact ⟨Int.le_refl _, fun w h => absurd h List.not_mem_nil, Or.inl rfl⟩
  | cons u L ih =>
    intro s
    have key : s.toInt ≤ (if s < f u then f u else s).toInt ∧ (f u).toInt ≤ (if s < f u then f u else s).toInt ∧ ((if s < f u then f u else s) = s ∨ (if s < f u then f u else s) = f u) := by
      by_cases c : s < f u
      · rw [if_pos c]
        have h9 := Int64.lt_iff_toInt_lt.mp c
        exact ⟨by omega, Int.le_refl _, Or.inr rfl⟩
      · rw [if_neg c]
        have h9 : ¬ s.toInt < (f u).toInt := fun q => c (Int64.lt_iff_toInt_lt.mpr q)
        exact ⟨Int.le_refl _, by omega, Or.inl rfl⟩
    obtain ⟨k1, k2, k3⟩ := key
    obtain ⟨h1, h2, h3⟩ := ih (if s < f u then f u else s)
    refine ⟨Int.le_trans k1 h1, fun w hw => ?_, ?_⟩
    · rcases List.mem_cons.mp hw with e | e
      · subst e; exact Int.le_trans k2 h1
      · exact h2 w e
    · rcases h3 with e | ⟨w, a, c⟩
      · rcases k3 with e' | e'
        · exact Or.inl (e.trans e')
        · exact Or.inr ⟨u, List.mem_cons_self, e.trans e'⟩
      · exact Or.inr ⟨w, List.mem_cons_of_mem _ a, c⟩
theorem XN_iff {cy : Nat → ClassId} {cs : List Nat} {ad : Nat → Nat} {F : Nat → Nat → Int32} {eX eM : Nat → va_E} {A B k : Nat} (hI : SX cy cs ad eX) (hTX : TXF cy cs ad eX F) (hT : T1 eX eM) (hA : AR eX eM) (hE : ER F eX eM) (hP : RWP F eX) (hm : mX eX = 0) (hA9 : A ≤ 9) (hB9 : B ≤ 9) (hk1 : 1 ≤ k) (hk : k ≤ 7) : XN9 eX (nI A) (nI B) k ↔ ∀ w, w ∈ W9 eM k → GN9 eM A B k w := by
  obtain ⟨pa, pa9⟩ := pw_i hA9 k hk
  obtain ⟨pb, pb9⟩ := pw_i hB9 k hk
  have hW : W9 eM k = wds (kX eX) (aX eX) k none := wd_eq hI hT hA
  have hl : (wds (kX eX) (aX eX) k none).length = CNX eX k := by
    obtain ⟨q, rfl⟩ : ∃ q, k = q + 1 := ⟨k - 1, by omega⟩
    exact len_all
  have hmem := fun w (hw : w ∈ wds (kX eX) (aX eX) k none) => wds_mem k none w hw
  have hv := fun w (hw : w ∈ wds (kX eX) (aX eX) k none) => pw_eq (eM := eM) hI hTX hT hE hP hk1 (show k ≤ 8 by omega) (hmem w hw).2.1
  have hb := fun w (hw : w ∈ wds (kX eX) (aX eX) k none) => pw_7 (eM := eM) hI hTX hE hm hk (hmem w hw).2.1
  obtain ⟨m1, m2, m3⟩ := mg_l (f := fun w => nmX (dX eX) (mX eX) k (rX eX) w) (wds (kX eX) (aX eX) k none) (-1)
  have f1 : (-1 : Int64).toInt = -1 := by decide
  rw [f1] at m1
  have gn : ∀ w, GN9 eM A B k w ↔ nmW (dX eX) (mX eX) k (rdF (eM 1)) w * pwR (nI B).toInt64 k < pwR (nI A).toInt64 k := fun w => by
    unfold GN9
    rw [← hT.2.1, ← hT.2.2]
    rfl
  have gf : GF9 eX k = List.foldl (fun s w => if s < nmX (dX eX) (mX eX) k (rX eX) w then nmX (dX eX) (mX eX) k (rX eX) w else s) (-1) (wds (kX eX) (aX eX) k none) := rfl
  rw [← gf] at m1 m2 m3
  have hub : (GF9 eX k).toInt ≤ 31381059609 := by
    rcases m3 with e | ⟨w, a, e⟩
    · rw [e, f1]; omega
    · rw [e, (hv w a).2.1]; exact (hb w a).1
  rw [hW]
  constructor
  · intro q w hw
    rcases q with q | q
    · rw [← hl] at q
      rw [List.length_eq_zero_iff.mp q] at hw
      exact absurd hw List.not_mem_nil
    · refine (gn w).mpr (Int64.lt_iff_toInt_lt.mpr ?_)
      have q1 := Int64.lt_iff_toInt_lt.mp q
      rw [mulC pb pb9 m1 hub, pa] at q1
      have le := m2 w hw
      rw [(hv w hw).2.1] at le
      have q2 := Int.mul_le_mul_of_nonneg_right le (show (0 : Int) ≤ ((B ^ k : Nat) : Int) by omega)
      rw [mulC pb pb9 (by have := (hv w hw).2.2.2.1; omega) (hb w hw).1, pa]
      omega
  · intro q
    by_cases c : CNX eX k = 0
    · exact Or.inl c
    · refine Or.inr (Int64.lt_iff_toInt_lt.mpr ?_)
      rcases m3 with e | ⟨w, a, e⟩
      · exfalso
        cases hL : wds (kX eX) (aX eX) k none with
        | nil => rw [hL] at hl; exact c hl.symm
        | cons u L =>
          have hu : u ∈ wds (kX eX) (aX eX) k none := by rw [hL]; exact List.mem_cons_self
          have le := m2 u hu
          rw [(hv u hu).2.1, e, f1] at le
          have := (hv u hu).2.2.2.1
          omega
      · have q1 := Int64.lt_iff_toInt_lt.mp ((gn w).mp (q w a))
        rw [e, (hv w a).2.1]
        exact q1
theorem wi_19 {A : Nat} (h1 : 1 ≤ A) (h9 : A ≤ 9) : wi (nI A) 1 9 := ⟨by rw [nI_toInt (by omega), show (1 : Int32).toInt = 1 by decide]; omega, by rw [nI_toInt (by omega), show (9 : Int32).toInt = 9 by decide]; omega⟩
theorem wi_17 {A : Nat} (h1 : 1 ≤ A) (h9 : A ≤ 7) : wi (nI A) 1 7 := ⟨by rw [nI_toInt (by omega), show (1 : Int32).toInt = 1 by decide]; omega, by rw [nI_toInt (by omega), show (7 : Int32).toInt = 7 by decide]; omega⟩
theorem growth_rel {cy : Nat → ClassId} {cs : List Nat} {ad : Nat → Nat} {F : Nat → Nat → Int32} {eX eM : Nat → va_E} {a b n r r' : Int32} (hI : SX cy cs ad eX) (hTX : TXF cy cs ad eX F) (hT : T1 eX eM) (hA : AR eX eM) (hE : ER F eX eM) (hP : RWP F eX) (hx : XGW a b n r eX) (hm : RGW a b n r' eM) : r = r' := by
  rcases hx with ⟨x1, x2⟩ | ⟨A, B, N, rfl, rfl, rfl, a1, a9, b1, b9, n1, n7, hx⟩
  · rcases hm with ⟨m1, m2⟩ | ⟨A, B, N, rfl, rfl, rfl, a1, a9, b1, b9, n1, n7, -⟩
    · exact x2.trans m2.symm
    · rcases x1 with x1 | x1 | x1
      · exact absurd (wi_19 a1 a9) x1
      · exact absurd (wi_19 b1 b9) x1
      · exact absurd (wi_17 n1 n7) x1
  · rcases hm with ⟨m1, m2⟩ | ⟨A', B', N', e1, e2, e3, -, c9, -, d9, -, o7, hm⟩
    · rcases m1 with m1 | m1 | m1
      · exact absurd (wi_19 a1 a9) m1
      · exact absurd (wi_19 b1 b9) m1
      · exact absurd (wi_17 n1 n7) m1
    · have q1 : A = A' := n_eq e1 (by omega) (by omega)
      have q2 : B = B' := n_eq e2 (by omega) (by omega)
      have q3 : N = N' := n_eq e3 (by omega) (by omega)
      subst q1
      subst q2
      subst q3
      rw [← hT.2.2, ← hT.1] at hm
      rcases hx with ⟨x1, x2⟩ | ⟨x1, hx⟩
      · rcases hm with ⟨y1, y2⟩ | ⟨y1, -⟩
        · exact x2.trans y2.symm
        · exact absurd x1 (fun q => q.elim y1.1 y1.2)
      · rcases hm with ⟨y1, -⟩ | ⟨-, hm⟩
        · exact absurd y1 (fun q => q.elim x1.1 x1.2)
        · have hm0 : mX eX = 0 := by
            obtain ⟨cn, d, mm, w1, hcn, hd2, hd3, hmm⟩ := get_T hI
            have x6 : rdI (eX 1) 6 = nI mm := by rw [w1]; rfl
            have h9 := x1.1
            rw [x6, nI_toInt (by omega)] at h9
            unfold mX
            rw [x6, nI_clamp (by omega)]
            omega
          rcases hx with ⟨⟨k, k1, k2, k3⟩, x2⟩ | ⟨xs, hx⟩
          · rcases hm with ⟨-, y2⟩ | ⟨ys, -⟩
            · exact x2.trans y2.symm
            · exact absurd (by rw [sp_eq hI hT hA]; exact k3) (ys k k1 k2)
          · rcases hm with ⟨⟨k, k1, k2, k3⟩, -⟩ | ⟨-, hm⟩
            · rw [sp_eq hI hT hA] at k3
              exact absurd k3 (xs k k1 k2)
            · have iP := fun k (k1 : 1 ≤ k) (k2 : k ≤ N) => XP_iff (A := A) (B := B) (k := k) hI hTX hT hA hE hP hm0 a9 b9 k1 (by omega)
              have iN := fun k (k1 : 1 ≤ k) (k2 : k ≤ N) => XN_iff (A := A) (B := B) (k := k) hI hTX hT hA hE hP hm0 a9 b9 k1 (by omega)
              rcases hx with ⟨x2, k, k1, k2, k3⟩ | ⟨xn, hx⟩
              · rcases hm with ⟨y2, -⟩ | ⟨yn, -⟩
                · exact x2.trans y2.symm
                · obtain ⟨w, w1, w2⟩ := (iP k k1 k2).mp k3
                  exact absurd w2 (yn k w k1 k2 w1)
              · rcases hm with ⟨y2, k, w, k1, k2, w1, w2⟩ | ⟨yn, hm⟩
                · exact absurd ((iP k k1 k2).mpr ⟨w, w1, w2⟩) (xn k k1 k2)
                · rcases hx with ⟨x2, k, k1, k2, k3⟩ | ⟨x2, xa⟩
                  · rcases hm with ⟨y2, -⟩ | ⟨-, ya⟩
                    · exact x2.trans y2.symm
                    · exact absurd ((iN k k1 k2).mp k3) (ya k k1 k2)
                  · rcases hm with ⟨-, k, k1, k2, k3⟩ | ⟨y2, -⟩
                    · exact absurd ((iN k k1 k2).mpr k3) (xa k k1 k2)
                    · exact x2.trans y2.symm
