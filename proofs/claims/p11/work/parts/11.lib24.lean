/-! lengths: the allowed words, in their order -/
def sumN (g : Nat → Nat) : Nat → Nat
  | 0 => 0
  | n + 1 => sumN g n + g n
theorem sumN_c {f g : Nat → Nat} : ∀ n : Nat, (∀ z, z < n → f z = g z) → sumN f n = sumN g n := by
  intro n
  induction n with
  | zero => intro _; rfl
  | succ n ih =>
    intro h
    show sumN f n + f n = sumN g n + g n
    rw [ih (fun z hz => h z (by omega)), h n (by omega)]
/-- how many words of k + 1 letters begin with t -/
def bw (K : Nat) (al : Nat → Nat → Bool) : Nat → Nat → Nat
  | 0, _ => 1
  | k + 1, t => sumN (fun u => if al t u then bw K al k u else 0) K
def okk (al : Nat → Nat → Bool) : Option Nat → Nat → Bool
  | none, _ => true
  | some a, t => al a t
/-- the allowed ways on, of k letters, behind p -/
def wds (K : Nat) (al : Nat → Nat → Bool) : Nat → Option Nat → List (List Nat)
  | 0, _ => [[]]
  | k + 1, p => (List.range K).flatMap (fun t => if okk al p t then (wds K al k (some t)).map (t :: ·) else [])
/-- the same, letters below j first -/
def wdj (K : Nat) (al : Nat → Nat → Bool) (k : Nat) (p : Option Nat) (j : Nat) : List (List Nat) := (List.range j).flatMap (fun t => if okk al p t then (wds K al k (some t)).map (t :: ·) else [])
theorem wdj_K {K : Nat} {al : Nat → Nat → Bool} {k : Nat} {p : Option Nat} : wdj K al k p K = wds K al (k + 1) p := rfl
theorem wdj_0 {K : Nat} {al : Nat → Nat → Bool} {k : Nat} {p : Option Nat} : wdj K al k p 0 = [] := rfl
theorem wdj_s {K : Nat} {al : Nat → Nat → Bool} {k : Nat} {p : Option Nat} {j : Nat} : wdj K al k p (j + 1) = wdj K al k p j ++ (if okk al p j then (wds K al k (some j)).map (j :: ·) else []) := by
  unfold wdj
  rw [List.range_succ, List.flatMap_append]
  simp only [List.flatMap_cons, List.flatMap_nil, List.append_nil]
theorem len_wdj {K : Nat} {al : Nat → Nat → Bool} {k : Nat} {p : Option Nat} (h : ∀ t, (wds K al k (some t)).length = bw K al k t) : ∀ j : Nat, (wdj K al k p j).length = sumN (fun t => if okk al p t then bw K al k t else 0) j := by
  intro j
  induction j with
  | zero => rfl
  | succ j ih =>
    rw [wdj_s, List.length_append, ih]
    show _ = sumN (fun t => if okk al p t then bw K al k t else 0) j + (if okk al p j then bw K al k j else 0)
    by_cases e : okk al p j = true
    · rw [if_pos e, if_pos e, List.length_map, h]
    · rw [if_neg e, if_neg e]
      rfl
theorem len_wds {K : Nat} {al : Nat → Nat → Bool} : ∀ (k : Nat) (t : Nat), (wds K al k (some t)).length = bw K al k t := by
  intro k
  induction k with
  | zero => intro t; rfl
  | succ k ih =>
    intro t
    rw [← wdj_K, len_wdj ih]
    rfl
theorem len_all {K : Nat} {al : Nat → Nat → Bool} {k : Nat} : (wds K al (k + 1) none).length = sumN (fun t => bw K al k t) K := by
  rw [← wdj_K, len_wdj (len_wds k)]
  exact sumN_c K (fun t _ => if_pos rfl)
theorem wds_nil {K : Nat} {al : Nat → Nat → Bool} {k t : Nat} (h : bw K al k t = 0) : wds K al k (some t) = [] := List.length_eq_zero_iff.mp (by rw [len_wds, h])
/-! counted from the other end -/
def ew (K : Nat) (al : Nat → Nat → Bool) : Nat → Nat → Nat
  | 0, _ => 1
  | k + 1, t => sumN (fun u => if al u t then ew K al k u else 0) K
theorem sumN_add {f g : Nat → Nat} : ∀ n : Nat, sumN (fun z => f z + g z) n = sumN f n + sumN g n := by
  intro n
  induction n with
  | zero => rfl
  | succ n ih =>
    show sumN (fun z => f z + g z) n + (f n + g n) = sumN f n + f n + (sumN g n + g n)
    rw [ih]
    omega
theorem sumN_0 : ∀ n : Nat, sumN (fun _ => 0) n = 0 := by
  intro n
  induction n with
  | zero => rfl
  | succ n ih =>
    show sumN (fun _ => 0) n + 0 = 0
    rw [ih]
theorem sumN_mul {f : Nat → Nat} {c : Nat} : ∀ n : Nat, sumN (fun z => c * f z) n = c * sumN f n := by
  intro n
  induction n with
  | zero => rfl
  | succ n ih =>
    show sumN (fun z => c * f z) n + c * f n = c * (sumN f n + f n)
    rw [ih, Nat.mul_add]
theorem sumN_swap {f : Nat → Nat → Nat} {m : Nat} : ∀ n : Nat, sumN (fun a => sumN (fun b => f a b) m) n = sumN (fun b => sumN (fun a => f a b) n) m := by
  intro n
  induction n with
  | zero => exact (sumN_0 m).symm
  | succ n ih =>
    show sumN (fun a => sumN (fun b => f a b) m) n + sumN (fun b => f n b) m = sumN (fun b => sumN (fun a => f a b) n + f n b) m
    rw [ih, sumN_add]
theorem T_step {K : Nat} {al : Nat → Nat → Bool} {k j : Nat} : sumN (fun b => ew K al (k + 1) b * bw K al j b) K = sumN (fun a => ew K al k a * bw K al (j + 1) a) K := by
  have h1 : sumN (fun b => ew K al (k + 1) b * bw K al j b) K = sumN (fun b => sumN (fun a => if al a b then ew K al k a * bw K al j b else 0) K) K := sumN_c K (fun b _ => by
    show sumN (fun u => if al u b then ew K al k u else 0) K * bw K al j b = _
    rw [Nat.mul_comm, ← sumN_mul]
    exact sumN_c K (fun a _ => by
      by_cases e : al a b = true
      · rw [if_pos e, if_pos e, Nat.mul_comm]
      · rw [if_neg e, if_neg e, Nat.mul_zero]))
  have h2 : sumN (fun a => ew K al k a * bw K al (j + 1) a) K = sumN (fun a => sumN (fun b => if al a b then ew K al k a * bw K al j b else 0) K) K := sumN_c K (fun a _ => by
    show ew K al k a * sumN (fun u => if al a u then bw K al j u else 0) K = _
    rw [← sumN_mul]
    exact sumN_c K (fun b _ => by
      by_cases e : al a b = true
      · rw [if_pos e, if_pos e]
      · rw [if_neg e, if_neg e, Nat.mul_zero]))
  rw [h1, h2]
  exact (sumN_swap K).symm
theorem ends_eq {K : Nat} {al : Nat → Nat → Bool} : ∀ k j : Nat, sumN (fun b => ew K al k b * bw K al j b) K = sumN (fun a => bw K al (k + j) a) K := by
  intro k
  induction k with
  | zero =>
    intro j
    rw [Nat.zero_add]
    exact sumN_c K (fun b _ => by show 1 * _ = _; rw [Nat.one_mul])
  | succ k ih =>
    intro j
    rw [T_step, ih, show k + (j + 1) = k + 1 + j by omega]
theorem ends_all {K : Nat} {al : Nat → Nat → Bool} {k : Nat} : sumN (fun b => ew K al k b) K = sumN (fun a => bw K al k a) K := by
  have h := ends_eq (K := K) (al := al) k 0
  rw [Nat.add_zero] at h
  rw [← h]
  exact sumN_c K (fun b _ => by show _ = _ * 1; rw [Nat.mul_one])
theorem bw_le {K : Nat} {al : Nat → Nat → Bool} (hK : K ≤ 6) : ∀ (k t : Nat), bw K al k t ≤ 6 ^ k := by
  intro k
  induction k with
  | zero => intro t; exact Nat.le_refl _
  | succ k ih =>
    intro t
    have h : ∀ n : Nat, sumN (fun u => if al t u then bw K al k u else 0) n ≤ n * 6 ^ k := by
      intro n
      induction n with
      | zero => exact Nat.zero_le _
      | succ n ih2 =>
        show sumN (fun u => if al t u then bw K al k u else 0) n + (if al t n then bw K al k n else 0) ≤ _
        rw [Nat.add_mul, Nat.one_mul]
        have h9 : (if al t n then bw K al k n else 0) ≤ 6 ^ k := by
          by_cases e : al t n = true
          · rw [if_pos e]; exact ih n
          · rw [if_neg e]; exact Nat.zero_le _
        omega
    have h1 := h K
    have h2 : K * 6 ^ k ≤ 6 * 6 ^ k := Nat.mul_le_mul_right _ hK
    rw [Nat.pow_succ, Nat.mul_comm (6 ^ k) 6]
    show sumN (fun u => if al t u then bw K al k u else 0) K ≤ _
    omega
/-! what is left of the walk: behind the letters g 0 .. g (d - 1), letters from u on at d, then the rest above -/
def pre (g : Nat → Nat) (d : Nat) : List Nat := (List.range d).map g
def pv (g : Nat → Nat) : Nat → Option Nat
  | 0 => none
  | d + 1 => some (g d)
def lv9 (K : Nat) (al : Nat → Nat → Bool) (n : Nat) (g : Nat → Nat) (d u : Nat) : List (List Nat) := (List.range' u (K - u)).flatMap (fun t => if okk al (pv g d) t then (wds K al (n - d - 1) (some t)).map (fun w => pre g d ++ t :: w) else [])
def rem9 (K : Nat) (al : Nat → Nat → Bool) (n : Nat) (g : Nat → Nat) : Nat → Nat → List (List Nat)
  | 0, u => lv9 K al n g 0 u
  | d + 1, u => lv9 K al n g (d + 1) u ++ rem9 K al n g d (g d + 1)
theorem fm_c {α β : Type} {l : List α} {f g : α → List β} (h : ∀ a, a ∈ l → f a = g a) : l.flatMap f = l.flatMap g := congrArg List.flatten (List.map_congr_left h)
theorem lv9_end {K : Nat} {al : Nat → Nat → Bool} {n : Nat} {g : Nat → Nat} {d u : Nat} (h : K ≤ u) : lv9 K al n g d u = [] := by
  unfold lv9
  rw [show K - u = 0 by omega]
  rfl
theorem lv9_s {K : Nat} {al : Nat → Nat → Bool} {n : Nat} {g : Nat → Nat} {d u : Nat} (h : u < K) : lv9 K al n g d u = (if okk al (pv g d) u then (wds K al (n - d - 1) (some u)).map (fun w => pre g d ++ u :: w) else []) ++ lv9 K al n g d (u + 1) := by
  unfold lv9
  rw [show K - u = (K - (u + 1)) + 1 by omega, List.range'_succ, List.flatMap_cons]
theorem pre_c {g h : Nat → Nat} {d : Nat} (e : ∀ i, i < d → g i = h i) : pre g d = pre h d := List.map_congr_left (fun i hi => e i (List.mem_range.mp hi))
theorem pv_c {g h : Nat → Nat} {d : Nat} (e : ∀ i, i < d → g i = h i) : pv g d = pv h d := by
  cases d with
  | zero => rfl
  | succ d => exact congrArg some (e d (by omega))
theorem lv9_c {K : Nat} {al : Nat → Nat → Bool} {n : Nat} {g h : Nat → Nat} {d u : Nat} (e : ∀ i, i < d → g i = h i) : lv9 K al n g d u = lv9 K al n h d u := by
  unfold lv9
  rw [pre_c e, pv_c e]
theorem rem9_c {K : Nat} {al : Nat → Nat → Bool} {n : Nat} {g h : Nat → Nat} : ∀ (d u : Nat), (∀ i, i < d → g i = h i) → rem9 K al n g d u = rem9 K al n h d u := by
  intro d
  induction d with
  | zero => intro u e; exact lv9_c e
  | succ d ih =>
    intro u e
    show lv9 K al n g (d + 1) u ++ rem9 K al n g d (g d + 1) = lv9 K al n h (d + 1) u ++ rem9 K al n h d (h d + 1)
    rw [lv9_c e, e d (by omega), ih _ (fun i hi => e i (by omega))]
theorem rem9_step {K : Nat} {al : Nat → Nat → Bool} {n : Nat} {g : Nat → Nat} {d u : Nat} (h : u < K) : rem9 K al n g d u = (if okk al (pv g d) u then (wds K al (n - d - 1) (some u)).map (fun w => pre g d ++ u :: w) else []) ++ rem9 K al n g d (u + 1) := by
  cases d with
  | zero => exact lv9_s h
  | succ d =>
    show lv9 K al n g (d + 1) u ++ _ = _ ++ (lv9 K al n g (d + 1) (u + 1) ++ _)
    rw [lv9_s h, List.append_assoc]
/-- a letter that may not stand there -/
theorem rem9_no {K : Nat} {al : Nat → Nat → Bool} {n : Nat} {g : Nat → Nat} {d u : Nat} (h : u < K) (hn : okk al (pv g d) u = false) : rem9 K al n g d u = rem9 K al n g d (u + 1) := by
  rw [rem9_step h, hn]
  rfl
/-- the letters at d are through -/
theorem rem9_back {K : Nat} {al : Nat → Nat → Bool} {n : Nat} {g : Nat → Nat} {d u : Nat} (h : K ≤ u) : rem9 K al n g (d + 1) u = rem9 K al n g d (g d + 1) := by
  show lv9 K al n g (d + 1) u ++ _ = _
  rw [lv9_end h]
  rfl
theorem rem9_end {K : Nat} {al : Nat → Nat → Bool} {n : Nat} {g : Nat → Nat} {u : Nat} (h : K ≤ u) : rem9 K al n g 0 u = [] := lv9_end h
/-- the last letter of a word -/
theorem rem9_take {K : Nat} {al : Nat → Nat → Bool} {n : Nat} {g : Nat → Nat} {d u : Nat} (h : u < K) (ho : okk al (pv g d) u = true) (hd : d + 1 = n) : rem9 K al n g d u = (pre g d ++ [u]) :: rem9 K al n g d (u + 1) := by
  rw [rem9_step h, ho, show n - d - 1 = 0 by omega]
  rfl
theorem pre_s {g : Nat → Nat} {d : Nat} : pre g (d + 1) = pre g d ++ [g d] := by
  unfold pre
  rw [List.range_succ, List.map_append]
  rfl
/-- one letter deeper -/
theorem rem9_deep {K : Nat} {al : Nat → Nat → Bool} {n : Nat} {g h : Nat → Nat} {d u : Nat} (hu : u < K) (ho : okk al (pv g d) u = true) (hd : d + 1 < n) (e : ∀ i, i < d → h i = g i) (hh : h d = u) : rem9 K al n g d u = rem9 K al n h (d + 1) 0 := by
  show _ = lv9 K al n h (d + 1) 0 ++ rem9 K al n h d (h d + 1)
  rw [rem9_step hu, ho, hh, rem9_c (g := h) (h := g) d (u + 1) e]
  refine congrArg (· ++ rem9 K al n g d (u + 1)) ?_
  unfold lv9
  show (wds K al (n - d - 1) (some u)).map (fun w => pre g d ++ u :: w) = _
  rw [show n - d - 1 = (n - (d + 1) - 1) + 1 by omega, Nat.sub_zero]
  show ((List.range K).flatMap (fun t => if okk al (some u) t then (wds K al (n - (d + 1) - 1) (some t)).map (t :: ·) else [])).map _ = _
  rw [List.map_flatMap, ← List.range_eq_range']
  refine fm_c (fun t _ => ?_)
  have hp : pv h (d + 1) = some u := congrArg some hh
  rw [hp]
  by_cases q : okk al (some u) t = true
  · rw [if_pos q, if_pos q, List.map_map, pre_s, pre_c e, hh]
    refine List.map_congr_left (fun w _ => ?_)
    simp only [Function.comp, List.append_assoc, List.cons_append, List.nil_append]
  · rw [if_neg q, if_neg q]
    rfl
/-- from the start: all words -/
theorem rem9_all {K : Nat} {al : Nat → Nat → Bool} {n : Nat} {g : Nat → Nat} (hn : 1 ≤ n) : rem9 K al n g 0 0 = wds K al n none := by
  obtain ⟨k, rfl⟩ : ∃ k, n = k + 1 := ⟨n - 1, by omega⟩
  show lv9 K al (k + 1) g 0 0 = (List.range K).flatMap (fun t => if okk al none t then (wds K al k (some t)).map (t :: ·) else [])
  unfold lv9
  rw [Nat.sub_zero, ← List.range_eq_range']
  rfl
def alR (g : Nat → Int32) (a b : Nat) : Bool := decide (g (6 * a + b) = 0)
/-! counts as longs -/
def nL (n : Nat) : Int64 := Int64.ofNat n
theorem nL_toInt {n : Nat} (h : n < 2 ^ 63) : (nL n).toInt = n := Int64.toInt_ofNat_of_lt h
theorem WS_s {g : Nat → Nat} {u : Nat} {w : Int64} (h : w = nL (g u)) : nL (sumN g u) + w = nL (sumN g (u + 1)) := by
  rw [h]
  exact (Int64.ofNat_add _ _).symm
theorem ew_s {K : Nat} {al : Nat → Nat → Bool} {i t : Nat} (h : 1 ≤ i) : ew K al i t = sumN (fun u => if al u t then ew K al (i - 1) u else 0) K := by
  obtain ⟨q, rfl⟩ : ∃ q, i = q + 1 := ⟨i - 1, by omega⟩
  rfl
theorem bw_s {K : Nat} {al : Nat → Nat → Bool} {i t : Nat} (h : 1 ≤ i) : bw K al i t = sumN (fun u => if al t u then bw K al (i - 1) u else 0) K := by
  obtain ⟨q, rfl⟩ : ∃ q, i = q + 1 := ⟨i - 1, by omega⟩
  rfl
theorem sumN_le {g : Nat → Nat} {b : Nat} (h : ∀ z, g z ≤ b) : ∀ n : Nat, sumN g n ≤ n * b := by
  intro n
  induction n with
  | zero => exact Nat.zero_le _
  | succ n ih =>
    show sumN g n + g n ≤ (n + 1) * b
    have h9 := h n
    rw [Nat.add_mul, Nat.one_mul]
    omega
theorem cnt_le {K : Nat} {al : Nat → Nat → Bool} {k : Nat} (hK : K ≤ 6) (hk : k ≤ 7) : sumN (fun t => bw K al k t) K ≤ 1679616 := by
  have h1 := sumN_le (g := fun t => bw K al k t) (b := 6 ^ k) (fun z => bw_le hK k z) K
  have h2 : K * 6 ^ k ≤ 6 * 6 ^ 7 := Nat.mul_le_mul hK (Nat.pow_le_pow_right (by omega) hk)
  have h3 : 6 * 6 ^ 7 = 1679616 := by decide
  omega
theorem SP_iff {x : Int64} {K k : Nat} {al : Nat → Nat → Bool} (h : x = nL (sumN (fun b => ew K al k b) K)) (hK : K ≤ 6) (hk : k ≤ 7) : x.toInt = ((sumN (fun t => bw K al k t) K : Nat) : Int) := by
  rw [h, ends_all]
  exact nL_toInt (by have h9 := cnt_le (al := al) hK hk; omega)
