/-! products of words: the class's and the reference's -/
theorem i64_add {a b : Int64} (h1 : -4000000000000 ≤ a.toInt + b.toInt) (h2 : a.toInt + b.toInt ≤ 4000000000000) : (a + b).toInt = a.toInt + b.toInt := by
  rw [Int64.toInt_add]
  exact Int.bmod_eq_of_le (by omega) (by omega)
theorem i64_sub {a b : Int64} (h1 : -4000000000000 ≤ a.toInt - b.toInt) (h2 : a.toInt - b.toInt ≤ 4000000000000) : (a - b).toInt = a.toInt - b.toInt := by
  rw [Int64.toInt_sub]
  exact Int.bmod_eq_of_le (by omega) (by omega)
theorem i64_mul {a b : Int64} (h1 : -4000000000000 ≤ a.toInt * b.toInt) (h2 : a.toInt * b.toInt ≤ 4000000000000) : (a * b).toInt = a.toInt * b.toInt := by
  rw [Int64.toInt_mul]
  exact Int.bmod_eq_of_le (by omega) (by omega)
theorem M_toInt {m : Nat} (h : m ≤ 97) : ((nI m).toInt64).toInt = (m : Int) := by
  rw [Int32.toInt_toInt64, nI_toInt (by omega)]
theorem rem_t {v : Int64} {m : Nat} (h1 : 1 ≤ m) (h2 : m ≤ 97) (hv : -1000000000 ≤ v.toInt) (hv2 : v.toInt ≤ 1000000000) : (v - v / (nI m).toInt64 * (nI m).toInt64).toInt = v.toInt.tmod m := by
  have hM := M_toInt h2
  have n1 : (nI m).toInt64 ≠ -1 := fun q => by
    have h9 := congrArg Int64.toInt q
    rw [hM, show (-1 : Int64).toInt = -1 by decide] at h9
    omega
  have hd : (v / (nI m).toInt64).toInt = v.toInt.tdiv m := by rw [Int64.toInt_div_of_ne_right _ _ n1, hM]
  have ht := Int.tmod_add_tdiv_mul v.toInt m
  have l1 := Int.tmod_lt_of_pos v.toInt (b := m) (by omega)
  have l2 := Int.lt_tmod_of_pos v.toInt (b := m) (by omega)
  have hm : (v / (nI m).toInt64 * (nI m).toInt64).toInt = v.toInt.tdiv m * m := by
    rw [i64_mul (by rw [hd, hM]; omega) (by rw [hd, hM]; omega), hd, hM]
  rw [i64_sub (by rw [hm]; omega) (by rw [hm]; omega), hm]
  omega
theorem t_e {x : Int} {m : Nat} (h1 : 1 ≤ m) : (x.tmod m < 0 → x.tmod m + m = x % m) ∧ (0 ≤ x.tmod m → x.tmod m = x % m) ∧ (x.tmod m + m) % m = x % m := by
  have ht := Int.tmod_add_tdiv_mul x m
  have l1 := Int.tmod_lt_of_pos x (b := m) (by omega)
  have l2 := Int.lt_tmod_of_pos x (b := m) (by omega)
  have e : x.tmod m % m = x % m := by
    have h9 := Int.add_mul_emod_self_right (x.tmod m) (x.tdiv m) m
    rw [ht] at h9
    exact h9.symm
  have e2 : (x.tmod m + m) % m = x % m := by
    have h9 := Int.add_mul_emod_self_right (x.tmod m) 1 m
    rw [Int.one_mul] at h9
    exact h9.trans e
  refine ⟨fun h => ?_, fun h => ?_, e2⟩
  · rw [← e2]
    exact (Int.emod_eq_of_lt (by omega) (by omega)).symm
  · rw [← e]
    exact (Int.emod_eq_of_lt h l1).symm
theorem restL_e {v : Int64} {m : Nat} (h1 : 1 ≤ m) (h2 : m ≤ 97) (hv : -1000000000 ≤ v.toInt) (hv2 : v.toInt ≤ 1000000000) : (restL m v).toInt = v.toInt % m := by
  have hr := rem_t h1 h2 hv hv2
  obtain ⟨a, b, -⟩ := t_e (x := v.toInt) h1
  have l1 := Int.tmod_lt_of_pos v.toInt (b := m) (by omega)
  have l2 := Int.lt_tmod_of_pos v.toInt (b := m) (by omega)
  have z0 : (0 : Int64).toInt = 0 := by decide
  have hM := M_toInt h2
  unfold restL
  rw [if_neg (by omega)]
  by_cases q : (v - v / (nI m).toInt64 * (nI m).toInt64) < 0
  · rw [if_pos q, i64_add (by rw [hr, hM]; omega) (by rw [hr, hM]; omega), hr, hM]
    have h9 := Int64.lt_iff_toInt_lt.mp q
    rw [hr, z0] at h9
    exact a h9
  · rw [if_neg q, hr]
    have h9 : ¬ v.toInt.tmod m < 0 := fun w => q (Int64.lt_iff_toInt_lt.mpr (by rw [hr, z0]; exact w))
    exact b (by omega)
theorem restR_e {v : Int64} {m : Nat} (h1 : 1 ≤ m) (h2 : m ≤ 97) (hv : -1000000000 ≤ v.toInt) (hv2 : v.toInt ≤ 1000000000) : (restR m v).toInt = v.toInt % m := by
  have hr := rem_t h1 h2 hv hv2
  obtain ⟨-, -, e2⟩ := t_e (x := v.toInt) h1
  have l1 := Int.tmod_lt_of_pos v.toInt (b := m) (by omega)
  have l2 := Int.lt_tmod_of_pos v.toInt (b := m) (by omega)
  have hM := M_toInt h2
  have ha : ((v - v / (nI m).toInt64 * (nI m).toInt64) + (nI m).toInt64).toInt = v.toInt.tmod m + m := by
    rw [i64_add (by rw [hr, hM]; omega) (by rw [hr, hM]; omega), hr, hM]
  unfold restR
  rw [if_neg (by omega), rem_t h1 h2 (by rw [ha]; omega) (by rw [ha]; omega), ha, Int.tmod_eq_emod_of_nonneg (by omega)]
  exact e2
theorem rest_b {v : Int64} {m : Nat} (h1 : 1 ≤ m) (h2 : m ≤ 97) (hv : -1000000000 ≤ v.toInt) (hv2 : v.toInt ≤ 1000000000) : 0 ≤ (restL m v).toInt ∧ (restL m v).toInt < m := by
  rw [restL_e h1 h2 hv hv2]
  exact ⟨Int.emod_nonneg _ (by omega), Int.emod_lt_of_pos _ (by omega)⟩
theorem restLR {a b : Int64} {m : Nat} (h1 : 1 ≤ m) (h2 : m ≤ 97) (ha : -1000000000 ≤ a.toInt) (ha2 : a.toInt ≤ 1000000000) (hb : -1000000000 ≤ b.toInt) (hb2 : b.toInt ≤ 1000000000) (h : a.toInt % m = b.toInt % m) : restL m a = restR m b :=
  Int64.toInt_inj.mp (by rw [restL_e h1 h2 ha ha2, restR_e h1 h2 hb hb2, h])
def sumZ (g : Nat → Int) : Nat → Int
  | 0 => 0
  | n + 1 => sumZ g n + g n
theorem sumTo_z {f : Nat → Int64} : ∀ n : Nat, n ≤ 3 → (∀ z, z < n → -30000 ≤ (f z).toInt ∧ (f z).toInt ≤ 30000) → (sumTo f n).toInt = sumZ (fun z => (f z).toInt) n ∧ -(30000 * (n : Int)) ≤ sumZ (fun z => (f z).toInt) n ∧ sumZ (fun z => (f z).toInt) n ≤ 30000 * (n : Int) := by
  intro n
  induction n with
  | zero =>
    intro _ _
    have z0 : (0 : Int64).toInt = 0 := by decide
    exact ⟨z0, by show -(30000 * ((0 : Nat) : Int)) ≤ 0; omega, by show (0 : Int) ≤ 30000 * ((0 : Nat) : Int); omega⟩
  | succ n ih =>
    intro hn h
    obtain ⟨i1, i2, i3⟩ := ih (by omega) (fun z hz => h z (by omega))
    obtain ⟨g1, g2⟩ := h n (by omega)
    have e : sumZ (fun z => (f z).toInt) (n + 1) = sumZ (fun z => (f z).toInt) n + (f n).toInt := rfl
    have e2 : sumTo f (n + 1) = sumTo f n + f n := rfl
    refine ⟨?_, by omega, by omega⟩
    rw [e2, e, i64_add (by omega) (by omega), i1]
theorem sumZ_m {f g : Nat → Int} {m : Int} : ∀ n : Nat, (∀ z, z < n → f z % m = g z % m) → sumZ f n % m = sumZ g n % m := by
  intro n
  induction n with
  | zero => intro _; rfl
  | succ n ih =>
    intro h
    show (sumZ f n + f n) % m = (sumZ g n + g n) % m
    rw [Int.add_emod, ih (fun z hz => h z (by omega)), h n (by omega), ← Int.add_emod]
theorem mul_b1 {x y : Int} (h1 : 0 ≤ x) (h2 : x ≤ 96) (h3 : 0 ≤ y) (h4 : y ≤ 96) : 0 ≤ x * y ∧ x * y ≤ 9216 := by
  refine ⟨Int.mul_nonneg h1 h3, ?_⟩
  have h9 := Int.mul_le_mul h2 h4 h3 (by decide)
  omega
theorem mul_b2 {x y : Int} (h1 : 0 ≤ x) (h2 : x ≤ 96) (h3 : -9 ≤ y) (h4 : y ≤ 9) : -864 ≤ x * y ∧ x * y ≤ 864 := by
  have h8 := Int.mul_le_mul_of_nonneg_left h3 h1
  have h9 := Int.mul_le_mul_of_nonneg_left h4 h1
  omega
theorem step_m {d m : Nat} {a e : Nat → Int64} (hd : d ≤ 3) (h1 : 1 ≤ m) (h2 : m ≤ 97) (ha : ∀ q, q < d → 0 ≤ (a q).toInt ∧ (a q).toInt < m) (he : ∀ q, q < d → -9 ≤ (e q).toInt ∧ (e q).toInt ≤ 9) : restL m (sumTo (fun q => a q * restL m (e q)) d) = restR m (sumTo (fun q => a q * e q) d) := by
  have r1 : ∀ q, q < d → (restL m (e q)).toInt = (e q).toInt % m := fun q hq => restL_e h1 h2 (by have := he q hq; omega) (by have := he q hq; omega)
  have r2 : ∀ q, q < d → 0 ≤ (restL m (e q)).toInt ∧ (restL m (e q)).toInt < m := fun q hq => rest_b h1 h2 (by have := he q hq; omega) (by have := he q hq; omega)
  have p1 : ∀ q, q < d → (a q * restL m (e q)).toInt = (a q).toInt * (restL m (e q)).toInt ∧ -30000 ≤ (a q * restL m (e q)).toInt ∧ (a q * restL m (e q)).toInt ≤ 30000 := fun q hq => by
    have x1 := ha q hq
    have x2 := r2 q hq
    have b := mul_b1 x1.1 (by omega) x2.1 (by omega)
    have e9 := i64_mul (a := a q) (b := restL m (e q)) (by omega) (by omega)
    exact ⟨e9, by omega, by omega⟩
  have p2 : ∀ q, q < d → (a q * e q).toInt = (a q).toInt * (e q).toInt ∧ -30000 ≤ (a q * e q).toInt ∧ (a q * e q).toInt ≤ 30000 := fun q hq => by
    have x1 := ha q hq
    have x2 := he q hq
    have b := mul_b2 x1.1 (by omega) x2.1 x2.2
    have e9 := i64_mul (a := a q) (b := e q) (by omega) (by omega)
    exact ⟨e9, by omega, by omega⟩
  obtain ⟨s1, s2, s3⟩ := sumTo_z (f := fun q => a q * restL m (e q)) d hd (fun q hq => (p1 q hq).2)
  obtain ⟨t1, t2, t3⟩ := sumTo_z (f := fun q => a q * e q) d hd (fun q hq => (p2 q hq).2)
  refine restLR h1 h2 (by omega) (by omega) (by omega) (by omega) ?_
  rw [s1, t1]
  refine sumZ_m d (fun q hq => ?_)
  show (a q * restL m (e q)).toInt % m = (a q * e q).toInt % m
  rw [(p1 q hq).1, (p2 q hq).1, r1 q hq, Int.mul_emod, Int.emod_emod, ← Int.mul_emod]
theorem unit_sum {d r : Nat} {E : Nat → Int64} (hd2 : 2 ≤ d) (hd3 : d ≤ 3) (hr : r < d) : sumTo (fun q => uV d (d * r + q) * E q) d = E r := by
  have h : ∀ q, q < d → uV d (d * r + q) * E q = (if r = q then 1 else 0) * E q := fun q hq => by rw [uV_at hq]
  rw [sumTo_c d h]
  rcases (show d = 2 ∨ d = 3 by omega) with rfl | rfl
  · rcases (show r = 0 ∨ r = 1 by omega) with rfl | rfl
    · show (0 + 1 * E 0) + 0 * E 1 = E 0
      simp only [Int64.one_mul, Int64.zero_mul, Int64.add_zero, Int64.zero_add]
    · show (0 + 0 * E 0) + 1 * E 1 = E 1
      simp only [Int64.one_mul, Int64.zero_mul, Int64.add_zero, Int64.zero_add]
  · rcases (show r = 0 ∨ r = 1 ∨ r = 2 by omega) with rfl | rfl | rfl
    · show ((0 + 1 * E 0) + 0 * E 1) + 0 * E 2 = E 0
      simp only [Int64.one_mul, Int64.zero_mul, Int64.add_zero, Int64.zero_add]
    · show ((0 + 0 * E 0) + 1 * E 1) + 0 * E 2 = E 1
      simp only [Int64.one_mul, Int64.zero_mul, Int64.add_zero, Int64.zero_add]
    · show ((0 + 0 * E 0) + 0 * E 1) + 1 * E 2 = E 2
      simp only [Int64.one_mul, Int64.zero_mul, Int64.add_zero, Int64.zero_add]
theorem restL_0 {v : Int64} : restL 0 v = v := by unfold restL; rw [if_pos rfl]
theorem restR_0 {v : Int64} : restR 0 v = v := by unfold restR; rw [if_pos rfl]
theorem pr_eq {d m : Nat} {R : Nat → Nat → Int64} {E : Nat → Int32} {l : Nat → Int32} {N : Nat} (hd2 : 2 ≤ d) (hd3 : d ≤ 3) (hm : m ≤ 97) (hR : ∀ x, x < N → ∀ i, i < d * d → R (l x).toNatClampNeg i = restL m (E (9 * (l x).toNatClampNeg + i)).toInt64) (hE : ∀ x, x < N → ∀ i, i < d * d → -9 ≤ (E (9 * (l x).toNatClampNeg + i)).toInt ∧ (E (9 * (l x).toNatClampNeg + i)).toInt ≤ 9) : ∀ k : Nat, k + 1 ≤ N → ∀ i, i < d * d → prW d m R l k i = prM d m E (fun x => (l x).toNatClampNeg) (k + 1) i ∧ (1 ≤ m → 0 ≤ (prW d m R l k i).toInt ∧ (prW d m R l k i).toInt < m) := by
  intro k
  induction k with
  | zero =>
    intro hN i hi
    have h1 : i / d < d := Nat.div_lt_of_lt_mul hi
    have eW : prW d m R l 0 i = restL m (E (9 * (l 0).toNatClampNeg + i)).toInt64 := hR 0 (by omega) i hi
    have b := hE 0 (by omega) i hi
    have eM : prM d m E (fun x => (l x).toNatClampNeg) (0 + 1) i = restR m (E (9 * (l 0).toNatClampNeg + i)).toInt64 := by
      show restR m (sumTo (fun q => uV d (d * (i / d) + q) * (E (9 * (l 0).toNatClampNeg + d * q + i % d)).toInt64) d) = _
      rw [unit_sum (E := fun q => (E (9 * (l 0).toNatClampNeg + d * q + i % d)).toInt64) hd2 hd3 h1]
      show restR m (E (9 * (l 0).toNatClampNeg + d * (i / d) + i % d)).toInt64 = _
      rw [Nat.add_assoc, Nat.div_add_mod]
    rw [eW, eM]
    have b64 : (E (9 * (l 0).toNatClampNeg + i)).toInt64.toInt = (E (9 * (l 0).toNatClampNeg + i)).toInt := Int32.toInt_toInt64 _
    by_cases h0 : m = 0
    · subst h0
      exact ⟨by rw [restL_0, restR_0], fun q => absurd q (by omega)⟩
    · exact ⟨restLR (by omega) hm (by omega) (by omega) (by omega) (by omega) rfl, fun q => rest_b q hm (by omega) (by omega)⟩
  | succ k ih =>
    intro hN i hi
    have h1 : i / d < d := Nat.div_lt_of_lt_mul hi
    have h0d : 0 < d := by omega
    have h2 : i % d < d := Nat.mod_lt _ h0d
    have eW : prW d m R l (k + 1) i = restL m (sumTo (fun q => prW d m R l k (i / d * d + q) * restL m (E (9 * (l (k + 1)).toNatClampNeg + (q * d + i % d))).toInt64) d) := by
      show restL m (sumTo (fun q => prW d m R l k (i / d * d + q) * R (l (k + 1)).toNatClampNeg (q * d + i % d)) d) = _
      refine congrArg (restL m) (sumTo_c d (fun q hq => ?_))
      rw [hR (k + 1) (by omega) _ (rc_lt hq h2)]
    have eM : prM d m E (fun x => (l x).toNatClampNeg) (k + 1 + 1) i = restR m (sumTo (fun q => prW d m R l k (i / d * d + q) * (E (9 * (l (k + 1)).toNatClampNeg + (q * d + i % d))).toInt64) d) := by
      show restR m (sumTo (fun q => prM d m E (fun x => (l x).toNatClampNeg) (k + 1) (d * (i / d) + q) * (E (9 * (l (k + 1)).toNatClampNeg + d * q + i % d)).toInt64) d) = _
      refine congrArg (restR m) (sumTo_c d (fun q hq => ?_))
      rw [Nat.mul_comm d (i / d), Nat.mul_comm d q, Nat.add_assoc, (ih (by omega) _ (rc_lt h1 hq)).1]
    have be : ∀ q, q < d → -9 ≤ ((E (9 * (l (k + 1)).toNatClampNeg + (q * d + i % d))).toInt64).toInt ∧ ((E (9 * (l (k + 1)).toNatClampNeg + (q * d + i % d))).toInt64).toInt ≤ 9 := fun q hq => by
      rw [Int32.toInt_toInt64]
      exact hE (k + 1) (by omega) _ (rc_lt hq h2)
    by_cases h0 : m = 0
    · subst h0
      refine ⟨?_, fun q => absurd q (by omega)⟩
      rw [eW, eM, restL_0, restR_0]
      refine sumTo_c d (fun q hq => ?_)
      rw [restL_0]
    · have hb : ∀ q, q < d → 0 ≤ (prW d m R l k (i / d * d + q)).toInt ∧ (prW d m R l k (i / d * d + q)).toInt < m := fun q hq => (ih (by omega) _ (rc_lt h1 hq)).2 (by omega)
      have hs := step_m hd3 (show 1 ≤ m by omega) hm hb be
      refine ⟨by rw [eW, eM, hs], fun q => ?_⟩
      rw [eW, hs]
      have p2 : ∀ q, q < d → -30000 ≤ (prW d m R l k (i / d * d + q) * (E (9 * (l (k + 1)).toNatClampNeg + (q * d + i % d))).toInt64).toInt ∧ (prW d m R l k (i / d * d + q) * (E (9 * (l (k + 1)).toNatClampNeg + (q * d + i % d))).toInt64).toInt ≤ 30000 := fun q hq => by
        have x1 := hb q hq
        have x2 := be q hq
        have b := mul_b2 x1.1 (by omega) x2.1 x2.2
        have e9 := i64_mul (a := prW d m R l k (i / d * d + q)) (b := (E (9 * (l (k + 1)).toNatClampNeg + (q * d + i % d))).toInt64) (by omega) (by omega)
        exact ⟨by omega, by omega⟩
      obtain ⟨t1, t2, t3⟩ := sumTo_z (f := fun q => prW d m R l k (i / d * d + q) * (E (9 * (l (k + 1)).toNatClampNeg + (q * d + i % d))).toInt64) d hd3 p2
      rw [restR_e (by omega) hm (by omega) (by omega)]
      exact ⟨Int.emod_nonneg _ (by omega), Int.emod_lt_of_pos _ (by omega)⟩
theorem abs_LR (x : Int64) : absL x = absR x := by
  have z0 : (0 : Int64).toInt = 0 := by decide
  unfold absL absR
  by_cases h : 0 < x
  · rw [if_pos h, if_neg (fun q => by have a := Int64.lt_iff_toInt_lt.mp h; have b := Int64.lt_iff_toInt_lt.mp q; omega)]
  · by_cases h' : x < 0
    · rw [if_neg h, if_pos h']
    · have e : x = 0 := Int64.toInt_inj.mp (by
        have a : ¬ (0 : Int64).toInt < x.toInt := fun q => h (Int64.lt_iff_toInt_lt.mpr q)
        have b : ¬ x.toInt < (0 : Int64).toInt := fun q => h' (Int64.lt_iff_toInt_lt.mpr q)
        omega)
      rw [if_neg h, if_neg h', e]
      decide
theorem norm_eq {d n : Nat} {f L : Nat → Int64} (h : ∀ i, i < d * d → f i = L (9 * n + i)) : ∀ r : Nat, r ≤ d → normT d f r = normR d n L r := by
  intro r
  induction r with
  | zero => intro _; rfl
  | succ r ih =>
    intro hr
    have e : rowN d f r = rowR d n L r := sumTo_c d (fun c hc => by
      rw [abs_LR, h _ (rc_lt (show r < d by omega) hc), Nat.mul_comm r d, Nat.add_assoc])
    show maxL (normT d f r) (rowN d f r) = if normR d n L r < rowR d n L r then rowR d n L r else normR d n L r
    rw [ih (by omega), e]
    unfold maxL
    by_cases q : normR d n L r < rowR d n L r
    · rw [if_pos q, if_neg (fun w => by have a := Int64.lt_iff_toInt_lt.mp q; have b := Int64.lt_iff_toInt_lt.mp w; omega)]
    · rw [if_neg q]
      by_cases w : rowR d n L r < normR d n L r
      · rw [if_pos w]
      · rw [if_neg w]
        exact Int64.toInt_inj.mp (by
          have a : ¬ (normR d n L r).toInt < (rowR d n L r).toInt := fun t => q (Int64.lt_iff_toInt_lt.mpr t)
          have b : ¬ (rowR d n L r).toInt < (normR d n L r).toInt := fun t => w (Int64.lt_iff_toInt_lt.mpr t)
          omega)
theorem track_eq {d n : Nat} {f L : Nat → Int64} (h : ∀ i, i < d * d → f i = L (9 * n + i)) : sumTo (fun i => f (i * d + i)) d = sumTo (fun i => L (9 * n + d * i + i)) d := sumTo_c d (fun i hi => by
  rw [h _ (rc_lt hi hi), Nat.mul_comm i d, Nat.add_assoc])
