/-! the closures of the two sides are one -/
theorem sumTo_zB {f : Nat → Int64} {B : Int} (hB0 : 0 ≤ B) (hB : B ≤ 1000000000000) {n : Nat} (hn : n ≤ 3) (h : ∀ z, z < n → -B ≤ (f z).toInt ∧ (f z).toInt ≤ B) : (sumTo f n).toInt = sumZ (fun z => (f z).toInt) n ∧ -(3 * B) ≤ sumZ (fun z => (f z).toInt) n ∧ sumZ (fun z => (f z).toInt) n ≤ 3 * B := by
  have z0 : (0 : Int64).toInt = 0 := by decide
  rcases (show n = 0 ∨ n = 1 ∨ n = 2 ∨ n = 3 by omega) with rfl | rfl | rfl | rfl
  · show (0 : Int64).toInt = 0 ∧ -(3 * B) ≤ 0 ∧ (0 : Int) ≤ 3 * B
    exact ⟨z0, by omega, by omega⟩
  · obtain ⟨a1, a2⟩ := h 0 (by omega)
    have e1 : ((0 : Int64) + f 0).toInt = (f 0).toInt := by rw [i64_add (by rw [z0]; omega) (by rw [z0]; omega), z0]; omega
    show ((0 : Int64) + f 0).toInt = 0 + (f 0).toInt ∧ -(3 * B) ≤ 0 + (f 0).toInt ∧ 0 + (f 0).toInt ≤ 3 * B
    rw [e1]
    omega
  · obtain ⟨a1, a2⟩ := h 0 (by omega)
    obtain ⟨b1, b2⟩ := h 1 (by omega)
    have e1 : ((0 : Int64) + f 0).toInt = (f 0).toInt := by rw [i64_add (by rw [z0]; omega) (by rw [z0]; omega), z0]; omega
    have e2 : ((0 : Int64) + f 0 + f 1).toInt = (f 0).toInt + (f 1).toInt := by rw [i64_add (by rw [e1]; omega) (by rw [e1]; omega), e1]
    show ((0 : Int64) + f 0 + f 1).toInt = 0 + (f 0).toInt + (f 1).toInt ∧ -(3 * B) ≤ 0 + (f 0).toInt + (f 1).toInt ∧ 0 + (f 0).toInt + (f 1).toInt ≤ 3 * B
    rw [e2]
    omega
  · obtain ⟨a1, a2⟩ := h 0 (by omega)
    obtain ⟨b1, b2⟩ := h 1 (by omega)
    obtain ⟨c1, c2⟩ := h 2 (by omega)
    have e1 : ((0 : Int64) + f 0).toInt = (f 0).toInt := by rw [i64_add (by rw [z0]; omega) (by rw [z0]; omega), z0]; omega
    have e2 : ((0 : Int64) + f 0 + f 1).toInt = (f 0).toInt + (f 1).toInt := by rw [i64_add (by rw [e1]; omega) (by rw [e1]; omega), e1]
    have e3 : ((0 : Int64) + f 0 + f 1 + f 2).toInt = (f 0).toInt + (f 1).toInt + (f 2).toInt := by rw [i64_add (by rw [e2]; omega) (by rw [e2]; omega), e2]
    show ((0 : Int64) + f 0 + f 1 + f 2).toInt = 0 + (f 0).toInt + (f 1).toInt + (f 2).toInt ∧ -(3 * B) ≤ 0 + (f 0).toInt + (f 1).toInt + (f 2).toInt ∧ 0 + (f 0).toInt + (f 1).toInt + (f 2).toInt ≤ 3 * B
    rw [e3]
    omega
theorem mul_bB {x y A B : Int} (h1 : -A ≤ x) (h2 : x ≤ A) (h3 : -B ≤ y) (h4 : y ≤ B) : -(A * B) ≤ x * y ∧ x * y ≤ A * B := by
  have hA : 0 ≤ A := by omega
  have hB : 0 ≤ B := by omega
  have k1 : x * y ≤ A * B ∧ -(A * B) ≤ x * y := by
    rcases Int.le_total 0 x with hx | hx
    · have a1 : x * y ≤ x * B := Int.mul_le_mul_of_nonneg_left h4 hx
      have a2 : x * B ≤ A * B := Int.mul_le_mul_of_nonneg_right h2 hB
      have a3 : x * -B ≤ x * y := Int.mul_le_mul_of_nonneg_left h3 hx
      rw [Int.mul_neg] at a3
      omega
    · have a1 : -x * y ≤ -x * B := Int.mul_le_mul_of_nonneg_left h4 (by omega)
      have a2 : -x * B ≤ A * B := Int.mul_le_mul_of_nonneg_right (by omega) hB
      have a3 : -x * -B ≤ -x * y := Int.mul_le_mul_of_nonneg_left h3 (by omega)
      rw [Int.mul_neg, Int.neg_mul, Int.neg_mul] at a3
      rw [Int.neg_mul, Int.neg_mul] at a1
      rw [Int.neg_mul] at a2
      omega
  exact ⟨k1.2, k1.1⟩
theorem step_m2 {d m : Nat} {a e : Nat → Int64} (hd : d ≤ 3) (h1 : 1 ≤ m) (h2 : m ≤ 97) (ha : ∀ q, q < d → -1000000 ≤ (a q).toInt ∧ (a q).toInt ≤ 1000000) (he : ∀ q, q < d → -9 ≤ (e q).toInt ∧ (e q).toInt ≤ 9) : restL m (sumTo (fun q => a q * restL m (e q)) d) = restR m (sumTo (fun q => a q * e q) d) := by
  have b1 : ∀ q, q < d → (a q * restL m (e q)).toInt = (a q).toInt * (restL m (e q)).toInt ∧ -100000000 ≤ (a q).toInt * (restL m (e q)).toInt ∧ (a q).toInt * (restL m (e q)).toInt ≤ 100000000 := fun q hq => by
    obtain ⟨p1, p2⟩ := ha q hq
    obtain ⟨q1, q2⟩ := he q hq
    obtain ⟨r1, r2⟩ := rest_b (v := e q) h1 h2 (by omega) (by omega)
    obtain ⟨s1, s2⟩ := mul_bB (A := 1000000) (B := 100) p1 p2 (show -100 ≤ (restL m (e q)).toInt by omega) (show (restL m (e q)).toInt ≤ 100 by omega)
    exact ⟨i64_mul (by omega) (by omega), by omega, by omega⟩
  have b2 : ∀ q, q < d → (a q * e q).toInt = (a q).toInt * (e q).toInt ∧ -100000000 ≤ (a q).toInt * (e q).toInt ∧ (a q).toInt * (e q).toInt ≤ 100000000 := fun q hq => by
    obtain ⟨p1, p2⟩ := ha q hq
    obtain ⟨q1, q2⟩ := he q hq
    obtain ⟨s1, s2⟩ := mul_bB (A := 1000000) (B := 9) p1 p2 q1 q2
    exact ⟨i64_mul (by omega) (by omega), by omega, by omega⟩
  obtain ⟨c1, c2, c3⟩ := sumTo_zB (f := fun q => a q * restL m (e q)) (B := 100000000) (by omega) (by omega) hd (fun z hz => by
    show -100000000 ≤ (a z * restL m (e z)).toInt ∧ (a z * restL m (e z)).toInt ≤ 100000000
    rw [(b1 z hz).1]; exact (b1 z hz).2)
  obtain ⟨d1, d2, d3⟩ := sumTo_zB (f := fun q => a q * e q) (B := 100000000) (by omega) (by omega) hd (fun z hz => by
    show -100000000 ≤ (a z * e z).toInt ∧ (a z * e z).toInt ≤ 100000000
    rw [(b2 z hz).1]; exact (b2 z hz).2)
  refine restLR h1 h2 (by rw [c1]; omega) (by rw [c1]; omega) (by rw [d1]; omega) (by rw [d1]; omega) ?_
  rw [c1, d1]
  refine sumZ_m d (fun z hz => ?_)
  show (a z * restL m (e z)).toInt % (m : Int) = (a z * e z).toInt % (m : Int)
  rw [(b1 z hz).1, (b2 z hz).1, restL_e h1 h2 (by have := (he z hz).1; omega) (by have := (he z hz).2; omega), Int.mul_emod, Int.emod_emod, ← Int.mul_emod]
theorem neg_i {x : Int64} (h1 : -1000000000 ≤ x.toInt) (h2 : x.toInt ≤ 1000000000) : (-x).toInt = -x.toInt := by
  rw [Int64.toInt_neg]
  exact Int.bmod_eq_of_le (by omega) (by omega)
theorem abs9 {x : Int64} (h1 : -1000000000 ≤ x.toInt) (h2 : x.toInt ≤ 1000000000) : (1000000 : Int64).toInt < (absL x).toInt ↔ (x.toInt < -1000000 ∨ 1000000 < x.toInt) := by
  have z0 : (0 : Int64).toInt = 0 := by decide
  have z1 : (1000000 : Int64).toInt = 1000000 := by decide
  unfold absL
  by_cases h : 0 < x
  · have h9 := Int64.lt_iff_toInt_lt.mp h
    rw [if_pos h, z1]
    omega
  · have h9 : ¬ (0 : Int64).toInt < x.toInt := fun q => h (Int64.lt_iff_toInt_lt.mpr q)
    rw [if_neg h, z1, neg_i h1 h2]
    omega
theorem bX_eq {n : Nat} {f : Nat → Int64} (h : ∀ i, i < n → -1000000000 ≤ (f i).toInt ∧ (f i).toInt ≤ 1000000000) : bX (vec n f) = beyB (vec n f) := by
  refine Bool.eq_iff_iff.2 ?_
  rw [bX_vec, beyB_vec]
  constructor
  · intro q
    obtain ⟨i, hi, q⟩ := q
    exact ⟨i, hi, (abs9 (h i hi).1 (h i hi).2).1 q⟩
  · intro q
    obtain ⟨i, hi, q⟩ := q
    exact ⟨i, hi, (abs9 (h i hi).1 (h i hi).2).2 q⟩
/-- a row of the class, bounded; a product of the class, bounded -/
theorem row_b {m : Nat} {e : Int64} (h2 : m ≤ 97) (h : -9 ≤ e.toInt ∧ e.toInt ≤ 9) : -1000000000 ≤ (restL m e).toInt ∧ (restL m e).toInt ≤ 1000000000 := by
  rcases Nat.eq_zero_or_pos m with rfl | h1
  · rw [restL_0]; omega
  · have := rest_b (v := e) h1 h2 (by omega) (by omega)
    omega
theorem rest_eq {m : Nat} {e : Int64} (h2 : m ≤ 97) (h : -1000000000 ≤ e.toInt ∧ e.toInt ≤ 1000000000) : restL m e = restR m e := by
  rcases Nat.eq_zero_or_pos m with rfl | h1
  · rw [restL_0, restR_0]
  · exact restLR h1 h2 h.1 h.2 h.1 h.2 rfl
theorem dot_b {d m : Nat} {a e : Nat → Int64} (hd : d ≤ 3) (h2 : m ≤ 97) (ha : ∀ q, q < d → -1000000 ≤ (a q).toInt ∧ (a q).toInt ≤ 1000000) (he : ∀ q, q < d → -9 ≤ (e q).toInt ∧ (e q).toInt ≤ 9) : restL m (sumTo (fun q => a q * restL m (e q)) d) = restR m (sumTo (fun q => a q * e q) d) ∧ -1000000000 ≤ (restL m (sumTo (fun q => a q * restL m (e q)) d)).toInt ∧ (restL m (sumTo (fun q => a q * restL m (e q)) d)).toInt ≤ 1000000000 := by
  have r1 : ∀ q, q < d → -100 ≤ (restL m (e q)).toInt ∧ (restL m (e q)).toInt ≤ 100 := fun q hq => by
    obtain ⟨q1, q2⟩ := he q hq
    rcases Nat.eq_zero_or_pos m with rfl | h1
    · rw [restL_0]; omega
    · have := rest_b (v := e q) h1 h2 (by omega) (by omega)
      omega
  have b1 : ∀ q, q < d → -100000000 ≤ (a q * restL m (e q)).toInt ∧ (a q * restL m (e q)).toInt ≤ 100000000 := fun q hq => by
    obtain ⟨s1, s2⟩ := mul_bB (A := 1000000) (B := 100) (ha q hq).1 (ha q hq).2 (r1 q hq).1 (r1 q hq).2
    rw [i64_mul (by omega) (by omega)]
    omega
  obtain ⟨c1, c2, c3⟩ := sumTo_zB (f := fun q => a q * restL m (e q)) (B := 100000000) (by omega) (by omega) hd b1
  rcases Nat.eq_zero_or_pos m with rfl | h1
  · refine ⟨?_, ?_⟩
    · rw [restL_0, restR_0]
      exact sumTo_c d (fun q _ => by rw [restL_0])
    · rw [restL_0, c1]
      omega
  · refine ⟨step_m2 hd h1 h2 ha he, ?_⟩
    have := rest_b (v := sumTo (fun q => a q * restL m (e q)) d) h1 h2 (by rw [c1]; omega) (by rw [c1]; omega)
    omega
section CREL
variable {cy : Nat → ClassId} {cs : List Nat} {ad : Nat → Nat} {F : Nat → Nat → Int32} {eX eM : Nat → va_E}
theorem clo_num (hI : SX cy cs ad eX) (hT : T1 eX eM) : kC eX = kQ eM ∧ dC eX = dQ eM ∧ mC eX = mQ eM ∧ 2 ≤ dC eX ∧ dC eX ≤ 3 ∧ mC eX ≤ 97 ∧ kC eX ≤ 6 := by
  obtain ⟨cnt, d, mm, e, hc, hd2, hd3, hm⟩ := get_T hI
  have d1 : dC eX = d := by unfold dC; rw [show rdI (eX 1) 5 = nI d from by rw [e]; rfl, nI_clamp (by omega)]
  have m1 : mC eX = mm := by unfold mC; rw [show rdI (eX 1) 6 = nI mm from by rw [e]; rfl, nI_clamp (by omega)]
  refine ⟨?_, ?_, ?_, by omega, by omega, by omega, kC_6 hI⟩
  · unfold kC kQ; rw [hT.1]
  · unfold dC dQ; rw [hT.2.1]
  · unfold mC mQ; rw [hT.2.2]
theorem clo_ent (hI : SX cy cs ad eX) (hTX : TXF cy cs ad eX F) (hE : ER F eX eM) (hP : RWP F eX) {t : Nat} (ht : t < kC eX) : ∀ i, i < dC eX * dC eX → rdL (eX (4 + t)) i = restL (mC eX) (rdF (eM 1) (9 * t + i)).toInt64 ∧ -9 ≤ ((rdF (eM 1) (9 * t + i)).toInt64).toInt ∧ ((rdF (eM 1) (9 * t + i)).toInt64).toInt ≤ 9 := by
  intro i hi
  obtain ⟨cnt, d, mm, e, hc, hd2, hd3, hm⟩ := get_T hI
  have e4 : rdI (eX 1) 4 = nI cnt := by rw [e]; rfl
  have e5 : rdI (eX 1) 5 = nI d := by rw [e]; rfl
  have k1 : kC eX = cnt := by unfold kC; rw [e4, nI_clamp (by omega)]
  have d1 : dC eX = d := by unfold dC; rw [e5, nI_clamp (by omega)]
  have ht4 : (t : Int) < (rdI (eX 1) 4).toInt := by rw [e4, nI_toInt (by omega)]; omega
  have h1 := hP.1 t i (by omega) ht4 hi
  have h2 := hE t i ht4 hi
  have h3 := (hTX t d hd3 e5 ht4).2 i (by rw [← d1]; exact hi)
  rw [← h2]
  refine ⟨h1, ?_⟩
  rw [Int32.toInt_toInt64]
  have n1 : (-9 : Int32).toInt = -9 := by decide
  have n2 : (9 : Int32).toInt = 9 := by decide
  have h4 := h3.1
  have h5 := h3.2
  rw [n1] at h4
  rw [n2] at h5
  exact ⟨h4, h5⟩
theorem clo_rel (hI : SX cy cs ad eX) (hTX : TXF cy cs ad eX F) (hT : T1 eX eM) (hE : ER F eX eM) (hP : RWP F eX) : cloX eX = cloR eM := by
  obtain ⟨k1, d1, m1, d2, d3, m3, k6⟩ := clo_num hI hT
  unfold cloX cloR
  rw [← k1]
  refine clo_c (fun t ht => ?_) (fun v t ht hv => ?_)
  · have h := clo_ent hI hTX hE hP ht
    refine ⟨?_, ?_⟩
    · unfold RC RQ
      rw [← d1, ← m1]
      refine vec_eq.2 (fun i hi => ?_)
      have a1 : i / dC eX < dC eX := Nat.div_lt_of_lt_mul hi
      rw [(h i hi).1, rest_eq m3 (by have := (h i hi).2; omega)]
      unfold goV
      refine congrArg (restR (mC eX)) ?_
      have hu := unit_sum (d := dC eX) (r := i / dC eX) (E := fun k => (rdF (eM 1) (9 * t + dC eX * k + i % dC eX)).toInt64) d2 d3 a1
      refine Eq.trans ?_ (Eq.trans hu.symm (sumTo_c _ (fun k _ => by rw [show 9 * 0 + dC eX * (i / dC eX) + k = dC eX * (i / dC eX) + k by omega])))
      show _ = (rdF (eM 1) (9 * t + dC eX * (i / dC eX) + i % dC eX)).toInt64
      rw [Nat.add_assoc, Nat.div_add_mod]
    · exact bX_eq (fun i hi => by rw [(h i hi).1]; exact row_b m3 (h i hi).2)
  · have h := clo_ent hI hTX hE hP ht
    have key : ∀ i, i < dC eX * dC eX → mulV (dC eX) (mC eX) (vg v) (rdL (eX (4 + t))) i = goV (dC eX) (mC eX) 0 t (vg v) (rdF (eM 1)) i ∧ -1000000000 ≤ (mulV (dC eX) (mC eX) (vg v) (rdL (eX (4 + t))) i).toInt ∧ (mulV (dC eX) (mC eX) (vg v) (rdL (eX (4 + t))) i).toInt ≤ 1000000000 := fun i hi => by
      have a1 : i / dC eX < dC eX := Nat.div_lt_of_lt_mul hi
      have a2 : i % dC eX < dC eX := Nat.mod_lt _ (by omega)
      have hd := dot_b (d := dC eX) (m := mC eX) (a := fun q => vg v (i / dC eX * dC eX + q)) (e := fun q => (rdF (eM 1) (9 * t + (q * dC eX + i % dC eX))).toInt64) d3 m3 (fun q _ => bey_in hv _) (fun q hq => (h _ (rc_lt hq a2)).2)
      have e1 : mulV (dC eX) (mC eX) (vg v) (rdL (eX (4 + t))) i = restL (mC eX) (sumTo (fun q => vg v (i / dC eX * dC eX + q) * restL (mC eX) (rdF (eM 1) (9 * t + (q * dC eX + i % dC eX))).toInt64) (dC eX)) := by
        unfold mulV dotL
        refine congrArg (restL (mC eX)) (sumTo_c _ (fun q hq => ?_))
        rw [(h _ (rc_lt hq a2)).1]
      rw [e1]
      refine ⟨hd.1.trans ?_, hd.2⟩
      unfold goV
      refine congrArg (restR (mC eX)) (sumTo_c _ (fun q hq => ?_))
      show vg v (i / dC eX * dC eX + q) * (rdF (eM 1) (9 * t + (q * dC eX + i % dC eX))).toInt64 = vg v (9 * 0 + dC eX * (i / dC eX) + q) * (rdF (eM 1) (9 * t + dC eX * q + i % dC eX)).toInt64
      rw [show 9 * 0 + dC eX * (i / dC eX) + q = i / dC eX * dC eX + q by rw [Nat.mul_comm (dC eX)]; omega, show 9 * t + (q * dC eX + i % dC eX) = 9 * t + dC eX * q + i % dC eX by rw [Nat.mul_comm q]; omega]
    refine ⟨?_, ?_⟩
    · unfold MC MQ9
      rw [← d1, ← m1]
      exact vec_eq.2 (fun i hi => (key i hi).1)
    · exact bX_eq (fun i hi => (key i hi).2)
end CREL
/-! what holds of every row of the closure -/
theorem tk_all {B : List Int64 → Bool} {G : List Int64 → Prop} {S T : CR} {v : List Int64} {l : Int32} (h : ∀ x, x ∈ S → G x.1) (hv : G v) (e : tk B S v l = some T) : ∀ x, x ∈ T → G x.1 := by
  unfold tk at e
  by_cases h1 : B v = true
  · rw [if_pos h1] at e
    exact absurd e (by simp)
  · rw [if_neg h1] at e
    by_cases h2 : v ∈ S.map Prod.fst
    · rw [if_pos h2] at e
      obtain rfl := Option.some.inj e
      exact h
    · rw [if_neg h2] at e
      by_cases h3 : S.length = 2000
      · rw [if_pos h3] at e
        exact absurd e (by simp)
      · rw [if_neg h3] at e
        obtain rfl := Option.some.inj e
        intro x hx
        rcases List.mem_append.1 hx with hx | hx
        · exact h x hx
        · rw [List.mem_singleton.1 hx]
          exact hv
theorem lt_all {B : List Int64 → Bool} {G : List Int64 → Prop} {R : Nat → List Int64} {K : Nat} (hR : ∀ t, t < K → G (R t)) : ∀ j, j ≤ K → ∀ S, lt9 B R j = some S → ∀ x, x ∈ S → G x.1 := by
  intro j
  induction j with
  | zero =>
    intro _ S h x hx
    obtain rfl := Option.some.inj h
    exact absurd hx (List.not_mem_nil)
  | succ j ih =>
    intro hj S h
    obtain ⟨T, h1, h2⟩ := bind_some h
    exact tk_all (ih (by omega) T h1) (hR j (by omega)) h2
theorem ex_all {B : List Int64 → Bool} {G : List Int64 → Prop} {M : List Int64 → Nat → List Int64} {K : Nat} {v : List Int64} {l : Int32} {S : CR} (hS : ∀ x, x ∈ S → G x.1) (hM : ∀ t, t < K → G (M v t)) : ∀ j, j ≤ K → ∀ T, ex9 B M v l S j = some T → ∀ x, x ∈ T → G x.1 := by
  intro j
  induction j with
  | zero =>
    intro _ T h
    obtain rfl := Option.some.inj h
    exact hS
  | succ j ih =>
    intro hj T h
    obtain ⟨U, h1, h2⟩ := bind_some h
    exact tk_all (ih (by omega) U h1) (hM j (by omega)) h2
theorem st_all {B : List Int64 → Bool} {G : List Int64 → Prop} {K : Nat} {R : Nat → List Int64} {M : List Int64 → Nat → List Int64} (hR : ∀ t, t < K → G (R t)) (hM : ∀ v t, t < K → G v → B v = false → G (M v t)) : ∀ k S, st9 B K R M k = some S → ∀ x, x ∈ S → G x.1 := by
  intro k
  induction k with
  | zero => intro S h; exact lt_all hR K (Nat.le_refl _) S h
  | succ k ih =>
    intro S h
    obtain ⟨T, h1, h2⟩ := bind_some h
    unfold xs9 at h2
    cases e : T[k]? with
    | none =>
      rw [e] at h2
      obtain rfl := Option.some.inj h2
      exact ih T h1
    | some y =>
      rw [e] at h2
      have hy : y ∈ T := List.mem_of_getElem? e
      exact ex_all (ih T h1) (fun t ht => hM _ t ht (ih T h1 y hy) ((st_wf k T h1).2.2 y hy)) K (Nat.le_refl _) S h2
/-- the rows of the class's closure: so many cells; where there is a modulus they are rests -/
def GX (d mm : Nat) (v : List Int64) : Prop := v = vec (d * d) (vg v) ∧ (mm = 0 ∨ ∀ i, i < d * d → 0 ≤ (vg v i).toInt ∧ (vg v i).toInt ≤ 96)
theorem GX_vec {d mm : Nat} {f : Nat → Int64} (h : mm = 0 ∨ ∀ i, i < d * d → 0 ≤ (f i).toInt ∧ (f i).toInt ≤ 96) : GX d mm (vec (d * d) f) := by
  refine ⟨vec_eq.2 (fun i hi => (vg_vec hi).symm), ?_⟩
  rcases h with h | h
  · exact Or.inl h
  · exact Or.inr (fun i hi => by rw [vg_vec hi]; exact h i hi)
section CREL2
variable {cy : Nat → ClassId} {cs : List Nat} {ad : Nat → Nat} {F : Nat → Nat → Int32} {eX eM : Nat → va_E}
theorem clo_B (hI : SX cy cs ad eX) (hTX : TXF cy cs ad eX F) (hT : T1 eX eM) (hE : ER F eX eM) (hP : RWP F eX) {S : CR} (hS : cloX eX = some S) : clo beyB (kC eX) (RC eX) (MC eX) = some S := by
  obtain ⟨k1, d1, m1, d2, d3, m3, k6⟩ := clo_num hI hT
  rw [← hS]
  unfold cloX
  refine (clo_c (fun t ht => ⟨rfl, ?_⟩) (fun v t ht hv => ⟨rfl, ?_⟩)).symm
  · exact bX_eq (fun i hi => by rw [(clo_ent hI hTX hE hP ht i hi).1]; exact row_b m3 (clo_ent hI hTX hE hP ht i hi).2)
  · have h := clo_ent hI hTX hE hP ht
    refine bX_eq (fun i hi => ?_)
    have a1 : i / dC eX < dC eX := Nat.div_lt_of_lt_mul hi
    have a2 : i % dC eX < dC eX := Nat.mod_lt _ (by omega)
    have hd := dot_b (d := dC eX) (m := mC eX) (a := fun q => vg v (i / dC eX * dC eX + q)) (e := fun q => (rdF (eM 1) (9 * t + (q * dC eX + i % dC eX))).toInt64) d3 m3 (fun q _ => bey_in hv _) (fun q hq => (h _ (rc_lt hq a2)).2)
    have e1 : mulV (dC eX) (mC eX) (vg v) (rdL (eX (4 + t))) i = restL (mC eX) (sumTo (fun q => vg v (i / dC eX * dC eX + q) * restL (mC eX) (rdF (eM 1) (9 * t + (q * dC eX + i % dC eX))).toInt64) (dC eX)) := by
      unfold mulV dotL
      refine congrArg (restL (mC eX)) (sumTo_c _ (fun q hq => ?_))
      rw [(h _ (rc_lt hq a2)).1]
    rw [e1]
    exact hd.2
theorem clo_gR (hI : SX cy cs ad eX) (hTX : TXF cy cs ad eX F) (hT : T1 eX eM) (hE : ER F eX eM) (hP : RWP F eX) {t : Nat} (ht : t < kC eX) : GX (dC eX) (mC eX) (RC eX t) := by
  obtain ⟨k1, d1, m1, d2, d3, m3, k6⟩ := clo_num hI hT
  refine GX_vec ?_
  rcases Nat.eq_zero_or_pos (mC eX) with h0 | h1
  · exact Or.inl h0
  · refine Or.inr (fun i hi => ?_)
    obtain ⟨e1, e2, e3⟩ := clo_ent hI hTX hE hP ht i hi
    rw [e1]
    have := rest_b (v := (rdF (eM 1) (9 * t + i)).toInt64) h1 m3 (by omega) (by omega)
    omega
theorem clo_gM (hI : SX cy cs ad eX) (hTX : TXF cy cs ad eX F) (hT : T1 eX eM) (hE : ER F eX eM) (hP : RWP F eX) {t : Nat} (ht : t < kC eX) {v : List Int64} (hv : beyB v = false) : GX (dC eX) (mC eX) (MC eX v t) := by
  obtain ⟨k1, d1, m1, d2, d3, m3, k6⟩ := clo_num hI hT
  refine GX_vec ?_
  rcases Nat.eq_zero_or_pos (mC eX) with h0 | h1
  · exact Or.inl h0
  · refine Or.inr (fun i hi => ?_)
    have h := clo_ent hI hTX hE hP ht
    have a1 : i / dC eX < dC eX := Nat.div_lt_of_lt_mul hi
    have a2 : i % dC eX < dC eX := Nat.mod_lt _ (by omega)
    have b1 : ∀ q, q < dC eX → -100000000 ≤ (vg v (i / dC eX * dC eX + q) * rdL (eX (4 + t)) (q * dC eX + i % dC eX)).toInt ∧ (vg v (i / dC eX * dC eX + q) * rdL (eX (4 + t)) (q * dC eX + i % dC eX)).toInt ≤ 100000000 := fun q hq => by
      obtain ⟨e1, e2, e3⟩ := h _ (rc_lt hq a2)
      have r1 := rest_b (v := (rdF (eM 1) (9 * t + (q * dC eX + i % dC eX))).toInt64) h1 m3 (by omega) (by omega)
      rw [← e1] at r1
      obtain ⟨s1, s2⟩ := mul_bB (A := 1000000) (B := 100) (bey_in hv (i / dC eX * dC eX + q)).1 (bey_in hv (i / dC eX * dC eX + q)).2 (show -100 ≤ (rdL (eX (4 + t)) (q * dC eX + i % dC eX)).toInt by omega) (show (rdL (eX (4 + t)) (q * dC eX + i % dC eX)).toInt ≤ 100 by omega)
      rw [i64_mul (by omega) (by omega)]
      omega
    obtain ⟨c1, c2, c3⟩ := sumTo_zB (f := fun q => vg v (i / dC eX * dC eX + q) * rdL (eX (4 + t)) (q * dC eX + i % dC eX)) (B := 100000000) (by omega) (by omega) d3 b1
    have := rest_b (v := sumTo (fun q => vg v (i / dC eX * dC eX + q) * rdL (eX (4 + t)) (q * dC eX + i % dC eX)) (dC eX)) h1 m3 (by rw [c1]; omega) (by rw [c1]; omega)
    show 0 ≤ (restL (mC eX) (sumTo (fun q => vg v (i / dC eX * dC eX + q) * rdL (eX (4 + t)) (q * dC eX + i % dC eX)) (dC eX))).toInt ∧ (restL (mC eX) (sumTo (fun q => vg v (i / dC eX * dC eX + q) * rdL (eX (4 + t)) (q * dC eX + i % dC eX)) (dC eX))).toInt ≤ 96
    omega
theorem clo_G (hI : SX cy cs ad eX) (hTX : TXF cy cs ad eX F) (hT : T1 eX eM) (hE : ER F eX eM) (hP : RWP F eX) {S : CR} (hS : cloX eX = some S) : ∀ (k : Nat) (x : List Int64 × Int32), S[k]? = some x → GX (dC eX) (mC eX) x.1 ∧ beyB x.1 = false := by
  have hS2 := clo_B hI hTX hT hE hP hS
  have hb := clo_wf hS2
  have hG := st_all (B := beyB) (G := GX (dC eX) (mC eX)) (K := kC eX) (R := RC eX) (M := MC eX) (fun t ht => clo_gR hI hTX hT hE hP ht) (fun v t ht _ hv => clo_gM hI hTX hT hE hP ht hv) 2000 S hS2
  intro k x hx
  have hm : x ∈ S := List.mem_of_getElem? hx
  exact ⟨hG x hm, hb.2.2 x hm⟩
end CREL2
/-- the product of two rows, on both sides -/
theorem mul_mu {d mm : Nat} {v w : List Int64} (hd : d ≤ 3) (hm : mm ≤ 97) (hv : GX d mm v) (hw : GX d mm w) : vec (d * d) (mulV d mm (vg v) (vg w)) = vec (d * d) (muV d mm (vg v) (vg w)) := by
  refine vec_eq.2 (fun i hi => ?_)
  have a1 : i / d < d := Nat.div_lt_of_lt_mul hi
  have a2 : i % d < d := Nat.mod_lt _ (Nat.lt_of_le_of_lt (Nat.zero_le _) a1)
  have e : sumTo (fun k => vg v (i / d * d + k) * vg w (k * d + i % d)) d = sumTo (fun k => vg v (d * (i / d) + k) * vg w (d * k + i % d)) d := sumTo_c d (fun k _ => by rw [Nat.mul_comm (i / d) d, Nat.mul_comm k d])
  unfold mulV dotL muV
  rw [← e]
  rcases Nat.eq_zero_or_pos mm with rfl | h1
  · rw [restL_0, restR_0]
  · have gv := hv.2.resolve_left (by omega)
    have gw := hw.2.resolve_left (by omega)
    have b1 : ∀ k, k < d → -10000 ≤ (vg v (i / d * d + k) * vg w (k * d + i % d)).toInt ∧ (vg v (i / d * d + k) * vg w (k * d + i % d)).toInt ≤ 10000 := fun k hk => by
      have p := gv _ (rc_lt a1 hk)
      have q := gw _ (rc_lt hk a2)
      obtain ⟨s1, s2⟩ := mul_bB (A := 100) (B := 100) (show -100 ≤ (vg v (i / d * d + k)).toInt by omega) (show (vg v (i / d * d + k)).toInt ≤ 100 by omega) (show -100 ≤ (vg w (k * d + i % d)).toInt by omega) (show (vg w (k * d + i % d)).toInt ≤ 100 by omega)
      rw [i64_mul (by omega) (by omega)]
      omega
    obtain ⟨c1, c2, c3⟩ := sumTo_zB (f := fun k => vg v (i / d * d + k) * vg w (k * d + i % d)) (B := 10000) (by omega) (by omega) hd b1
    exact rest_eq hm ⟨by rw [c1]; omega, by rw [c1]; omega⟩
theorem ow_eq {d mm : Nat} {S : CR} (hd : d ≤ 3) (hm : mm ≤ 97) (h : ∀ (k : Nat) (x : List Int64 × Int32), S[k]? = some x → GX d mm x.1) : ∀ k, k ≤ S.length → owS d mm S k = owR d mm S k := by
  intro k
  induction k with
  | zero => intro _; rfl
  | succ k ih =>
    intro hk
    obtain ⟨x, hx⟩ := ge_some (S := S) (k := k) (by omega)
    have g := h k x hx
    by_cases e : vec (d * d) (mulV d mm (vg x.1) (vg x.1)) = x.1
    · rw [owS_p hx e, owR_p hx (by rw [← mul_mu hd hm g g]; exact e), ih (by omega)]
    · rw [owS_n hx e, owR_n hx (by rw [← mul_mu hd hm g g]; exact e), ih (by omega)]
theorem un_spec {d : Nat} {S : CR} : ∀ k, k ≤ S.length → (unS d S k = -9 ∧ ∀ (i : Nat) (x : List Int64 × Int32), i < k → S[i]? = some x → x.1 ≠ vec (d * d) (uV9 d)) ∨ ∃ (i : Nat) (x : List Int64 × Int32), i < k ∧ S[i]? = some x ∧ x.1 = vec (d * d) (uV9 d) ∧ unS d S k = nI i := by
  intro k
  induction k with
  | zero => intro _; exact Or.inl ⟨rfl, fun i x h => absurd h (Nat.not_lt_zero i)⟩
  | succ k ih =>
    intro hk
    obtain ⟨x, hx⟩ := ge_some (S := S) (k := k) (by omega)
    by_cases e : x.1 = vec (d * d) (uV9 d)
    · exact Or.inr ⟨k, x, by omega, hx, e, unS_p hx e⟩
    · rw [unS_n hx e]
      rcases ih (by omega) with ⟨a, b⟩ | ⟨i, y, a, b, c, f⟩
      · refine Or.inl ⟨a, fun i y hi hy => ?_⟩
        rcases Nat.lt_or_ge i k with q | q
        · exact b i y q hy
        · obtain rfl : i = k := by omega
          rw [hx] at hy
          rw [← Option.some.inj hy]
          exact e
      · exact Or.inr ⟨i, y, by omega, b, c, f⟩
theorem un_eq {B : List Int64 → Bool} {d mm : Nat} {S : CR} {r : Int32} (hW : WF9 B S) (h : ∀ (k : Nat) (x : List Int64 × Int32), S[k]? = some x → GX d mm x.1) (hr : uniR d S r) : unS d S S.length = r := by
  have key : ∀ (k : Nat) (x : List Int64 × Int32), S[k]? = some x → ((∀ c, c < d * d → vg x.1 c = uV d c) ↔ x.1 = vec (d * d) (uV9 d)) := fun k x hx => by
    have g := (h k x hx).1
    constructor
    · intro q
      rw [g]
      exact vec_eq.2 q
    · intro q c hc
      rw [q, vg_vec hc]
      rfl
  rcases un_spec (d := d) (S := S) S.length (Nat.le_refl _) with ⟨a, b⟩ | ⟨i, x, a, b, c, e⟩
  · rcases hr with ⟨r1, -⟩ | ⟨k, y, y1, y2, y3⟩
    · rw [a, r1]
    · exact absurd ((key k y y1).1 y2) (b k y (ge_lt y1) y1)
  · rcases hr with ⟨-, r2⟩ | ⟨k, y, y1, y2, y3⟩
    · exact absurd ((key i x b).2 c) (r2 i x b)
    · rw [e, y3]
      exact congrArg nI (ge_inj hW b y1 (c.trans ((key k y y1).1 y2).symm))
theorem nn_row {f : Nat → Int64} {n : Nat} (hn : n ≤ 3) (h : ∀ c, c < n → -1000000 ≤ (f c).toInt ∧ (f c).toInt ≤ 1000000) : 0 ≤ (sumTo (fun c => absL (f c)) n).toInt ∧ ((sumTo (fun c => absL (f c)) n).toInt = 0 ↔ ∀ c, c < n → f c = 0) := by
  have z0 : (0 : Int64).toInt = 0 := by decide
  have ab : ∀ c, c < n → 0 ≤ (absL (f c)).toInt ∧ (absL (f c)).toInt ≤ 1000000 ∧ ((absL (f c)).toInt = 0 ↔ f c = 0) := fun c hc => by
    obtain ⟨a1, a2⟩ := h c hc
    have e0 : (f c).toInt = 0 ↔ f c = 0 := ⟨fun q => Int64.toInt_inj.1 (q.trans z0.symm), fun q => by rw [q]; exact z0⟩
    unfold absL
    by_cases h9 : 0 < f c
    · have h8 := Int64.lt_iff_toInt_lt.mp h9
      rw [if_pos h9]
      exact ⟨by omega, by omega, e0⟩
    · have h8 : ¬ (0 : Int64).toInt < (f c).toInt := fun q => h9 (Int64.lt_iff_toInt_lt.mpr q)
      rw [if_neg h9, neg_i (by omega) (by omega)]
      exact ⟨by omega, by omega, by rw [← e0]; omega⟩
  obtain ⟨c1, -, -⟩ := sumTo_zB (f := fun c => absL (f c)) (B := 1000000) (by omega) (by omega) hn (fun z hz => ⟨by have := (ab z hz).1; omega, (ab z hz).2.1⟩)
  rw [c1]
  rcases (show n = 0 ∨ n = 1 ∨ n = 2 ∨ n = 3 by omega) with rfl | rfl | rfl | rfl
  · exact ⟨by show (0 : Int) ≤ 0; omega, fun _ c hc => absurd hc (Nat.not_lt_zero c), fun _ => rfl⟩
  · obtain ⟨p1, p2, p3⟩ := ab 0 (by omega)
    show 0 ≤ 0 + (absL (f 0)).toInt ∧ (0 + (absL (f 0)).toInt = 0 ↔ _)
    refine ⟨by omega, fun q c hc => ?_, fun q => ?_⟩
    · obtain rfl : c = 0 := by omega
      exact p3.1 (by omega)
    · have := p3.2 (q 0 (by omega)); omega
  · obtain ⟨p1, p2, p3⟩ := ab 0 (by omega)
    obtain ⟨q1, q2, q3⟩ := ab 1 (by omega)
    show 0 ≤ 0 + (absL (f 0)).toInt + (absL (f 1)).toInt ∧ (0 + (absL (f 0)).toInt + (absL (f 1)).toInt = 0 ↔ _)
    refine ⟨by omega, fun q c hc => ?_, fun q => ?_⟩
    · rcases (show c = 0 ∨ c = 1 by omega) with rfl | rfl
      · exact p3.1 (by omega)
      · exact q3.1 (by omega)
    · have a := p3.2 (q 0 (by omega)); have b := q3.2 (q 1 (by omega)); omega
  · obtain ⟨p1, p2, p3⟩ := ab 0 (by omega)
    obtain ⟨q1, q2, q3⟩ := ab 1 (by omega)
    obtain ⟨r1, r2, r3⟩ := ab 2 (by omega)
    show 0 ≤ 0 + (absL (f 0)).toInt + (absL (f 1)).toInt + (absL (f 2)).toInt ∧ (0 + (absL (f 0)).toInt + (absL (f 1)).toInt + (absL (f 2)).toInt = 0 ↔ _)
    refine ⟨by omega, fun q c hc => ?_, fun q => ?_⟩
    · rcases (show c = 0 ∨ c = 1 ∨ c = 2 by omega) with rfl | rfl | rfl
      · exact p3.1 (by omega)
      · exact q3.1 (by omega)
      · exact r3.1 (by omega)
    · have a := p3.2 (q 0 (by omega)); have b := q3.2 (q 1 (by omega)); have c := r3.2 (q 2 (by omega)); omega
theorem norm_0 {d : Nat} {f : Nat → Int64} (hd : d ≤ 3) (h : ∀ i, -1000000 ≤ (f i).toInt ∧ (f i).toInt ≤ 1000000) : ∀ k, k ≤ d → 0 ≤ (normT d f k).toInt ∧ ((normT d f k).toInt = 0 ↔ ∀ r c, r < k → c < d → f (r * d + c) = 0) := by
  intro k
  induction k with
  | zero => intro _; exact ⟨by show (0 : Int) ≤ (0 : Int64).toInt; decide, fun _ r c hr => absurd hr (Nat.not_lt_zero r), fun _ => by show (0 : Int64).toInt = 0; decide⟩
  | succ k ih =>
    intro hk
    obtain ⟨i1, i2⟩ := ih (by omega)
    obtain ⟨j1, j2⟩ := nn_row (f := fun c => f (k * d + c)) (n := d) hd (fun c _ => h _)
    have e : (normT d f (k + 1)).toInt = if (rowN d f k).toInt < (normT d f k).toInt then (normT d f k).toInt else (rowN d f k).toInt := by
      show (maxL (normT d f k) (rowN d f k)).toInt = _
      unfold maxL
      by_cases q : rowN d f k < normT d f k
      · rw [if_pos q, if_pos (Int64.lt_iff_toInt_lt.mp q)]
      · rw [if_neg q, if_neg (fun q2 => q (Int64.lt_iff_toInt_lt.mpr q2))]
    have j1' : 0 ≤ (rowN d f k).toInt := j1
    have j2' : (rowN d f k).toInt = 0 ↔ ∀ c, c < d → f (k * d + c) = 0 := j2
    have m0 : 0 ≤ (normT d f (k + 1)).toInt ∧ ((normT d f (k + 1)).toInt = 0 ↔ ((normT d f k).toInt = 0 ∧ (rowN d f k).toInt = 0)) := by
      rw [e]
      split <;> omega
    refine ⟨m0.1, m0.2.trans ?_⟩
    rw [i2, j2']
    constructor
    · intro q r c hr hc
      rcases Nat.lt_or_ge r k with h9 | h9
      · exact q.1 r c h9 hc
      · obtain rfl : r = k := by omega
        exact q.2 c hc
    · exact fun q => ⟨fun r c hr hc => q r c (by omega) hc, fun c hc => q k c (by omega) hc⟩
theorem norm_iff {d : Nat} {f : Nat → Int64} (hd : d ≤ 3) (h : ∀ i, -1000000 ≤ (f i).toInt ∧ (f i).toInt ≤ 1000000) : normT d f d = 0 ↔ ∀ c, c < d * d → f c = 0 := by
  obtain ⟨-, n2⟩ := norm_0 hd h d (Nat.le_refl _)
  have z0 : (0 : Int64).toInt = 0 := by decide
  have e0 : (normT d f d).toInt = 0 ↔ normT d f d = 0 := ⟨fun q => Int64.toInt_inj.1 (q.trans z0.symm), fun q => by rw [q]; exact z0⟩
  rw [← e0, n2]
  constructor
  · intro q c hc
    have a1 : c / d < d := Nat.div_lt_of_lt_mul hc
    have a2 : c % d < d := Nat.mod_lt _ (Nat.lt_of_le_of_lt (Nat.zero_le _) a1)
    have h9 := q (c / d) (c % d) a1 a2
    rw [Nat.mul_comm, Nat.div_add_mod] at h9
    exact h9
  · exact fun q r c hr hc => q _ (rc_lt hr hc)
theorem nou_iff {d : Nat} {S : CR} {k : Nat} (hd : d ≤ 3) (h : ∀ (k : Nat) (x : List Int64 × Int32), S[k]? = some x → beyB x.1 = false) : nouS d S k ↔ nouR d S k := by
  constructor
  · intro q
    obtain ⟨i, x, a, b, c⟩ := q
    exact ⟨i, x, a, b, (norm_iff hd (bey_in (h i x b))).1 c⟩
  · intro q
    obtain ⟨i, x, a, b, c⟩ := q
    exact ⟨i, x, a, b, (norm_iff hd (bey_in (h i x b))).2 c⟩
theorem bI_eq9 {x y : Int32} {P Q : Prop} (h : bI x P) (k : bI y Q) (e : P ↔ Q) : x = y := by
  rcases h with ⟨rfl, p⟩ | ⟨rfl, p⟩
  · rcases k with ⟨rfl, q⟩ | ⟨rfl, q⟩
    · rfl
    · exact absurd (e.1 p) q
  · rcases k with ⟨rfl, q⟩ | ⟨rfl, q⟩
    · exact absurd (e.2 q) p
    · rfl
/-! the relation of the two worlds with the closures -/
def TIE (eX eM : Nat → va_E) : Prop := rdI (eX 70) 7 = 1 ↔ ¬ rdI (eM 0) 25 = -9
def RLQ (cy : Nat → ClassId) (n : Nat) (a : Nat → Nat) (F : Nat → Nat → Int32) (eX eM : Nat → va_E) : Prop := RLX F eX eM ∧ QX cy (List.range n) a eX ∧ RQX eM ∧ TIE eX eM
theorem QX_made {cy : Nat → ClassId} {cs : List Nat} {ad : Nat → Nat} {en : Nat → va_E} (h : QX cy cs ad en) (hm : CPm cy cs ad en) : ∃ ka kb kc, KK cs ka kb kc ∧ PC cy ad ka kb kc en ∧ CLX ka kb kc en := by
  rcases h with h | e
  · exact h
  · obtain ⟨ka, kb, kc, -, ⟨sta, cc, ct, un, ow, hn, e1, -⟩, -⟩ := hm
    rw [e] at e1
    exact absurd e1 (by simp)
theorem TIE_k {eX eX1 eM eM1 : Nat → va_E} (h : TIE eX eM) (h7 : rdI (eX1 70) 7 = rdI (eX 70) 7) (h25 : rdI (eM1 0) 25 = rdI (eM 0) 25) : TIE eX1 eM1 := by
  unfold TIE
  rw [h7, h25]
  exact h
theorem TIE_0 {eX eM : Nat → va_E} (h7 : rdI (eX 70) 7 = 0) (h25 : rdI (eM 0) 25 = -9) : TIE eX eM := ⟨fun q => absurd (h7.symm.trans q) (by decide), fun q => absurd h25 q⟩
theorem TIE_t {eX eX1 eM eM1 : Nat → va_E} {k la i r : Int32} (h : TIE eX eM) (hT : T1 eX eM) (hT1 : T1 eX1 eM1) (hx : (rdI (eX1 70) 7 = 0 ∧ ¬ rdI (eX1 1) 4 = rdI (eX 1) 4) ∨ (eX1 70 = eX 70 ∧ rdI (eX1 1) 4 = rdI (eX 1) 4)) (hm : RTB k la i r eM eM1) : TIE eX1 eM1 := by
  have key : (rdI (eM1 0) 4 = rdI (eM 0) 4 ∧ rdI (eM1 0) 25 = rdI (eM 0) 25) ∨ (¬ rdI (eM1 0) 4 = rdI (eM 0) 4 ∧ rdI (eM1 0) 25 = -9) := by
    obtain ⟨d, cnt, -, -, hc, -, e4, hm⟩ := hm
    rcases hm with ⟨-, -, kp, -⟩ | ⟨-, K, -, -, hm⟩
    · exact Or.inl ⟨kp.2.2.2.1, kp.2.2.2.2.1⟩
    · rcases hm with ⟨-, -, kp, -⟩ | ⟨I, -, -, -, hm⟩
      · exact Or.inl ⟨kp.2.2.2.1, kp.2.2.2.2.1⟩
      · rcases hm with ⟨-, -, kp, -⟩ | ⟨-, -, -, kp, -⟩ | ⟨-, c6, -, -, -, -, f4, f25, -⟩
        · exact Or.inl ⟨kp.2.2.2.1, kp.2.2.2.2.1⟩
        · exact Or.inl ⟨kp.2.2.2.1, kp.2.2.2.2.1⟩
        · refine Or.inr ⟨fun q => ?_, f25⟩
          rw [f4, e4] at q
          have := n_eq q (by omega) (by omega)
          omega
  rcases hx with ⟨x1, x2⟩ | ⟨x1, x2⟩
  · rcases key with ⟨y1, -⟩ | ⟨-, y2⟩
    · exact absurd (hT1.1.trans (y1.trans hT.1.symm)) x2
    · exact TIE_0 x1 y2
  · rcases key with ⟨-, y2⟩ | ⟨y1, -⟩
    · exact TIE_k h (by rw [x1]) y2
    · exact absurd (hT1.1.symm.trans (x2.trans hT.1)) y1
theorem RQX_t {eM eM1 : Nat → va_E} {k la i r : Int32} (h : RQX eM) (hm : RTB k la i r eM eM1) (hu : ∀ c, c = 14 ∨ c = 15 ∨ c = 16 ∨ c = 17 → eM1 c = eM c) : RQX eM1 := by
  have go : KP eM eM1 → eM1 1 = eM 1 → RQX eM1 := fun kp e1 => RQX_keep h kp.2.1 kp.2.2.1 kp.2.2.2.1 kp.2.2.2.2.1 (fun c hc => by
    rcases hc with rfl | hc
    · exact e1
    · exact hu c hc)
  obtain ⟨d, cnt, -, -, hc, -, e4, hm⟩ := hm
  rcases hm with ⟨-, -, kp, e1⟩ | ⟨-, K, -, -, hm⟩
  · exact go kp e1
  · rcases hm with ⟨-, -, kp, e1⟩ | ⟨I, -, -, -, hm⟩
    · exact go kp e1
    · rcases hm with ⟨-, -, kp, e1⟩ | ⟨-, -, -, kp, e1⟩ | ⟨-, -, -, -, -, -, -, f25, -⟩
      · exact go kp e1
      · exact go kp e1
      · exact Or.inl f25
theorem close_rel {eX eM eM1 : Nat → va_E} {r r' : Int32} (hc : cloX eX = cloR eM) (hT : T1 eX eM) (h4 : ¬ rdI (eX 1) 4 = nI 0) (hx : XCL r eX) (hm : RCL r' eM eM1) : r = r' := by
  rcases hm with ⟨a, -⟩ | ⟨-, hm⟩
  · exact absurd (hT.1.trans a) h4
  · rcases hx with ⟨S, s1, s2⟩ | ⟨s1, s2⟩
    · rcases hm with ⟨T, t1, t2, -⟩ | ⟨t1, -⟩
      · rw [s1, t1] at hc
        rw [s2, t2, Option.some.inj hc]
      · rw [s1, t1] at hc
        exact absurd hc (by simp)
    · rcases hm with ⟨T, t1, t2, -⟩ | ⟨t1, t2, -⟩
      · rw [s1, t1] at hc
        exact absurd hc (by simp)
      · rw [s2, t2]
theorem close_0 {eM eM1 eX : Nat → va_E} {r r' : Int32} (hT : T1 eX eM) (h4 : rdI (eX 1) 4 = nI 0) (hx : r = -3) (hm : RCL r' eM eM1) : r = r' ∧ rdI (eM1 0) 25 = rdI (eM 0) 25 := by
  rcases hm with ⟨-, b, c⟩ | ⟨a, -⟩
  · exact ⟨hx.trans b.symm, c⟩
  · exact absurd (hT.1.symm.trans h4) a
theorem close_tie {eX eX1 eM eM1 : Nat → va_E} {r' : Int32} (hc : cloX eX1 = cloR eM) (hq1 : rdI (eX1 70) 7 = 1 → ∃ S, cloX eX1 = some S) (hq2 : rdI (eX1 70) 7 = 2 → cloX eX1 = none) (h7 : rdI (eX1 70) 7 = 1 ∨ rdI (eX1 70) 7 = 2) (hT : T1 eX eM) (h4 : ¬ rdI (eX 1) 4 = nI 0) (hm : RCL r' eM eM1) : TIE eX1 eM1 := by
  rcases hm with ⟨a, -⟩ | ⟨-, hm⟩
  · exact absurd (hT.1.trans a) h4
  · rcases hm with ⟨T, t1, -, t3⟩ | ⟨t1, -, t3⟩
    · refine ⟨fun _ => ?_, fun _ => ?_⟩
      · rw [t3]
        exact nI_n9 (by have := (clo_wf (B := beyB) t1).1; omega)
      · rcases h7 with h7 | h7
        · exact h7
        · have := hq2 h7
          rw [hc, t1] at this
          exact absurd this (by simp)
    · refine ⟨fun q => ?_, fun q => absurd t3 q⟩
      obtain ⟨S, s1⟩ := hq1 q
      rw [hc, t1] at s1
      exact absurd s1 (by simp)
theorem QX_q {cy : Nat → ClassId} {cs : List Nat} {ad : Nat → Nat} {en : Nat → va_E} (h : QX cy cs ad en) : (rdI (en 70) 7 = 1 → ∃ S, cloX en = some S) ∧ (rdI (en 70) 7 = 2 → cloX en = none) := by
  refine ⟨fun q => ?_, fun q => ?_⟩
  · obtain ⟨S, s1, -⟩ := QX_S h q
    exact ⟨S, s1⟩
  · rcases h with ⟨ka, kb, kc, -, -, c⟩ | e
    · exact c.2 q
    · rw [e] at q
      exact absurd q (show ¬ (0 : Int32) = 2 by decide)
section CREL3
variable {cy : Nat → ClassId} {cs : List Nat} {ad : Nat → Nat} {F : Nat → Nat → Int32} {eX eM : Nat → va_E}
theorem closed_rel {z r r' : Int32} (hI : SX cy cs ad eX) (hTX : TXF cy cs ad eX F) (hT : T1 eX eM) (hE : ER F eX eM) (hP : RWP F eX) (ht : TIE eX eM) (hx : XCD z r eX) (hm : RCD z r' eM) : r = r' := by
  obtain ⟨k1, d1, m1, d2, d3, m3, k6⟩ := clo_num hI hT
  have hc := clo_rel hI hTX hT hE hP
  rcases hx with ⟨x1, x2⟩ | ⟨x1, x2, x3⟩ | ⟨x1, x2, S, x3, x4⟩
  · rcases hm with ⟨-, y2⟩ | ⟨y1, -⟩ | ⟨y1, -⟩
    · rw [x2, y2]
    · exact absurd y1 x1
    · exact absurd y1 x1
  · rcases hm with ⟨y1, -⟩ | ⟨-, -, y3⟩ | ⟨-, y2, -⟩
    · exact absurd x1 y1
    · rw [x3, y3]
    · exact absurd (ht.2 y2) x2
  · rcases hm with ⟨y1, -⟩ | ⟨-, y2, -⟩ | ⟨-, -, T, y3, y4⟩
    · exact absurd x1 y1
    · exact absurd y2 (ht.1 x2)
    · have hg := clo_G hI hTX hT hE hP x3
      have hw := clo_wf (B := bX) x3
      rw [x3, y3] at hc
      obtain rfl := Option.some.inj hc
      rw [← d1, ← m1] at y4
      have n01 : ∀ {a b : Nat}, z = nI a → z = nI b → a < 5 → b < 5 → a = b := fun p q ha hb => n_eq (p.symm.trans q) (by omega) (by omega)
      rcases x4 with ⟨p, q⟩ | ⟨p, q⟩ | ⟨p, q⟩ | ⟨p, q⟩ | ⟨p, q⟩ <;> rcases y4 with ⟨p', q'⟩ | ⟨p', q'⟩ | ⟨p', q'⟩ | ⟨p', q'⟩ | ⟨p', q'⟩ <;> first
        | exact absurd (p.symm.trans p') (by decide)
        | skip
      · rw [q, q']
      · exact bI_eq9 q q' (nou_iff d3 (fun k x hx => (hg k x hx).2))
      · rw [q]
        exact un_eq hw (fun k x hx => (hg k x hx).1) q'
      · rw [q, q', ow_eq d3 m3 (fun k x hx => (hg k x hx).1) _ (Nat.le_refl _)]
      · rw [q, q']
theorem product_rel {k a b : Int32} {r r' : Int64} (hI : SX cy cs ad eX) (hTX : TXF cy cs ad eX F) (hT : T1 eX eM) (hE : ER F eX eM) (hP : RWP F eX) (ht : TIE eX eM) (hx : XPD k a b r eX) (hm : RPD k a b r' eM) : r = r' := by
  obtain ⟨k1, d1, m1, d2, d3, m3, k6⟩ := clo_num hI hT
  have hc := clo_rel hI hTX hT hE hP
  rcases hx with ⟨x1, S, x2, x3⟩ | ⟨x1, x2⟩
  · rcases hm with ⟨y1, -⟩ | ⟨-, T, y2, y3⟩
    · exact absurd y1 (ht.1 x1)
    · rw [x2, y2] at hc
      obtain rfl := Option.some.inj hc
      rw [← d1] at y3
      rcases x3 with ⟨p, q⟩ | ⟨p, q⟩
      · rcases y3 with ⟨-, q'⟩ | ⟨p', -⟩
        · rw [q, q', Nat.mul_comm]
        · exact absurd p p'
      · rcases y3 with ⟨p', -⟩ | ⟨-, q'⟩
        · exact absurd p' p
        · rw [q, q']
  · rcases hm with ⟨-, y2⟩ | ⟨y1, -⟩
    · rw [x2, y2]
    · exact absurd (ht.2 y1) x1
end CREL3
