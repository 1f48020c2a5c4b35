theorem Af_self {cs : List Nat} {ad : Nat → Nat} {en : Nat → va_E} {sz : Nat} (h : va_D (fun _ => True) (wl cs ad en)) : va_D (Af cs ad sz) (wl cs ad en) := ⟨h.1, fun k q hk => by
  obtain ⟨c, -, hc, rfl⟩ := wl_of hk
  exact Or.inl ⟨c, hc, rfl⟩⟩
theorem tb_out {x : Int32} {lo hi : Int} (n : Nat) (h : hi = lo + n - 1) (_ : True) (hj : ∀ j : Nat, j < n → ¬ x.toInt = lo + (j : Int)) : x.toInt < lo ∨ hi < x.toInt := by
  rcases Int.lt_or_le x.toInt lo with h1 | h1
  · exact Or.inl h1
  · rcases Int.lt_or_le hi x.toInt with h2 | h2
    · exact Or.inr h2
    · exact absurd (by omega) (hj (x.toInt - lo).toNat (by omega))
abbrev wi (v a b : Int32) : Prop := a.toInt ≤ v.toInt ∧ v.toInt ≤ b.toInt
abbrev wj (v a b : Int64) : Prop := a.toInt ≤ v.toInt ∧ v.toInt ≤ b.toInt
theorem wj_32 {k a b : Int32} {a' b' : Int64} (ha : a'.toInt = a.toInt) (hb : b'.toInt = b.toInt) : wj k.toInt64 a' b' ↔ wi k a b := by
  unfold wj wi
  rw [Int32.toInt_toInt64, ha, hb]
theorem i_lt {x y : Int32} (h : x < y) : x.toInt < y.toInt := Int32.lt_iff_toInt_lt.mp h
theorem i_nlt {x y : Int32} (h : ¬ x < y) : y.toInt ≤ x.toInt := by
  have h2 : ¬ x.toInt < y.toInt := fun q => h (Int32.lt_iff_toInt_lt.mpr q)
  omega
theorem i_le {x y : Int32} (h : x ≤ y) : x.toInt ≤ y.toInt := Int32.le_iff_toInt_le.mp h
theorem i_nle {x y : Int32} (h : ¬ x ≤ y) : y.toInt < x.toInt := by
  have h2 : ¬ x.toInt ≤ y.toInt := fun q => h (Int32.le_iff_toInt_le.mpr q)
  omega
theorem i_eq {x y : Int32} (h : x = y) : x.toInt = y.toInt := congrArg Int32.toInt h
theorem i_neq {x y : Int32} (h : ¬ x = y) : x.toInt ≠ y.toInt := fun q => h (Int32.toInt_inj.mp q)
theorem l_lt {x y : Int64} (h : x < y) : x.toInt < y.toInt := Int64.lt_iff_toInt_lt.mp h
theorem l_nlt {x y : Int64} (h : ¬ x < y) : y.toInt ≤ x.toInt := by
  have h2 : ¬ x.toInt < y.toInt := fun q => h (Int64.lt_iff_toInt_lt.mpr q)
  omega
/-- an index that was tested lies within -/
theorem wi_in {v b : Int32} (n : Nat) (h : wi v 0 b) (hb : b.toInt + 1 = n) : vp_in v n := vp_in_iff.mpr ⟨by have := h.1; simpa using this, by have := h.2; omega⟩
theorem wi_cl {v b : Int32} (n : Nat) (h : wi v 0 b) (hb : b.toInt + 1 = n) (hn : n < 2 ^ 31) : ∃ j : Nat, j < n ∧ v = nI j ∧ v.toNatClampNeg = j := by
  obtain ⟨j, hj, rfl⟩ := vp_in_of (wi_in n h hb) hn
  exact ⟨j, hj, rfl, nI_clamp (by omega)⟩
theorem wi_lt {v b : Int32} (n : Nat) (h : wi v 0 b) (hb : b.toInt + 1 = n) : v.toNatClampNeg < n := Nat.not_le.mp fun q => wi_in n h hb (Or.inr q)
theorem va_up_id {α : Type} {f : Nat → α} {c : Nat} {x : α} (h : f c = x) : va_up f c x = f := by
  funext j
  by_cases hj : j = c
  · subst hj; rw [va_up_self, h]
  · rw [va_up_ne _ _ hj]
def sp3 (k lane : Int32) : Int32 := if wi k 0 3 then (if wi lane 0 2 then -11 else -2) else -1
theorem sp3_a {k lane : Int32} (h : wi k 0 3) (h2 : wi lane 0 2) : sp3 k lane = -11 := by unfold sp3; rw [if_pos h, if_pos h2]
theorem sp3_b {k lane : Int32} (h : wi k 0 3) (h2 : ¬ wi lane 0 2) : sp3 k lane = -2 := by unfold sp3; rw [if_pos h, if_neg h2]
theorem sp3_c {k lane : Int32} (h : ¬ wi k 0 3) : sp3 k lane = -1 := by unfold sp3; rw [if_neg h]
theorem g_lt {x y : Int64} (h : lg_cmp x y < 0) : x.toInt < y.toInt := Int64.lt_iff_toInt_lt.mp ((lg_cmp_lt _ _).mp h)
theorem g_nlt {x y : Int64} (h : ¬ lg_cmp x y < 0) : y.toInt ≤ x.toInt := l_nlt (fun q => h ((lg_cmp_lt _ _).mpr q))
theorem g_gt {x y : Int64} (h : 0 < lg_cmp x y) : y.toInt < x.toInt := Int64.lt_iff_toInt_lt.mp ((lg_cmp_gt _ _).mp h)
theorem g_ngt {x y : Int64} (h : ¬ 0 < lg_cmp x y) : x.toInt ≤ y.toInt := l_nlt (fun q => h ((lg_cmp_gt _ _).mpr q))
theorem g_le {x y : Int64} (h : lg_cmp x y ≤ 0) : x.toInt ≤ y.toInt := Int64.le_iff_toInt_le.mp ((lg_cmp_le _ _).mp h)
theorem g_ge {x y : Int64} (h : 0 ≤ lg_cmp x y) : y.toInt ≤ x.toInt := Int64.le_iff_toInt_le.mp ((lg_cmp_ge _ _).mp h)
theorem g_nle {x y : Int64} (h : ¬ lg_cmp x y ≤ 0) : y.toInt < x.toInt := by
  have h2 : ¬ x.toInt ≤ y.toInt := fun q => h ((lg_cmp_le _ _).mpr (Int64.le_iff_toInt_le.mpr q))
  omega
theorem g_nge {x y : Int64} (h : ¬ 0 ≤ lg_cmp x y) : x.toInt < y.toInt := by
  have h2 : ¬ y.toInt ≤ x.toInt := fun q => h ((lg_cmp_ge _ _).mpr (Int64.le_iff_toInt_le.mpr q))
  omega
theorem g_eq {x y : Int64} (h : lg_cmp x y = 0) : x.toInt = y.toInt := congrArg Int64.toInt ((lg_cmp_eq _ _).mp h)
theorem g_neq {x y : Int64} (h : ¬ lg_cmp x y = 0) : x.toInt ≠ y.toInt := fun q => h ((lg_cmp_eq _ _).mpr (Int64.toInt_inj.mp q))
theorem no_has {t c : Int32} (hc : c.toInt ≤ 0) : ¬ (0 ≤ t.toInt ∧ t.toInt < c.toInt) := fun h => by have := h.1; have := h.2; omega
theorem TB_S2 {own : String} {idx : Nat} {y : MethodName} {cw : Cond} (h1 : Cond.methodLink own idx y ∈ TB) (h2 : Cond.static y ∈ TB) (h4 : Cond.initialized y.cls ∈ TB) (h5 : cw ∈ TB) : GoodIn TB (va_wsS own idx y (cw :: TB)) := by
  intro w h
  refine TB_good w ?_
  simp only [va_wsS, List.mem_append, List.mem_cons, List.not_mem_nil, or_false] at h
  rcases h with (h | h | h) | h | h
  · rw [h]; exact h1
  · rw [h]; exact h2
  · rw [h]; exact h4
  · rw [h]; exact h5
  · exact h
theorem up_lt {f : Nat → Int32} {j n : Nat} {v : Int32} (hj : j < n) (hn : n < 2 ^ 31) (h : ∀ i, i < j → f i = v) : ∀ i, i < j + 1 → upd f (nI j).toNatClampNeg v i = v := by
  intro i hi
  rw [nI_clamp (by omega)]
  by_cases e : i = j
  · subst e; exact pk_us
  · rw [pk_un e]; exact h i (by omega)
theorem wi_in1 {v a b : Int32} (n : Nat) (h : wi v a b) (ha : 0 ≤ a.toInt) (hb : b.toInt + 1 = n) : vp_in v n := vp_in_iff.mpr ⟨by have := h.1; omega, by have := h.2; omega⟩
theorem wi_lt1 {v a b : Int32} (n : Nat) (h : wi v a b) (ha : 0 ≤ a.toInt) (hb : b.toInt + 1 = n) : v.toNatClampNeg < n := Nat.not_le.mp fun q => wi_in1 n h ha hb (Or.inr q)
theorem wi_pos {v b : Int32} (h : wi v 1 b) : (0 : Int32) < v := by
  apply Int32.lt_iff_toInt_lt.mpr
  have h1 := h.1
  have h2 : (1 : Int32).toInt = 1 := by decide
  have h3 : (0 : Int32).toInt = 0 := by decide
  omega
def spTold (w : Int32) : Int32 := if w = 1 then 2 else if (w = 0 ∨ w = 2 ∨ w = 3 ∨ w = 4) then 0 else -2
theorem spTold_d {w : Int32} (h0 : ¬ w = 0) (h1 : ¬ w = 1) (h2 : ¬ w = 2) (h3 : ¬ w = 3) (h4 : ¬ w = 4) : spTold w = -2 := by
  unfold spTold
  rw [if_neg h1, if_neg (by intro h; rcases h with h | h | h | h <;> contradiction)]
def spLen (n w : Int32) : Int64 := if (wi n 1 8 ∧ wi w 0 3 ∧ (w = 0 ∨ w = 3)) then 0 else (-9223372036854775808)
def spSheet (k la n : Int32) : Int32 := if wi k 0 3 then (if wi la 0 2 ∧ n.toInt ≤ 40 then (if n.toInt < 0 then -14 else 1) else -2) else -1
def spExt (n z i : Int32) : Int32 := if wi n 1 8 ∧ wi z 0 1 ∧ wi i 0 (n - 1) then -9 else -2
def spRing (n i : Int32) : Int32 := if wi n 1 8 ∧ wi i 0 (n - 1) then -9 else -2
def spBegin (d m : Int32) : Int32 := if wi d 2 3 ∧ (m = 0 ∨ wi m 2 97) then 1 else -2
theorem wi_nat {n b : Int32} (h : wi n 1 b) : ∃ N : Nat, n = nI N ∧ 1 ≤ N ∧ (N : Int) ≤ b.toInt := by
  have h1 : (1 : Int32).toInt = 1 := by decide
  have h2 := h.1
  have h3 := h.2
  have h4 : (0 : Int32).toInt = 0 := by decide
  obtain ⟨N, hN, rfl⟩ := nI_of (x := n) (fun q => by have := i_lt q; omega)
  rw [nI_toInt hN] at h2 h3
  exact ⟨N, rfl, by omega, h3⟩
theorem ge_of {n : Int32} {j N : Nat} (h : n = nI N) (hj : N ≤ j) (hb : j < 2 ^ 31) : n ≤ nI j := by rw [h]; exact nI_le hj hb
theorem nge_of {n : Int32} {j N : Nat} (h : n = nI N) (hj : j < N) (hb : N < 2 ^ 31) : ¬ n ≤ nI j := by rw [h]; exact nI_ge hj hb
theorem wi_sub1 {n b : Int32} (h : wi n 1 b) : (n - 1).toInt = n.toInt - 1 := by
  obtain ⟨N, rfl, h1, h2⟩ := wi_nat h
  have hb : b.toInt < 2 ^ 31 := Int32.toInt_lt b
  rw [show (1 : Int32) = nI 1 from rfl, pk_sub h1, nI_toInt (by omega), nI_toInt (by omega)]
  omega
theorem wj_n1 {i n : Int32} (h : wi n 1 8) : wj i.toInt64 0 (n.toInt64 - 1) ↔ wi i 0 (n - 1) := by
  have e1 := wi_sub1 h
  obtain ⟨N, rfl, h1, h2⟩ := wi_nat h
  have h8 : (8 : Int32).toInt = 8 := by decide
  unfold wj wi
  rw [e1, Int32.toInt_toInt64, nI_l (by omega), show (1 : Int64) = lN 1 from rfl, lN_sub h1, lN_toInt (by omega), nI_toInt (by omega)]
  have h0 : (0 : Int64).toInt = 0 := by decide
  have h9 : (0 : Int32).toInt = 0 := by decide
  rw [h0, h9]
  omega
theorem ix40 {k : Int32} {j : Nat} (h : wi k 0 3) (hj : j < 40) : vp_in (40 * k + nI j) 160 := by
  obtain ⟨K, hK, rfl, -⟩ := wi_cl 4 h (by decide) (by decide)
  rw [show (40 : Int32) = nI 40 from rfl, pk_mul, nI_add]
  exact vp_in_nI (by omega) (by decide)
