/-! the reference's closure: its arrays and chains hold the list -/
def dQ (en : Nat → va_E) : Nat := (rdI (en 0) 2).toNatClampNeg
def mQ (en : Nat → va_E) : Nat := (rdI (en 0) 3).toNatClampNeg
def kQ (en : Nat → va_E) : Nat := (rdI (en 0) 4).toNatClampNeg
def lvl (n : Nat) (en : Nat → va_E) (i : Nat) : Int64 := rdL (en 6) (9 * n + i)
def hRst (a x : Int64) : Int64 := a * 1000003 + x
def hRE (m : Int64) : Nat := (m ^^^ (m >>> ((21 : Int32).toInt64 &&& 63))).toBitVec.toNat % 4096
def hR (v : List Int64) : Nat := hRE (v.foldl hRst 0)
theorem hR_lt (v : List Int64) : hR v < 4096 := Nat.mod_lt _ (by decide)
theorem hr_s {f : Nat → Int64} {n : Nat} : (vec (n + 1) f).foldl hRst 0 = (vec n f).foldl hRst 0 * 1000003 + f n := by
  rw [vec_s, List.foldl_append]
  rfl
theorem l4095x (x : Int64) : (x &&& 4095).toInt32 = nI (x.toBitVec.toNat % 4096) := by
  have e : x = lN x.toBitVec.toNat := by
    apply Int64.toBitVec_inj.1
    show x.toBitVec = BitVec.ofNat 64 x.toBitVec.toNat
    rw [BitVec.ofNat_toNat, BitVec.setWidth_eq]
  have h : (lN x.toBitVec.toNat &&& 4095).toInt32 = nI (x.toBitVec.toNat % 4096) := by
    rw [show (4095 : Int64) = lN (2 ^ 12 - 1) from rfl, l_and, Nat.and_two_pow_sub_one_eq_mod, lN_i]
  exact (congrArg (fun z => (z &&& 4095).toInt32) e).trans h
def muV (d mo : Nat) (fa fb : Nat → Int64) (i : Nat) : Int64 := restR mo (sumTo (fun k => fa (d * (i / d) + k) * fb (d * k + i % d)) d)
def muP (d mo p q : Nat) (P : Nat → Int64) (i : Nat) : Int64 := restR mo (sumTo (fun k => P (9 * p + d * (i / d) + k) * P (9 * q + d * k + i % d)) d)
theorem muP_at {d mo p q r c : Nat} {P : Nat → Int64} (hc : c < d) : muP d mo p q P (d * r + c) = restR mo (sumTo (fun k => P (9 * p + d * r + k) * P (9 * q + d * k + c)) d) := by
  unfold muP
  rw [Nat.mul_add_div (by omega), Nat.div_eq_of_lt hc, Nat.add_zero, Nat.mul_add_mod, Nat.mod_eq_of_lt hc]
theorem rcq {d a b : Nat} (ha : a < d) (hb : b < d) : d * a + b < d * d := by
  rw [Nat.mul_comm d a]
  exact rc_lt ha hb
theorem muP_v {d mo p q i : Nat} {P : Nat → Int64} {v w : List Int64} (hi : i < d * d) (hv : ∀ x, x < d * d → P (9 * p + x) = vg v x) (hw : ∀ x, x < d * d → P (9 * q + x) = vg w x) : muP d mo p q P i = muV d mo (vg v) (vg w) i := by
  have h1 : i / d < d := Nat.div_lt_of_lt_mul hi
  have h0 : 0 < d := Nat.lt_of_le_of_lt (Nat.zero_le _) h1
  have h2 : i % d < d := Nat.mod_lt _ h0
  unfold muP muV
  refine congrArg (restR mo) (sumTo_c d (fun k hk => ?_))
  rw [Nat.add_assoc, Nat.add_assoc, hv _ (rcq h1 hk), hw _ (rcq hk h2)]
theorem goV_c9 {d mo n t i : Nat} {L L' : Nat → Int64} {E : Nat → Int32} (hi : i < d * d) (h : ∀ x, x < d * d → L (9 * n + x) = L' (9 * n + x)) : goV d mo n t L E i = goV d mo n t L' E i := by
  have h1 : i / d < d := Nat.div_lt_of_lt_mul hi
  unfold goV
  refine congrArg (restR mo) (sumTo_c d (fun k hk => ?_))
  rw [Nat.add_assoc, h _ (rcq h1 hk)]
def RQ (en : Nat → va_E) (t : Nat) : List Int64 := vec (dQ en * dQ en) (goV (dQ en) (mQ en) 0 t (uV (dQ en)) (rdF (en 1)))
def MQ9 (en : Nat → va_E) (v : List Int64) (t : Nat) : List Int64 := vec (dQ en * dQ en) (goV (dQ en) (mQ en) 0 t (vg v) (rdF (en 1)))
def cloR (en : Nat → va_E) : Option CR := clo beyB (kQ en) (RQ en) (MQ9 en)
theorem cloR_keep {a b : Nat → va_E} (h2 : rdI (b 0) 2 = rdI (a 0) 2) (h3 : rdI (b 0) 3 = rdI (a 0) 3) (h4 : rdI (b 0) 4 = rdI (a 0) 4) (h1 : b 1 = a 1) : cloR b = cloR a := by
  unfold cloR
  have e1 : kQ b = kQ a := by unfold kQ; rw [h4]
  have e2 : RQ b = RQ a := by funext t; unfold RQ dQ mQ; rw [h2, h3, h1]
  have e3 : MQ9 b = MQ9 a := by funext v t; unfold MQ9 dQ mQ; rw [h2, h3, h1]
  rw [e1, e2, e3]
def RC9 (N : Nat) (en : Nat → va_E) (S : CR) : Prop := rdI (en 0) 25 = nI S.length ∧ WF9 beyB S ∧ AR9 N (fun k i => rdL (en 14) (9 * k + i)) (rdF (en 15)) S ∧ HC9 hR (rdF (en 16)) (rdF (en 17)) S
theorem RC_k {N : Nat} {en e1 : Nat → va_E} {S : CR} (h : RC9 N en S) (h0 : rdI (e1 0) 25 = rdI (en 0) 25) (h14 : e1 14 = en 14) (h15 : e1 15 = en 15) (h16 : e1 16 = en 16) (h17 : e1 17 = en 17) : RC9 N e1 S := by
  unfold RC9
  rw [h0, h14, h15, h16, h17]
  exact h
theorem RC_0 {N : Nat} {en : Nat → va_E} (h0 : rdI (en 0) 25 = nI 0) (h : ∀ i, i < 4096 → rdF (en 16) i = -9) : RC9 N en [] := ⟨h0, WF_0, AR_0, HC_0 h⟩
theorem RC_CH {N : Nat} {en : Nat → va_E} {S : CR} (h : RC9 N en S) : CH en S.length := by
  obtain ⟨h1, h2, h3, h4, h5⟩ := h
  refine ⟨h2.1, h1, fun k hk => ?_, fun p hp => ?_⟩
  · rw [h4 k hk]
    rcases pv_cs (hs := hR) (S := S) (h := k) S.length (Nat.le_refl _) with ⟨e, -⟩ | ⟨v, x, a, e, -⟩
    · exact Or.inl e
    · exact Or.inr ⟨v, a, e⟩
  · obtain ⟨x, hx⟩ := ge_some hp
    rw [h5 p x hx]
    rcases pv_cs (hs := hR) (S := S) (h := hR x.1) p (by omega) with ⟨e, -⟩ | ⟨v, y, a, e, -⟩
    · exact Or.inl e
    · exact Or.inr ⟨v, a, e⟩
theorem RC_row {N k : Nat} {en : Nat → va_E} {S : CR} {x : List Int64 × Int32} (h : RC9 N en S) (hx : S[k]? = some x) : ∀ i, i < N → rdL (en 14) (9 * k + i) = vg x.1 i := by
  intro i hi
  rw [(h.2.2.1 k x hx).1, vg_vec hi]
theorem RC_len {N k : Nat} {en : Nat → va_E} {S : CR} {x : List Int64 × Int32} (h : RC9 N en S) (hx : S[k]? = some x) : rdF (en 15) k = x.2 := ((h.2.2.1 k x hx).2).symm
theorem RC_vec {N k : Nat} {en : Nat → va_E} {S : CR} {x : List Int64 × Int32} (h : RC9 N en S) (hx : S[k]? = some x) : x.1 = vec N (vg x.1) := by
  have h9 : x.1 = vec N (fun i => rdL (en 14) (9 * k + i)) := (h.2.2.1 k x hx).1
  rw [h9]
  exact vec_eq.2 (fun i hi => (vg_vec (f := fun i => rdL (en 14) (9 * k + i)) hi).symm)
/-- where a row is found -/
def FA9 (r : Int32) (S : CR) (v : List Int64) : Prop := (r = -9 ∧ ¬ v ∈ S.map Prod.fst) ∨ ∃ (p : Nat) (x : List Int64 × Int32), S[p]? = some x ∧ x.1 = v ∧ r = nI p
def FI9 (S : CR) (v : List Int64) (m : Nat) : Prop := m ≤ S.length ∧ ∀ (k : Nat) (x : List Int64 × Int32), m ≤ k → S[k]? = some x → x.1 ≠ v
theorem FI_0 {S : CR} {v : List Int64} : FI9 S v S.length := ⟨Nat.le_refl _, fun k x h1 h2 => absurd (ge_lt h2) (by omega)⟩
theorem FI_s {S : CR} {v : List Int64} {m w : Nat} {x : List Int64 × Int32} (h : FI9 S v m) (hw : w < m) (hx : S[w]? = some x) (hb : ∀ (k : Nat) (y : List Int64 × Int32), w < k → k < m → S[k]? = some y → hR y.1 ≠ hR v) (hn : x.1 ≠ v) : FI9 S v w := by
  refine ⟨Nat.le_trans (Nat.le_of_lt hw) h.1, fun k y h1 h2 h3 => ?_⟩
  rcases Nat.lt_trichotomy w k with q | q | q
  · rcases Nat.lt_or_ge k m with q2 | q2
    · exact hb k y q q2 h2 (by rw [h3])
    · exact h.2 k y q2 h2 h3
  · subst q
    rw [hx] at h2
    rw [← Option.some.inj h2] at h3
    exact hn h3
  · omega
theorem FI_end {S : CR} {v : List Int64} {m : Nat} (hl : S.length ≤ 2000) (h : FI9 S v m) (h9 : pv9 hR S (hR v) m = -9) : FA9 (-9) S v := by
  refine Or.inl ⟨rfl, fun q => ?_⟩
  have h0 := h.1
  obtain ⟨k, x, hk, e⟩ := ge_mem q
  rcases Nat.lt_or_ge k m with q2 | q2
  · rcases pv_cs (hs := hR) (S := S) (h := hR v) m h.1 with ⟨-, b⟩ | ⟨w, y, a, b, -⟩
    · exact b k x q2 hk (by rw [e])
    · exact nI_n9 (v := w) (by omega) (b.symm.trans h9)
  · exact h.2 k x q2 hk e
theorem LY_s {g F : Nat → Int64} {n j : Nat} {v : Int64} (h : ∀ i, i < j → g (9 * n + i) = F i) (hv : v = F j) : ∀ i, i < j + 1 → vp_updL g (9 * n + j) v (9 * n + i) = F i := by
  intro i hi
  by_cases e : i = j
  · subst e
    rw [pk_uLs]
    exact hv
  · rw [pk_uLn (by omega)]
    exact h i (by omega)
theorem bA1 {x : Int32} {P Q : Prop} (h : bI x P) (e : P ↔ Q) : bI (x &&& 1) Q := by
  rcases h with ⟨rfl, p⟩ | ⟨rfl, p⟩
  · exact Or.inl ⟨by decide, e.1 p⟩
  · exact Or.inr ⟨by decide, fun q => p (e.2 q)⟩
theorem bA0 {x : Int32} {P Q : Prop} (h : bI x P) (hq : ¬ Q) : bI (x &&& 0) Q := by
  rcases h with ⟨rfl, p⟩ | ⟨rfl, p⟩
  · exact Or.inr ⟨by decide, hq⟩
  · exact Or.inr ⟨by decide, hq⟩
theorem bO1 {x : Int32} {P Q : Prop} (h : bI x P) (hq : Q) : bI (x ||| 1) Q := by
  rcases h with ⟨rfl, p⟩ | ⟨rfl, p⟩
  · exact Or.inl ⟨by decide, hq⟩
  · exact Or.inl ⟨by decide, hq⟩
theorem bO0 {x : Int32} {P Q : Prop} (h : bI x P) (e : P ↔ Q) : bI (x ||| 0) Q := by
  rcases h with ⟨rfl, p⟩ | ⟨rfl, p⟩
  · exact Or.inl ⟨by decide, e.1 p⟩
  · exact Or.inr ⟨by decide, fun q => p (e.2 q)⟩
theorem bI_bit {x : Int32} {P : Prop} (h : bI x P) : x = 0 ∨ x = 1 := h.elim (fun q => Or.inr q.1) (fun q => Or.inl q.1)
theorem up_iff {n : Nat} {Q : Nat → Prop} (h : Q n) : (∀ i, i < n → Q i) ↔ ∀ i, i < n + 1 → Q i := by
  constructor
  · intro q i hi
    rcases Nat.lt_or_ge i n with h9 | h9
    · exact q i h9
    · obtain rfl : i = n := by omega
      exact h
  · exact fun q i hi => q i (by omega)
theorem up_not {n : Nat} {Q : Nat → Prop} (h : ¬ Q n) : ¬ ∀ i, i < n + 1 → Q i := fun q => h (q n (by omega))
theorem tk_pos {B : List Int64 → Bool} {S T : CR} {v : List Int64} {l : Int32} (e : tk B S v l = some T) : 1 ≤ T.length := by
  unfold tk at e
  by_cases h1 : B v = true
  · rw [if_pos h1] at e
    exact absurd e (by simp)
  · rw [if_neg h1] at e
    by_cases h2 : v ∈ S.map Prod.fst
    · rw [if_pos h2] at e
      obtain rfl := Option.some.inj e
      obtain ⟨k, x, hk, -⟩ := ge_mem h2
      have := ge_lt hk
      omega
    · rw [if_neg h2] at e
      by_cases h3 : S.length = 2000
      · rw [if_pos h3] at e
        exact absurd e (by simp)
      · rw [if_neg h3] at e
        obtain rfl := Option.some.inj e
        rw [List.length_append]
        show 1 ≤ S.length + 1
        omega
theorem lt_pos {B : List Int64 → Bool} {R : Nat → List Int64} {K : Nat} {S : CR} (hK : 1 ≤ K) (h : lt9 B R K = some S) : 1 ≤ S.length := by
  obtain ⟨j, rfl⟩ : ∃ j, K = j + 1 := ⟨K - 1, by omega⟩
  obtain ⟨T, -, h2⟩ := bind_some h
  exact tk_pos h2
theorem st_pos {B : List Int64 → Bool} {K : Nat} {R : Nat → List Int64} {M : List Int64 → Nat → List Int64} (hK : 1 ≤ K) : ∀ k (S : CR), st9 B K R M k = some S → 1 ≤ S.length := by
  intro k
  induction k with
  | zero => intro S h; exact lt_pos hK h
  | succ k ih =>
    intro S h
    obtain ⟨T, h1, h2⟩ := bind_some h
    exact Nat.le_trans (ih T h1) (xs_wf (st_wf k T h1) h2).2.1
/-- what is known between calls -/
def RQX (en : Nat → va_E) : Prop := rdI (en 0) 25 = -9 ∨ ∃ S, 1 ≤ S.length ∧ cloR en = some S ∧ RC9 (dQ en * dQ en) en S
theorem RQX_CHX {en : Nat → va_E} (h : RQX en) : CHX en := by
  rcases h with h | ⟨S, h1, -, h2⟩
  · exact Or.inl h
  · exact Or.inr ⟨S.length, h1, RC_CH h2⟩
theorem RQX_keep {a b : Nat → va_E} (h : RQX a) (h2 : rdI (b 0) 2 = rdI (a 0) 2) (h3 : rdI (b 0) 3 = rdI (a 0) 3) (h4 : rdI (b 0) 4 = rdI (a 0) 4) (h5 : rdI (b 0) 25 = rdI (a 0) 25) (hu : ∀ c, c = 1 ∨ c = 14 ∨ c = 15 ∨ c = 16 ∨ c = 17 → b c = a c) : RQX b := by
  rcases h with h | ⟨S, s1, s2, s3⟩
  · exact Or.inl (h5.trans h)
  · refine Or.inr ⟨S, s1, (cloR_keep h2 h3 h4 (hu 1 (by omega))).trans s2, ?_⟩
    have e : dQ b = dQ a := by unfold dQ; rw [h2]
    rw [e]
    exact RC_k s3 h5 (hu 14 (by omega)) (hu 15 (by omega)) (hu 16 (by omega)) (hu 17 (by omega))
theorem RQX_n9 {en : Nat → va_E} {pr : Int32} (h : RQX en) (h0 : rdI (en 0) 25 = pr) (hp : ¬ pr = -9) : ∃ S, 1 ≤ S.length ∧ S.length ≤ 2000 ∧ cloR en = some S ∧ RC9 (dQ en * dQ en) en S := by
  rcases h with h | ⟨S, s1, s2, s3⟩
  · exact absurd (h0.symm.trans h) hp
  · exact ⟨S, s1, s3.2.1.1, s2, s3⟩
theorem RQX_lt {en : Nat → va_E} {pr x : Int32} (h : RQX en) (h0 : rdI (en 0) 25 = pr) (hp : 0 ≤ x.toInt ∧ x.toInt < pr.toInt) : ∃ (S : CR) (K : Nat), x = nI K ∧ K < S.length ∧ S.length ≤ 2000 ∧ cloR en = some S ∧ RC9 (dQ en * dQ en) en S := by
  have hn : ¬ pr = -9 := fun q => by
    rw [q] at hp
    have h2 : (-9 : Int32).toInt = -9 := by decide
    omega
  obtain ⟨S, s1, s2, s3, s4⟩ := RQX_n9 h h0 hn
  have e : pr = nI S.length := h0.symm.trans s4.1
  rw [e, nI_toInt (by omega)] at hp
  obtain ⟨K, hK, hK2⟩ := has_nat hp
  exact ⟨S, K, hK, hK2, s2, s3, s4⟩
/-! the answers -/
def nouR (d : Nat) (S : CR) (k : Nat) : Prop := ∃ (i : Nat) (x : List Int64 × Int32), i < k ∧ S[i]? = some x ∧ ∀ c, c < d * d → vg x.1 c = 0
def uniR (d : Nat) (S : CR) (r : Int32) : Prop := (r = -9 ∧ ∀ (k : Nat) (x : List Int64 × Int32), S[k]? = some x → ¬ ∀ c, c < d * d → vg x.1 c = uV d c) ∨ ∃ (k : Nat) (x : List Int64 × Int32), S[k]? = some x ∧ (∀ c, c < d * d → vg x.1 c = uV d c) ∧ r = nI k
def owR (d mo : Nat) (S : CR) : Nat → Int32
  | 0 => 0
  | k + 1 => match S[k]? with
    | none => owR d mo S k
    | some x => if vec (d * d) (muV d mo (vg x.1) (vg x.1)) = x.1 then owR d mo S k + 1 else owR d mo S k
theorem owR_p {d mo k : Nat} {S : CR} {x : List Int64 × Int32} (hx : S[k]? = some x) (h : vec (d * d) (muV d mo (vg x.1) (vg x.1)) = x.1) : owR d mo S (k + 1) = owR d mo S k + 1 := by
  show (match S[k]? with
    | none => owR d mo S k
    | some x => if vec (d * d) (muV d mo (vg x.1) (vg x.1)) = x.1 then owR d mo S k + 1 else owR d mo S k) = owR d mo S k + 1
  rw [hx]
  exact if_pos h
theorem owR_n {d mo k : Nat} {S : CR} {x : List Int64 × Int32} (hx : S[k]? = some x) (h : ¬ vec (d * d) (muV d mo (vg x.1) (vg x.1)) = x.1) : owR d mo S (k + 1) = owR d mo S k := by
  show (match S[k]? with
    | none => owR d mo S k
    | some x => if vec (d * d) (muV d mo (vg x.1) (vg x.1)) = x.1 then owR d mo S k + 1 else owR d mo S k) = owR d mo S k
  rw [hx]
  exact if_neg h
theorem nouR_p {d k : Nat} {S : CR} {x : List Int64 × Int32} {b : Int32} (h : bI b (nouR d S k)) (hx : S[k]? = some x) (h0 : ∀ c, c < d * d → vg x.1 c = 0) : bI (b ||| 1) (nouR d S (k + 1)) := bO1 h ⟨k, x, by omega, hx, h0⟩
theorem nouR_n {d k : Nat} {S : CR} {x : List Int64 × Int32} {b : Int32} (h : bI b (nouR d S k)) (hx : S[k]? = some x) (h0 : ¬ ∀ c, c < d * d → vg x.1 c = 0) : bI (b ||| 0) (nouR d S (k + 1)) := by
  refine bO0 h ⟨fun q => ?_, fun q => ?_⟩
  · obtain ⟨i, y, a, b, c⟩ := q
    exact ⟨i, y, by omega, b, c⟩
  · obtain ⟨i, y, a, b, c⟩ := q
    rcases Nat.lt_or_ge i k with h9 | h9
    · exact ⟨i, y, h9, b, c⟩
    · obtain rfl : i = k := by omega
      rw [hx] at b
      rw [← Option.some.inj b] at c
      exact absurd c h0
def cdR (d mo : Nat) (S : CR) (z r : Int32) : Prop := (z = 0 ∧ r = nI S.length) ∨ (z = 1 ∧ bI r (nouR d S S.length)) ∨ (z = 2 ∧ uniR d S r) ∨ (z = 3 ∧ r = owR d mo S S.length) ∨ (z = 4 ∧ r = laS S)
def RCD (z r : Int32) (en : Nat → va_E) : Prop := (¬ wi z 0 4 ∧ r = -2) ∨ (wi z 0 4 ∧ rdI (en 0) 25 = -9 ∧ r = -3) ∨ (wi z 0 4 ∧ ¬ rdI (en 0) 25 = -9 ∧ ∃ S, cloR en = some S ∧ cdR (dQ en) (mQ en) S z r)
def pdR (S : CR) (d : Nat) (k a b : Int32) (r : Int64) : Prop := ((hasS k S ∧ plS a b d) ∧ r = vg (rwS S k.toNatClampNeg) (d * a.toNatClampNeg + b.toNatClampNeg)) ∨ (¬ (hasS k S ∧ plS a b d) ∧ r = -9223372036854775808)
def RPD (k a b : Int32) (r : Int64) (en : Nat → va_E) : Prop := (rdI (en 0) 25 = -9 ∧ r = -9223372036854775808) ∨ (¬ rdI (en 0) 25 = -9 ∧ ∃ S, cloR en = some S ∧ pdR S (dQ en) k a b r)
def prR (d mo : Nat) (S : CR) (k j : Nat) : List Int64 := vec (d * d) (muV d mo (vg (rwS S k)) (vg (rwS S j)))
def tmR (d mo : Nat) (S : CR) (k j r : Int32) : Prop := ((hasS k S ∧ hasS j S) ∧ FA9 r S (prR d mo S k.toNatClampNeg j.toNatClampNeg)) ∨ (¬ (hasS k S ∧ hasS j S) ∧ r = -1)
def RTM (k j r : Int32) (en : Nat → va_E) : Prop := (rdI (en 0) 25 = -9 ∧ r = -1) ∨ (¬ rdI (en 0) 25 = -9 ∧ ∃ S, cloR en = some S ∧ tmR (dQ en) (mQ en) S k j r)
def RCL (r : Int32) (en e1 : Nat → va_E) : Prop := (rdI (en 0) 4 = nI 0 ∧ r = -3 ∧ rdI (e1 0) 25 = rdI (en 0) 25) ∨ (rdI (en 0) 4 ≠ nI 0 ∧ ((∃ S, cloR en = some S ∧ r = nI S.length ∧ rdI (e1 0) 25 = nI S.length) ∨ (cloR en = none ∧ r = -6 ∧ rdI (e1 0) 25 = -9)))
theorem wj_bey {x : Int64} (h : ¬ wj x (-1000000) 1000000) : x.toInt < -1000000 ∨ 1000000 < x.toInt := by
  unfold wj at h
  rw [show (-1000000 : Int64).toInt = -1000000 by decide, show (1000000 : Int64).toInt = 1000000 by decide] at h
  omega
theorem bey_wj {x : Int64} (h : wj x (-1000000) 1000000) (q : x.toInt < -1000000 ∨ 1000000 < x.toInt) : False := by
  unfold wj at h
  rw [show (-1000000 : Int64).toInt = -1000000 by decide, show (1000000 : Int64).toInt = 1000000 by decide] at h
  omega
theorem RC_add {N w : Nat} {en e1 : Nat → va_E} {S : CR} {f : Nat → Int64} {l : Int32} (hN : N = w * w) (h : RC9 N en S) (hlt : S.length < 2000) (hb : ¬ beyB (vec N f) = true) (hn : ¬ vec N f ∈ S.map Prod.fst) (h0 : rdI (e1 0) 25 = nI (S.length + 1)) (h1 : ∀ k i, k < S.length → i < N → rdL (e1 14) (9 * k + i) = rdL (en 14) (9 * k + i)) (h2 : ∀ i, i < N → rdL (e1 14) (9 * S.length + i) = f i) (h15 : rdF (e1 15) = upd (rdF (en 15)) S.length l) (h16 : rdF (e1 16) = upd (rdF (en 16)) (hR (vec N f)) (nI S.length)) (h17 : rdF (e1 17) = upd (rdF (en 17)) S.length (rdF (en 16) (hR (vec N f)))) : ∃ T, tk beyB S (vec N f) l = some T ∧ RC9 N e1 T := by
  obtain ⟨a, b, c, d⟩ := h
  have ht := tk_add (l := l) hb hn (by omega)
  refine ⟨_, ht, ?_, (tk_wf b ht).1, ?_, ?_⟩
  · rw [List.length_append]
    exact h0
  · rw [h15]
    exact AR_add c h1 (fun k hk => pk_un (by omega)) h2 pk_us
  · rw [h16, h17]
    exact HC_add d (hR_lt _)
/-- the row that goOn makes of the unit, or of a row that was laid -/
theorem GO_r {en g e1 : Nat → va_E} {N t : Nat} (hN : N = dQ en * dQ en) (h9 : N ≤ 9) (hg : GON 0 t g e1) (h2 : rdI (g 0) 2 = rdI (en 0) 2) (h3 : rdI (g 0) 3 = rdI (en 0) 3) (h1 : g 1 = en 1) (hu : ∀ x, x < N → rdL (g 6) x = uV (dQ en) x) : vec N (lvl 1 e1) = RQ en t := by
  unfold RQ
  rw [hN]
  refine vec_eq.2 (fun i hi => ?_)
  unfold lvl
  rw [hg (9 * 1 + i), h2, h3, h1]
  rw [hN] at h9 hu
  show (if 9 * 0 + 9 ≤ 9 * 1 + i ∧ 9 * 1 + i < 9 * 0 + 9 + dQ en * dQ en then goV (dQ en) (mQ en) 0 t (rdL (g 6)) (rdF (en 1)) (9 * 1 + i - (9 * 0 + 9)) else rdL (g 6) (9 * 1 + i)) = _
  rw [if_pos (by omega), show 9 * 1 + i - (9 * 0 + 9) = i by omega]
  exact goV_c9 hi (fun x hx => by rw [show 9 * 0 + x = x by omega]; exact hu x hx)
theorem GO_m {en g e1 : Nat → va_E} {N t : Nat} {v : List Int64} (hN : N = dQ en * dQ en) (h9 : N ≤ 9) (hg : GON 0 t g e1) (h2 : rdI (g 0) 2 = rdI (en 0) 2) (h3 : rdI (g 0) 3 = rdI (en 0) 3) (h1 : g 1 = en 1) (hu : ∀ x, x < N → rdL (g 6) (9 * 0 + x) = vg v x) : vec N (lvl 1 e1) = MQ9 en v t := by
  unfold MQ9
  rw [hN]
  refine vec_eq.2 (fun i hi => ?_)
  unfold lvl
  rw [hg (9 * 1 + i), h2, h3, h1]
  rw [hN] at h9 hu
  show (if 9 * 0 + 9 ≤ 9 * 1 + i ∧ 9 * 1 + i < 9 * 0 + 9 + dQ en * dQ en then goV (dQ en) (mQ en) 0 t (rdL (g 6)) (rdF (en 1)) (9 * 1 + i - (9 * 0 + 9)) else rdL (g 6) (9 * 1 + i)) = _
  rw [if_pos (by omega), show 9 * 1 + i - (9 * 0 + 9) = i by omega]
  exact goV_c9 hi (fun x hx => by rw [hu x hx, show 9 * 0 + x = x by omega])
theorem GO_k {g e1 : Nat → va_E} {t x : Nat} (hg : GON 0 t g e1) (hx : x < 9) : rdL (e1 6) x = rdL (g 6) x := by
  rw [hg x]
  exact if_neg (by omega)
theorem MU_v {en g e1 : Nat → va_E} {N p q : Nat} {S : CR} {x y : List Int64 × Int32} (hN : N = dQ en * dQ en) (h0 : g 0 = en 0) (hRC : RC9 N g S) (hx : S[p]? = some x) (hy : S[q]? = some y) (hm : ∀ i, i < dQ g * dQ g → rdL (e1 6) (9 + i) = muP (dQ g) (mQ g) p q (rdL (g 14)) i) : vec N (lvl 1 e1) = vec N (muV (dQ en) (mQ en) (vg x.1) (vg y.1)) := by
  have e1 : dQ g = dQ en := by unfold dQ; rw [h0]
  have e2 : mQ g = mQ en := by unfold mQ; rw [h0]
  rw [e1, e2] at hm
  refine vec_eq.2 (fun i hi => ?_)
  have h1 := RC_row hRC hx
  have h2 := RC_row hRC hy
  rw [hN] at hi h1 h2
  unfold lvl
  rw [show 9 * 1 + i = 9 + i by omega, hm i hi]
  exact muP_v hi h1 h2
theorem RQX_S {en : Nat → va_E} (h : RQX en) (hp : ¬ rdI (en 0) 25 = -9) : ∃ S, cloR en = some S ∧ rdI (en 0) 25 = nI S.length ∧ S.length ≤ 2000 := by
  obtain ⟨S, -, s2, s3, s4⟩ := RQX_n9 h rfl hp
  exact ⟨S, s3, s4.1, s2⟩
theorem n25 {en : Nat → va_E} {N : Nat} {S : CR} (h : RC9 N en S) : ¬ rdI (en 0) 25 = -9 := by
  rw [h.1]
  exact nI_n9 (by have := h.2.1.1; omega)
theorem RPD_n {en : Nat → va_E} {k a b : Int32} (hR : RQX en) (h : ¬ (0 ≤ k.toInt ∧ k.toInt < (rdI (en 0) 25).toInt)) : RPD k a b (-9223372036854775808) en := by
  by_cases h7 : rdI (en 0) 25 = -9
  · exact Or.inl ⟨h7, rfl⟩
  · obtain ⟨S, s1, s2, s3⟩ := RQX_S hR h7
    exact Or.inr ⟨h7, S, s1, Or.inr ⟨fun q => h ((has_S s3 s2).2 q.1), rfl⟩⟩
theorem RPD_q {en : Nat → va_E} {k a b : Int32} {N : Nat} {S : CR} (hRC : RC9 N en S) (hS : cloR en = some S) (h : ¬ plS a b (dQ en)) : RPD k a b (-9223372036854775808) en := Or.inr ⟨n25 hRC, S, hS, Or.inr ⟨fun q => h q.2, rfl⟩⟩
theorem RPD_v {K A B : Nat} {en : Nat → va_E} {S : CR} {r : Int64} (hRC : RC9 (dQ en * dQ en) en S) (hS : cloR en = some S) (hK : K < S.length) (hd : dQ en ≤ 3) (hA : A < dQ en) (hB : B < dQ en) (hr : r = rdL (en 14) (9 * K + dQ en * A + B)) : RPD (nI K) (nI A) (nI B) r en := by
  have hl := hRC.2.1.1
  obtain ⟨x, hx⟩ := ge_some hK
  refine Or.inr ⟨n25 hRC, S, hS, Or.inl ⟨⟨⟨?_, ?_⟩, ⟨?_, ?_⟩, ?_, ?_⟩, ?_⟩⟩
  · rw [nI_toInt (by omega)]; omega
  · rw [nI_toInt (by omega)]; omega
  · rw [nI_toInt (by omega)]; omega
  · rw [nI_toInt (by omega)]; omega
  · rw [nI_toInt (by omega)]; omega
  · rw [nI_toInt (by omega)]; omega
  · rw [nI_clamp (n := K) (by omega), nI_clamp (n := A) (by omega), nI_clamp (n := B) (by omega), rwS_p hx, hr, Nat.add_assoc]
    exact RC_row hRC hx _ (rcq hA hB)
theorem RTM_n {en : Nat → va_E} {k j : Int32} (hR : RQX en) (h : ¬ (0 ≤ k.toInt ∧ k.toInt < (rdI (en 0) 25).toInt)) : RTM k j (-1) en := by
  by_cases h7 : rdI (en 0) 25 = -9
  · exact Or.inl ⟨h7, rfl⟩
  · obtain ⟨S, s1, s2, s3⟩ := RQX_S hR h7
    exact Or.inr ⟨h7, S, s1, Or.inr ⟨fun q => h ((has_S s3 s2).2 q.1), rfl⟩⟩
theorem RTM_q {en : Nat → va_E} {k j : Int32} (hR : RQX en) (h : ¬ (0 ≤ j.toInt ∧ j.toInt < (rdI (en 0) 25).toInt)) : RTM k j (-1) en := by
  by_cases h7 : rdI (en 0) 25 = -9
  · exact Or.inl ⟨h7, rfl⟩
  · obtain ⟨S, s1, s2, s3⟩ := RQX_S hR h7
    exact Or.inr ⟨h7, S, s1, Or.inr ⟨fun q => h ((has_S s3 s2).2 q.2), rfl⟩⟩
theorem RTM_v {K J : Nat} {en : Nat → va_E} {S : CR} {x y : List Int64 × Int32} {r : Int32} (hRC : RC9 (dQ en * dQ en) en S) (hS : cloR en = some S) (hx : S[K]? = some x) (hy : S[J]? = some y) (h : FA9 r S (vec (dQ en * dQ en) (muV (dQ en) (mQ en) (vg x.1) (vg y.1)))) : RTM (nI K) (nI J) r en := by
  have hl := hRC.2.1.1
  have hK := ge_lt hx
  have hJ := ge_lt hy
  refine Or.inr ⟨n25 hRC, S, hS, Or.inl ⟨⟨⟨?_, ?_⟩, ?_, ?_⟩, ?_⟩⟩
  · rw [nI_toInt (by omega)]; omega
  · rw [nI_toInt (by omega)]; omega
  · rw [nI_toInt (by omega)]; omega
  · rw [nI_toInt (by omega)]; omega
  · unfold prR
    rw [nI_clamp (n := K) (by omega), nI_clamp (n := J) (by omega), rwS_p hx, rwS_p hy]
    exact h
theorem add0 (x : Int32) : x + 0 = x := Int32.add_zero x
