/-! what is known of the closure, whatever cells its arrays are -/
def QX (cy : Nat → ClassId) (cs : List Nat) (ad : Nat → Nat) (en : Nat → va_E) : Prop := (∃ ka kb kc, KK cs ka kb kc ∧ PC cy ad ka kb kc en ∧ CLX ka kb kc en) ∨ (en 70 = .inr (0, [.ref (ad 1), .ref (ad 71), .ref (ad 72), .ref (ad 73), .null, .null, .null, .int 0, .int 0, .int 0, .int 0, .int 0, .int 0]))
theorem QX_found {cy : Nat → ClassId} {cs : List Nat} {ad : Nat → Nat} {en : Nat → va_E} (h : QX cy cs ad en) (h1 : rdI (en 70) 7 = 1) : ∃ ka kb kc S, KK cs ka kb kc ∧ PC cy ad ka kb kc en ∧ cloX en = some S ∧ CL9 ka kb kc (dC en * dC en) en S ∧ SU9 en (dC en) (mC en) S := by
  rcases h with ⟨ka, kb, kc, k, p, c⟩ | e
  · obtain ⟨S, s1, s2, s3⟩ := c.1 h1
    exact ⟨ka, kb, kc, S, k, p, s1, s2, s3⟩
  · rw [e] at h1
    exact absurd h1 (show ¬ (0 : Int32) = 1 by decide)
theorem QX_S {cy : Nat → ClassId} {cs : List Nat} {ad : Nat → Nat} {en : Nat → va_E} (h : QX cy cs ad en) (h1 : rdI (en 70) 7 = 1) : ∃ S, cloX en = some S ∧ rdI (en 70) 9 = nI S.length ∧ S.length ≤ 2000 := by
  obtain ⟨ka, kb, kc, S, -, -, s1, s2, -⟩ := QX_found h h1
  exact ⟨S, s1, s2.2.2.1, s2.2.2.2.1.1⟩
theorem QX_CP {cy : Nat → ClassId} {cs : List Nat} {ad : Nat → Nat} {en : Nat → va_E} (h : QX cy cs ad en) : CP cy cs ad en := by
  rcases h with ⟨ka, kb, kc, k, p, -⟩ | e
  · exact Or.inl ⟨ka, kb, kc, k, p⟩
  · exact Or.inr e
theorem QX_keep {cy : Nat → ClassId} {cs : List Nat} {ad : Nat → Nat} {en en1 : Nat → va_E} (h : QX cy cs ad en) (hc : kC en ≤ 6) (hu : ∀ c, c = 1 ∨ (4 ≤ c ∧ c < 10) ∨ c = 70 ∨ 115 ≤ c → en1 c = en c) : QX cy cs ad en1 := by
  rcases h with ⟨ka, kb, kc, k, p, q⟩ | e
  · obtain ⟨-, -, -, k1, k2, k3⟩ := id k
    refine Or.inl ⟨ka, kb, kc, k, ⟨?_, ?_, ?_, ?_⟩, CLX_k q hc (hu 1 (by omega)) (fun c h1 h2 => hu c (by omega)) (hu 70 (by omega)) (hu ka (by omega)) (hu kb (by omega)) (hu kc (by omega))⟩
    · rw [hu 70 (by omega)]; exact p.1
    · rw [hu ka (by omega)]; exact p.2.1
    · rw [hu kb (by omega)]; exact p.2.2.1
    · rw [hu kc (by omega)]; exact p.2.2.2
  · exact Or.inr (by rw [hu 70 (by omega)]; exact e)
theorem QX_0 {cy : Nat → ClassId} {cs : List Nat} {ad : Nat → Nat} {en : Nat → va_E} (h : CP cy cs ad en) (h7 : rdI (en 70) 7 = 0) : QX cy cs ad en := by
  rcases h with ⟨ka, kb, kc, k, p⟩ | e
  · exact Or.inl ⟨ka, kb, kc, k, p, CLX_0 h7⟩
  · exact Or.inr e
/-! the answers -/
def rwS (S : CR) (k : Nat) : List Int64 := match S[k]? with
  | none => []
  | some x => x.1
def laS (S : CR) : Int32 := match S[S.length - 1]? with
  | none => 0
  | some x => x.2
theorem rwS_p {S : CR} {k : Nat} {x : List Int64 × Int32} (h : S[k]? = some x) : rwS S k = x.1 := by
  show (match S[k]? with
    | none => []
    | some x => x.1) = x.1
  rw [h] <;> rfl
theorem laS_p {S : CR} {x : List Int64 × Int32} (h : S[S.length - 1]? = some x) : laS S = x.2 := by
  show (match S[S.length - 1]? with
    | none => 0
    | some x => x.2) = x.2
  rw [h] <;> rfl
theorem laS_0 {S : CR} (h : S.length = 0) : laS S = 0 := by
  cases S with
  | nil => rfl
  | cons a t => exact absurd h (Nat.succ_ne_zero _)
def hasS (k : Int32) (S : CR) : Prop := 0 ≤ k.toInt ∧ k.toInt < (S.length : Int)
def plS (a b : Int32) (d : Nat) : Prop := (0 ≤ a.toInt ∧ a.toInt < (d : Int)) ∧ 0 ≤ b.toInt ∧ b.toInt < (d : Int)
def pdS (S : CR) (d : Nat) (k a b : Int32) (r : Int64) : Prop := ((hasS k S ∧ plS a b d) ∧ r = vg (rwS S k.toNatClampNeg) (a.toNatClampNeg * d + b.toNatClampNeg)) ∨ (¬ (hasS k S ∧ plS a b d) ∧ r = -9223372036854775808)
def XPD (k a b : Int32) (r : Int64) (en : Nat → va_E) : Prop := (rdI (en 70) 7 = 1 ∧ ∃ S, cloX en = some S ∧ pdS S (dC en) k a b r) ∨ (¬ rdI (en 70) 7 = 1 ∧ r = -9223372036854775808)
def cdX (d mm : Nat) (S : CR) (z r : Int32) : Prop := (z = 0 ∧ r = nI S.length) ∨ (z = 1 ∧ bI r (nouS d S S.length)) ∨ (z = 2 ∧ r = unS d S S.length) ∨ (z = 3 ∧ r = owS d mm S S.length) ∨ (z = 4 ∧ r = laS S)
def XCD (z r : Int32) (en : Nat → va_E) : Prop := (¬ wi z 0 4 ∧ r = -2) ∨ (wi z 0 4 ∧ ¬ rdI (en 70) 7 = 1 ∧ r = -3) ∨ (wi z 0 4 ∧ rdI (en 70) 7 = 1 ∧ ∃ S, cloX en = some S ∧ cdX (dC en) (mC en) S z r)
def prS (d mm : Nat) (S : CR) (k j : Nat) : List Int64 := vec (d * d) (mulV d mm (vg (rwS S k)) (vg (rwS S j)))
def tmS (d mm : Nat) (S : CR) (k j r : Int32) : Prop := ((hasS k S ∧ hasS j S) ∧ ((∃ (p : Nat) (z : List Int64 × Int32), S[p]? = some z ∧ z.1 = prS d mm S k.toNatClampNeg j.toNatClampNeg ∧ r = nI p) ∨ (¬ prS d mm S k.toNatClampNeg j.toNatClampNeg ∈ S.map Prod.fst ∧ r = -1))) ∨ (¬ (hasS k S ∧ hasS j S) ∧ r = -1)
def XTM (k j r : Int32) (en : Nat → va_E) : Prop := (rdI (en 70) 7 = 1 ∧ ∃ S, cloX en = some S ∧ tmS (dC en) (mC en) S k j r) ∨ (¬ rdI (en 70) 7 = 1 ∧ r = -1)
theorem has_S {S : CR} {k : Int32} {c : Int32} (hl : S.length ≤ 2000) (hc : c = nI S.length) : (0 ≤ k.toInt ∧ k.toInt < c.toInt) ↔ hasS k S := by
  unfold hasS
  rw [hc, nI_toInt (by omega)]
theorem XPD_n {cy : Nat → ClassId} {cs : List Nat} {ad : Nat → Nat} {en : Nat → va_E} {k a b : Int32} (hQ : QX cy cs ad en) (h : ¬ (rdI (en 70) 7 = 1 ∧ 0 ≤ k.toInt ∧ k.toInt < (rdI (en 70) 9).toInt)) : XPD k a b (-9223372036854775808) en := by
  by_cases h7 : rdI (en 70) 7 = 1
  · obtain ⟨S, s1, s2, s3⟩ := QX_S hQ h7
    exact Or.inl ⟨h7, S, s1, Or.inr ⟨fun q => h ⟨h7, (has_S s3 s2).2 q.1⟩, rfl⟩⟩
  · exact Or.inr ⟨h7, rfl⟩
theorem XPD_q {en : Nat → va_E} {k a b : Int32} {S : CR} (h7 : rdI (en 70) 7 = 1) (hS : cloX en = some S) (h : ¬ plS a b (dC en)) : XPD k a b (-9223372036854775808) en := Or.inl ⟨h7, S, hS, Or.inr ⟨fun q => h q.2, rfl⟩⟩
theorem XPD_v {ka kb kc K A B : Nat} {en : Nat → va_E} {S : CR} {r : Int64} (h7 : rdI (en 70) 7 = 1) (hS : cloX en = some S) (hcl : CL9 ka kb kc (dC en * dC en) en S) (hK : K < S.length) (hd : dC en ≤ 3) (hA : A < dC en) (hB : B < dC en) (hr : r = rdL (en ka) (K * 9 + (A * dC en + B))) : XPD (nI K) (nI A) (nI B) r en := by
  have hl := hcl.2.2.2.1.1
  obtain ⟨x, hx⟩ := ge_some hK
  refine Or.inl ⟨h7, S, hS, Or.inl ⟨⟨⟨?_, ?_⟩, ⟨?_, ?_⟩, ?_, ?_⟩, ?_⟩⟩
  · rw [nI_toInt (by omega)]; omega
  · rw [nI_toInt (by omega)]; omega
  · rw [nI_toInt (by omega)]; omega
  · rw [nI_toInt (by omega)]; omega
  · rw [nI_toInt (by omega)]; omega
  · rw [nI_toInt (by omega)]; omega
  · rw [nI_clamp (n := K) (by omega), nI_clamp (n := A) (by omega), nI_clamp (n := B) (by omega), rwS_p hx, hr]
    exact CL_row hcl hx _ (rc_lt hA hB)
theorem XTM_n {cy : Nat → ClassId} {cs : List Nat} {ad : Nat → Nat} {en : Nat → va_E} {k j : Int32} (hQ : QX cy cs ad en) (h : ¬ (rdI (en 70) 7 = 1 ∧ 0 ≤ k.toInt ∧ k.toInt < (rdI (en 70) 9).toInt)) : XTM k j (-1) en := by
  by_cases h7 : rdI (en 70) 7 = 1
  · obtain ⟨S, s1, s2, s3⟩ := QX_S hQ h7
    exact Or.inl ⟨h7, S, s1, Or.inr ⟨fun q => h ⟨h7, (has_S s3 s2).2 q.1⟩, rfl⟩⟩
  · exact Or.inr ⟨h7, rfl⟩
theorem XTM_q {cy : Nat → ClassId} {cs : List Nat} {ad : Nat → Nat} {en : Nat → va_E} {k j : Int32} (hQ : QX cy cs ad en) (h : ¬ (rdI (en 70) 7 = 1 ∧ 0 ≤ j.toInt ∧ j.toInt < (rdI (en 70) 9).toInt)) : XTM k j (-1) en := by
  by_cases h7 : rdI (en 70) 7 = 1
  · obtain ⟨S, s1, s2, s3⟩ := QX_S hQ h7
    exact Or.inl ⟨h7, S, s1, Or.inr ⟨fun q => h ⟨h7, (has_S s3 s2).2 q.2⟩, rfl⟩⟩
  · exact Or.inr ⟨h7, rfl⟩
theorem XTM_v {K J : Nat} {en : Nat → va_E} {S : CR} {x y : List Int64 × Int32} {r : Int32} (h7 : rdI (en 70) 7 = 1) (hS : cloX en = some S) (hl : S.length ≤ 2000) (hx : S[K]? = some x) (hy : S[J]? = some y) (h : (∃ (p : Nat) (z : List Int64 × Int32), S[p]? = some z ∧ z.1 = vec (dC en * dC en) (mulV (dC en) (mC en) (vg x.1) (vg y.1)) ∧ r = nI p) ∨ (¬ vec (dC en * dC en) (mulV (dC en) (mC en) (vg x.1) (vg y.1)) ∈ S.map Prod.fst ∧ r = -1)) : XTM (nI K) (nI J) r en := by
  have hK := ge_lt hx
  have hJ := ge_lt hy
  refine Or.inl ⟨h7, S, hS, Or.inl ⟨⟨⟨?_, ?_⟩, ?_, ?_⟩, ?_⟩⟩
  · rw [nI_toInt (by omega)]; omega
  · rw [nI_toInt (by omega)]; omega
  · rw [nI_toInt (by omega)]; omega
  · rw [nI_toInt (by omega)]; omega
  · unfold prS
    rw [nI_clamp (n := K) (by omega), nI_clamp (n := J) (by omega), rwS_p hx, rwS_p hy]
    exact h
theorem SO_num {hs : List Int64 → Nat} {f : Nat → Int32} {S : CR} {v : List Int64} {s q : Nat} (hl : S.length ≤ 2000) (h : SO9 hs f S v s) (e : f s = nI q) (hq : q < 2001) (h0 : q ≠ 0) : ∃ (p : Nat) (z : List Int64 × Int32), S[p]? = some z ∧ z.1 = v ∧ nI (q - 1) = nI p := by
  rcases h with ⟨a, -⟩ | ⟨k, x, hx, e1, e2⟩
  · rw [e] at a
    exact absurd (n_eq (a := q) (b := 0) a (by omega) (by decide)) h0
  · rw [e] at e2
    have hk := ge_lt hx
    have : q = k + 1 := n_eq e2 (by omega) (by omega)
    exact ⟨k, x, hx, e1, congrArg nI (by omega)⟩
theorem kC_6 {cy : Nat → ClassId} {cs : List Nat} {ad : Nat → Nat} {en : Nat → va_E} (h : SX cy cs ad en) : kC en ≤ 6 := by
  obtain ⟨cnt, d, mm, e, h1, -⟩ := get_T h
  unfold kC
  rw [show rdI (en 1) 4 = nI cnt from by rw [e]; rfl, nI_clamp (by omega)]
  exact h1
