/-! the closure of the class: its arrays and slots hold the list -/
def bX (v : List Int64) : Bool := v.any (fun x => decide ((1000000 : Int64).toInt < (absL x).toInt))
theorem bX_vec {n : Nat} {f : Nat → Int64} : bX (vec n f) = true ↔ ∃ i, i < n ∧ (1000000 : Int64).toInt < (absL (f i)).toInt := by
  unfold bX vec
  rw [List.any_eq_true]
  constructor
  · intro h
    obtain ⟨x, hx, h⟩ := h
    obtain ⟨i, hi, rfl⟩ := List.mem_map.1 hx
    rw [decide_eq_true_eq] at h
    exact ⟨i, List.mem_range.1 hi, h⟩
  · intro h
    obtain ⟨i, hi, h⟩ := h
    refine ⟨f i, List.mem_map.2 ⟨i, List.mem_range.2 hi, rfl⟩, ?_⟩
    rw [decide_eq_true_eq]
    exact h
def hst9 (a : Int32) (x : Int64) : Int32 := a * 1000003 + x.toInt32
def hE9 (m : Int32) : Nat := (((m ^^^ ((m).toUInt32 >>> ((15 : Int32).toUInt32 &&& Int32.toUInt32 31)).toInt32) ^^^ (((m ^^^ ((m).toUInt32 >>> ((15 : Int32).toUInt32 &&& Int32.toUInt32 31)).toInt32)).toUInt32 >>> ((7 : Int32).toUInt32 &&& Int32.toUInt32 31)).toInt32)).toBitVec.toNat % 4096
def hX (v : List Int64) : Nat := hE9 (v.foldl hst9 0)
theorem hX_lt (v : List Int64) : hX v < 4096 := Nat.mod_lt _ (by decide)
theorem a4095 (x : Int32) : x &&& 4095 = nI (x.toBitVec.toNat % 4096) := by
  have e : x = nI x.toBitVec.toNat := by
    apply Int32.toBitVec_inj.1
    show x.toBitVec = BitVec.ofNat 32 x.toBitVec.toNat
    rw [BitVec.ofNat_toNat, BitVec.setWidth_eq]
  exact (congrArg (fun z => z &&& 4095) e).trans (m4095 _)
theorem hs_s {f : Nat → Int64} {n : Nat} : (vec (n + 1) f).foldl hst9 0 = (vec n f).foldl hst9 0 * 1000003 + (f n).toInt32 := by
  rw [vec_s, List.foldl_append]
  rfl
def kC (en : Nat → va_E) : Nat := (rdI (en 1) 4).toNatClampNeg
def dC (en : Nat → va_E) : Nat := (rdI (en 1) 5).toNatClampNeg
def mC (en : Nat → va_E) : Nat := (rdI (en 1) 6).toNatClampNeg
def RC (en : Nat → va_E) (t : Nat) : List Int64 := vec (dC en * dC en) (rdL (en (4 + t)))
def MC (en : Nat → va_E) (v : List Int64) (t : Nat) : List Int64 := vec (dC en * dC en) (mulV (dC en) (mC en) (vg v) (rdL (en (4 + t))))
/-- the closure of the tables that stand -/
def cloX (en : Nat → va_E) : Option CR := clo bX (kC en) (RC en) (MC en)
theorem cloX_keep {a b : Nat → va_E} (hc : kC a ≤ 6) (h1 : b 1 = a 1) (hr : ∀ c, 4 ≤ c → c < 10 → b c = a c) : cloX b = cloX a := by
  unfold cloX
  have e1 : kC b = kC a := by unfold kC; rw [h1]
  have e2 : dC b = dC a := by unfold dC; rw [h1]
  have e3 : mC b = mC a := by unfold mC; rw [h1]
  rw [e1]
  refine clo_c (fun t ht => ⟨?_, rfl⟩) (fun v t ht _ => ⟨?_, rfl⟩)
  · unfold RC; rw [e2, hr (4 + t) (by omega) (by omega)]
  · unfold MC; rw [e2, e3, hr (4 + t) (by omega) (by omega)]
def CL9 (ka kb kc n : Nat) (en : Nat → va_E) (S : CR) : Prop := n ≤ 9 ∧ rdI (en 70) 8 = nI n ∧ rdI (en 70) 9 = nI S.length ∧ WF9 bX S ∧ AR9 n (fun k i => rdL (en ka) (k * 9 + i)) (rdF (en kb)) S ∧ SL9 hX (rdF (en kc)) S
theorem CL_kp {ka kb kc n : Nat} {en e1 : Nat → va_E} {S : CR} (h : CL9 ka kb kc n en S) (h8 : rdI (e1 70) 8 = rdI (en 70) 8) (h9 : rdI (e1 70) 9 = rdI (en 70) 9) (ha : e1 ka = en ka) (hb : e1 kb = en kb) (hc : e1 kc = en kc) : CL9 ka kb kc n e1 S := by
  unfold CL9
  rw [h8, h9, ha, hb, hc]
  exact h
theorem CL_k {ka kb kc n : Nat} {en e1 : Nat → va_E} {S : CR} (h : CL9 ka kb kc n en S) (h7 : e1 70 = en 70) (ha : e1 ka = en ka) (hb : e1 kb = en kb) (hc : e1 kc = en kc) : CL9 ka kb kc n e1 S := CL_kp h (by rw [h7]) (by rw [h7]) ha hb hc
theorem CL_0 {ka kb kc n : Nat} {en : Nat → va_E} (hn : n ≤ 9) (h8 : rdI (en 70) 8 = nI n) (h9 : rdI (en 70) 9 = nI 0) (h : ∀ i, i < 4096 → rdF (en kc) i = 0) : CL9 ka kb kc n en [] := ⟨hn, h8, h9, WF_0, AR_0, SL_0 h⟩
theorem SO_same {hs : List Int64 → Nat} {n s v : Nat} {P : Nat → Nat → Int64} {L f : Nat → Int32} {S : CR} {fa : Nat → Int64} (hl : S.length ≤ 2000) (hA : AR9 n P L S) (hL : SL9 hs f S) (hs9 : s < 4096) (e : f s = nI v) (hv : v < 2001) (h0 : v ≠ 0) (h : ∀ i, i < n → P (v - 1) i = fa i) : SO9 hs f S (vec n fa) s := by
  rcases hL.2.1 s hs9 with q | ⟨k, q1, q2⟩
  · rw [e] at q
    exact absurd (n_eq (a := v) (b := 0) q (by omega) (by decide)) h0
  · rw [e] at q2
    have e2 : v = k + 1 := n_eq q2 (by omega) (by omega)
    obtain ⟨x, hx⟩ := ge_some q1
    subst e2
    exact Or.inr ⟨k, x, hx, (AR_same hA hx).2 h, e⟩
theorem SI_ns {n s v : Nat} {P : Nat → Nat → Int64} {L f : Nat → Int32} {S : CR} {fa : Nat → Int64} (hl : S.length ≤ 2000) (hA : AR9 n P L S) (e : f s = nI v) (hv : v < 2001) (h : ¬ ∀ i, i < n → P (v - 1) i = fa i) : ∀ (k : Nat) (x : List Int64 × Int32), S[k]? = some x → f s = nI (k + 1) → x.1 ≠ vec n fa := by
  intro k x hx q h9
  rw [e] at q
  have hk := ge_lt hx
  have e2 : v = k + 1 := n_eq q (by omega) (by omega)
  subst e2
  exact h ((AR_same hA hx).1 h9)
theorem SO_in {hs : List Int64 → Nat} {f : Nat → Int32} {S : CR} {v : List Int64} {s : Nat} (h : SO9 hs f S v s) (h0 : f s ≠ 0) : v ∈ S.map Prod.fst := by
  rcases h with ⟨q, -⟩ | ⟨k, x, hx, e, -⟩
  · exact absurd q h0
  · rw [← e]
    exact mem_ge hx
theorem SO_out {hs : List Int64 → Nat} {f : Nat → Int32} {S : CR} {v : List Int64} {s : Nat} (hl : S.length ≤ 2000) (h : SO9 hs f S v s) (h0 : f s = 0) : ¬ v ∈ S.map Prod.fst := by
  rcases h with ⟨-, q, -⟩ | ⟨k, x, hx, -, e⟩
  · exact q
  · rw [h0] at e
    have := ge_lt hx
    exact absurd e.symm (nI_k0 (by omega))
def TKR (ka kb kc n : Nat) (r : Int32) (e1 : Nat → va_E) (S : CR) (v : List Int64) (wl : Int32) : Prop := (r = 1 ∧ ∃ T, tk bX S v wl = some T ∧ CL9 ka kb kc n e1 T) ∨ (r = 0 ∧ tk bX S v wl = none)
theorem CL_add {ka kb kc n ct s : Nat} {en e1 : Nat → va_E} {S : CR} {fa : Nat → Int64} {wl : Int32} (h : CL9 ka kb kc n en S) (hct : ct = S.length) (hlt : ct < 2000) (hb : ¬ bX (vec n fa) = true) (hso : SO9 hX (rdF (en kc)) S (vec n fa) s) (h0 : rdF (en kc) s = 0) (e8 : rdI (e1 70) 8 = rdI (en 70) 8) (e9 : rdI (e1 70) 9 = nI (ct + 1)) (eka : rdL (e1 ka) = va_cpy fa (rdL (en ka)) 0 (ct * 9) n) (ekb : rdF (e1 kb) = upd (rdF (en kb)) ct wl) (ekc : rdF (e1 kc) = upd (rdF (en kc)) s (nI (ct + 1))) : ∃ T, tk bX S (vec n fa) wl = some T ∧ CL9 ka kb kc n e1 T := by
  subst hct
  obtain ⟨h1, h2, h3, h4, h5, h6⟩ := h
  rcases hso with ⟨-, hn, hj⟩ | ⟨k, x, hx, -, q⟩
  · have ht := tk_add (l := wl) hb hn (by omega)
    refine ⟨_, ht, h1, e8.trans h2, ?_, (tk_wf h4 ht).1, ?_, ?_⟩
    · rw [List.length_append]
      exact e9
    · rw [eka, ekb]
      refine AR_add h5 (fun k i hk hi => ?_) (fun k hk => pk_un (by omega)) (fun i hi => ?_) pk_us
      · show va_cpy fa (rdL (en ka)) 0 (S.length * 9) n (k * 9 + i) = rdL (en ka) (k * 9 + i)
        unfold va_cpy
        exact if_neg (by omega)
      · show va_cpy fa (rdL (en ka)) 0 (S.length * 9) n (S.length * 9 + i) = fa i
        unfold va_cpy
        rw [if_pos (by omega)]
        exact congrArg fa (by omega)
    · rw [ekc]
      exact SL_add (by omega) h6 h0 hj
  · rw [h0] at q
    have := ge_lt hx
    exact absurd q.symm (nI_k0 (by omega))
theorem CL_row {ka kb kc n k : Nat} {en : Nat → va_E} {S : CR} {x : List Int64 × Int32} (h : CL9 ka kb kc n en S) (hx : S[k]? = some x) : ∀ i, i < n → rdL (en ka) (k * 9 + i) = vg x.1 i := by
  intro i hi
  rw [(h.2.2.2.2.1 k x hx).1, vg_vec hi]
theorem CL_len {ka kb kc n k : Nat} {en : Nat → va_E} {S : CR} {x : List Int64 × Int32} (h : CL9 ka kb kc n en S) (hx : S[k]? = some x) : rdF (en kb) k = x.2 := ((h.2.2.2.2.1 k x hx).2).symm
theorem CL_ld {ka kb kc n k : Nat} {en e1 : Nat → va_E} {S : CR} {x : List Int64 × Int32} {g : Nat → Int64} {c : Nat} (h : CL9 ka kb kc n en S) (hx : S[k]? = some x) (e : rdL (e1 c) = va_cpy (rdL (en ka)) g (k * 9) 0 9) : ∀ i, i < n → rdL (e1 c) i = vg x.1 i := by
  intro i hi
  have h1 := h.1
  rw [← CL_row h hx i hi, e]
  unfold va_cpy
  rw [if_pos (by omega)]
  exact congrArg _ (by omega)
/-- a product of a row and a letter's row -/
theorem MC_eq {en : Nat → va_E} {n d mm t : Nat} {fa fb fc g : Nat → Int64} {v : List Int64} (hd : dC en = d) (hm : mC en = mm) (hn : n = d * d) (hg : mulP d mm fa fb fc g (d * d)) (ha : ∀ i, i < n → fa i = vg v i) (hb : fb = rdL (en (4 + t))) : vec n g = MC en v t := by
  unfold MC
  rw [hd, hm, ← hn, ← hb]
  refine vec_eq.2 (fun i hi => ?_)
  rw [hn] at hi ha
  rw [hg.1 i hi]
  exact mulV_c hi ha (fun _ _ => rfl)
theorem MC_mul {n d mm : Nat} {fa fb fc g : Nat → Int64} {v w : List Int64} (hn : n = d * d) (hg : mulP d mm fa fb fc g (d * d)) (ha : ∀ i, i < n → fa i = vg v i) (hb : ∀ i, i < n → fb i = vg w i) : vec n g = vec n (mulV d mm (vg v) (vg w)) := by
  refine vec_eq.2 (fun i hi => ?_)
  rw [hn] at hi ha hb
  rw [hg.1 i hi]
  exact mulV_c hi ha hb
/-! what is summed up -/
def nouS (d : Nat) (S : CR) (k : Nat) : Prop := ∃ (i : Nat) (x : List Int64 × Int32), i < k ∧ S[i]? = some x ∧ normT d (vg x.1) d = 0
def unS (d : Nat) (S : CR) : Nat → Int32
  | 0 => -9
  | k + 1 => match S[k]? with
    | none => unS d S k
    | some x => if x.1 = vec (d * d) (uV9 d) then nI k else unS d S k
def owS (d mm : Nat) (S : CR) : Nat → Int32
  | 0 => 0
  | k + 1 => match S[k]? with
    | none => owS d mm S k
    | some x => if vec (d * d) (mulV d mm (vg x.1) (vg x.1)) = x.1 then owS d mm S k + 1 else owS d mm S k
theorem unS_p {d k : Nat} {S : CR} {x : List Int64 × Int32} (hx : S[k]? = some x) (h : x.1 = vec (d * d) (uV9 d)) : unS d S (k + 1) = nI k := by
  show (match S[k]? with
    | none => unS d S k
    | some x => if x.1 = vec (d * d) (uV9 d) then nI k else unS d S k) = nI k
  rw [hx]
  exact if_pos h
theorem unS_n {d k : Nat} {S : CR} {x : List Int64 × Int32} (hx : S[k]? = some x) (h : ¬ x.1 = vec (d * d) (uV9 d)) : unS d S (k + 1) = unS d S k := by
  show (match S[k]? with
    | none => unS d S k
    | some x => if x.1 = vec (d * d) (uV9 d) then nI k else unS d S k) = unS d S k
  rw [hx]
  exact if_neg h
theorem owS_p {d mm k : Nat} {S : CR} {x : List Int64 × Int32} (hx : S[k]? = some x) (h : vec (d * d) (mulV d mm (vg x.1) (vg x.1)) = x.1) : owS d mm S (k + 1) = owS d mm S k + 1 := by
  show (match S[k]? with
    | none => owS d mm S k
    | some x => if vec (d * d) (mulV d mm (vg x.1) (vg x.1)) = x.1 then owS d mm S k + 1 else owS d mm S k) = owS d mm S k + 1
  rw [hx]
  exact if_pos h
theorem owS_n {d mm k : Nat} {S : CR} {x : List Int64 × Int32} (hx : S[k]? = some x) (h : ¬ vec (d * d) (mulV d mm (vg x.1) (vg x.1)) = x.1) : owS d mm S (k + 1) = owS d mm S k := by
  show (match S[k]? with
    | none => owS d mm S k
    | some x => if vec (d * d) (mulV d mm (vg x.1) (vg x.1)) = x.1 then owS d mm S k + 1 else owS d mm S k) = owS d mm S k
  rw [hx]
  exact if_neg h
theorem nouS_p {d k : Nat} {S : CR} {x : List Int64 × Int32} {b : Int32} (h : bI b (nouS d S k)) (hx : S[k]? = some x) (h0 : normT d (vg x.1) d = 0) : bI 1 (nouS d S (k + 1)) := Or.inl ⟨rfl, k, x, by omega, hx, h0⟩
theorem nouS_n {d k : Nat} {S : CR} {x : List Int64 × Int32} {b : Int32} (h : bI b (nouS d S k)) (hx : S[k]? = some x) (h0 : ¬ normT d (vg x.1) d = 0) : bI b (nouS d S (k + 1)) := by
  rcases h with ⟨h1, i, y, h2, h3, h4⟩ | ⟨h1, h2⟩
  · exact Or.inl ⟨h1, i, y, by omega, h3, h4⟩
  · refine Or.inr ⟨h1, fun q => ?_⟩
    obtain ⟨i, y, q1, q2, q3⟩ := q
    rcases Nat.lt_or_ge i k with h | h
    · exact h2 ⟨i, y, h, q2, q3⟩
    · obtain rfl : i = k := by omega
      rw [hx] at q2
      rw [← Option.some.inj q2] at q3
      exact h0 q3
/-- the sums stand in the object -/
def SU9 (en : Nat → va_E) (d mm : Nat) (S : CR) : Prop := rdI (en 70) 10 = unS d S S.length ∧ rdI (en 70) 11 = owS d mm S S.length ∧ bI (rdI (en 70) 12) (nouS d S S.length)
/-- what is known of the closure between calls -/
def CLX (ka kb kc : Nat) (en : Nat → va_E) : Prop := (rdI (en 70) 7 = 1 → ∃ S, cloX en = some S ∧ CL9 ka kb kc (dC en * dC en) en S ∧ SU9 en (dC en) (mC en) S) ∧ (rdI (en 70) 7 = 2 → cloX en = none)
/-- the answer of close, the tables being some -/
def XCL (r : Int32) (en : Nat → va_E) : Prop := (∃ S, cloX en = some S ∧ r = nI S.length) ∨ (cloX en = none ∧ r = -6)
theorem normT_c9 {d : Nat} {fa ga : Nat → Int64} (h : ∀ i, i < d * d → fa i = ga i) : ∀ k, k ≤ d → normT d fa k = normT d ga k := by
  intro k
  induction k with
  | zero => intro _; rfl
  | succ k ih =>
    intro hk
    show maxL (normT d fa k) (rowN d fa k) = maxL (normT d ga k) (rowN d ga k)
    rw [ih (by omega)]
    refine congrArg (maxL (normT d ga k)) ?_
    unfold rowN
    exact sumTo_c d (fun c hc => by rw [h _ (rc_lt (by omega) hc)])
theorem CL_vec {ka kb kc n k : Nat} {en : Nat → va_E} {S : CR} {x : List Int64 × Int32} (h : CL9 ka kb kc n en S) (hx : S[k]? = some x) : x.1 = vec n (vg x.1) := by
  have h9 : x.1 = vec n (fun i => rdL (en ka) (k * 9 + i)) := (h.2.2.2.2.1 k x hx).1
  rw [h9]
  exact vec_eq.2 (fun i hi => (vg_vec (f := fun i => rdL (en ka) (k * 9 + i)) hi).symm)
theorem CL_un {ka kb kc n k d : Nat} {en : Nat → va_E} {S : CR} {x : List Int64 × Int32} {f : Nat → Int64} (h : CL9 ka kb kc n en S) (hx : S[k]? = some x) (hn : n = d * d) (hf : ∀ i, i < n → f i = vg x.1 i) : (∀ i, i < d * d → f i = uV9 d i) ↔ x.1 = vec (d * d) (uV9 d) := by
  have h1 := CL_vec h hx
  rw [hn] at h1 hf
  constructor
  · intro q
    rw [h1]
    exact vec_eq.2 (fun i hi => (hf i hi).symm.trans (q i hi))
  · intro q i hi
    rw [h1] at q
    exact (hf i hi).trans (vec_eq.1 q i hi)
theorem clo_l0 {B : List Int64 → Bool} {K j : Nat} {R : Nat → List Int64} {M : List Int64 → Nat → List Int64} (h : lt9 B R j = none) (hj : j ≤ K) : clo B K R M = none := st_none (j := 0) (lt_none h hj) (Nat.zero_le _)
theorem EX_k {a b : Nat → va_E} {v : List Int64} {l : Int32} {S : CR} (hc : kC a ≤ 6) (h1 : b 1 = a 1) (hr : ∀ c, 4 ≤ c → c < 10 → b c = a c) : ex9 bX (MC b) v l S (kC b) = ex9 bX (MC a) v l S (kC a) := by
  have e1 : kC b = kC a := by unfold kC; rw [h1]
  have e2 : dC b = dC a := by unfold dC; rw [h1]
  have e3 : mC b = mC a := by unfold mC; rw [h1]
  rw [e1]
  refine ex_c (fun t ht => ⟨?_, rfl⟩) _ (Nat.le_refl _)
  unfold MC
  rw [e2, e3, hr (4 + t) (by omega) (by omega)]
theorem dC_k {a b : Nat → va_E} (h1 : b 1 = a 1) : dC b = dC a := by unfold dC; rw [h1]
theorem mC_k {a b : Nat → va_E} (h1 : b 1 = a 1) : mC b = mC a := by unfold mC; rw [h1]
theorem kC_k {a b : Nat → va_E} (h1 : b 1 = a 1) : kC b = kC a := by unfold kC; rw [h1]
theorem SU_kp {en e1 : Nat → va_E} {d mm : Nat} {S : CR} (h : SU9 en d mm S) (h1 : rdI (e1 70) 10 = rdI (en 70) 10) (h2 : rdI (e1 70) 11 = rdI (en 70) 11) (h3 : rdI (e1 70) 12 = rdI (en 70) 12) : SU9 e1 d mm S := by
  unfold SU9
  rw [h1, h2, h3]
  exact h
/-- the answers of closed, product, times where the closure is found -/
theorem CLX_k {ka kb kc : Nat} {a b : Nat → va_E} (h : CLX ka kb kc a) (hc : kC a ≤ 6) (h1 : b 1 = a 1) (hr : ∀ c, 4 ≤ c → c < 10 → b c = a c) (h7 : b 70 = a 70) (ha : b ka = a ka) (hb : b kb = a kb) (hk : b kc = a kc) : CLX ka kb kc b := by
  unfold CLX
  rw [cloX_keep hc h1 hr, dC_k h1, mC_k h1, h7]
  refine ⟨fun q => ?_, h.2⟩
  obtain ⟨S, s1, s2, s3⟩ := h.1 q
  exact ⟨S, s1, CL_k s2 h7 ha hb hk, SU_kp s3 (by rw [h7]) (by rw [h7]) (by rw [h7])⟩
theorem CLX_0 {ka kb kc : Nat} {en : Nat → va_E} (h : rdI (en 70) 7 = 0) : CLX ka kb kc en := ⟨fun q => absurd (h.symm.trans q) (by decide), fun q => absurd (h.symm.trans q) (by decide)⟩
