/-! the closure is closed: a product of two of its rows is a row of it -/
theorem tk_mem {B : List Int64 → Bool} {S T : CR} {v : List Int64} {l : Int32} (e : tk B S v l = some T) : v ∈ T.map Prod.fst ∧ ∀ w, w ∈ S.map Prod.fst → w ∈ T.map Prod.fst := by
  unfold tk at e
  by_cases h1 : B v = true
  · rw [if_pos h1] at e
    exact absurd e (by simp)
  · rw [if_neg h1] at e
    by_cases h2 : v ∈ S.map Prod.fst
    · rw [if_pos h2] at e
      obtain rfl := Option.some.inj e
      exact ⟨h2, fun w h => h⟩
    · rw [if_neg h2] at e
      by_cases h3 : S.length = 2000
      · rw [if_pos h3] at e
        exact absurd e (by simp)
      · rw [if_neg h3] at e
        obtain rfl := Option.some.inj e
        rw [List.map_append]
        exact ⟨List.mem_append.2 (Or.inr (List.mem_singleton.2 rfl)), fun w h => List.mem_append.2 (Or.inl h)⟩
theorem lt_mem {B : List Int64 → Bool} {R : Nat → List Int64} : ∀ j (S : CR), lt9 B R j = some S → ∀ t, t < j → R t ∈ S.map Prod.fst := by
  intro j
  induction j with
  | zero => intro S _ t ht; exact absurd ht (Nat.not_lt_zero t)
  | succ j ih =>
    intro S h t ht
    obtain ⟨T, h1, h2⟩ := bind_some h
    have h3 := tk_mem h2
    rcases Nat.lt_or_ge t j with q | q
    · exact h3.2 _ (ih T h1 t q)
    · obtain rfl : t = j := by omega
      exact h3.1
theorem ex_mem {B : List Int64 → Bool} {M : List Int64 → Nat → List Int64} {v : List Int64} {l : Int32} {S : CR} : ∀ j (T : CR), ex9 B M v l S j = some T → (∀ t, t < j → M v t ∈ T.map Prod.fst) ∧ ∀ w, w ∈ S.map Prod.fst → w ∈ T.map Prod.fst := by
  intro j
  induction j with
  | zero =>
    intro T h
    obtain rfl := Option.some.inj h
    exact ⟨fun t ht => absurd ht (Nat.not_lt_zero t), fun w hw => hw⟩
  | succ j ih =>
    intro T h
    obtain ⟨U, h1, h2⟩ := bind_some h
    have h3 := tk_mem h2
    have h4 := ih U h1
    refine ⟨fun t ht => ?_, fun w hw => h3.2 _ (h4.2 w hw)⟩
    rcases Nat.lt_or_ge t j with q | q
    · exact h3.2 _ (h4.1 t q)
    · obtain rfl : t = j := by omega
      exact h3.1
theorem st_mem {B : List Int64 → Bool} {K : Nat} {R : Nat → List Int64} {M : List Int64 → Nat → List Int64} : ∀ k (S : CR), st9 B K R M k = some S → (∀ t, t < K → R t ∈ S.map Prod.fst) ∧ ∀ (i : Nat) (x : List Int64 × Int32), i < k → S[i]? = some x → ∀ t, t < K → M x.1 t ∈ S.map Prod.fst := by
  intro k
  induction k with
  | zero => intro S h; exact ⟨lt_mem K S h, fun i x hi => absurd hi (Nat.not_lt_zero i)⟩
  | succ k ih =>
    intro S h
    obtain ⟨T, h1, h2⟩ := bind_some h
    obtain ⟨i1, i2⟩ := ih T h1
    unfold xs9 at h2
    cases e : T[k]? with
    | none =>
      rw [e] at h2
      obtain rfl := Option.some.inj h2
      refine ⟨i1, fun i x hi hx t ht => ?_⟩
      rcases Nat.lt_or_ge i k with q | q
      · exact i2 i x q hx t ht
      · obtain rfl : i = k := by omega
        rw [e] at hx
        exact absurd hx (by simp)
    | some y =>
      rw [e] at h2
      have h2 : ex9 B M y.1 y.2 T K = some S := h2
      have h3 := ex_mem K S h2
      have h4 := ex_wf (st_wf k T h1) K S h2
      have hk := ge_lt e
      refine ⟨fun t ht => h3.2 _ (i1 t ht), fun i x hi hx t ht => ?_⟩
      rcases Nat.lt_or_ge i k with q | q
      · obtain ⟨z, hz⟩ := ge_some (S := T) (k := i) (by omega)
        have h5 := h4.2.2 i z hz
        rw [hx] at h5
        rw [Option.some.inj h5]
        exact h3.2 _ (i2 i z q hz t ht)
      · obtain rfl : i = k := by omega
        have h5 := h4.2.2 i y e
        rw [hx] at h5
        rw [Option.some.inj h5]
        exact h3.1 t ht
theorem clo_closed {B : List Int64 → Bool} {G : List Int64 → Prop} {K : Nat} {R : Nat → List Int64} {M : List Int64 → Nat → List Int64} {P : List Int64 → List Int64 → List Int64} {S : CR} (hS : clo B K R M = some S) (hR : ∀ t, t < K → G (R t)) (hM : ∀ v t, t < K → G v → B v = false → G (M v t)) (h0 : ∀ u t, t < K → u ∈ S.map Prod.fst → P u (R t) = M u t) (hs : ∀ u v t, t < K → u ∈ S.map Prod.fst → G v → B v = false → P u v ∈ S.map Prod.fst → P u (M v t) = M (P u v) t) : ∀ u v, u ∈ S.map Prod.fst → v ∈ S.map Prod.fst → P u v ∈ S.map Prod.fst := by
  obtain ⟨m1, m2⟩ := st_mem 2000 S hS
  have hl := (clo_wf hS).1
  have m3 : ∀ w t, t < K → w ∈ S.map Prod.fst → M w t ∈ S.map Prod.fst := fun w t ht hw => by
    obtain ⟨k, x, hk, e⟩ := ge_mem hw
    rw [← e]
    exact m2 k x (by have := ge_lt hk; omega) hk t ht
  have key := st_all (B := B) (G := fun v => G v ∧ ∀ u, u ∈ S.map Prod.fst → P u v ∈ S.map Prod.fst) (fun t ht => ⟨hR t ht, fun u hu => by rw [h0 u t ht hu]; exact m3 u t ht hu⟩) (fun v t ht g hb => ⟨hM v t ht g.1 hb, fun u hu => by rw [hs u v t ht hu g.1 hb (g.2 u hu)]; exact m3 _ t ht (g.2 u hu)⟩) 2000 S hS
  intro u v hu hv
  obtain ⟨k, x, hk, e⟩ := ge_mem hv
  rw [← e]
  exact (key x (List.mem_of_getElem? hk)).2 u hu
/-! sums -/
theorem su_add {f g : Nat → Int64} : ∀ n, sumTo (fun i => f i + g i) n = sumTo f n + sumTo g n := by
  intro n
  induction n with
  | zero => rfl
  | succ n ih =>
    show sumTo (fun i => f i + g i) n + (f n + g n) = sumTo f n + f n + (sumTo g n + g n)
    rw [ih, Int64.add_assoc, Int64.add_assoc, ← Int64.add_assoc (sumTo g n), Int64.add_comm (sumTo g n) (f n), Int64.add_assoc (f n)]
theorem su_mulr {f : Nat → Int64} {c : Int64} : ∀ n, sumTo f n * c = sumTo (fun i => f i * c) n := by
  intro n
  induction n with
  | zero => exact Int64.zero_mul
  | succ n ih =>
    show (sumTo f n + f n) * c = sumTo (fun i => f i * c) n + f n * c
    rw [← ih, Int64.add_mul]
theorem su_mull {f : Nat → Int64} {c : Int64} : ∀ n, c * sumTo f n = sumTo (fun i => c * f i) n := by
  intro n
  induction n with
  | zero => exact Int64.mul_zero
  | succ n ih =>
    show c * (sumTo f n + f n) = sumTo (fun i => c * f i) n + c * f n
    rw [← ih, Int64.mul_add]
theorem su_0 : ∀ n, sumTo (fun _ => (0 : Int64)) n = 0 := by
  intro n
  induction n with
  | zero => rfl
  | succ n ih =>
    show sumTo (fun _ => (0 : Int64)) n + 0 = 0
    rw [ih]
    rfl
theorem su_swap {f : Nat → Nat → Int64} {m : Nat} : ∀ n, sumTo (fun i => sumTo (fun j => f i j) m) n = sumTo (fun j => sumTo (fun i => f i j) n) m := by
  intro n
  induction n with
  | zero => exact (su_0 m).symm
  | succ n ih =>
    show sumTo (fun i => sumTo (fun j => f i j) m) n + sumTo (fun j => f n j) m = sumTo (fun j => sumTo (fun i => f i j) n + f n j) m
    rw [ih, su_add]
theorem sz_add {f g : Nat → Int} : ∀ n, sumZ (fun i => f i + g i) n = sumZ f n + sumZ g n := by
  intro n
  induction n with
  | zero => rfl
  | succ n ih =>
    show sumZ (fun i => f i + g i) n + (f n + g n) = sumZ f n + f n + (sumZ g n + g n)
    rw [ih]
    omega
theorem sz_mulr {f : Nat → Int} {c : Int} : ∀ n, sumZ f n * c = sumZ (fun i => f i * c) n := by
  intro n
  induction n with
  | zero => exact Int.zero_mul c
  | succ n ih =>
    show (sumZ f n + f n) * c = sumZ (fun i => f i * c) n + f n * c
    rw [← ih, Int.add_mul]
theorem sz_mull {f : Nat → Int} {c : Int} : ∀ n, c * sumZ f n = sumZ (fun i => c * f i) n := by
  intro n
  induction n with
  | zero => exact Int.mul_zero c
  | succ n ih =>
    show c * (sumZ f n + f n) = sumZ (fun i => c * f i) n + c * f n
    rw [← ih, Int.mul_add]
theorem sz_0 : ∀ n, sumZ (fun _ => (0 : Int)) n = 0 := by
  intro n
  induction n with
  | zero => rfl
  | succ n ih =>
    show sumZ (fun _ => (0 : Int)) n + 0 = 0
    rw [ih]
    rfl
theorem sz_swap {f : Nat → Nat → Int} {m : Nat} : ∀ n, sumZ (fun i => sumZ (fun j => f i j) m) n = sumZ (fun j => sumZ (fun i => f i j) n) m := by
  intro n
  induction n with
  | zero => exact (sz_0 m).symm
  | succ n ih =>
    show sumZ (fun i => sumZ (fun j => f i j) m) n + sumZ (fun j => f n j) m = sumZ (fun j => sumZ (fun i => f i j) n + f n j) m
    rw [ih, sz_add]
theorem sz_c {f g : Nat → Int} : ∀ n, (∀ z, z < n → f z = g z) → sumZ f n = sumZ g n := by
  intro n
  induction n with
  | zero => intro _; rfl
  | succ n ih =>
    intro h
    show sumZ f n + f n = sumZ g n + g n
    rw [ih (fun z hz => h z (by omega)), h n (by omega)]
/-- a sum of three products of numbers between 0 and 96 -/
theorem s96 {a b : Nat → Int64} {n : Nat} (hn : n ≤ 3) (ha : ∀ k, k < n → 0 ≤ (a k).toInt ∧ (a k).toInt ≤ 96) (hb : ∀ k, k < n → 0 ≤ (b k).toInt ∧ (b k).toInt ≤ 96) : (sumTo (fun k => a k * b k) n).toInt = sumZ (fun k => (a k).toInt * (b k).toInt) n ∧ -1000000 ≤ (sumTo (fun k => a k * b k) n).toInt ∧ (sumTo (fun k => a k * b k) n).toInt ≤ 1000000 := by
  have p : ∀ k, k < n → (a k * b k).toInt = (a k).toInt * (b k).toInt ∧ -10000 ≤ (a k * b k).toInt ∧ (a k * b k).toInt ≤ 10000 := fun k hk => by
    have x := ha k hk
    have y := hb k hk
    obtain ⟨s1, s2⟩ := mul_bB (A := 100) (B := 100) (show -100 ≤ (a k).toInt by omega) (show (a k).toInt ≤ 100 by omega) (show -100 ≤ (b k).toInt by omega) (show (b k).toInt ≤ 100 by omega)
    have e := i64_mul (a := a k) (b := b k) (by omega) (by omega)
    exact ⟨e, by omega, by omega⟩
  obtain ⟨c1, c2, c3⟩ := sumTo_zB (f := fun k => a k * b k) (B := 10000) (by omega) (by omega) hn (fun k hk => (p k hk).2)
  have e : sumZ (fun k => (a k * b k).toInt) n = sumZ (fun k => (a k).toInt * (b k).toInt) n := sz_c n (fun k hk => (p k hk).1)
  exact ⟨c1.trans e, by omega, by omega⟩
theorem r96 {m : Nat} {v : Int64} (h1 : 1 ≤ m) (h2 : m ≤ 97) (hv : -1000000 ≤ v.toInt ∧ v.toInt ≤ 1000000) : (restL m v).toInt = v.toInt % m ∧ 0 ≤ (restL m v).toInt ∧ (restL m v).toInt ≤ 96 := by
  have a := restL_e (v := v) h1 h2 (by omega) (by omega)
  have b := rest_b (v := v) h1 h2 (by omega) (by omega)
  exact ⟨a, b.1, by omega⟩
theorem mul_as {d m : Nat} {u v w : Nat → Int64} (hd : d ≤ 3) (hm : m ≤ 97) (hu : m = 0 ∨ ∀ i, i < d * d → 0 ≤ (u i).toInt ∧ (u i).toInt ≤ 96) (hv : m = 0 ∨ ∀ i, i < d * d → 0 ≤ (v i).toInt ∧ (v i).toInt ≤ 96) (hw : m = 0 ∨ ∀ i, i < d * d → 0 ≤ (w i).toInt ∧ (w i).toInt ≤ 96) {r c : Nat} (hr : r < d) (hc : c < d) : restL m (sumTo (fun k => u (r * d + k) * restL m (sumTo (fun l => v (k * d + l) * w (l * d + c)) d)) d) = restL m (sumTo (fun l => restL m (sumTo (fun k => u (r * d + k) * v (k * d + l)) d) * w (l * d + c)) d) := by
  rcases Nat.eq_zero_or_pos m with rfl | h1
  · rw [restL_0, restL_0]
    have e1 : sumTo (fun k => u (r * d + k) * restL 0 (sumTo (fun l => v (k * d + l) * w (l * d + c)) d)) d = sumTo (fun k => sumTo (fun l => u (r * d + k) * (v (k * d + l) * w (l * d + c))) d) d := sumTo_c d (fun k _ => by rw [restL_0, su_mull])
    have e2 : sumTo (fun l => restL 0 (sumTo (fun k => u (r * d + k) * v (k * d + l)) d) * w (l * d + c)) d = sumTo (fun l => sumTo (fun k => u (r * d + k) * v (k * d + l) * w (l * d + c)) d) d := sumTo_c d (fun l _ => by rw [restL_0, su_mulr])
    rw [e1, e2, su_swap]
    exact sumTo_c d (fun l _ => sumTo_c d (fun k _ => (Int64.mul_assoc _ _ _).symm))
  · have gu := hu.resolve_left (by omega)
    have gv := hv.resolve_left (by omega)
    have gw := hw.resolve_left (by omega)
    have a1 : ∀ k, k < d → (restL m (sumTo (fun l => v (k * d + l) * w (l * d + c)) d)).toInt = sumZ (fun l => (v (k * d + l)).toInt * (w (l * d + c)).toInt) d % m ∧ 0 ≤ (restL m (sumTo (fun l => v (k * d + l) * w (l * d + c)) d)).toInt ∧ (restL m (sumTo (fun l => v (k * d + l) * w (l * d + c)) d)).toInt ≤ 96 := fun k hk => by
      obtain ⟨s1, s2⟩ := s96 (a := fun l => v (k * d + l)) (b := fun l => w (l * d + c)) hd (fun l hl => gv _ (rc_lt hk hl)) (fun l hl => gw _ (rc_lt hl hc))
      obtain ⟨t1, t2⟩ := r96 h1 hm s2
      exact ⟨by rw [t1, s1], t2⟩
    have a2 : ∀ l, l < d → (restL m (sumTo (fun k => u (r * d + k) * v (k * d + l)) d)).toInt = sumZ (fun k => (u (r * d + k)).toInt * (v (k * d + l)).toInt) d % m ∧ 0 ≤ (restL m (sumTo (fun k => u (r * d + k) * v (k * d + l)) d)).toInt ∧ (restL m (sumTo (fun k => u (r * d + k) * v (k * d + l)) d)).toInt ≤ 96 := fun l hl => by
      obtain ⟨s1, s2⟩ := s96 (a := fun k => u (r * d + k)) (b := fun k => v (k * d + l)) hd (fun k hk => gu _ (rc_lt hr hk)) (fun k hk => gv _ (rc_lt hk hl))
      obtain ⟨t1, t2⟩ := r96 h1 hm s2
      exact ⟨by rw [t1, s1], t2⟩
    obtain ⟨b1, b2⟩ := s96 (a := fun k => u (r * d + k)) (b := fun k => restL m (sumTo (fun l => v (k * d + l) * w (l * d + c)) d)) hd (fun k hk => gu _ (rc_lt hr hk)) (fun k hk => (a1 k hk).2)
    obtain ⟨c1, c2⟩ := s96 (a := fun l => restL m (sumTo (fun k => u (r * d + k) * v (k * d + l)) d)) (b := fun l => w (l * d + c)) hd (fun l hl => (a2 l hl).2) (fun l hl => gw _ (rc_lt hl hc))
    apply Int64.toInt_inj.1
    rw [(r96 h1 hm b2).1, (r96 h1 hm c2).1, b1, c1]
    have e1 : sumZ (fun k => (u (r * d + k)).toInt * (restL m (sumTo (fun l => v (k * d + l) * w (l * d + c)) d)).toInt) d % (m : Int) = sumZ (fun k => (u (r * d + k)).toInt * sumZ (fun l => (v (k * d + l)).toInt * (w (l * d + c)).toInt) d) d % (m : Int) := sumZ_m d (fun k hk => by
      rw [(a1 k hk).1, Int.mul_emod, Int.emod_emod, ← Int.mul_emod])
    have e2 : sumZ (fun l => (restL m (sumTo (fun k => u (r * d + k) * v (k * d + l)) d)).toInt * (w (l * d + c)).toInt) d % (m : Int) = sumZ (fun l => sumZ (fun k => (u (r * d + k)).toInt * (v (k * d + l)).toInt) d * (w (l * d + c)).toInt) d % (m : Int) := sumZ_m d (fun l hl => by
      rw [(a2 l hl).1, Int.mul_emod, Int.emod_emod, ← Int.mul_emod])
    rw [e1, e2]
    refine congrArg (fun z => z % (m : Int)) ?_
    have f1 : sumZ (fun k => (u (r * d + k)).toInt * sumZ (fun l => (v (k * d + l)).toInt * (w (l * d + c)).toInt) d) d = sumZ (fun k => sumZ (fun l => (u (r * d + k)).toInt * ((v (k * d + l)).toInt * (w (l * d + c)).toInt)) d) d := sz_c d (fun k _ => sz_mull d)
    have f2 : sumZ (fun l => sumZ (fun k => (u (r * d + k)).toInt * (v (k * d + l)).toInt) d * (w (l * d + c)).toInt) d = sumZ (fun l => sumZ (fun k => (u (r * d + k)).toInt * (v (k * d + l)).toInt * (w (l * d + c)).toInt) d) d := sz_c d (fun l _ => sz_mulr d)
    rw [f1, f2, sz_swap]
    exact sz_c d (fun l _ => sz_c d (fun k _ => (Int.mul_assoc _ _ _).symm))
theorem mulV_at {d mm r c : Nat} {f g : Nat → Int64} (hc : c < d) : mulV d mm f g (r * d + c) = restL mm (sumTo (fun k => f (r * d + k) * g (k * d + c)) d) := by
  have e1 : (r * d + c) / d = r := by
    rw [Nat.mul_comm, Nat.mul_add_div (by omega), Nat.div_eq_of_lt hc, Nat.add_zero]
  have e2 : (r * d + c) % d = c := by
    rw [Nat.mul_comm, Nat.mul_add_mod, Nat.mod_eq_of_lt hc]
  unfold mulV dotL
  rw [e1, e2]
section CREL4
variable {cy : Nat → ClassId} {cs : List Nat} {ad : Nat → Nat} {F : Nat → Nat → Int32} {eX eM : Nat → va_E}
theorem clo_cl (hI : SX cy cs ad eX) (hTX : TXF cy cs ad eX F) (hT : T1 eX eM) (hE : ER F eX eM) (hP : RWP F eX) {S : CR} (hS : cloX eX = some S) : ∀ u v, u ∈ S.map Prod.fst → v ∈ S.map Prod.fst → vec (dC eX * dC eX) (mulV (dC eX) (mC eX) (vg u) (vg v)) ∈ S.map Prod.fst := by
  obtain ⟨k1, d1, m1, d2, d3, m3, k6⟩ := clo_num hI hT
  have hg := clo_G hI hTX hT hE hP hS
  refine clo_closed (B := beyB) (G := GX (dC eX) (mC eX)) (P := fun u v => vec (dC eX * dC eX) (mulV (dC eX) (mC eX) (vg u) (vg v))) (clo_B hI hTX hT hE hP hS) (fun t ht => clo_gR hI hTX hT hE hP ht) (fun v t ht _ hv => clo_gM hI hTX hT hE hP ht hv) (fun u t ht _ => ?_) (fun u v t ht hu gv hb _ => ?_)
  · unfold RC MC
    exact vec_eq.2 (fun i hi => mulV_c hi (fun _ _ => rfl) (fun x hx => vg_vec hx))
  · obtain ⟨k, x, hk, e⟩ := ge_mem hu
    have gu := (hg k x hk).1
    rw [e] at gu
    have gw : mC eX = 0 ∨ ∀ i, i < dC eX * dC eX → 0 ≤ (rdL (eX (4 + t)) i).toInt ∧ (rdL (eX (4 + t)) i).toInt ≤ 96 := by
      rcases Nat.eq_zero_or_pos (mC eX) with h0 | h1
      · exact Or.inl h0
      · refine Or.inr (fun i hi => ?_)
        obtain ⟨e1, e2, e3⟩ := clo_ent hI hTX hE hP ht i hi
        rw [e1]
        have := rest_b (v := (rdF (eM 1) (9 * t + i)).toInt64) h1 m3 (by omega) (by omega)
        omega
    unfold MC
    refine vec_eq.2 (fun i hi => ?_)
    have a1 : i / dC eX < dC eX := Nat.div_lt_of_lt_mul hi
    have a2 : i % dC eX < dC eX := Nat.mod_lt _ (by omega)
    have hm := mul_as (u := vg u) (v := vg v) (w := rdL (eX (4 + t))) d3 m3 gu.2 gv.2 gw a1 a2
    show restL (mC eX) (sumTo (fun k => vg u (i / dC eX * dC eX + k) * vg (vec (dC eX * dC eX) (mulV (dC eX) (mC eX) (vg v) (rdL (eX (4 + t))))) (k * dC eX + i % dC eX)) (dC eX)) = restL (mC eX) (sumTo (fun l => vg (vec (dC eX * dC eX) (mulV (dC eX) (mC eX) (vg u) (vg v))) (i / dC eX * dC eX + l) * rdL (eX (4 + t)) (l * dC eX + i % dC eX)) (dC eX))
    refine Eq.trans (congrArg (restL (mC eX)) (sumTo_c _ (fun k hk => ?_))) (hm.trans (congrArg (restL (mC eX)) (sumTo_c _ (fun l hl => ?_))))
    · rw [vg_vec (rc_lt hk a2), mulV_at a2]
    · rw [vg_vec (rc_lt a1 hl), mulV_at hl]
theorem times_rel {k j r r' : Int32} (hI : SX cy cs ad eX) (hTX : TXF cy cs ad eX F) (hT : T1 eX eM) (hE : ER F eX eM) (hP : RWP F eX) (ht : TIE eX eM) (hx : XTM k j r eX) (hm : RTM k j r' eM) : r = r' := by
  obtain ⟨k1, d1, m1, d2, d3, m3, k6⟩ := clo_num hI hT
  have hc := clo_rel hI hTX hT hE hP
  rcases hx with ⟨x1, S, x2, x3⟩ | ⟨x1, x2⟩
  · rcases hm with ⟨y1, -⟩ | ⟨-, T, y2, y3⟩
    · exact absurd y1 (ht.1 x1)
    · have hg := clo_G hI hTX hT hE hP x2
      have hcl := clo_cl hI hTX hT hE hP x2
      have hw := clo_wf (B := bX) x2
      rw [x2, y2] at hc
      obtain rfl := Option.some.inj hc
      rw [← d1, ← m1] at y3
      rcases x3 with ⟨p, q⟩ | ⟨p, q⟩
      · rcases y3 with ⟨-, q'⟩ | ⟨p', -⟩
        · have row : ∀ z : Int32, hasS z S → ∃ x : List Int64 × Int32, S[z.toNatClampNeg]? = some x ∧ rwS S z.toNatClampNeg = x.1 := fun z hz => by
            obtain ⟨K, hK, hK2⟩ := has_nat (c := S.length) hz
            have hl := hw.1
            obtain ⟨x, hx⟩ := ge_some hK2
            rw [hK, nI_clamp (by omega)]
            exact ⟨x, hx, rwS_p hx⟩
          obtain ⟨x, hx1, hx2⟩ := row k p.1
          obtain ⟨y, hy1, hy2⟩ := row j p.2
          have e : prS (dC eX) (mC eX) S k.toNatClampNeg j.toNatClampNeg = prR (dC eX) (mC eX) S k.toNatClampNeg j.toNatClampNeg := by
            unfold prS prR
            rw [hx2, hy2]
            exact mul_mu d3 m3 (hg _ _ hx1).1 (hg _ _ hy1).1
          have hin : prS (dC eX) (mC eX) S k.toNatClampNeg j.toNatClampNeg ∈ S.map Prod.fst := by
            unfold prS
            rw [hx2, hy2]
            exact hcl _ _ (mem_ge hx1) (mem_ge hy1)
          rcases q with ⟨a, z, a1, a2, a3⟩ | ⟨a1, -⟩
          · rcases q' with ⟨-, b1⟩ | ⟨b, w, b1, b2, b3⟩
            · exact absurd (by rw [← e]; exact hin) b1
            · rw [a3, b3]
              exact congrArg nI (ge_inj hw a1 b1 (a2.trans (e.trans b2.symm)))
          · exact absurd hin a1
        · exact absurd p p'
      · rcases y3 with ⟨p', -⟩ | ⟨-, q'⟩
        · exact absurd p' p
        · rw [q, q']
  · rcases hm with ⟨-, y2⟩ | ⟨y1, -⟩
    · rw [x2, y2]
    · exact absurd (ht.2 y1) x1
end CREL4
