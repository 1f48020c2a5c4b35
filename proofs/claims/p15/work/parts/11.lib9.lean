/-! the closure as a list of rows and lengths: both sides reckon it -/
abbrev CR := List (List Int64 × Int32)
def vec (n : Nat) (f : Nat → Int64) : List Int64 := (List.range n).map f
theorem vec_eq {n : Nat} {f g : Nat → Int64} : vec n f = vec n g ↔ ∀ i, i < n → f i = g i := by
  unfold vec
  rw [List.map_inj_left]
  exact ⟨fun h i hi => h i (List.mem_range.2 hi), fun h i hi => h i (List.mem_range.1 hi)⟩
def vg (v : List Int64) (i : Nat) : Int64 := v.getD i 0
theorem vg_vec {n i : Nat} {f : Nat → Int64} (h : i < n) : vg (vec n f) i = f i := by
  unfold vg vec
  rw [List.getD_eq_getElem?_getD, List.getElem?_map, List.getElem?_range h]
  rfl
theorem vec_s (n : Nat) (f : Nat → Int64) : vec (n + 1) f = vec n f ++ [f n] := by
  unfold vec
  rw [List.range_succ, List.map_append]
  rfl
def beyB (v : List Int64) : Bool := v.any (fun x => decide (x.toInt < -1000000) || decide (1000000 < x.toInt))
theorem beyB_vec {n : Nat} {f : Nat → Int64} : beyB (vec n f) = true ↔ ∃ i, i < n ∧ ((f i).toInt < -1000000 ∨ 1000000 < (f i).toInt) := by
  unfold beyB vec
  rw [List.any_eq_true]
  constructor
  · intro h
    obtain ⟨x, hx, h⟩ := h
    obtain ⟨i, hi, rfl⟩ := List.mem_map.1 hx
    rw [Bool.or_eq_true, decide_eq_true_eq, decide_eq_true_eq] at h
    exact ⟨i, List.mem_range.1 hi, h⟩
  · intro h
    obtain ⟨i, hi, h⟩ := h
    refine ⟨f i, List.mem_map.2 ⟨i, List.mem_range.2 hi, rfl⟩, ?_⟩
    rw [Bool.or_eq_true, decide_eq_true_eq, decide_eq_true_eq]
    exact h
theorem bey_in {v : List Int64} (h : beyB v = false) (i : Nat) : -1000000 ≤ (vg v i).toInt ∧ (vg v i).toInt ≤ 1000000 := by
  unfold vg
  rw [List.getD_eq_getElem?_getD]
  cases e : v[i]? with
  | none => exact ⟨by decide, by decide⟩
  | some x =>
    have h1 : ¬ (decide (x.toInt < -1000000) || decide (1000000 < x.toInt)) = true := fun q => by
      have h2 : beyB v = true := List.any_eq_true.2 ⟨x, List.mem_of_getElem? e, q⟩
      rw [h] at h2
      exact absurd h2 (by decide)
    rw [Bool.or_eq_true, decide_eq_true_eq, decide_eq_true_eq] at h1
    show -1000000 ≤ x.toInt ∧ x.toInt ≤ 1000000
    omega
def tk (B : List Int64 → Bool) (S : CR) (v : List Int64) (l : Int32) : Option CR := if B v = true then none else if v ∈ S.map Prod.fst then some S else if S.length = 2000 then none else some (S ++ [(v, l)])
def lt9 (B : List Int64 → Bool) (R : Nat → List Int64) : Nat → Option CR
  | 0 => some []
  | j + 1 => (lt9 B R j).bind (fun S => tk B S (R j) 1)
def ex9 (B : List Int64 → Bool) (M : List Int64 → Nat → List Int64) (v : List Int64) (l : Int32) (S : CR) : Nat → Option CR
  | 0 => some S
  | j + 1 => (ex9 B M v l S j).bind (fun T => tk B T (M v j) (l + 1))
def xs9 (B : List Int64 → Bool) (K : Nat) (M : List Int64 → Nat → List Int64) (k : Nat) (S : CR) : Option CR := match S[k]? with
  | none => some S
  | some x => ex9 B M x.1 x.2 S K
def st9 (B : List Int64 → Bool) (K : Nat) (R : Nat → List Int64) (M : List Int64 → Nat → List Int64) : Nat → Option CR
  | 0 => lt9 B R K
  | k + 1 => (st9 B K R M k).bind (xs9 B K M k)
def clo (B : List Int64 → Bool) (K : Nat) (R : Nat → List Int64) (M : List Int64 → Nat → List Int64) : Option CR := st9 B K R M 2000
def WF9 (B : List Int64 → Bool) (S : CR) : Prop := S.length ≤ 2000 ∧ (∀ (j k : Nat) (x y : List Int64 × Int32), S[j]? = some x → S[k]? = some y → x.1 = y.1 → j = k) ∧ ∀ x, x ∈ S → B x.1 = false
def PF9 (S T : CR) : Prop := S.length ≤ T.length ∧ ∀ (k : Nat) (x : List Int64 × Int32), S[k]? = some x → T[k]? = some x
theorem PF_rf (S : CR) : PF9 S S := ⟨Nat.le_refl _, fun _ _ h => h⟩
theorem PF_tr {S T U : CR} (h : PF9 S T) (k : PF9 T U) : PF9 S U := ⟨Nat.le_trans h.1 k.1, fun i x hx => k.2 i x (h.2 i x hx)⟩
theorem ge_lt {S : CR} {k : Nat} {x : List Int64 × Int32} (h : S[k]? = some x) : k < S.length := (List.getElem?_eq_some_iff.1 h).1
theorem ge_old {S : CR} {k : Nat} {x y : List Int64 × Int32} (h : S[k]? = some x) : (S ++ [y])[k]? = some x := by
  rw [List.getElem?_append_left (ge_lt h)]
  exact h
theorem ge_new (S : CR) (y : List Int64 × Int32) : (S ++ [y])[S.length]? = some y := by
  rw [List.getElem?_append_right (Nat.le_refl _), Nat.sub_self]
  rfl
theorem ge_cs {S : CR} {k : Nat} {x y : List Int64 × Int32} (h : (S ++ [y])[k]? = some x) : S[k]? = some x ∨ (k = S.length ∧ x = y) := by
  by_cases e : k < S.length
  · rw [List.getElem?_append_left e] at h
    exact Or.inl h
  · have e2 : k < (S ++ [y]).length := ge_lt h
    rw [List.length_append] at e2
    have e3 : k = S.length := by
      have : ([y] : CR).length = 1 := rfl
      omega
    subst e3
    rw [ge_new] at h
    exact Or.inr ⟨rfl, (Option.some.inj h).symm⟩
theorem ge_some {S : CR} {k : Nat} (h : k < S.length) : ∃ x : List Int64 × Int32, S[k]? = some x := ⟨S[k], List.getElem?_eq_getElem h⟩
theorem mem_ge {S : CR} {k : Nat} {x : List Int64 × Int32} (h : S[k]? = some x) : x.1 ∈ S.map Prod.fst := List.mem_map.2 ⟨x, List.mem_of_getElem? h, rfl⟩
theorem ge_mem {S : CR} {v : List Int64} (h : v ∈ S.map Prod.fst) : ∃ (k : Nat) (x : List Int64 × Int32), S[k]? = some x ∧ x.1 = v := by
  obtain ⟨x, hx, e⟩ := List.mem_map.1 h
  obtain ⟨k, hk⟩ := List.getElem?_of_mem hx
  exact ⟨k, x, hk, e⟩
theorem WF_0 {B : List Int64 → Bool} : WF9 B [] := ⟨Nat.zero_le _, fun j k x y h => absurd h (by simp), fun x hx => absurd hx (List.not_mem_nil)⟩
theorem tk_wf {B : List Int64 → Bool} {S T : CR} {v : List Int64} {l : Int32} (h : WF9 B S) (e : tk B S v l = some T) : WF9 B T ∧ PF9 S T := by
  unfold tk at e
  by_cases h1 : B v = true
  · rw [if_pos h1] at e
    exact absurd e (by simp)
  · rw [if_neg h1] at e
    by_cases h2 : v ∈ S.map Prod.fst
    · rw [if_pos h2] at e
      obtain rfl := Option.some.inj e
      exact ⟨h, PF_rf _⟩
    · rw [if_neg h2] at e
      by_cases h3 : S.length = 2000
      · rw [if_pos h3] at e
        exact absurd e (by simp)
      · rw [if_neg h3] at e
        obtain rfl := Option.some.inj e
        have h4 := h.1
        refine ⟨⟨?_, ?_, ?_⟩, ?_, fun k x hx => ge_old hx⟩
        · rw [List.length_append]
          show S.length + 1 ≤ 2000
          omega
        · intro j k x y hx hy e
          rcases ge_cs hx with hx | ⟨hj, hx⟩
          · rcases ge_cs hy with hy | ⟨hk, hy⟩
            · exact h.2.1 j k x y hx hy e
            · rw [hy] at e
              have e2 : x.1 = v := e
              exact absurd (by rw [← e2]; exact mem_ge hx) h2
          · rcases ge_cs hy with hy | ⟨hk, hy⟩
            · rw [hx] at e
              have e2 : v = y.1 := e
              exact absurd (by rw [e2]; exact mem_ge hy) h2
            · rw [hj, hk]
        · intro x hx
          rcases List.mem_append.1 hx with hx | hx
          · exact h.2.2 x hx
          · have hx2 : x = (v, l) := List.mem_singleton.1 hx
            rw [hx2]
            exact Bool.eq_false_iff.2 h1
        · rw [List.length_append]
          exact Nat.le_add_right _ _
theorem bind_some {α β : Type} {o : Option α} {f : α → Option β} {b : β} (h : o.bind f = some b) : ∃ a, o = some a ∧ f a = some b := by
  cases o with
  | none => exact absurd h (by simp)
  | some a => exact ⟨a, rfl, h⟩
theorem lt_wf {B : List Int64 → Bool} {R : Nat → List Int64} : ∀ j (S : CR), lt9 B R j = some S → WF9 B S := by
  intro j
  induction j with
  | zero =>
    intro S h
    obtain rfl := Option.some.inj h
    exact WF_0
  | succ j ih =>
    intro S h
    obtain ⟨T, h1, h2⟩ := bind_some h
    exact (tk_wf (ih T h1) h2).1
theorem ex_wf {B : List Int64 → Bool} {M : List Int64 → Nat → List Int64} {v : List Int64} {l : Int32} {S : CR} (hS : WF9 B S) : ∀ j (T : CR), ex9 B M v l S j = some T → WF9 B T ∧ PF9 S T := by
  intro j
  induction j with
  | zero =>
    intro T h
    obtain rfl := Option.some.inj h
    exact ⟨hS, PF_rf _⟩
  | succ j ih =>
    intro T h
    obtain ⟨U, h1, h2⟩ := bind_some h
    have h3 := ih U h1
    have h4 := tk_wf h3.1 h2
    exact ⟨h4.1, PF_tr h3.2 h4.2⟩
theorem xs_wf {B : List Int64 → Bool} {K k : Nat} {M : List Int64 → Nat → List Int64} {S T : CR} (hS : WF9 B S) (h : xs9 B K M k S = some T) : WF9 B T ∧ PF9 S T := by
  unfold xs9 at h
  cases e : S[k]? with
  | none =>
    rw [e] at h
    obtain rfl := Option.some.inj h
    exact ⟨hS, PF_rf _⟩
  | some x =>
    rw [e] at h
    exact ex_wf hS K T h
theorem st_wf {B : List Int64 → Bool} {K : Nat} {R : Nat → List Int64} {M : List Int64 → Nat → List Int64} : ∀ k (S : CR), st9 B K R M k = some S → WF9 B S := by
  intro k
  induction k with
  | zero => intro S h; exact lt_wf K S h
  | succ k ih =>
    intro S h
    obtain ⟨T, h1, h2⟩ := bind_some h
    exact (xs_wf (ih T h1) h2).1
theorem lt_none {B : List Int64 → Bool} {R : Nat → List Int64} {j K : Nat} (h : lt9 B R j = none) (hj : j ≤ K) : lt9 B R K = none := by
  obtain ⟨d, rfl⟩ := Nat.le.dest hj
  clear hj
  induction d with
  | zero => exact h
  | succ d ih =>
    show (lt9 B R (j + d)).bind _ = none
    rw [ih]
    rfl
theorem ex_none {B : List Int64 → Bool} {M : List Int64 → Nat → List Int64} {v : List Int64} {l : Int32} {S : CR} {j K : Nat} (h : ex9 B M v l S j = none) (hj : j ≤ K) : ex9 B M v l S K = none := by
  obtain ⟨d, rfl⟩ := Nat.le.dest hj
  clear hj
  induction d with
  | zero => exact h
  | succ d ih =>
    show (ex9 B M v l S (j + d)).bind _ = none
    rw [ih]
    rfl
theorem st_none {B : List Int64 → Bool} {K : Nat} {R : Nat → List Int64} {M : List Int64 → Nat → List Int64} {j L : Nat} (h : st9 B K R M j = none) (hj : j ≤ L) : st9 B K R M L = none := by
  obtain ⟨d, rfl⟩ := Nat.le.dest hj
  clear hj
  induction d with
  | zero => exact h
  | succ d ih =>
    show (st9 B K R M (j + d)).bind _ = none
    rw [ih]
    rfl
theorem st_done {B : List Int64 → Bool} {K : Nat} {R : Nat → List Int64} {M : List Int64 → Nat → List Int64} {j L : Nat} {S : CR} (h : st9 B K R M j = some S) (hl : S.length ≤ j) (hj : j ≤ L) : st9 B K R M L = some S := by
  obtain ⟨d, rfl⟩ := Nat.le.dest hj
  clear hj
  induction d with
  | zero => exact h
  | succ d ih =>
    show (st9 B K R M (j + d)).bind _ = some S
    rw [ih]
    show xs9 B K M (j + d) S = some S
    unfold xs9
    rw [List.getElem?_eq_none (by omega)]
theorem ltk_s {B : List Int64 → Bool} {R : Nat → List Int64} {j : Nat} {S : CR} (h : lt9 B R j = some S) : lt9 B R (j + 1) = tk B S (R j) 1 := by
  show (lt9 B R j).bind _ = _
  rw [h]
  rfl
theorem ex_s {B : List Int64 → Bool} {M : List Int64 → Nat → List Int64} {v : List Int64} {l : Int32} {S T : CR} {j : Nat} (h : ex9 B M v l S j = some T) : ex9 B M v l S (j + 1) = tk B T (M v j) (l + 1) := by
  show (ex9 B M v l S j).bind _ = _
  rw [h]
  rfl
theorem st_s {B : List Int64 → Bool} {K : Nat} {R : Nat → List Int64} {M : List Int64 → Nat → List Int64} {k : Nat} {S : CR} {x : List Int64 × Int32} (h : st9 B K R M k = some S) (hx : S[k]? = some x) : st9 B K R M (k + 1) = ex9 B M x.1 x.2 S K := by
  show (st9 B K R M k).bind _ = _
  rw [h]
  show xs9 B K M k S = _
  unfold xs9
  rw [hx]
/-- both sides' rows, products and tests being the same, the closure is the same -/
theorem tk_c {B B' : List Int64 → Bool} {S : CR} {v : List Int64} {l : Int32} (h : B v = B' v) : tk B S v l = tk B' S v l := by
  unfold tk
  rw [h]
theorem lt_c {B B' : List Int64 → Bool} {R R' : Nat → List Int64} {K : Nat} (hR : ∀ t, t < K → R t = R' t ∧ B (R t) = B' (R t)) : ∀ j, j ≤ K → lt9 B R j = lt9 B' R' j := by
  intro j
  induction j with
  | zero => intro _; rfl
  | succ j ih =>
    intro hj
    show (lt9 B R j).bind (fun S => tk B S (R j) 1) = (lt9 B' R' j).bind (fun S => tk B' S (R' j) 1)
    rw [ih (by omega), ← (hR j (by omega)).1]
    congr 1
    funext S
    exact tk_c (hR j (by omega)).2
theorem ex_c {B B' : List Int64 → Bool} {M M' : List Int64 → Nat → List Int64} {K : Nat} {v : List Int64} {l : Int32} {S : CR} (hM : ∀ t, t < K → M v t = M' v t ∧ B (M v t) = B' (M v t)) : ∀ j, j ≤ K → ex9 B M v l S j = ex9 B' M' v l S j := by
  intro j
  induction j with
  | zero => intro _; rfl
  | succ j ih =>
    intro hj
    show (ex9 B M v l S j).bind (fun T => tk B T (M v j) (l + 1)) = (ex9 B' M' v l S j).bind (fun T => tk B' T (M' v j) (l + 1))
    rw [ih (by omega), ← (hM j (by omega)).1]
    congr 1
    funext T
    exact tk_c (hM j (by omega)).2
theorem st_c {B B' : List Int64 → Bool} {K : Nat} {R R' : Nat → List Int64} {M M' : List Int64 → Nat → List Int64} (hR : ∀ t, t < K → R t = R' t ∧ B (R t) = B' (R t)) (hM : ∀ v t, t < K → B' v = false → M v t = M' v t ∧ B (M v t) = B' (M v t)) : ∀ k, st9 B K R M k = st9 B' K R' M' k := by
  intro k
  induction k with
  | zero => exact lt_c hR K (Nat.le_refl _)
  | succ k ih =>
    show (st9 B K R M k).bind (xs9 B K M k) = (st9 B' K R' M' k).bind (xs9 B' K M' k)
    rw [ih]
    cases e : st9 B' K R' M' k with
    | none => rfl
    | some S =>
      show xs9 B K M k S = xs9 B' K M' k S
      unfold xs9
      cases e2 : S[k]? with
      | none => rfl
      | some x => exact ex_c (fun t ht => hM _ t ht ((st_wf k S e).2.2 x (List.mem_of_getElem? e2))) K (Nat.le_refl _)
theorem clo_c {B B' : List Int64 → Bool} {K : Nat} {R R' : Nat → List Int64} {M M' : List Int64 → Nat → List Int64} (hR : ∀ t, t < K → R t = R' t ∧ B (R t) = B' (R t)) (hM : ∀ v t, t < K → B' v = false → M v t = M' v t ∧ B (M v t) = B' (M v t)) : clo B K R M = clo B' K R' M' := st_c hR hM 2000
theorem clo_wf {B : List Int64 → Bool} {K : Nat} {R : Nat → List Int64} {M : List Int64 → Nat → List Int64} {S : CR} (h : clo B K R M = some S) : WF9 B S := st_wf 2000 S h
theorem tk_bey {B : List Int64 → Bool} {S : CR} {v : List Int64} {l : Int32} (h : B v = true) : tk B S v l = none := by unfold tk; rw [if_pos h]
theorem tk_in {B : List Int64 → Bool} {S : CR} {v : List Int64} {l : Int32} (h : ¬ B v = true) (h2 : v ∈ S.map Prod.fst) : tk B S v l = some S := by unfold tk; rw [if_neg h, if_pos h2]
theorem tk_full {B : List Int64 → Bool} {S : CR} {v : List Int64} {l : Int32} (h : ¬ B v = true) (h2 : ¬ v ∈ S.map Prod.fst) (h3 : S.length = 2000) : tk B S v l = none := by unfold tk; rw [if_neg h, if_neg h2, if_pos h3]
theorem tk_add {B : List Int64 → Bool} {S : CR} {v : List Int64} {l : Int32} (h : ¬ B v = true) (h2 : ¬ v ∈ S.map Prod.fst) (h3 : ¬ S.length = 2000) : tk B S v l = some (S ++ [(v, l)]) := by unfold tk; rw [if_neg h, if_neg h2, if_neg h3]
/-- no row stands twice -/
theorem ge_inj {B : List Int64 → Bool} {S : CR} (h : WF9 B S) {j k : Nat} {x y : List Int64 × Int32} (hx : S[j]? = some x) (hy : S[k]? = some y) (e : x.1 = y.1) : j = k := h.2.1 j k x y hx hy e
/-- the rows and lengths as arrays -/
def AR9 (n : Nat) (P : Nat → Nat → Int64) (L : Nat → Int32) (S : CR) : Prop := ∀ (k : Nat) (x : List Int64 × Int32), S[k]? = some x → x.1 = vec n (P k) ∧ x.2 = L k
theorem AR_0 {n : Nat} {P : Nat → Nat → Int64} {L : Nat → Int32} : AR9 n P L [] := fun k x h => absurd h (by simp)
theorem AR_add {n : Nat} {P P' : Nat → Nat → Int64} {L L' : Nat → Int32} {S : CR} {f : Nat → Int64} {l : Int32} (h : AR9 n P L S) (h1 : ∀ k i, k < S.length → i < n → P' k i = P k i) (h2 : ∀ k, k < S.length → L' k = L k) (h3 : ∀ i, i < n → P' S.length i = f i) (h4 : L' S.length = l) : AR9 n P' L' (S ++ [(vec n f, l)]) := by
  intro k x hx
  rcases ge_cs hx with hx | ⟨rfl, rfl⟩
  · have hk := ge_lt hx
    rw [(h k x hx).1, (h k x hx).2, h2 k hk]
    exact ⟨vec_eq.2 (fun i hi => (h1 k i hk hi).symm), rfl⟩
  · exact ⟨vec_eq.2 (fun i hi => (h3 i hi).symm), h4.symm⟩
theorem AR_same {n k : Nat} {P : Nat → Nat → Int64} {L : Nat → Int32} {S : CR} {x : List Int64 × Int32} {f : Nat → Int64} (h : AR9 n P L S) (hx : S[k]? = some x) : x.1 = vec n f ↔ ∀ i, i < n → P k i = f i := by
  rw [(h k x hx).1]
  exact vec_eq
/-! the class's slots -/
def nz9 (f : Nat → Int32) : Nat → Nat
  | 0 => 0
  | n + 1 => nz9 f n + (if f n = 0 then 0 else 1)
theorem nz_upd {f : Nat → Int32} {s : Nat} {v : Int32} : ∀ n, nz9 (upd f s v) n ≤ nz9 f n + (if s < n then 1 else 0) := by
  intro n
  induction n with
  | zero => exact Nat.zero_le _
  | succ n ih =>
    show nz9 (upd f s v) n + (if upd f s v n = 0 then 0 else 1) ≤ nz9 f n + (if f n = 0 then 0 else 1) + (if s < n + 1 then 1 else 0)
    by_cases e : n = s
    · subst e
      rw [if_neg (Nat.lt_irrefl n)] at ih
      rw [if_pos (Nat.lt_succ_self n)]
      have h1 : (if upd f n v n = 0 then 0 else 1) ≤ 1 := by split <;> omega
      generalize (if upd f n v n = 0 then 0 else 1) = a at h1 ⊢
      generalize (if f n = 0 then 0 else 1) = b
      omega
    · rw [pk_un e]
      generalize (if f n = 0 then 0 else 1) = b
      by_cases h : s < n
      · rw [if_pos h] at ih
        rw [if_pos (by omega)]
        omega
      · rw [if_neg h] at ih
        rw [if_neg (by omega)]
        omega
theorem nz_full {f : Nat → Int32} : ∀ n, (∀ i, i < n → f i ≠ 0) → nz9 f n = n := by
  intro n
  induction n with
  | zero => intro _; rfl
  | succ n ih =>
    intro h
    show nz9 f n + (if f n = 0 then 0 else 1) = n + 1
    rw [if_neg (h n (by omega)), ih (fun i hi => h i (by omega))]
theorem nz_zero {f : Nat → Int32} : ∀ n, (∀ i, i < n → f i = 0) → nz9 f n = 0 := by
  intro n
  induction n with
  | zero => intro _; rfl
  | succ n ih =>
    intro h
    show nz9 f n + (if f n = 0 then 0 else 1) = 0
    rw [if_pos (h n (by omega)), ih (fun i hi => h i (by omega))]
def SL9 (hs : List Int64 → Nat) (f : Nat → Int32) (S : CR) : Prop := (∀ (k : Nat) (x : List Int64 × Int32), S[k]? = some x → ∃ j, j < 4096 ∧ f ((hs x.1 + j) % 4096) = nI (k + 1) ∧ ∀ i, i < j → f ((hs x.1 + i) % 4096) ≠ 0) ∧ (∀ s, s < 4096 → f s = 0 ∨ ∃ k, k < S.length ∧ f s = nI (k + 1)) ∧ nz9 f 4096 ≤ S.length
def SO9 (hs : List Int64 → Nat) (f : Nat → Int32) (S : CR) (v : List Int64) (s : Nat) : Prop := (f s = 0 ∧ ¬ v ∈ S.map Prod.fst ∧ ∃ j, j < 4096 ∧ s = (hs v + j) % 4096 ∧ ∀ i, i < j → f ((hs v + i) % 4096) ≠ 0) ∨ ∃ (k : Nat) (x : List Int64 × Int32), S[k]? = some x ∧ x.1 = v ∧ f s = nI (k + 1)
/-- what the search has seen after j steps -/
def SI9 (hs : List Int64 → Nat) (f : Nat → Int32) (S : CR) (v : List Int64) (j : Nat) : Prop := ∀ i, i < j → f ((hs v + i) % 4096) ≠ 0 ∧ ∀ (k : Nat) (x : List Int64 × Int32), S[k]? = some x → f ((hs v + i) % 4096) = nI (k + 1) → x.1 ≠ v
theorem SI_0 {hs : List Int64 → Nat} {f : Nat → Int32} {S : CR} {v : List Int64} : SI9 hs f S v 0 := fun i h => absurd h (Nat.not_lt_zero i)
theorem SI_s {hs : List Int64 → Nat} {f : Nat → Int32} {S : CR} {v : List Int64} {j s : Nat} (h : SI9 hs f S v j) (hs9 : s = (hs v + j) % 4096) (h0 : f s ≠ 0) (h1 : ∀ (k : Nat) (x : List Int64 × Int32), S[k]? = some x → f s = nI (k + 1) → x.1 ≠ v) : SI9 hs f S v (j + 1) := by
  intro i hi
  rcases Nat.lt_or_ge i j with h9 | h9
  · exact h i h9
  · obtain rfl : i = j := by omega
    rw [← hs9]
    exact ⟨h0, h1⟩
theorem nI_k0 {k : Nat} (h : k < 2000) : nI (k + 1) ≠ 0 := nI_ne0 (by omega) (by omega)
theorem SO_empty {hs : List Int64 → Nat} {f : Nat → Int32} {S : CR} {v : List Int64} {j s : Nat} (hS : S.length ≤ 2000) (h : SL9 hs f S) (hi : SI9 hs f S v j) (hj : j < 4096) (hs9 : s = (hs v + j) % 4096) (h0 : f s = 0) : SO9 hs f S v s := by
  refine Or.inl ⟨h0, fun hm => ?_, j, hj, hs9, fun i hi9 => (hi i hi9).1⟩
  obtain ⟨k, x, hk, e⟩ := ge_mem hm
  subst e
  obtain ⟨j', a, b, c⟩ := h.1 k x hk
  have hk2 := ge_lt hk
  rcases Nat.lt_trichotomy j' j with q | q | q
  · exact (hi j' q).2 k x hk b rfl
  · subst q
    rw [← hs9, h0] at b
    exact nI_k0 (by omega) b.symm
  · rw [hs9] at h0
    exact c j q h0
theorem SI_full {hs : List Int64 → Nat} {f : Nat → Int32} {S : CR} {v : List Int64} (hS : S.length ≤ 2000) (h : SL9 hs f S) (hi : SI9 hs f S v 4096) : False := by
  have h1 : nz9 f 4096 = 4096 := nz_full 4096 (fun s hs9 => by
    have h2 := (hi ((s + 4096 - hs v % 4096) % 4096) (Nat.mod_lt _ (by decide))).1
    rwa [show (hs v + (s + 4096 - hs v % 4096) % 4096) % 4096 = s by omega] at h2)
  have h2 := h.2.2
  omega
theorem SL_0 {hs : List Int64 → Nat} {f : Nat → Int32} (h : ∀ i, i < 4096 → f i = 0) : SL9 hs f [] :=
  ⟨fun k x h => absurd h (by simp), fun s hs9 => Or.inl (h s hs9), by rw [nz_zero 4096 h]; exact Nat.zero_le _⟩
theorem SL_add {hs : List Int64 → Nat} {f : Nat → Int32} {S : CR} {v : List Int64} {l : Int32} {s : Nat} (hS : S.length < 2000) (h : SL9 hs f S) (h0 : f s = 0) (hj : ∃ j, j < 4096 ∧ s = (hs v + j) % 4096 ∧ ∀ i, i < j → f ((hs v + i) % 4096) ≠ 0) : SL9 hs (upd f s (nI (S.length + 1))) (S ++ [(v, l)]) := by
  obtain ⟨h1, h2, h3⟩ := h
  have hl : (S ++ [(v, l)]).length = S.length + 1 := by rw [List.length_append]; rfl
  refine ⟨fun k x hx => ?_, fun t ht => ?_, ?_⟩
  · rcases ge_cs hx with hx | ⟨rfl, rfl⟩
    · obtain ⟨j, a, b, c⟩ := h1 k x hx
      have hk := ge_lt hx
      have n1 : (hs x.1 + j) % 4096 ≠ s := fun q => by
        rw [q, h0] at b
        exact nI_k0 (by omega) b.symm
      refine ⟨j, a, by rw [pk_un n1]; exact b, fun i hi => ?_⟩
      have n2 : (hs x.1 + i) % 4096 ≠ s := fun q => c i hi (by rw [q]; exact h0)
      rw [pk_un n2]
      exact c i hi
    · obtain ⟨j, a, b, c⟩ := hj
      refine ⟨j, a, by rw [← b, pk_us], fun i hi => ?_⟩
      have n2 : (hs v + i) % 4096 ≠ s := fun q => c i hi (by rw [q]; exact h0)
      show upd f s (nI (S.length + 1)) ((hs v + i) % 4096) ≠ 0
      rw [pk_un n2]
      exact c i hi
  · by_cases e : t = s
    · rw [e, pk_us]
      exact Or.inr ⟨S.length, by omega, rfl⟩
    · rw [pk_un e]
      rcases h2 t ht with q | ⟨k, q1, q2⟩
      · exact Or.inl q
      · exact Or.inr ⟨k, by omega, q2⟩
  · have h4 := nz_upd (f := f) (s := s) (v := nI (S.length + 1)) 4096
    rw [hl]
    have h5 : (if s < 4096 then 1 else 0) ≤ 1 := by split <;> omega
    generalize (if s < 4096 then 1 else 0) = z at h4 h5
    omega
/-! the reference's chains: the last one before with the same sum -/
def pv9 (hs : List Int64 → Nat) (S : CR) (h : Nat) : Nat → Int32
  | 0 => -9
  | n + 1 => if (match S[n]? with
      | none => false
      | some x => hs x.1 == h) = true then nI n else pv9 hs S h n
theorem pv_hit {hs : List Int64 → Nat} {S : CR} {h n : Nat} {x : List Int64 × Int32} (hx : S[n]? = some x) (e : hs x.1 = h) : pv9 hs S h (n + 1) = nI n := by
  show (if (match S[n]? with
      | none => false
      | some x => hs x.1 == h) = true then nI n else pv9 hs S h n) = nI n
  rw [hx]
  exact if_pos (by show (hs x.1 == h) = true; rw [e]; exact beq_self_eq_true h)
theorem pv_miss {hs : List Int64 → Nat} {S : CR} {h n : Nat} {x : List Int64 × Int32} (hx : S[n]? = some x) (e : hs x.1 ≠ h) : pv9 hs S h (n + 1) = pv9 hs S h n := by
  show (if (match S[n]? with
      | none => false
      | some x => hs x.1 == h) = true then nI n else pv9 hs S h n) = pv9 hs S h n
  rw [hx]
  exact if_neg (fun q => e (eq_of_beq q))
theorem pv_app {hs : List Int64 → Nat} {S : CR} {h : Nat} {y : List Int64 × Int32} : ∀ n, n ≤ S.length → pv9 hs (S ++ [y]) h n = pv9 hs S h n := by
  intro n
  induction n with
  | zero => intro _; rfl
  | succ n ih =>
    intro hn
    obtain ⟨x, hx⟩ := ge_some (S := S) (k := n) (by omega)
    by_cases e : hs x.1 = h
    · rw [pv_hit hx e, pv_hit (ge_old hx) e]
    · rw [pv_miss hx e, pv_miss (ge_old hx) e, ih (by omega)]
/-- what the number before is -/
theorem pv_cs {hs : List Int64 → Nat} {S : CR} {h : Nat} : ∀ n, n ≤ S.length → (pv9 hs S h n = -9 ∧ ∀ (k : Nat) (x : List Int64 × Int32), k < n → S[k]? = some x → hs x.1 ≠ h) ∨ ∃ (v : Nat) (x : List Int64 × Int32), v < n ∧ pv9 hs S h n = nI v ∧ S[v]? = some x ∧ hs x.1 = h ∧ ∀ (k : Nat) (y : List Int64 × Int32), v < k → k < n → S[k]? = some y → hs y.1 ≠ h := by
  intro n
  induction n with
  | zero => intro _; exact Or.inl ⟨rfl, fun k x hk => absurd hk (Nat.not_lt_zero k)⟩
  | succ n ih =>
    intro hn
    obtain ⟨x, hx⟩ := ge_some (S := S) (k := n) (by omega)
    by_cases e : hs x.1 = h
    · exact Or.inr ⟨n, x, by omega, pv_hit hx e, hx, e, fun k y h1 h2 => absurd h1 (by omega)⟩
    · rw [pv_miss hx e]
      have key : ∀ (k : Nat) (y : List Int64 × Int32), k < n + 1 → S[k]? = some y → (k < n → hs y.1 ≠ h) → hs y.1 ≠ h := fun k y h1 h2 h3 => by
        rcases Nat.lt_or_ge k n with q | q
        · exact h3 q
        · obtain rfl : k = n := by omega
          rw [hx] at h2
          rw [← Option.some.inj h2]
          exact e
      rcases ih (by omega) with ⟨a, b⟩ | ⟨v, y, a, b, c, d, f⟩
      · exact Or.inl ⟨a, fun k y h1 h2 => key k y h1 h2 (fun q => b k y q h2)⟩
      · exact Or.inr ⟨v, y, by omega, b, c, d, fun k z h0 h1 h2 => key k z h1 h2 (fun q => f k z h0 q h2)⟩
def HC9 (hs : List Int64 → Nat) (H C : Nat → Int32) (S : CR) : Prop := (∀ h, h < 4096 → H h = pv9 hs S h S.length) ∧ ∀ (k : Nat) (x : List Int64 × Int32), S[k]? = some x → C k = pv9 hs S (hs x.1) k
theorem HC_0 {hs : List Int64 → Nat} {H C : Nat → Int32} (h : ∀ i, i < 4096 → H i = -9) : HC9 hs H C [] := ⟨fun i hi => h i hi, fun k x hx => absurd hx (by simp)⟩
theorem HC_add {hs : List Int64 → Nat} {H C : Nat → Int32} {S : CR} {v : List Int64} {l : Int32} (h : HC9 hs H C S) (hv : hs v < 4096) : HC9 hs (upd H (hs v) (nI S.length)) (upd C S.length (H (hs v))) (S ++ [(v, l)]) := by
  obtain ⟨h1, h2⟩ := h
  have hl : (S ++ [(v, l)]).length = S.length + 1 := by rw [List.length_append]; rfl
  refine ⟨fun a ha => ?_, fun k x hx => ?_⟩
  · rw [hl]
    by_cases e : a = hs v
    · rw [e, pk_us, pv_hit (ge_new S (v, l)) rfl]
    · rw [pk_un e, pv_miss (ge_new S (v, l)) (fun q => e q.symm), pv_app _ (Nat.le_refl _)]
      exact h1 a ha
  · rcases ge_cs hx with hx | ⟨rfl, rfl⟩
    · have hk := ge_lt hx
      rw [pk_un (by omega), pv_app _ (by omega)]
      exact h2 k x hx
    · rw [pk_us, pv_app _ (Nat.le_refl _)]
      exact h1 _ hv
def uV9 (d i : Nat) : Int64 := if i / d = i % d then 1 else 0
theorem uV9_at {d r c : Nat} (hc : c < d) : uV9 d (r * d + c) = if r = c then 1 else 0 := by
  have e1 : (r * d + c) / d = r := by
    rw [Nat.mul_comm, Nat.mul_add_div (by omega), Nat.div_eq_of_lt hc, Nat.add_zero]
  have e2 : (r * d + c) % d = c := by
    rw [Nat.mul_comm, Nat.mul_add_mod, Nat.mod_eq_of_lt hc]
  unfold uV9
  rw [e1, e2]
