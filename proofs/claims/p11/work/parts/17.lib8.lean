/-! lengths of the class: ways, surveys -/
def rdJ (x : va_E) (k : Nat) : Int64 := match x with
  | .inr (_, fs) => (match fs[k]? with | some (.long v) => v | _ => 0)
  | _ => 0
def alX (g : Nat → Int32) (a b : Nat) : Bool := decide (g (a * 6 + b) = 1)
def kX (en : Nat → va_E) : Nat := (rdI (en 1) 4).toNatClampNeg
def dX (en : Nat → va_E) : Nat := (rdI (en 1) 5).toNatClampNeg
def mX (en : Nat → va_E) : Nat := (rdI (en 1) 6).toNatClampNeg
def aX (en : Nat → va_E) : Nat → Nat → Bool := alX (rdF (en 10))
def rX (en : Nat → va_E) (t : Nat) : Nat → Int64 := if t < 6 then rdL (en (4 + t)) else fun _ => 0
def gX (en : Nat → va_E) (x : Nat) : Nat := (rdF (en 33) x).toNatClampNeg
theorem kX_c {a b : Nat → va_E} (h : b 1 = a 1) : kX b = kX a := by unfold kX; rw [h]
theorem dX_c {a b : Nat → va_E} (h : b 1 = a 1) : dX b = dX a := by unfold dX; rw [h]
theorem mX_c {a b : Nat → va_E} (h : b 1 = a 1) : mX b = mX a := by unfold mX; rw [h]
theorem aX_c {a b : Nat → va_E} (h : b 10 = a 10) : aX b = aX a := by unfold aX; rw [h]
theorem rX_c {a b : Nat → va_E} (h : ∀ c, 4 ≤ c → c < 10 → b c = a c) : rX b = rX a := by
  funext t
  unfold rX
  by_cases e : t < 6
  · rw [if_pos e, if_pos e, h (4 + t) (by omega) (by omega)]
  · rw [if_neg e, if_neg e]
theorem rX_at {en : Nat → va_E} {t : Nat} (h : t < 6) : rX en t = rdL (en (4 + t)) := if_pos h
theorem gX_c {a b : Nat → va_E} (h : b 33 = a 33) : gX b = gX a := by funext x; unfold gX; rw [h]
def WYp (K : Nat) (al : Nat → Nat → Bool) (en : Nat → va_E) (n : Nat) : Prop := ∀ t, t < K → rdF (en (15 + n)) t = nI (bw K al (n - 1) t)
def WYX (en : Nat → va_E) : Prop := ∀ n, 1 ≤ n → n ≤ 8 → WYp (kX en) (aX en) en n
def WOK (en : Nat → va_E) : Prop := rdI (en 12) 5 = 1 → WYX en
def CNX (en : Nat → va_E) (n : Nat) : Nat := sumN (fun t => bw (kX en) (aX en) (n - 1) t) (kX en)
theorem CNX_c {a b : Nat → va_E} {n : Nat} (h1 : b 1 = a 1) (h2 : b 10 = a 10) : CNX b n = CNX a n := by
  unfold CNX
  rw [kX_c h1, aX_c h2]
theorem WYX_c {a b : Nat → va_E} (h : WYX a) (h1 : b 1 = a 1) (h2 : b 10 = a 10) (hw : ∀ c, 15 ≤ c → c ≤ 23 → b c = a c) : WYX b := fun n h3 h4 t ht => by
  rw [kX_c h1] at ht ⊢
  rw [aX_c h2, hw (15 + n) (by omega) (by omega)]
  exact h n h3 h4 t ht
theorem lw_up {f g : Nat → Int32} {m : Nat} {v : Int32} (h : ∀ x, x < m → f x = g x) (hv : g m = v) : ∀ x, x < m + 1 → upd f m v x = g x := by
  intro x hx
  by_cases e : x = m
  · rw [e, pk_us]; exact hv.symm
  · rw [pk_un e]; exact h x (by omega)
theorem NS_s {g : Nat → Nat} {u : Nat} {w : Int32} (h : w = nI (g u)) : nI (sumN g u) + w = nI (sumN g (u + 1)) := by
  rw [h]
  exact nI_add _ _
theorem NS_0 {g : Nat → Nat} {u : Nat} (h : g u = 0) : nI (sumN g u) = nI (sumN g (u + 1)) := by
  show _ = nI (sumN g u + g u)
  rw [h]
  rfl
theorem bw_le7 {K : Nat} {al : Nat → Nat → Bool} {k t : Nat} (hK : K ≤ 6) (hk : k ≤ 7) : bw K al k t ≤ 279936 := by
  have h1 := bw_le (al := al) hK k t
  have h2 : 6 ^ k ≤ 6 ^ 7 := Nat.pow_le_pow_right (by omega) hk
  have h3 : 6 ^ 7 = 279936 := by decide
  omega
theorem pv_X {g : Nat → Nat} {d v : Nat} (hd : 1 ≤ d) (h : g (d - 1) = v) : pv g d = some v := by
  obtain ⟨k, rfl⟩ : ∃ k, d = k + 1 := ⟨d - 1, by omega⟩
  exact congrArg some h
/-! what is noted of a word -/
def lF (w : List Nat) (x : Nat) : Int32 := nI (w.getD x 0)
def cpN (n : Nat) (g a : Nat → Int32) (x : Nat) : Int32 := if x < n then g x else a x
theorem cpN_cpy {f g : Nat → Int32} {n : Nat} : va_cpy f g 0 0 n = cpN n f g := by
  funext x
  unfold cpN
  by_cases e : x < n
  · rw [pk_cpy_in (by omega) (by omega), if_pos e, Nat.zero_add, Nat.sub_zero]
  · rw [pk_cpy_out (by omega), if_neg e]
theorem cpN_c {n : Nat} {g h a : Nat → Int32} (e : ∀ x, x < n → g x = h x) : cpN n g a = cpN n h a := by
  funext x
  unfold cpN
  by_cases q : x < n
  · rw [if_pos q, if_pos q, e x q]
  · rw [if_neg q, if_neg q]
abbrev NV9 : Type := Int32 × Int64 × Int64 × (Nat → Int32) × (Nat → Int32)
abbrev RV9 : Type := Int32 × Int64 × (Nat → Int32)
def svN (en : Nat → va_E) (J : Nat) : NV9 := (rdI (en (34 + 4 * J)) 4, rdJ (en (34 + 4 * J)) 6, rdJ (en (34 + 4 * J)) 7, rdF (en (35 + 4 * J)), rdF (en (36 + 4 * J)))
def svT (en : Nat → va_E) (J : Nat) : Int64 := rdJ (en (34 + 4 * J)) 9
def svR (en : Nat → va_E) (J : Nat) : RV9 := (rdI (en (34 + 4 * J)) 5, rdJ (en (34 + 4 * J)) 8, rdF (en (37 + 4 * J)))
theorem svN_of {en : Nat → va_E} {J : Nat} {a : Int32} {b c : Int64} {f g : Nat → Int32} (h1 : rdI (en (34 + 4 * J)) 4 = a) (h2 : rdJ (en (34 + 4 * J)) 6 = b) (h3 : rdJ (en (34 + 4 * J)) 7 = c) (h4 : rdF (en (35 + 4 * J)) = f) (h5 : rdF (en (36 + 4 * J)) = g) : svN en J = (a, b, c, f, g) := by
  unfold svN
  rw [h1, h2, h3, h4, h5]
theorem svR_of {en : Nat → va_E} {J : Nat} {a : Int32} {b : Int64} {f : Nat → Int32} (h1 : rdI (en (34 + 4 * J)) 5 = a) (h2 : rdJ (en (34 + 4 * J)) 8 = b) (h3 : rdF (en (37 + 4 * J)) = f) : svR en J = (a, b, f) := by
  unfold svR
  rw [h1, h2, h3]
theorem svN_c {a b : Nat → va_E} {J : Nat} (h1 : b (34 + 4 * J) = a (34 + 4 * J)) (h2 : b (35 + 4 * J) = a (35 + 4 * J)) (h3 : b (36 + 4 * J) = a (36 + 4 * J)) : svN b J = svN a J := by
  unfold svN
  rw [h1, h2, h3]
theorem svT_c {a b : Nat → va_E} {J : Nat} (h1 : b (34 + 4 * J) = a (34 + 4 * J)) : svT b J = svT a J := by
  unfold svT
  rw [h1]
theorem svR_c {a b : Nat → va_E} {J : Nat} (h1 : b (34 + 4 * J) = a (34 + 4 * J)) (h2 : b (37 + 4 * J) = a (37 + 4 * J)) : svR b J = svR a J := by
  unfold svR
  rw [h1, h2]
def nnV (n : Nat) (v : Int64) (g : Nat → Int32) (s : NV9) : NV9 := (if v = 0 then s.1 + 1 else s.1, if s.2.1 < v then v else s.2.1, if v < s.2.2.1 then v else s.2.2.1, if s.2.1 < v then cpN n g s.2.2.2.1 else s.2.2.2.1, if v < s.2.2.1 then cpN n g s.2.2.2.2 else s.2.2.2.2)
def nrV (n : Nat) (v : Int64) (g : Nat → Int32) (s : RV9) : RV9 := if s.1 + 1 = 1 ∨ absL s.2.1 < absL v then (s.1 + 1, v, cpN n g s.2.2) else (s.1 + 1, s.2.1, s.2.2)
theorem nnV_c {n : Nat} {v : Int64} {g h : Nat → Int32} {s : NV9} (e : ∀ x, x < n → g x = h x) : nnV n v g s = nnV n v h s := by
  unfold nnV
  rw [cpN_c e, cpN_c e]
theorem nrV_c {n : Nat} {v : Int64} {g h : Nat → Int32} {s : RV9} (e : ∀ x, x < n → g x = h x) : nrV n v g s = nrV n v h s := by
  unfold nrV
  rw [cpN_c e]
/-- the same of a word, by its letters -/
def nmX (d mm n : Nat) (R : Nat → Nat → Int64) (w : List Nat) : Int64 := normT d (prW d mm R (lF w) (n - 1)) d
def trX (d mm n : Nat) (R : Nat → Nat → Int64) (w : List Nat) : Int64 := sumTo (fun i => prW d mm R (lF w) (n - 1) (i * d + i)) d
def nn1 (d mm n : Nat) (R : Nat → Nat → Int64) (s : NV9) (w : List Nat) : NV9 := nnV n (nmX d mm n R w) (lF w) s
def nt1 (d mm n : Nat) (R : Nat → Nat → Int64) (g : Nat → Int32) (s : Int64) (w : List Nat) : Int64 := if g ((lF w (n - 1)).toNatClampNeg * 6 + (lF w 0).toNatClampNeg) = 1 then maxL s (absL (trX d mm n R w)) else s
def nr1 (d mm n : Nat) (R : Nat → Nat → Int64) (Q : List Nat → Bool) (s : RV9) (w : List Nat) : RV9 := if Q w then nrV n (trX d mm n R w) (lF w) s else s
def hQQ (Q : List Nat → Bool) (g : Nat → Int32) (n : Nat) : Prop := ∀ w, Q w = true ↔ (tuP g (lF w) n ∧ ahA (lF w) n)
theorem exQ (P : List Nat → Prop) : ∃ Q : List Nat → Bool, ∀ w, Q w = true ↔ P w := ⟨fun w => @decide (P w) (Classical.propDecidable _), fun w => @decide_eq_true_iff (P w) (Classical.propDecidable _)⟩
theorem Q_eq {P : List Nat → Prop} {Q Q' : List Nat → Bool} (h : ∀ w, Q w = true ↔ P w) (h' : ∀ w, Q' w = true ↔ P w) : Q = Q' := by
  funext w
  have e := (h w).trans (h' w).symm
  exact Bool.eq_iff_iff.2 e
/-! the row of products before the letter k -/
def PFX (en : Nat → va_E) (dp : Nat) : Prop := ∀ k, k < dp → ∀ i, i < dX en * dX en → rdL (en (25 + k)) i = prW (dX en) (mX en) (rX en) (rdF (en 33)) k i
theorem prW_l {d mm : Nat} {R : Nat → Nat → Int64} {l g : Nat → Int32} : ∀ k : Nat, (∀ x, x ≤ k → l x = g x) → prW d mm R l k = prW d mm R g k := by
  intro k
  induction k with
  | zero => intro h; show R (l 0).toNatClampNeg = R (g 0).toNatClampNeg; rw [h 0 (Nat.le_refl _)]
  | succ k ih =>
    intro h
    show mulV d mm (prW d mm R l k) (R (l (k + 1)).toNatClampNeg) = mulV d mm (prW d mm R g k) (R (g (k + 1)).toNatClampNeg)
    rw [ih (fun x hx => h x (by omega)), h (k + 1) (Nat.le_refl _)]
theorem normT_c {d : Nat} {f g : Nat → Int64} (h : ∀ i, i < d * d → f i = g i) : ∀ r : Nat, r ≤ d → normT d f r = normT d g r := by
  intro r
  induction r with
  | zero => intro _; rfl
  | succ r ih =>
    intro hr
    show maxL (normT d f r) (rowN d f r) = maxL (normT d g r) (rowN d g r)
    have e : rowN d f r = rowN d g r := sumTo_c d (fun c hc => by rw [h _ (rc_lt (show r < d by omega) hc)])
    rw [ih (by omega), e]
theorem PFX_c {a b : Nat → va_E} {dp : Nat} (h : PFX a dp) (h1 : b 1 = a 1) (hr : ∀ c, 4 ≤ c → c < 10 → b c = a c) (hp : ∀ k, k < dp → b (25 + k) = a (25 + k)) (hl : ∀ x, x < dp → rdF (b 33) x = rdF (a 33) x) : PFX b dp := fun k hk i hi => by
  rw [dX_c h1] at hi
  rw [dX_c h1, mX_c h1, rX_c hr, hp k hk, h k hk i hi, prW_l k (fun x hx => hl x (by omega))]
theorem PFX_ext {a b : Nat → va_E} {dp le : Nat} (h : PFX a dp) (hle : le < 6) (h1 : b 1 = a 1) (hr : ∀ c, 4 ≤ c → c < 10 → b c = a c) (hp : ∀ k, k < dp → b (25 + k) = a (25 + k)) (hl : ∀ x, x < dp → rdF (b 33) x = rdF (a 33) x) (hv : rdF (b 33) dp = nI le) (hn : ∀ i, i < dX a * dX a → rdL (b (25 + dp)) i = if dp = 0 then rdL (a (4 + le)) i else mulV (dX a) (mX a) (rdL (a (25 + (dp - 1)))) (rdL (a (4 + le))) i) : PFX b (dp + 1) := fun k hk i hi => by
  by_cases e : k < dp
  · exact PFX_c h h1 hr hp hl k e i hi
  · have ek : k = dp := by omega
    subst ek
    rw [dX_c h1] at hi
    rw [dX_c h1, mX_c h1, rX_c hr, hn i hi]
    have hc : (rdF (b 33) k).toNatClampNeg = le := by rw [hv]; exact nI_clamp (by omega)
    cases k with
    | zero => rw [if_pos rfl]; show _ = rX a (rdF (b 33) 0).toNatClampNeg i; rw [hc, rX_at hle]
    | succ k =>
      rw [if_neg (by omega)]
      show _ = mulV (dX a) (mX a) (prW (dX a) (mX a) (rX a) (rdF (b 33)) k) (rX a (rdF (b 33) (k + 1)).toNatClampNeg) i
      rw [hc, rX_at hle]
      refine mulV_c hi (fun x hx => ?_) (fun _ _ => rfl)
      rw [show k + 1 - 1 = k by omega, h k (by omega) x hx, prW_l k (fun y hy => hl y (by omega))]
theorem lF_X {en : Nat → va_E} {n : Nat} (hv : ∀ i, i < 8 → ∃ v, v < 6 ∧ rdF (en 33) i = nI v) (hn : n ≤ 8) : ∀ x, x < n → rdF (en 33) x = lF (pre (gX en) n) x := by
  intro x hx
  obtain ⟨v, h1, h2⟩ := hv x (by omega)
  unfold lF pre
  rw [List.getD_eq_getElem?_getD, List.getElem?_map, List.getElem?_range hx]
  show _ = nI (gX en x)
  unfold gX
  rw [h2, nI_clamp (by omega)]
theorem nm_X {en : Nat → va_E} {n : Nat} (hv : ∀ i, i < 8 → ∃ v, v < 6 ∧ rdF (en 33) i = nI v) (hn1 : 1 ≤ n) (hn : n ≤ 8) (h : PFX en n) : normT (dX en) (rdL (en (25 + (n - 1)))) (dX en) = nmX (dX en) (mX en) n (rX en) (pre (gX en) n) := normT_c (fun i hi => by
  rw [h (n - 1) (by omega) i hi, prW_l (n - 1) (fun x hx => lF_X hv hn x (by omega))]) _ (Nat.le_refl _)
theorem tr_X {en : Nat → va_E} {n : Nat} (hv : ∀ i, i < 8 → ∃ v, v < 6 ∧ rdF (en 33) i = nI v) (hn1 : 1 ≤ n) (hn : n ≤ 8) (h : PFX en n) : sumTo (fun i => rdL (en (25 + (n - 1))) (i * dX en + i)) (dX en) = trX (dX en) (mX en) n (rX en) (pre (gX en) n) := sumTo_c _ (fun i hi => by
  rw [h (n - 1) (by omega) _ (rc_lt hi hi), prW_l (n - 1) (fun x hx => lF_X hv hn x (by omega))])
theorem perP_c {f g : Nat → Int32} {n p : Nat} (h : ∀ x, x < n → f x = g x) (hp : perP f n p) : perP g n p := fun i h1 h2 => by
  rw [← h i h2, ← h (i - p) (by omega)]
  exact hp i h1 h2
theorem ahP_c {f g : Nat → Int32} {n m : Nat} (h : ∀ x, x < n → f x = g x) (hp : ahP f n m) : ahP g n m := by
  obtain ⟨i, hi, he, hl⟩ := hp
  have hm : ∀ y, (y + m) % n < n := fun y => Nat.mod_lt _ (by omega)
  refine ⟨i, hi, fun y hy => ?_, ?_⟩
  · rw [← h y (by omega), ← h _ (hm y)]
    exact he y hy
  · rw [← h i hi, ← h _ (hm i)]
    exact hl
theorem ahA_c {f g : Nat → Int32} {n : Nat} (h : ∀ x, x < n → f x = g x) (hp : ahA f n) : ahA g n := fun m h1 h2 => ahP_c h (hp m h1 h2)
theorem tuP_c {k f g : Nat → Int32} {n : Nat} (hn : 1 ≤ n) (h : ∀ x, x < n → f x = g x) (hp : tuP k f n) : tuP k g n := by
  unfold tuP at hp ⊢
  rw [← h (n - 1) (by omega), ← h 0 (by omega)]
  exact hp
/-! what is known of a length -/
def SVF (en : Nat → va_E) (n : Nat) : Prop := (∃ f g, svN en n = List.foldl (nn1 (dX en) (mX en) n (rX en)) (0, -1, 9223372036854775807, f, g) (wds (kX en) (aX en) n none)) ∧ svT en n = List.foldl (nt1 (dX en) (mX en) n (rX en) (rdF (en 10))) (-1) (wds (kX en) (aX en) n none) ∧ ∀ Q, hQQ Q (rdF (en 10)) n → ∃ f, svR en n = List.foldl (nr1 (dX en) (mX en) n (rX en) Q) (0, 0, f) (wds (kX en) (aX en) n none)
def SOK (en : Nat → va_E) (n : Nat) : Prop := rdI (en (34 + 4 * n)) 3 = 1 → SVF en n
def LNX (en : Nat → va_E) : Prop := WOK en ∧ ∀ n, 1 ≤ n → n ≤ 8 → SOK en n
theorem SVF_c {a b : Nat → va_E} {n : Nat} (h : SVF a n) (h1 : b 1 = a 1) (hr : ∀ c, 4 ≤ c → c < 10 → b c = a c) (h10 : b 10 = a 10) (hs : ∀ c, 34 + 4 * n ≤ c → c ≤ 37 + 4 * n → b c = a c) : SVF b n := by
  unfold SVF
  rw [kX_c h1, dX_c h1, mX_c h1, rX_c hr, aX_c h10, h10, svN_c (hs _ (by omega) (by omega)) (hs _ (by omega) (by omega)) (hs _ (by omega) (by omega)), svT_c (hs _ (by omega) (by omega)), svR_c (hs _ (by omega) (by omega)) (hs _ (by omega) (by omega))]
  exact h
theorem SOK_c {a b : Nat → va_E} {n : Nat} (h : SOK a n) (h1 : b 1 = a 1) (hr : ∀ c, 4 ≤ c → c < 10 → b c = a c) (h10 : b 10 = a 10) (hs : ∀ c, 34 + 4 * n ≤ c → c ≤ 37 + 4 * n → b c = a c) : SOK b n := fun q => SVF_c (h (by rw [← hs (34 + 4 * n) (by omega) (by omega)]; exact q)) h1 hr h10 hs
/-- the ways are found, else nothing changed -/
theorem LNX_w {a b : Nat → va_E} (h : LNX a) (hw : WYX b) (hu : ∀ c, (c ≠ 12 ∧ ¬ (15 ≤ c ∧ c ≤ 23)) → b c = a c) : LNX b := ⟨fun _ => hw, fun n h1 h2 => SOK_c (h.2 n h1 h2) (hu _ (by omega)) (fun c h3 h4 => hu _ (by omega)) (hu _ (by omega)) (fun c h3 h4 => hu _ (by omega))⟩
theorem LNX_f {a b : Nat → va_E} (h : LNX a) (hu : ∀ c, 1 ≤ c → c < 70 → c ≠ 11 → b c = a c) : LNX b := ⟨fun q => WYX_c (h.1 (by rw [← hu 12 (by omega) (by omega) (by omega)]; exact q)) (hu _ (by omega) (by omega) (by omega)) (hu _ (by omega) (by omega) (by omega)) (fun c h3 h4 => hu _ (by omega) (by omega) (by omega)), fun n h1 h2 => SOK_c (h.2 n h1 h2) (hu _ (by omega) (by omega) (by omega)) (fun c h3 h4 => hu _ (by omega) (by omega) (by omega)) (hu _ (by omega) (by omega) (by omega)) (fun c h3 h4 => hu _ (by omega) (by omega) (by omega))⟩
/-- nothing is known -/
theorem LNX_0 {en : Nat → va_E} (h : rdI (en 12) 5 = 0) (hs : ∀ m, m ≤ 8 → rdI (en (34 + 4 * m)) 3 = 0) : LNX en := ⟨fun q => absurd (h.symm.trans q) (by decide), fun n _ h2 q => absurd ((hs n h2).symm.trans q) (by decide)⟩
/-! folds of the walk -/
def wpx (K : Nat) (al : Nat → Nat → Bool) (k : Nat) (g : Nat → Nat) (dp j : Nat) : List (List Nat) := (wdj K al k (pv g dp) j).map (fun w => pre g dp ++ w)
theorem wpx_0 {K : Nat} {al : Nat → Nat → Bool} {k : Nat} {g : Nat → Nat} {dp : Nat} : wpx K al k g dp 0 = [] := rfl
theorem wpx_no {K : Nat} {al : Nat → Nat → Bool} {k : Nat} {g : Nat → Nat} {dp j : Nat} (h : ¬ (0 < bw K al k j ∧ okk al (pv g dp) j = true)) : wpx K al k g dp (j + 1) = wpx K al k g dp j := by
  unfold wpx
  rw [wdj_s]
  by_cases e : okk al (pv g dp) j = true
  · rw [if_pos e, wds_nil (by have h9 : ¬ 0 < bw K al k j := fun q => h ⟨q, e⟩; omega)]
    show ((wdj K al k (pv g dp) j) ++ []).map _ = _
    rw [List.append_nil]
  · rw [if_neg e, List.append_nil]
theorem wpx_yes {K : Nat} {al : Nat → Nat → Bool} {k : Nat} {g h : Nat → Nat} {dp j : Nat} (ho : okk al (pv g dp) j = true) (e : ∀ x, x < dp → h x = g x) (hj : h dp = j) : wpx K al k g dp (j + 1) = wpx K al k g dp j ++ (wds K al k (pv h (dp + 1))).map (fun w => pre h (dp + 1) ++ w) := by
  unfold wpx
  rw [wdj_s, if_pos ho, List.map_append, List.map_map]
  refine congrArg (fun z => ((wdj K al k (pv g dp) j).map (fun w => pre g dp ++ w)) ++ z) ?_
  have hp : pv h (dp + 1) = some j := congrArg some hj
  rw [hp, pre_s, pre_c e, hj]
  refine List.map_congr_left (fun w _ => ?_)
  simp only [Function.comp, List.append_assoc, List.cons_append, List.nil_append]
theorem wpx_K {K : Nat} {al : Nat → Nat → Bool} {k : Nat} {g : Nat → Nat} {dp : Nat} : wpx K al k g dp K = (wds K al (k + 1) (pv g dp)).map (fun w => pre g dp ++ w) := rfl
theorem wds_end {K : Nat} {al : Nat → Nat → Bool} {g : Nat → Nat} {n : Nat} : (wds K al 0 (pv g n)).map (fun w => pre g n ++ w) = [pre g n] := by
  show [pre g n ++ []] = [pre g n]
  rw [List.append_nil]
theorem wds_all {K : Nat} {al : Nat → Nat → Bool} {g : Nat → Nat} {n : Nat} : (wds K al n (pv g 0)).map (fun w => pre g 0 ++ w) = wds K al n none := by
  show (wds K al n none).map (fun w => [] ++ w) = _
  exact List.map_id _
/-- the three rows of numbers behind the words of a list -/
def SVL (a b : Nat → va_E) (J n : Nat) (Q : List Nat → Bool) (L : List (List Nat)) : Prop := svN b J = List.foldl (nn1 (dX a) (mX a) n (rX a)) (svN a J) L ∧ svT b J = List.foldl (nt1 (dX a) (mX a) n (rX a) (rdF (a 10))) (svT a J) L ∧ svR b J = List.foldl (nr1 (dX a) (mX a) n (rX a) Q) (svR a J) L
theorem SVL_0 {a : Nat → va_E} {J n : Nat} {Q : List Nat → Bool} : SVL a a J n Q [] := ⟨rfl, rfl, rfl⟩
theorem SVL_tr {a b c : Nat → va_E} {J n : Nat} {Q : List Nat → Bool} {L M : List (List Nat)} (h : SVL a b J n Q L) (k : SVL b c J n Q M) (h1 : b 1 = a 1) (hr : ∀ c, 4 ≤ c → c < 10 → b c = a c) (h10 : b 10 = a 10) : SVL a c J n Q (L ++ M) := by
  unfold SVL at h k ⊢
  rw [dX_c h1, mX_c h1, rX_c hr, h10] at k
  rw [List.foldl_append, List.foldl_append, List.foldl_append, ← h.1, ← h.2.1, ← h.2.2]
  exact k
/-- what the walk leaves as it was, at depth dp -/
def WKP (a b : Nat → va_E) (dp : Nat) : Prop := (∀ x, x < dp → rdF (b 33) x = rdF (a 33) x) ∧ ∀ k, k < dp → b (25 + k) = a (25 + k)
theorem WKP_rf (a : Nat → va_E) (dp : Nat) : WKP a a dp := ⟨fun _ _ => rfl, fun _ _ => rfl⟩
theorem WKP_tr {a b c : Nat → va_E} {dp : Nat} (h : WKP a b dp) (k : WKP b c dp) : WKP a c dp := ⟨fun x hx => (k.1 x hx).trans (h.1 x hx), fun x hx => (k.2 x hx).trans (h.2 x hx)⟩
theorem WKP_le {a b : Nat → va_E} {dp : Nat} (h : WKP a b (dp + 1)) : WKP a b dp := ⟨fun x hx => h.1 x (by omega), fun x hx => h.2 x (by omega)⟩
theorem gX_w {a b : Nat → va_E} {dp : Nat} (h : WKP a b dp) : ∀ x, x < dp → gX b x = gX a x := fun x hx => by
  unfold gX
  rw [h.1 x hx]
/-! powers -/
def pwR (v : Int64) : Nat → Int64
  | 0 => 1
  | n + 1 => pwR v n * v
/-! the answers of the class -/
def NF9 (en : Nat → va_E) (n : Nat) (f g : Nat → Int32) : NV9 := List.foldl (nn1 (dX en) (mX en) n (rX en)) (0, -1, 9223372036854775807, f, g) (wds (kX en) (aX en) n none)
def TF9 (en : Nat → va_E) (n : Nat) : Int64 := List.foldl (nt1 (dX en) (mX en) n (rX en) (rdF (en 10))) (-1) (wds (kX en) (aX en) n none)
def RF9 (en : Nat → va_E) (n : Nat) (Q : List Nat → Bool) (f : Nat → Int32) : RV9 := List.foldl (nr1 (dX en) (mX en) n (rX en) Q) (0, 0, f) (wds (kX en) (aX en) n none)
theorem NF9_c {a b : Nat → va_E} {n : Nat} {f g : Nat → Int32} (hu : ∀ c, (c < 12 ∨ 70 ≤ c) → b c = a c) : NF9 b n f g = NF9 a n f g := by
  unfold NF9
  rw [kX_c (hu 1 (by omega)), dX_c (hu 1 (by omega)), mX_c (hu 1 (by omega)), rX_c (fun c h1 h2 => hu c (by omega)), aX_c (hu 10 (by omega))]
theorem TF9_c {a b : Nat → va_E} {n : Nat} (hu : ∀ c, (c < 12 ∨ 70 ≤ c) → b c = a c) : TF9 b n = TF9 a n := by
  unfold TF9
  rw [kX_c (hu 1 (by omega)), dX_c (hu 1 (by omega)), mX_c (hu 1 (by omega)), rX_c (fun c h1 h2 => hu c (by omega)), aX_c (hu 10 (by omega)), hu 10 (by omega)]
theorem RF9_c {a b : Nat → va_E} {n : Nat} {Q : List Nat → Bool} {f : Nat → Int32} (hu : ∀ c, (c < 12 ∨ 70 ≤ c) → b c = a c) : RF9 b n Q f = RF9 a n Q f := by
  unfold RF9
  rw [kX_c (hu 1 (by omega)), dX_c (hu 1 (by omega)), mX_c (hu 1 (by omega)), rX_c (fun c h1 h2 => hu c (by omega)), aX_c (hu 10 (by omega))]
def pickC (V C : Nat) (s : NV9) : Int64 := if V = 0 then (nI C).toInt64 else if V = 1 then (if C = 0 then -9223372036854775808 else s.2.1) else if V = 2 then (if C = 0 then -9223372036854775808 else s.2.2.1) else s.1.toInt64
def pickE (V C J : Nat) (s : NV9) : Int32 := if C = 0 then -9 else if V = 0 then s.2.2.2.1 J else s.2.2.2.2 J
def pickQ (s : RV9) : Int64 := if s.1 = 0 then -9223372036854775808 else s.2.1
def pickS (J : Nat) (s : RV9) : Int32 := if s.1 = 0 then -9 else s.2.2 J
def XLN (n w : Int32) (r : Int64) (en : Nat → va_E) : Prop := (¬ (wi n 1 8 ∧ wi w 0 3) ∧ r = -9223372036854775808) ∨ ∃ N V, n = nI N ∧ w = nI V ∧ 1 ≤ N ∧ N ≤ 8 ∧ V ≤ 3 ∧ ((20000 < CNX en N ∧ r = -9223372036854775808) ∨ (¬ 20000 < CNX en N ∧ ∃ f g, r = pickC V (CNX en N) (NF9 en N f g)))
def XXT (n z i r : Int32) (en : Nat → va_E) : Prop := ((¬ wi n 1 8 ∨ ¬ wi z 0 1 ∨ ∃ N : Nat, n = nI N ∧ 1 ≤ N ∧ N ≤ 8 ∧ ¬ wi i 0 (nI (N - 1))) ∧ r = -2) ∨ ∃ N V J, n = nI N ∧ z = nI V ∧ i = nI J ∧ 1 ≤ N ∧ N ≤ 8 ∧ V ≤ 1 ∧ J < N ∧ ((20000 < CNX en N ∧ r = -6) ∨ (¬ 20000 < CNX en N ∧ ∃ f g, r = pickE V (CNX en N) J (NF9 en N f g)))
def XRG (n r : Int32) (en : Nat → va_E) : Prop := (¬ wi n 1 8 ∧ r = -2) ∨ ∃ N, n = nI N ∧ 1 ≤ N ∧ N ≤ 8 ∧ ((20000 < CNX en N ∧ r = -6) ∨ (¬ 20000 < CNX en N ∧ ∀ Q, hQQ Q (rdF (en 10)) N → ∃ f, r = (RF9 en N Q f).1))
def XRT (n : Int32) (r : Int64) (en : Nat → va_E) : Prop := (¬ wi n 1 8 ∧ r = -9223372036854775808) ∨ ∃ N, n = nI N ∧ 1 ≤ N ∧ N ≤ 8 ∧ ((20000 < CNX en N ∧ r = -9223372036854775808) ∨ (¬ 20000 < CNX en N ∧ ∀ Q, hQQ Q (rdF (en 10)) N → ∃ f, r = pickQ (RF9 en N Q f)))
def XRI (n i r : Int32) (en : Nat → va_E) : Prop := ((¬ wi n 1 8 ∨ ∃ N : Nat, n = nI N ∧ 1 ≤ N ∧ N ≤ 8 ∧ ¬ wi i 0 (nI (N - 1))) ∧ r = -2) ∨ ∃ N J, n = nI N ∧ i = nI J ∧ 1 ≤ N ∧ N ≤ 8 ∧ J < N ∧ ((20000 < CNX en N ∧ r = -6) ∨ (¬ 20000 < CNX en N ∧ ∀ Q, hQQ Q (rdF (en 10)) N → ∃ f, r = pickS J (RF9 en N Q f)))
/-! growth of the class -/
def GF9 (en : Nat → va_E) (n : Nat) : Int64 := List.foldl (fun s w => if s < nmX (dX en) (mX en) n (rX en) w then nmX (dX en) (mX en) n (rX en) w else s) (-1) (wds (kX en) (aX en) n none)
theorem nn1_gr {d mm n : Nat} {R : Nat → Nat → Int64} : ∀ (L : List (List Nat)) (s : NV9), (List.foldl (nn1 d mm n R) s L).2.1 = List.foldl (fun s w => if s < nmX d mm n R w then nmX d mm n R w else s) s.2.1 L := by
  intro L
  induction L with
  | nil => intro s; rfl
  | cons w L ih => intro s; exact ih (nn1 d mm n R s w)
theorem NF9_gr {en : Nat → va_E} {n : Nat} {f g : Nat → Int32} : (NF9 en n f g).2.1 = GF9 en n := nn1_gr _ _
def XP9 (en : Nat → va_E) (a b : Int32) (k : Nat) : Prop := (rdI (en 1) 5).toInt64 * pwR a.toInt64 k < TF9 en k * pwR b.toInt64 k
def XN9 (en : Nat → va_E) (a b : Int32) (k : Nat) : Prop := CNX en k = 0 ∨ GF9 en k * pwR b.toInt64 k < pwR a.toInt64 k
def XO9 (en : Nat → va_E) (a b : Int32) (k : Nat) (ib : Int32) : Prop := (∀ q, 1 ≤ q → q < k → ¬ XP9 en a b q) ∧ bI ib (∃ q, 1 ≤ q ∧ q < k ∧ XN9 en a b q)
def XGR (en : Nat → va_E) (a b : Int32) (n : Nat) (r : Int32) : Prop := (r = 1 ∧ ∃ k, 1 ≤ k ∧ k ≤ n ∧ XP9 en a b k) ∨ ((∀ k, 1 ≤ k → k ≤ n → ¬ XP9 en a b k) ∧ ((r = -1 ∧ ∃ k, 1 ≤ k ∧ k ≤ n ∧ XN9 en a b k) ∨ (r = 0 ∧ ∀ k, 1 ≤ k → k ≤ n → ¬ XN9 en a b k)))
theorem XO9_0 {en : Nat → va_E} {a b : Int32} : XO9 en a b 1 0 := ⟨fun q h1 h2 => absurd h2 (by omega), Or.inr ⟨rfl, fun ⟨q, h1, h2, _⟩ => absurd h2 (by omega)⟩⟩
theorem XO9_n {en : Nat → va_E} {a b : Int32} {k : Nat} {ib : Int32} (h : XO9 en a b k ib) (hp : ¬ XP9 en a b k) : ∀ q, 1 ≤ q → q < k + 1 → ¬ XP9 en a b q := fun q h1 h2 => by
  by_cases e : q = k
  · rw [e]; exact hp
  · exact h.1 q h1 (by omega)
theorem XO9_1 {en : Nat → va_E} {a b : Int32} {k : Nat} {ib : Int32} (h : XO9 en a b k ib) (hp : ¬ XP9 en a b k) (h1 : ¬ ib = 0) : XO9 en a b (k + 1) 1 := ⟨XO9_n h hp, by
  rcases h.2 with ⟨-, q, a1, a2, a3⟩ | ⟨e, -⟩
  · exact Or.inl ⟨rfl, q, a1, by omega, a3⟩
  · exact absurd e h1⟩
theorem XO9_2 {en : Nat → va_E} {a b : Int32} {k : Nat} {ib : Int32} (hk : 1 ≤ k) (h : XO9 en a b k ib) (hp : ¬ XP9 en a b k) (hn : XN9 en a b k) : XO9 en a b (k + 1) 1 := ⟨XO9_n h hp, Or.inl ⟨rfl, k, hk, by omega, hn⟩⟩
theorem XO9_3 {en : Nat → va_E} {a b : Int32} {k : Nat} {ib : Int32} (h : XO9 en a b k ib) (hp : ¬ XP9 en a b k) (h1 : ib = 0) (hn : ¬ XN9 en a b k) : XO9 en a b (k + 1) 0 := ⟨XO9_n h hp, by
  rcases h.2 with ⟨e, -⟩ | ⟨-, p⟩
  · rw [h1] at e; exact absurd e (by decide)
  · refine Or.inr ⟨rfl, fun ⟨q, a1, a2, a3⟩ => ?_⟩
    by_cases e : q = k
    · rw [e] at a3; exact hn a3
    · exact p ⟨q, a1, by omega, a3⟩⟩
theorem XO9_e {en : Nat → va_E} {a b : Int32} {n : Nat} {ib : Int32} (h : XO9 en a b (n + 1) ib) : (ib = 0 → XGR en a b n 0) ∧ (¬ ib = 0 → XGR en a b n (-1)) := by
  refine ⟨fun e => Or.inr ⟨fun k a1 a2 => h.1 k a1 (by omega), Or.inr ⟨rfl, fun k a1 a2 c => ?_⟩⟩, fun e => Or.inr ⟨fun k a1 a2 => h.1 k a1 (by omega), Or.inl ⟨rfl, ?_⟩⟩⟩
  · rcases h.2 with ⟨e', -⟩ | ⟨-, p⟩
    · rw [e] at e'; exact absurd e' (by decide)
    · exact p ⟨k, a1, by omega, c⟩
  · rcases h.2 with ⟨-, q, a1, a2, c⟩ | ⟨e', -⟩
    · exact ⟨q, a1, by omega, c⟩
    · exact absurd e' e
theorem pw_s {v w : Int64} {j : Nat} (hj : 1 ≤ j) (h : w = pwR v (j - 1)) : w * v = pwR v j := by
  obtain ⟨k, rfl⟩ : ∃ k, j = k + 1 := ⟨j - 1, by omega⟩
  rw [h]
  rfl
def XGW (a b n r : Int32) (en : Nat → va_E) : Prop := ((¬ wi a 1 9 ∨ ¬ wi b 1 9 ∨ ¬ wi n 1 7) ∧ r = -2) ∨ ∃ A B N, a = nI A ∧ b = nI B ∧ n = nI N ∧ 1 ≤ A ∧ A ≤ 9 ∧ 1 ≤ B ∧ B ≤ 9 ∧ 1 ≤ N ∧ N ≤ 7 ∧ (((0 < (rdI (en 1) 6).toInt ∨ rdI (en 1) 4 = 0) ∧ r = -3) ∨ ((¬ 0 < (rdI (en 1) 6).toInt ∧ ¬ rdI (en 1) 4 = 0) ∧ (((∃ k, 1 ≤ k ∧ k ≤ N ∧ 20000 < CNX en k) ∧ r = -6) ∨ ((∀ k, 1 ≤ k → k ≤ N → ¬ 20000 < CNX en k) ∧ XGR en (nI A) (nI B) N r))))
theorem GF9_c {a b : Nat → va_E} {n : Nat} (hu : ∀ c, (c < 12 ∨ 70 ≤ c) → b c = a c) : GF9 b n = GF9 a n := by
  unfold GF9
  rw [kX_c (hu 1 (by omega)), dX_c (hu 1 (by omega)), mX_c (hu 1 (by omega)), rX_c (fun c h1 h2 => hu c (by omega)), aX_c (hu 10 (by omega))]
theorem XGR_c {a b : Nat → va_E} {x y : Int32} {n : Nat} {r : Int32} (hu : ∀ c, (c < 12 ∨ 70 ≤ c) → b c = a c) (h : XGR b x y n r) : XGR a x y n r := by
  have e1 : XP9 b x y = XP9 a x y := by
    funext k
    unfold XP9
    rw [hu 1 (by omega), TF9_c hu]
  have e2 : XN9 b x y = XN9 a x y := by
    funext k
    unfold XN9
    rw [CNX_c (hu 1 (by omega)) (hu 10 (by omega)), GF9_c hu]
  unfold XGR at h ⊢
  rw [e1, e2] at h
  exact h
