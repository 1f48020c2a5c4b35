def rdR (x : va_E) : Nat → Option Nat := match x with
  | .inl (_, _, .inr (.inr (.inr (.inr f)))) => f
  | _ => fun _ => none
/-- the tables' objects and their entries -/
def TX (cy : Nat → ClassId) (cs : List Nat) (ad : Nat → Nat) (en : Nat → va_E) : Prop := ∀ t d : Nat, d ≤ 3 → rdI (en 1) 5 = nI d → (t : Int) < (rdI (en 1) 4).toInt → ∃ (q k ci : Nat) (g : Nat → Int32), q ∈ cs ∧ k ∈ cs ∧ 115 ≤ q ∧ 115 ≤ k ∧ rdR (en 2) t = some (ad q) ∧ en q = .inr (ci, [.int (nI t), .int (nI d), .ref (ad k)]) ∧ (ci = 6 ∨ ci = 1 ∨ ci = 4) ∧ en k = .inl (cy 0, d * d, .inl g)
theorem TX_keep {cy : Nat → ClassId} {cs : List Nat} {ad : Nat → Nat} {en en1 : Nat → va_E} (h : TX cy cs ad en) (hu : ∀ c, c = 1 ∨ c = 2 ∨ 115 ≤ c → en1 c = en c) : TX cy cs ad en1 := by
  intro t d hd h5 ht
  rw [hu 1 (by omega)] at h5 ht
  obtain ⟨q, k, ci, g, h1, h2, h3, h4, h6, h7, h8, h9⟩ := h t d hd h5 ht
  exact ⟨q, k, ci, g, h1, h2, h3, h4, by rw [hu 2 (by omega)]; exact h6, by rw [hu q (by omega)]; exact h7, h8, by rw [hu k (by omega)]; exact h9⟩
/-- behind the closure's forget -/
theorem CP_forget {cy : Nat → ClassId} {cs : List Nat} {ad : Nat → Nat} {en en1 : Nat → va_E} (h : CP cy cs ad en) (hu : ∀ c, 115 ≤ c → en1 c = en c) (h7 : ∃ (ea eb ec : Option Nat) (st0 cc0 ct0 un0 ow0 hn0 : Int32), en 70 = .inr (0, [.ref (ad 1), .ref (ad 71), .ref (ad 72), .ref (ad 73), va_rf ea, va_rf eb, va_rf ec, .int st0, .int cc0, .int ct0, .int un0, .int ow0, .int hn0]) ∧ en1 70 = .inr (0, [.ref (ad 1), .ref (ad 71), .ref (ad 72), .ref (ad 73), va_rf ea, va_rf eb, va_rf ec, .int 0, .int cc0, .int ct0, .int un0, .int ow0, .int hn0])) : CP cy cs ad en1 := by
  obtain ⟨ea, eb, ec, st0, cc0, ct0, un0, ow0, hn0, e0, e1⟩ := h7
  rcases h with ⟨ka, kb, kc, k, p⟩ | e
  · obtain ⟨-, -, -, k1, k2, k3⟩ := id k
    obtain ⟨⟨sta, cc, ct, un, ow, hn, e, h1, h2, h3, h4⟩, p2, p3, p4⟩ := p
    rw [e] at e0
    simp only [Sum.inr.injEq, Prod.mk.injEq, List.cons.injEq, Value.int.injEq, true_and, and_true] at e0
    obtain ⟨a1, a2, a3, -, a5, a6, a7, a8, a9⟩ := e0
    refine Or.inl ⟨ka, kb, kc, k, ⟨0, cc, ct, un, ow, hn, ?_, by omega, h2, h3, h4⟩, by rw [hu ka (by omega)]; exact p2, by rw [hu kb (by omega)]; exact p3, by rw [hu kc (by omega)]; exact p4⟩
    rw [e1, ← a1, ← a2, ← a3, ← a5, ← a6, ← a7, ← a8, ← a9]
    rfl
  · rw [e] at e0
    simp only [Sum.inr.injEq, Prod.mk.injEq, List.cons.injEq, Value.int.injEq, true_and, and_true] at e0
    obtain ⟨a1, a2, a3, -, a5, a6, a7, a8, a9⟩ := e0
    refine Or.inr ?_
    rw [e1, ← a1, ← a2, ← a3, ← a5, ← a6, ← a7, ← a8, ← a9]
/-- the tables' objects, their entries F t and their kinds -/
def TXF (cy : Nat → ClassId) (cs : List Nat) (ad : Nat → Nat) (en : Nat → va_E) (F : Nat → Nat → Int32) : Prop := ∀ t d : Nat, d ≤ 3 → rdI (en 1) 5 = nI d → (t : Int) < (rdI (en 1) 4).toInt → (∃ q k ci : Nat, q ∈ cs ∧ k ∈ cs ∧ 115 ≤ q ∧ 115 ≤ k ∧ rdR (en 2) t = some (ad q) ∧ en q = .inr (ci, [.int (nI t), .int (nI d), .ref (ad k)]) ∧ (ci = 6 ∨ ci = 1 ∨ ci = 4) ∧ en k = .inl (cy 0, d * d, .inl (F t)) ∧ kdP ci (F t) d) ∧ ∀ i, i < d * d → wi (F t i) (-9) 9
theorem TXF_TX {cy : Nat → ClassId} {cs : List Nat} {ad : Nat → Nat} {en : Nat → va_E} {F : Nat → Nat → Int32} (h : TXF cy cs ad en F) : TX cy cs ad en := fun t d h1 h2 h3 => by
  obtain ⟨⟨q, k, ci, a1, a2, a3, a4, a5, a6, a7, a8, -⟩, -⟩ := h t d h1 h2 h3
  exact ⟨q, k, ci, F t, a1, a2, a3, a4, a5, a6, a7, a8⟩
theorem TXF_keep {cy : Nat → ClassId} {cs : List Nat} {ad : Nat → Nat} {en en1 : Nat → va_E} {F : Nat → Nat → Int32} (h : TXF cy cs ad en F) (hu : ∀ c, c = 1 ∨ c = 2 ∨ 115 ≤ c → en1 c = en c) : TXF cy cs ad en1 F := by
  intro t d hd h5 ht
  rw [hu 1 (by omega)] at h5 ht
  obtain ⟨⟨q, k, ci, h1, h2, h3, h4, h6, h7, h8, h9, h10⟩, hb⟩ := h t d hd h5 ht
  exact ⟨⟨q, k, ci, h1, h2, h3, h4, by rw [hu 2 (by omega)]; exact h6, by rw [hu q (by omega)]; exact h7, h8, by rw [hu k (by omega)]; exact h9, h10⟩, hb⟩
def inP (t a b cnt d : Int32) : Prop := (0 ≤ t.toInt ∧ t.toInt < cnt.toInt) ∧ (0 ≤ a.toInt ∧ a.toInt < d.toInt) ∧ (0 ≤ b.toInt ∧ b.toInt < d.toInt)
/-- entry's answer -/
def XEN (F : Nat → Nat → Int32) (t a b cnt d : Int32) (r : Int64) : Prop := (inP t a b cnt d ∧ r = (F t.toNatClampNeg (a.toNatClampNeg * d.toNatClampNeg + b.toNatClampNeg)).toInt64) ∨ (¬ inP t a b cnt d ∧ r = (-9223372036854775808))
/-- what a telling answers and leaves of history -/
def tlF (ci : Nat) (f : Nat → Int32) (d : Nat) (h r h1 : Int32) : Prop := (ci = 6 ∧ r = sumI (fun i => f (i * d + i)) d ∧ h1 = 31 * h + 1) ∨ (ci = 1 ∧ r = sumI (fun i => f (i * d + i)) d + gmx f (d * d) ∧ h1 = 31 * (31 * h + 2) + 1) ∨ (ci = 4 ∧ r = sumI (fun i => f (i * d + i)) d + gmx f (d * d) + sumI (fun i => f (i * d + i)) d ∧ h1 = 31 * (31 * (31 * (31 * h + 3) + 2) + 1) + 1)
def hasP (t cnt : Int32) : Prop := 0 ≤ t.toInt ∧ t.toInt < cnt.toInt
def XTE (F : Nat → Nat → Int32) (t r : Int32) (en e1 : Nat → va_E) : Prop := (¬ hasP t (rdI (en 1) 4) ∧ r = -1 ∧ e1 = en) ∨ ∃ T d ci : Nat, t = nI T ∧ hasP t (rdI (en 1) 4) ∧ rdI (en 1) 5 = nI d ∧ d ≤ 3 ∧ T < 6 ∧ kdP ci (F T) d ∧ tlF ci (F T) d (rdI (en 76) 0) r (rdI (e1 76) 0)
def XWE (F : Nat → Nat → Int32) (t r : Int32) (en e1 : Nat → va_E) : Prop := (¬ hasP t (rdI (en 1) 4) ∧ r = -1 ∧ e1 = en) ∨ ∃ T d ci : Nat, t = nI T ∧ hasP t (rdI (en 1) 4) ∧ rdI (en 1) 5 = nI d ∧ d ≤ 3 ∧ T < 6 ∧ kdP ci (F T) d ∧ ((ci ≠ 4 ∧ r = t ∧ rdI (e1 76) 0 = 31 * rdI (en 76) 0 + 4) ∨ (ci = 4 ∧ r = 60 ∧ rdI (e1 76) 0 = 31 * rdI (en 76) 0 + 5))
def XAS (F : Nat → Nat → Int32) (t z r : Int32) (en : Nat → va_E) : Prop := (¬ hasP t (rdI (en 1) 4) ∧ r = -1) ∨ (hasP t (rdI (en 1) 4) ∧ ¬ wi z 0 2 ∧ r = -2) ∨ ∃ T d ci : Nat, t = nI T ∧ hasP t (rdI (en 1) 4) ∧ wi z 0 2 ∧ rdI (en 1) 5 = nI d ∧ d ≤ 3 ∧ T < 6 ∧ kdP ci (F T) d ∧ ((okK ci z ∧ r = 1) ∨ (¬ okK ci z ∧ r = -12))
