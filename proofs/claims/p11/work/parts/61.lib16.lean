/-! what a call that adds a table leaves -/
def ADP (cy : Nat → ClassId) (J I : Nat) (n : Nat) (ad : Nat → Nat) (en : Nat → va_E) (r : Int32) (ad1 : Nat → Nat) (en1 : Nat → va_E) : Prop :=
  (∀ i, i < n → ad1 i = ad i) ∧ (∀ c, (c < n ∧ c ≠ 1 ∧ c ≠ 2 ∧ (c < 4 ∨ 10 ≤ c)) → en1 c = en c) ∧ SX cy (List.range (n + 2)) ad1 en1 ∧ ∃ (cnt d ci : Nat) (g : Nat → Int32), r = nI cnt ∧ cnt < 6 ∧ d ≤ 3 ∧ rdI (en 1) 4 = nI cnt ∧ rdI (en 1) 5 = nI d ∧ rdI (en1 1) 4 = nI (cnt + 1) ∧ rdI (en1 1) 5 = nI d ∧ rdI (en1 1) 6 = rdI (en 1) 6 ∧ (∀ t, rdR (en1 2) t = if t = cnt then some (ad1 (n + 1)) else rdR (en 2) t) ∧ en1 (n + 1) = .inr (ci, [.int (nI cnt), .int (nI d), .ref (ad1 n)]) ∧ (ci = 6 ∨ ci = 1 ∨ ci = 4) ∧ en1 n = .inl (cy 0, d * d, .inl g) ∧ kdP ci g d ∧ (∀ i, i < d * d → g i = rdF (en (108 + 2 * J)) (I + i)) ∧ (∀ t, t < 6 → t ≠ cnt → en1 (4 + t) = en (4 + t)) ∧ ∀ i, i < d * d → rdL (en1 (4 + cnt)) i = restL (rdI (en 1) 6).toNatClampNeg (g i).toInt64
/-- the rows of the tables: their entries' rests -/
def RW (F : Nat → Nat → Int32) (en : Nat → va_E) : Prop := ∀ t i : Nat, t < 6 → (t : Int) < (rdI (en 1) 4).toInt → i < (rdI (en 1) 5).toNatClampNeg * (rdI (en 1) 5).toNatClampNeg → rdL (en (4 + t)) i = restL (rdI (en 1) 6).toNatClampNeg (F t i).toInt64
theorem RW_keep {F : Nat → Nat → Int32} {en e1 : Nat → va_E} (h : RW F en) (h1 : e1 1 = en 1) (hu : ∀ t, t < 6 → e1 (4 + t) = en (4 + t)) : RW F e1 := by
  intro t i h6 ht hi
  rw [h1] at ht hi ⊢
  rw [hu t h6]
  exact h t i h6 ht hi
theorem TXF_add {cy : Nat → ClassId} {J I n : Nat} {ad ad1 : Nat → Nat} {en en1 : Nat → va_E} {r : Int32} {F : Nat → Nat → Int32} (hn : 115 ≤ n) (h : TXF cy (List.range n) ad en F) (k : ADP cy J I n ad en r ad1 en1) (hok : ∀ d, rdI (en 1) 5 = nI d → d ≤ 3 → ∀ x, x < d * d → wi (rdF (en (108 + 2 * J)) (I + x)) (-9) 9) : ∃ F1 : Nat → Nat → Int32, TXF cy (List.range (n + 2)) ad1 en1 F1 ∧ ∃ cnt d : Nat, d ≤ 3 ∧ rdI (en 1) 4 = nI cnt ∧ rdI (en 1) 5 = nI d ∧ r = nI cnt ∧ cnt < 6 ∧ rdI (en1 1) 4 = nI (cnt + 1) ∧ rdI (en1 1) 5 = nI d ∧ rdI (en1 1) 6 = rdI (en 1) 6 ∧ (∀ t, t ≠ cnt → F1 t = F t) ∧ (∀ x, x < d * d → F1 cnt x = rdF (en (108 + 2 * J)) (I + x)) ∧ (RW F en → RW F1 en1) := by
  obtain ⟨ka, ku, -, cnt, d, ci, g, kr, hc6, hd3, k4, k5, j4, j5, j6, kR, ko, kci, kg, kk, kv, kt, kw⟩ := k
  refine ⟨fun t => if t = cnt then g else F t, ?_, cnt, d, hd3, k4, k5, kr, hc6, j4, j5, j6, fun t ht => if_neg ht, fun x hx => ?_, fun q t i h6 ht hi => ?_⟩
  · intro t d' hd' h5 ht
    have hdd : d' = d := n_eq (h5.symm.trans j5) (by omega) (by omega)
    subst hdd
    rw [j4, nI_toInt (by omega)] at ht
    by_cases e : t = cnt
    · dsimp only; rw [if_pos e]
      refine ⟨⟨n + 1, n, ci, List.mem_range.mpr (by omega), List.mem_range.mpr (by omega), by omega, by omega, ?_, ?_, kci, kg, kk⟩, fun x hx => ?_⟩
      · rw [kR, if_pos e]
      · rw [ko, e]
      · rw [kv x hx]
        exact hok d' k5 hd' x hx
    · dsimp only; rw [if_neg e]
      obtain ⟨⟨q, k, ci', h1, h2, h3, h4, h6, h7, h8, h9, h10⟩, hb⟩ := h t d' hd' k5 (by rw [k4, nI_toInt (by omega)]; omega)
      have hq := List.mem_range.mp h1
      have hk := List.mem_range.mp h2
      refine ⟨⟨q, k, ci', List.mem_range.mpr (by omega), List.mem_range.mpr (by omega), h3, h4, ?_, ?_, h8, ?_, h10⟩, hb⟩
      · rw [kR, if_neg e, h6, ka q hq]
      · rw [ku q (by omega), h7, ka k hk]
      · rw [ku k (by omega)]
        exact h9
  · show (if cnt = cnt then g else F cnt) x = _
    rw [if_pos rfl]
    exact kv x hx
  · rw [j4, nI_toInt (by omega)] at ht
    rw [j5, nI_clamp (by omega)] at hi
    rw [j6]
    by_cases e : t = cnt
    · subst e
      show _ = restL _ ((if t = t then g else F t) i).toInt64
      rw [if_pos rfl]
      exact kw i hi
    · show _ = restL _ ((if t = cnt then g else F t) i).toInt64
      rw [if_neg e, kt t (by omega) e]
      exact q t i h6 (by rw [k4, nI_toInt (by omega)]; omega) (by rw [k5, nI_clamp (by omega)]; exact hi)
theorem TXF_grow {cy : Nat → ClassId} {n n1 : Nat} {ad ad1 : Nat → Nat} {en en1 : Nat → va_E} {F : Nat → Nat → Int32} (hn : n ≤ n1) (h : TXF cy (List.range n) ad en F) (ha : ∀ i, i < n → ad1 i = ad i) (hu : ∀ c, c = 1 ∨ c = 2 ∨ (115 ≤ c ∧ c < n) → en1 c = en c) : TXF cy (List.range n1) ad1 en1 F := by
  intro t d hd h5 ht
  rw [hu 1 (by omega)] at h5 ht
  obtain ⟨⟨q, k, ci, h1, h2, h3, h4, h6, h7, h8, h9, h10⟩, hb⟩ := h t d hd h5 ht
  have hq := List.mem_range.mp h1
  have hk := List.mem_range.mp h2
  exact ⟨⟨q, k, ci, List.mem_range.mpr (by omega), List.mem_range.mpr (by omega), h3, h4, by rw [hu 2 (by omega), h6, ha q hq], by rw [hu q (by omega), h7, ha k hk], h8, by rw [hu k (by omega)]; exact h9, h10⟩, hb⟩
/-- what table answers and leaves -/
def okC (en : Nat → va_E) (K I m : Nat) : Prop := ∀ x, x < m → wi (rdF (en (108 + 2 * K)) (I + x)) (-9) 9
def XTB (F F1 : Nat → Nat → Int32) (k la i r : Int32) (en en1 : Nat → va_E) : Prop := ∃ d cnt : Nat, 2 ≤ d ∧ d ≤ 3 ∧ cnt ≤ 6 ∧ rdI (en 1) 5 = nI d ∧ rdI (en 1) 4 = nI cnt ∧ rdI (en1 1) 5 = nI d ∧ rdI (en1 1) 6 = rdI (en 1) 6 ∧
  ((lookF (rdI (en (107 + 2 * k.toNatClampNeg)) 1) (rdI (en (107 + 2 * k.toNatClampNeg)) 2) (rdI (en (107 + 2 * k.toNatClampNeg)) 3) k la i (nI (d * d)) ≠ 1 ∧ r = lookF (rdI (en (107 + 2 * k.toNatClampNeg)) 1) (rdI (en (107 + 2 * k.toNatClampNeg)) 2) (rdI (en (107 + 2 * k.toNatClampNeg)) 3) k la i (nI (d * d)) ∧ F1 = F ∧ rdI (en1 1) 4 = nI cnt) ∨
   (lookF (rdI (en (107 + 2 * k.toNatClampNeg)) 1) (rdI (en (107 + 2 * k.toNatClampNeg)) 2) (rdI (en (107 + 2 * k.toNatClampNeg)) 3) k la i (nI (d * d)) = 1 ∧ ∃ K I : Nat, k = nI K ∧ i = nI I ∧ K < 4 ∧ I + d * d ≤ 40 ∧
     ((¬ okC en K I (d * d) ∧ r = -2 ∧ F1 = F ∧ rdI (en1 1) 4 = nI cnt) ∨ (okC en K I (d * d) ∧ 6 ≤ cnt ∧ r = -4 ∧ F1 = F ∧ rdI (en1 1) 4 = nI cnt) ∨
      (okC en K I (d * d) ∧ cnt < 6 ∧ r = nI cnt ∧ rdI (en1 1) 4 = nI (cnt + 1) ∧ (∀ t, t ≠ cnt → F1 t = F t) ∧ ∀ x, x < d * d → F1 cnt x = rdF (en (108 + 2 * K)) (I + x)))))
theorem KK_grow {n n1 ka kb kc : Nat} (hn : n ≤ n1) (h : KK (List.range n) ka kb kc) : KK (List.range n1) ka kb kc := by
  obtain ⟨h1, h2, h3, h4⟩ := h
  have a1 := List.mem_range.mp h1
  have a2 := List.mem_range.mp h2
  have a3 := List.mem_range.mp h3
  exact ⟨List.mem_range.mpr (by omega), List.mem_range.mpr (by omega), List.mem_range.mpr (by omega), h4⟩
theorem CP_grow {cy : Nat → ClassId} {n n1 : Nat} {ad ad1 : Nat → Nat} {en en1 : Nat → va_E} (hn : n ≤ n1) (hn0 : 115 ≤ n) (h : CP cy (List.range n) ad en) (ha : ∀ i, i < n → ad1 i = ad i) (hu : ∀ c, c = 70 ∨ (115 ≤ c ∧ c < n) → en1 c = en c) : CP cy (List.range n1) ad1 en1 := by
  rcases h with ⟨ka, kb, kc, k, p⟩ | e
  · obtain ⟨q1, q2, q3, k1, k2, k3⟩ := id k
    have a1 := List.mem_range.mp q1
    have a2 := List.mem_range.mp q2
    have a3 := List.mem_range.mp q3
    refine Or.inl ⟨ka, kb, kc, KK_grow hn k, ?_, ?_, ?_, ?_⟩
    · rw [hu 70 (by omega)]
      obtain ⟨sta, cc, ct, un, ow, hn9, e, p2⟩ := p.1
      exact ⟨sta, cc, ct, un, ow, hn9, by rw [e, ha 1 (by omega), ha 71 (by omega), ha 72 (by omega), ha 73 (by omega), ha ka a1, ha kb a2, ha kc a3], p2⟩
    · rw [hu ka (by omega)]; exact p.2.1
    · rw [hu kb (by omega)]; exact p.2.2.1
    · rw [hu kc (by omega)]; exact p.2.2.2
  · exact Or.inr (by rw [hu 70 (by omega), e, ha 1 (by omega), ha 71 (by omega), ha 72 (by omega), ha 73 (by omega)])
/-- the tables' cells are none of the closure's arrays -/
theorem TX_close {cy : Nat → ClassId} {cs : List Nat} {ad : Nat → Nat} {ka kb kc : Nat} {en en1 : Nat → va_E} {F : Nat → Nat → Int32} (h : TXF cy cs ad en F) (p : PC cy ad ka kb kc en) (hu : ∀ c, ((c < 70 ∨ 74 ≤ c) ∧ c ≠ ka ∧ c ≠ kb ∧ c ≠ kc) → en1 c = en c) (hk : 115 ≤ ka ∧ ka < kb ∧ kb < kc) : TXF cy cs ad en1 F := by
  obtain ⟨-, ⟨fa, ea⟩, ⟨fb, eb⟩, ⟨fc, ec, -⟩⟩ := p
  intro t d hd h5 ht
  rw [hu 1 (by omega)] at h5 ht
  obtain ⟨⟨q, k, ci, h1, h2, h3, h4, h6, h7, h8, h9, h10⟩, hb9⟩ := h t d hd h5 ht
  have hdd : d * d ≤ 9 := Nat.mul_le_mul hd hd
  have nq : ∀ x y, en x = .inl y → q ≠ x := fun x y e q9 => by
    rw [q9, e] at h7
    cases h7
  have lk : ∀ (x m : Nat) (a : ClassId) (b : _), en x = .inl (a, m, b) → 9 < m → k ≠ x := fun x m a b e hm q9 => by
    rw [q9, e] at h9
    have e9 : m = d * d := congrArg (fun z : va_E => match z with | .inl (_, n, _) => n | .inr _ => 0) h9
    omega
  have q1 := nq _ _ ea
  have q2 := nq _ _ eb
  have q3 := nq _ _ ec
  have k1 := lk _ _ _ _ ea (by decide)
  have k2 := lk _ _ _ _ eb (by decide)
  have k3 := lk _ _ _ _ ec (by decide)
  exact ⟨⟨q, k, ci, h1, h2, h3, h4, by rw [hu 2 (by omega)]; exact h6, by rw [hu q (by omega)]; exact h7, h8, by rw [hu k (by omega)]; exact h9, h10⟩, hb9⟩
theorem CP_of_SC {cy : Nat → ClassId} {cs : List Nat} {ad : Nat → Nat} {ka kb kc : Nat} {en : Nat → va_E} (h : SC cy cs ad ka kb kc en) : CP cy cs ad en := Or.inl ⟨ka, kb, kc, h.2.1, h.2.2⟩
section ASO
variable {p : Program} {l : Launch} {e : Env} {R : Room} {s : State} {m : MethodId} {args : Array Value} {below : List Frame} {meth : Method} {c : Code} {H : Heap} {locs : List Loc} {cells slots : Nat} {Q : State → Prop}
variable {cc : ByteArray} {pc : Nat} {ls : Array Slot} {rest : List Value} {D : va_G} {A : Nat → Prop} {cy : Nat → ClassId} {H0 : Heap} {cs : List Nat} {ad : Nat → Nat} {en : Nat → va_E}
theorem hp_astqO (hx : p.tables.exec = Jvm.exec) (hb : c.code = cc) (hK : va_K D vwCl (tyl cy) s) (hh : Hp D A A H0 H locs cs ad en) {q a v b ci t0 n : Nat} (ha : ad q = a) (hq : q ∈ cs) (hvb : ad v = b) (hv : v ∈ cs) {vs : List Value} {f : Nat → Option Nat} {r : vw_C} {E : String} (he : en q = .inl (cy t0, n, .inr (.inr (.inr (.inr f))))) (hev : en v = .inr (ci, vs)) (hc : vwCl[ci]? = some r) (ht : (tyl cy)[t0]? = some (cy t0, .object E)) (hca : va_Nw (.castable r.1 E) s) {i : Int32} (hin : vp_in i n) (hdg : decode cc pc = .ok (.aastore, 1))
    (kk : ∀ (H1 : Heap) (locs1 : List Loc) (en1 : Nat → va_E), en1 = va_up en q (.inl (cy t0, n, .inr (.inr (.inr (.inr (va_up f i.toNatClampNeg (some b))))))) → Hp D A A H0 H1 locs1 cs ad en1 → W p l e R s m args below meth c H1 locs1 cells slots Q (F0 m (pc + 1) ls rest)) : W p l e R s m args below meth c H locs cells slots Q (F0 m pc ls (.ref b :: .int i :: .ref a :: rest)) := by
  subst ha
  subst hvb
  obtain ⟨k, hk, hck⟩ := wl_get (ad := ad) (en := en) hq
  obtain ⟨k2, hk2, -⟩ := wl_get (ad := ad) (en := en) hv
  rw [he] at hk
  rw [hev] at hk2
  refine va_astqO hx hb hK hh.1 hh.2.1 hh.2.2 k t0 k2 ci hk ht hca hk2 hc hin hdg (fun H1 locs1 hP hD hS => ?_)
  rw [wl_set hh.2.1 hck] at hP hD
  exact kk H1 locs1 _ rfl ⟨hP, hD, hS⟩
end ASO
theorem ad_ite {α : Type} (f : Nat → α) (k : Nat) (x : α) (t : Nat) : va_up f k x t = if t = k then x else f t := by
  by_cases e : t = k
  · rw [e, va_up_self, if_pos rfl]
  · rw [va_up_ne _ _ e, if_neg e]
/-- the closure's part, counted: z = 0 where its arrays may not be made yet -/
def CPn (ad : Nat → Nat) (en : Nat → va_E) : Prop := en 70 = .inr (0, [.ref (ad 1), .ref (ad 71), .ref (ad 72), .ref (ad 73), .null, .null, .null, .int 0, .int 0, .int 0, .int 0, .int 0, .int 0])
def CPm (cy : Nat → ClassId) (cs : List Nat) (ad : Nat → Nat) (en : Nat → va_E) : Prop := ∃ ka kb kc, KK cs ka kb kc ∧ PC cy ad ka kb kc en
def CPz (z : Nat) (cy : Nat → ClassId) (cs : List Nat) (ad : Nat → Nat) (en : Nat → va_E) : Prop := CPm cy cs ad en ∨ (z = 0 ∧ CPn ad en)
theorem CPz_CP {z : Nat} {cy : Nat → ClassId} {cs : List Nat} {ad : Nat → Nat} {en : Nat → va_E} (h : CPz z cy cs ad en) : CP cy cs ad en := h.elim Or.inl (fun q => Or.inr q.2)
theorem CPm_of {cy : Nat → ClassId} {cs : List Nat} {ad : Nat → Nat} {ka : Nat} {rest : List Value} {en : Nat → va_E} (h : CP cy cs ad en) (h7 : en 70 = .inr (0, .ref (ad 1) :: .ref (ad 71) :: .ref (ad 72) :: .ref (ad 73) :: .ref ka :: rest)) : CPm cy cs ad en := by
  rcases h with h | h
  · exact h
  · rw [h] at h7
    cases h7
theorem CPz_of {z : Nat} {cy : Nat → ClassId} {cs cs1 : List Nat} {ad ad1 : Nat → Nat} {en en1 : Nat → va_E} (h : CPz z cy cs ad en) (hm : CPm cy cs ad en → CPm cy cs1 ad1 en1) (hn : CP cy cs ad en → CP cy cs1 ad1 en1) : CPz z cy cs1 ad1 en1 := by
  rcases h with h | ⟨h0, h⟩
  · exact Or.inl (hm h)
  · rcases hn (Or.inr h) with q | q
    · exact Or.inl q
    · exact Or.inr ⟨h0, q⟩
theorem CPm_keep {cy : Nat → ClassId} {cs : List Nat} {ad : Nat → Nat} {en en1 : Nat → va_E} (h : CPm cy cs ad en) (hu : ∀ c, c = 70 ∨ 115 ≤ c → en1 c = en c) : CPm cy cs ad en1 := by
  obtain ⟨ka, kb, kc, k, p⟩ := h
  obtain ⟨-, -, -, k1, k2, k3⟩ := id k
  exact ⟨ka, kb, kc, k, by rw [hu 70 (by omega)]; exact p.1, by rw [hu ka (by omega)]; exact p.2.1, by rw [hu kb (by omega)]; exact p.2.2.1, by rw [hu kc (by omega)]; exact p.2.2.2⟩
theorem CPz_keep {z : Nat} {cy : Nat → ClassId} {cs : List Nat} {ad : Nat → Nat} {en en1 : Nat → va_E} (h : CPz z cy cs ad en) (hu : ∀ c, c = 70 ∨ 115 ≤ c → en1 c = en c) : CPz z cy cs ad en1 := CPz_of h (fun q => CPm_keep q hu) (fun q => CP_keep q hu)
theorem CPm_forget {cy : Nat → ClassId} {cs : List Nat} {ad : Nat → Nat} {en en1 : Nat → va_E} (h : CPm cy cs ad en) (hu : ∀ c, 115 ≤ c → en1 c = en c) (h7 : ∃ (ea eb ec : Option Nat) (st0 cc0 ct0 un0 ow0 hn0 : Int32), en 70 = .inr (0, [.ref (ad 1), .ref (ad 71), .ref (ad 72), .ref (ad 73), va_rf ea, va_rf eb, va_rf ec, .int st0, .int cc0, .int ct0, .int un0, .int ow0, .int hn0]) ∧ en1 70 = .inr (0, [.ref (ad 1), .ref (ad 71), .ref (ad 72), .ref (ad 73), va_rf ea, va_rf eb, va_rf ec, .int 0, .int cc0, .int ct0, .int un0, .int ow0, .int hn0])) : CPm cy cs ad en1 := by
  have h9 := CP_forget (Or.inl h) hu h7
  obtain ⟨ea, eb, ec, st0, cc0, ct0, un0, ow0, hn0, e0, e1⟩ := h7
  obtain ⟨ka, kb, kc, k, p⟩ := h
  obtain ⟨⟨sta, cc, ct, un, ow, hn, e, -⟩, -⟩ := p
  rw [e] at e0
  simp only [Sum.inr.injEq, Prod.mk.injEq, List.cons.injEq, true_and] at e0
  exact CPm_of h9 (ka := ad ka) (rest := [va_rf eb, va_rf ec, .int 0, .int cc0, .int ct0, .int un0, .int ow0, .int hn0]) (by rw [e1, ← e0.1])
theorem CPz_forget {z : Nat} {cy : Nat → ClassId} {cs : List Nat} {ad : Nat → Nat} {en en1 : Nat → va_E} (h : CPz z cy cs ad en) (hu : ∀ c, 115 ≤ c → en1 c = en c) (h7 : ∃ (ea eb ec : Option Nat) (st0 cc0 ct0 un0 ow0 hn0 : Int32), en 70 = .inr (0, [.ref (ad 1), .ref (ad 71), .ref (ad 72), .ref (ad 73), va_rf ea, va_rf eb, va_rf ec, .int st0, .int cc0, .int ct0, .int un0, .int ow0, .int hn0]) ∧ en1 70 = .inr (0, [.ref (ad 1), .ref (ad 71), .ref (ad 72), .ref (ad 73), va_rf ea, va_rf eb, va_rf ec, .int 0, .int cc0, .int ct0, .int un0, .int ow0, .int hn0])) : CPz z cy cs ad en1 := CPz_of h (fun q => CPm_forget q hu h7) (fun q => CP_forget q hu h7)
theorem CPm_grow {cy : Nat → ClassId} {n n1 : Nat} {ad ad1 : Nat → Nat} {en en1 : Nat → va_E} (hn : n ≤ n1) (hn0 : 115 ≤ n) (h : CPm cy (List.range n) ad en) (ha : ∀ i, i < n → ad1 i = ad i) (hu : ∀ c, c = 70 ∨ (115 ≤ c ∧ c < n) → en1 c = en c) : CPm cy (List.range n1) ad1 en1 := by
  obtain ⟨ka, kb, kc, k, p⟩ := h
  obtain ⟨q1, q2, q3, k1, k2, k3⟩ := id k
  have a1 := List.mem_range.mp q1
  have a2 := List.mem_range.mp q2
  have a3 := List.mem_range.mp q3
  refine ⟨ka, kb, kc, KK_grow hn k, ?_, ?_, ?_, ?_⟩
  · rw [hu 70 (by omega)]
    obtain ⟨sta, cc, ct, un, ow, hn9, e, p2⟩ := p.1
    exact ⟨sta, cc, ct, un, ow, hn9, by rw [e, ha 1 (by omega), ha 71 (by omega), ha 72 (by omega), ha 73 (by omega), ha ka a1, ha kb a2, ha kc a3], p2⟩
  · rw [hu ka (by omega)]; exact p.2.1
  · rw [hu kb (by omega)]; exact p.2.2.1
  · rw [hu kc (by omega)]; exact p.2.2.2
theorem CPz_grow {z : Nat} {cy : Nat → ClassId} {n n1 : Nat} {ad ad1 : Nat → Nat} {en en1 : Nat → va_E} (hn : n ≤ n1) (hn0 : 115 ≤ n) (h : CPz z cy (List.range n) ad en) (ha : ∀ i, i < n → ad1 i = ad i) (hu : ∀ c, c = 70 ∨ (115 ≤ c ∧ c < n) → en1 c = en c) : CPz z cy (List.range n1) ad1 en1 := CPz_of h (fun q => CPm_grow hn hn0 q ha hu) (fun q => CP_grow hn hn0 q ha hu)
theorem CPz_of_SC {z : Nat} {cy : Nat → ClassId} {cs : List Nat} {ad : Nat → Nat} {ka kb kc : Nat} {en : Nat → va_E} (h : SC cy cs ad ka kb kc en) : CPz z cy cs ad en := Or.inl ⟨ka, kb, kc, h.2.1, h.2.2⟩
theorem XTB_s {F F1 : Nat → Nat → Int32} {k la i r r1 : Int32} {en e1 e2 : Nat → va_E} (h : XTB F F1 k la i r en e1) (hu : e2 1 = e1 1) (hr : r1 = r) : XTB F F1 k la i r1 en e2 := by
  rw [hr]
  unfold XTB at h ⊢
  rw [hu]
  exact h
theorem rw_upd {g : Nat → Int64} {j x : Nat} {v t : Int64} (h : x < j → g x = t) (hx : x < j + 1) (hv : x = j → v = t) : vp_updL g j v x = t := by
  by_cases e : x = j
  · rw [e, pk_uLs]; exact hv e
  · rw [pk_uLn e]; exact h (by omega)
theorem cnt_le6 {cy : Nat → ClassId} {cs : List Nat} {ad : Nat → Nat} {en : Nat → va_E} (hI : SX cy cs ad en) : (rdI (en 1) 4).toInt ≤ 6 := by
  obtain ⟨cn, d, mm, e, hcn, -⟩ := get_T hI
  rw [show rdI (en 1) 4 = nI cn from by rw [e]; rfl, nI_toInt (by omega)]
  omega
