/-! the words' products go on; entryOf, size -/
theorem RWP_f {F : Nat → Nat → Int32} {en en1 : Nat → va_E} (h : RWP F en) (hu : ∀ c, c ≠ 0 → en1 c = en c) (h6 : rdI (en1 0) 6 = rdI (en 0) 6) : RWP F en1 := RWP_keep h h6 (fun c hc => hu c (by omega))
theorem has_cl {v : Int32} {cnt : Int32} (h : hasQ v cnt) (h6 : cnt.toInt ≤ 6) : (v.toNatClampNeg : Int) < cnt.toInt ∧ v.toNatClampNeg < 6 := by
  obtain ⟨a, b⟩ := h
  have t1 : v.toNatClampNeg = v.toInt.toNat := rfl
  constructor <;> omega
theorem RWP_word {cy : Nat → ClassId} {cs : List Nat} {ad : Nat → Nat} {F : Nat → Nat → Int32} {eX eX1 : Nat → va_E} {k la i n r : Int32} (hI : SX cy cs ad eX) (h : RWP F eX) (hx : XWO k la i n r eX eX1) : RWP F eX1 := by
  rcases hx with ⟨-, x2, x3⟩ | ⟨x1, wc, -, x3, x4, x5, x6, x7, x8⟩
  · exact RWP_f h x2 x3
  · exact PWX_add h x3 x4 x5 x6 x7 x8 (fun x hx => has_cl (x1.2.2.2.1 x hx) (cnt_le6 hI))
theorem RWP_join {cy : Nat → ClassId} {cs : List Nat} {ad : Nat → Nat} {F : Nat → Nat → Int32} {eX eX1 : Nat → va_E} {a b r : Int32} (hI : SX cy cs ad eX) (h : RWP F eX) (hx : XJO a b r eX eX1) : RWP F eX1 := by
  rcases hx.2 with ⟨-, x2, x3⟩ | ⟨x1, wc, -, x3, x4, x5, x6, x7, x8⟩
  · exact RWP_f h x2 x3
  · have h6 := cnt_le6 hI
    obtain ⟨⟨p1, p2⟩, ⟨p3, p4⟩, p5, p6⟩ := x1
    have ca : ((a.toNatClampNeg : Nat) : Int) < (rdI (eX 0) 6).toInt ∧ a.toNatClampNeg < 10 := by
      have t1 : a.toNatClampNeg = a.toInt.toNat := rfl
      constructor <;> omega
    have cb : ((b.toNatClampNeg : Nat) : Int) < (rdI (eX 0) 6).toInt ∧ b.toNatClampNeg < 10 := by
      have t1 : b.toNatClampNeg = b.toInt.toNat := rfl
      constructor <;> omega
    have qa := (h.2 _ ca.2 ca.1).1
    have qb := (h.2 _ cb.2 cb.1).1
    refine PWX_add h x3 x4 x5 x6 x7 x8 (fun x hx => ?_)
    unfold jG
    by_cases e : x < (rdI (eX (77 + 3 * a.toNatClampNeg)) 2).toNatClampNeg
    · rw [if_pos e]
      have h9 := qa x e
      constructor <;> omega
    · rw [if_neg e]
      have h9 := qb (x - (rdI (eX (77 + 3 * a.toNatClampNeg)) 2).toNatClampNeg) (by omega)
      constructor <;> omega
theorem prM_c {d mo : Nat} {E : Nat → Int32} {l g : Nat → Nat} : ∀ k : Nat, (∀ x, x < k → l x = g x) → prM d mo E l k = prM d mo E g k := by
  intro k
  induction k with
  | zero => intro _; rfl
  | succ k ih =>
    intro h
    funext i
    show restR mo (sumTo (fun q => prM d mo E l k (d * (i / d) + q) * (E (9 * l k + d * q + i % d)).toInt64) d) = restR mo (sumTo (fun q => prM d mo E g k (d * (i / d) + q) * (E (9 * g k + d * q + i % d)).toInt64) d)
    rw [ih (fun x hx => h x (by omega)), h k (by omega)]
theorem prod_rel {cy : Nat → ClassId} {cs : List Nat} {ad : Nat → Nat} {F : Nat → Nat → Int32} {eX eM : Nat → va_E} {W : Nat} (hI : SX cy cs ad eX) (hTX : TXF cy cs ad eX F) (hWX : WX eX) (hT : T1 eX eM) (hW : WR eX eM) (hE : ER F eX eM) (hP : RWP F eX) (hW10 : W < 10) (hw : (W : Int) < (rdI (eX 0) 6).toInt) : ∀ i, i < (rdI (eM 0) 2).toNatClampNeg * (rdI (eM 0) 2).toNatClampNeg → rdL (eX (79 + 3 * W)) i = prM (rdI (eM 0) 2).toNatClampNeg (rdI (eM 0) 3).toNatClampNeg (rdF (eM 1)) (fun x => (rdF (eM 18) (12 * W + x)).toNatClampNeg) (rdF (eM 19) W).toNatClampNeg i := by
  obtain ⟨cn, d, mm, e1, hcn, hd2, hd3, hmm⟩ := get_T hI
  have x4 : rdI (eX 1) 4 = nI cn := by rw [e1]; rfl
  have x5 : rdI (eX 1) 5 = nI d := by rw [e1]; rfl
  have x6 : rdI (eX 1) 6 = nI mm := by rw [e1]; rfl
  have c5 : (nI d).toNatClampNeg = d := nI_clamp (by omega)
  have c6 : (nI mm).toNatClampNeg = mm := nI_clamp (by omega)
  obtain ⟨N, n12, h1, h2, h3⟩ := hW.2 W hW10 hw
  have hN1 : 1 ≤ N := by
    have h9 := hWX W hw
    rw [h1, nI_toInt (by omega)] at h9
    omega
  obtain ⟨p1, p2⟩ := hP.2 W hW10 hw
  rw [h1, nI_clamp (n := N) (by omega), x4, nI_toInt (by omega)] at p1
  rw [h1, nI_clamp (n := N) (by omega), x5, x6, c5, c6] at p2
  rw [← hT.2.1, ← hT.2.2, x5, x6, c5, c6, h2, nI_clamp (n := N) (by omega)]
  intro i hi
  rw [p2 i hi]
  have hF : ∀ x, x < N → ∀ i, i < d * d → F (rdF (eX (78 + 3 * W)) x).toNatClampNeg i = rdF (eM 1) (9 * (rdF (eX (78 + 3 * W)) x).toNatClampNeg + i) := fun x hx i hi => hE _ i (by rw [x4, nI_toInt (by omega)]; exact p1 x hx) (by rw [x5, c5]; exact hi)
  have hb : ∀ x, x < N → ∀ i, i < d * d → wi (F (rdF (eX (78 + 3 * W)) x).toNatClampNeg i) (-9) 9 := fun x hx i hi => (hTX _ d hd3 x5 (by rw [x4, nI_toInt (by omega)]; exact p1 x hx)).2 i hi
  have m9 : (9 : Int32).toInt = 9 := by decide
  have n9 : (-9 : Int32).toInt = -9 := by decide
  have q := (pr_eq (d := d) (m := mm) (R := fun t i => restL mm (F t i).toInt64) (E := rdF (eM 1)) (l := rdF (eX (78 + 3 * W))) (N := N) hd2 hd3 hmm (fun x hx i hi => by show restL mm (F _ i).toInt64 = _; rw [hF x hx i hi]) (fun x hx i hi => by rw [← hF x hx i hi]; have h9 := hb x hx i hi; obtain ⟨h8, h7⟩ := h9; exact ⟨by omega, by omega⟩) (N - 1) (by omega) i hi).1
  rw [q, show N - 1 + 1 = N by omega]
  exact congrFun (prM_c N (fun x hx => by rw [h3 x hx])) i
theorem eo_rel {cy : Nat → ClassId} {cs : List Nat} {ad : Nat → Nat} {F : Nat → Nat → Int32} {eX eM : Nat → va_E} {w a b : Int32} {r r' : Int64} (hI : SX cy cs ad eX) (hTX : TXF cy cs ad eX F) (hWX : WX eX) (hT : T1 eX eM) (hW : WR eX eM) (hE : ER F eX eM) (hP : RWP F eX) (hx : XEO w a b r eX) (hm : REO w a b r' eM) : r = r' := by
  unfold REO at hm
  rw [← hW.1] at hm
  rw [← hT.2.1] at hm
  rcases hx with ⟨x1, x2⟩ | ⟨x1, x2⟩
  · rcases hm with ⟨m1, m2⟩ | ⟨m1, -⟩
    · obtain ⟨⟨p1, p2⟩, ⟨p3, p4⟩, p5, p6⟩ := x1
      obtain ⟨wc, lf, e0, hwc⟩ := get_A hI
      obtain ⟨cn, d, mm, e1, hcn, hd2, hd3, hmm⟩ := get_T hI
      have y6 : rdI (eX 0) 6 = nI wc := by rw [e0]; rfl
      have y5 : rdI (eX 1) 5 = nI d := by rw [e1]; rfl
      have t0 : w.toNatClampNeg = w.toInt.toNat := rfl
      have t1 : a.toNatClampNeg = a.toInt.toNat := rfl
      have t2 : b.toNatClampNeg = b.toInt.toNat := rfl
      have y6i : (rdI (eX 0) 6).toInt = (wc : Int) := by rw [y6]; exact nI_toInt (by omega)
      have y5i : (rdI (eX 1) 5).toInt = (d : Int) := by rw [y5]; exact nI_toInt (by omega)
      have y5c : (rdI (eX 1) 5).toNatClampNeg = d := by rw [y5]; exact nI_clamp (by omega)
      have q := prod_rel (W := w.toNatClampNeg) hI hTX hWX hT hW hE hP (by omega) (by omega) (a.toNatClampNeg * d + b.toNatClampNeg) (by rw [← hT.2.1, y5c]; exact rc_lt (by omega) (by omega))
      rw [← hT.2.1] at q
      rw [x2, m2, y5c, q, y5c, Nat.mul_comm d a.toNatClampNeg]
    · exact absurd x1 m1
  · rcases hm with ⟨m1, -⟩ | ⟨m1, m2⟩
    · exact absurd m1 x1
    · exact x2.trans m2.symm
theorem sz_rel {cy : Nat → ClassId} {cs : List Nat} {ad : Nat → Nat} {F : Nat → Nat → Int32} {eX eM : Nat → va_E} {w z : Int32} {r r' : Int64} (hI : SX cy cs ad eX) (hTX : TXF cy cs ad eX F) (hWX : WX eX) (hT : T1 eX eM) (hW : WR eX eM) (hE : ER F eX eM) (hP : RWP F eX) (hx : XSZ w z r eX) (hm : RSZ w z r' eM) : r = r' := by
  unfold RSZ at hm
  rw [← hW.1] at hm
  rcases hx with ⟨x1, x2, x3⟩ | ⟨x1, x2⟩
  · rcases hm with ⟨m1, m2, L, mL, m3⟩ | ⟨m1, -⟩
    · obtain ⟨p1, p2⟩ := x1
      obtain ⟨wc, lf, e0, hwc⟩ := get_A hI
      have y6 : rdI (eX 0) 6 = nI wc := by rw [e0]; rfl
      have t0 : w.toNatClampNeg = w.toInt.toNat := rfl
      have y6i : (rdI (eX 0) 6).toInt = (wc : Int) := by rw [y6]; exact nI_toInt (by omega)
      have q := prod_rel (W := w.toNatClampNeg) hI hTX hWX hT hW hE hP (by omega) (by omega)
      have hL : ∀ i, i < (rdI (eM 0) 2).toNatClampNeg * (rdI (eM 0) 2).toNatClampNeg → rdL (eX (79 + 3 * w.toNatClampNeg)) i = L (9 * (rdF (eM 19) w.toNatClampNeg).toNatClampNeg + i) := fun i hi => (q i hi).trans (mL i hi).symm
      rw [hT.2.1] at x3
      rcases x3 with ⟨a, x⟩ | ⟨a, x⟩ <;> rcases m3 with ⟨b, y⟩ | ⟨b, y⟩
      · rw [x, y]
        exact norm_eq hL _ (Nat.le_refl _)
      · exact absurd a b
      · exact absurd b a
      · rw [x, y]
        exact track_eq hL
    · exact absurd ⟨x1, x2⟩ m1
  · rcases hm with ⟨m1, m2, -⟩ | ⟨m1, m2⟩
    · exact absurd ⟨m1, m2⟩ x1
    · exact x2.trans m2.symm
