/-! the law's world: the class's cells and the reference's, apart from each other -/
def LW2 (D : va_G) (s : State) (c1 : List Nat) (a1 : Nat → Nat) (e1 : Nat → va_E) (c2 : List Nat) (a2 : Nat → Nat) (e2 : Nat → va_E) (H : Heap) (locs : List Loc) : Prop := va_P D vwCl (wl c1 a1 e1) H ∧ va_D (AL s) (wl c1 a1 e1) ∧ va_P D vwCl (wl c2 a2 e2) H ∧ va_D (AL s) (wl c2 a2 e2) ∧ (∀ i, i ∈ c1 → ∀ j, j ∈ c2 → a1 i ≠ a2 j) ∧ va_S (AL s) s.heap H locs
theorem LW2.hp {D : va_G} {s : State} {c1 : List Nat} {a1 : Nat → Nat} {e1 : Nat → va_E} {c2 : List Nat} {a2 : Nat → Nat} {e2 : Nat → va_E} {H : Heap} {locs : List Loc} (h : LW2 D s c1 a1 e1 c2 a2 e2 H locs) : Hp D (AL s) (AL s) s.heap H locs c1 a1 e1 := ⟨h.1, h.2.1, h.2.2.2.2.2⟩
theorem LW2.sy {D : va_G} {s : State} {c1 : List Nat} {a1 : Nat → Nat} {e1 : Nat → va_E} {c2 : List Nat} {a2 : Nat → Nat} {e2 : Nat → va_E} {H : Heap} {locs : List Loc} (h : LW2 D s c1 a1 e1 c2 a2 e2 H locs) : LW2 D s c2 a2 e2 c1 a1 e1 H locs := ⟨h.2.2.1, h.2.2.2.1, h.1, h.2.1, fun i hi j hj => (h.2.2.2.2.1 j hj i hi).symm, h.2.2.2.2.2⟩
section LWC
variable {p : Program} {l : Launch} {e : Env} {R : Room} {s : State} {m : MethodId} {args : Array Value} {below : List Frame} {meth : Method} {c : Code} {H : Heap} {locs : List Loc} {cells slots : Nat} {Q : State → Prop}
variable {pc : Nat} {ls : Array Slot} {rest : List Value} {D : va_G} {c1 c2 : List Nat} {a1 a2 : Nat → Nat} {e1 e2 : Nat → va_E}
theorem lw_Ri {post : Int32 → Unit → Prop} {st0 : List Value} {av : Array Value} (hr : va_Run p l e R s m args below meth c H locs cells slots 0 0 (F0 m pc ls st0) rest (va_Qi post (fun _ _ => True) (Nf H.size) av) (Nf H.size)) (h : LW2 D s c1 a1 e1 c2 a2 e2 H locs)
    (kk : ∀ (r : Int32) (H1 : Heap) (locs1 : List Loc), post r () → LW2 D s c1 a1 e1 c2 a2 e2 H1 locs1 → W p l e R s m args below meth c H1 locs1 cells slots Q (F0 m (pc + 3) ls (.int r :: rest))) : W p l e R s m args below meth c H locs cells slots Q (F0 m pc ls st0) := by
  have hS := h.2.2.2.2.2
  refine va_calli hr hS (fun q h1 h2 => absurd h2 (Nat.not_le.mpr h1)) (fun q h => Nat.le_trans hS.1 h) (fun r u t H1 locs1 ht hvm hw hB hz hk hS => ?_)
  exact kk r H1 locs1 hw ⟨wl_keptN h.1 hk, h.2.1, wl_keptN h.2.2.1 hk, h.2.2.2.1, h.2.2.2.2.1, hS⟩
theorem lw_Rl {post : Int64 → Unit → Prop} {st0 : List Value} {av : Array Value} (hr : va_Run p l e R s m args below meth c H locs cells slots 0 0 (F0 m pc ls st0) rest (va_Ql post (fun _ _ => True) (Nf H.size) av) (Nf H.size)) (h : LW2 D s c1 a1 e1 c2 a2 e2 H locs)
    (kk : ∀ (r : Int64) (H1 : Heap) (locs1 : List Loc), post r () → LW2 D s c1 a1 e1 c2 a2 e2 H1 locs1 → W p l e R s m args below meth c H1 locs1 cells slots Q (F0 m (pc + 3) ls (.long r :: rest))) : W p l e R s m args below meth c H locs cells slots Q (F0 m pc ls st0) := by
  have hS := h.2.2.2.2.2
  refine va_calll hr hS (fun q h1 h2 => absurd h2 (Nat.not_le.mpr h1)) (fun q h => Nat.le_trans hS.1 h) (fun r u t H1 locs1 ht hvm hw hB hz hk hS => ?_)
  exact kk r H1 locs1 hw ⟨wl_keptN h.1 hk, h.2.1, wl_keptN h.2.2.1 hk, h.2.2.2.1, h.2.2.2.2.1, hS⟩
theorem lw_Mi {post : Int32 → (Nat → va_E) → Prop} {st0 : List Value} {av : Array Value} (hr : va_Run p l e R s m args below meth c H locs cells slots 0 0 (F0 m pc ls st0) rest (va_Qi post (PostM D c1 a1) (Af c1 a1 H.size) av) (Af c1 a1 H.size)) (h : LW2 D s c1 a1 e1 c2 a2 e2 H locs)
    (kk : ∀ (r : Int32) (H1 : Heap) (locs1 : List Loc) (en1 : Nat → va_E), post r en1 → LW2 D s c1 a1 en1 c2 a2 e2 H1 locs1 → W p l e R s m args below meth c H1 locs1 cells slots Q (F0 m (pc + 3) ls (.int r :: rest))) : W p l e R s m args below meth c H locs cells slots Q (F0 m pc ls st0) := by
  have hA : ∀ q : Nat, s.heap.size ≤ q → AL s q := fun _ h => h
  refine va_calli hr h.2.2.2.2.2 (fun q _ k => Af_in h.hp hA q k) (Af_in h.hp hA) (fun r u t H1 locs1 ht hvm hw hB hz hk hS => ?_)
  exact kk r H1 locs1 u hw ⟨by rw [← ht]; exact hB, wl_D h.2.1, wl_kept h.2.2.1 (fun i hi j hj => h.2.2.2.2.1 i hi j hj) hk, h.2.2.2.1, h.2.2.2.2.1, hS⟩
theorem lw_Ml {post : Int64 → (Nat → va_E) → Prop} {st0 : List Value} {av : Array Value} (hr : va_Run p l e R s m args below meth c H locs cells slots 0 0 (F0 m pc ls st0) rest (va_Ql post (PostM D c1 a1) (Af c1 a1 H.size) av) (Af c1 a1 H.size)) (h : LW2 D s c1 a1 e1 c2 a2 e2 H locs)
    (kk : ∀ (r : Int64) (H1 : Heap) (locs1 : List Loc) (en1 : Nat → va_E), post r en1 → LW2 D s c1 a1 en1 c2 a2 e2 H1 locs1 → W p l e R s m args below meth c H1 locs1 cells slots Q (F0 m (pc + 3) ls (.long r :: rest))) : W p l e R s m args below meth c H locs cells slots Q (F0 m pc ls st0) := by
  have hA : ∀ q : Nat, s.heap.size ≤ q → AL s q := fun _ h => h
  refine va_calll hr h.2.2.2.2.2 (fun q _ k => Af_in h.hp hA q k) (Af_in h.hp hA) (fun r u t H1 locs1 ht hvm hw hB hz hk hS => ?_)
  exact kk r H1 locs1 u hw ⟨by rw [← ht]; exact hB, wl_D h.2.1, wl_kept h.2.2.1 (fun i hi j hj => h.2.2.2.2.1 i hi j hj) hk, h.2.2.2.1, h.2.2.2.2.1, hS⟩
theorem lw_Vi {n mc ms : Nat} {post : Int32 → (Nat × (Nat → Nat) × (Nat → va_E)) → Prop} {st0 : List Value} {av : Array Value} (hr : va_Run p l e R s m args below meth c H locs cells slots mc ms (F0 m pc ls st0) rest (va_Qi post (PostV D (Af (List.range n) a1 H.size)) (Af (List.range n) a1 H.size) av) (Af (List.range n) a1 H.size)) (h : LW2 D s (List.range n) a1 e1 c2 a2 e2 H locs)
    (kk : ∀ (r : Int32) (H1 : Heap) (locs1 : List Loc) (n1 : Nat) (ad1 : Nat → Nat) (en1 : Nat → va_E), post r (n1, ad1, en1) → LW2 D s (List.range n1) ad1 en1 c2 a2 e2 H1 locs1 → W p l e R s m args below meth c H1 locs1 (cells + mc) (slots + ms) Q (F0 m (pc + 3) ls (.int r :: rest))) : W p l e R s m args below meth c H locs cells slots Q (F0 m pc ls st0) := by
  have hA : ∀ q : Nat, s.heap.size ≤ q → AL s q := fun _ h => h
  refine va_calli hr h.2.2.2.2.2 (fun q _ k => Af_in h.hp hA q k) (Af_in h.hp hA) (fun r u t H1 locs1 ht hvm hw hB hz hk hS => ?_)
  refine kk r H1 locs1 u.1 u.2.1 u.2.2 hw ⟨by rw [← ht]; exact hB.1, hB.2.weaken (fun _ _ _ k => Af_in h.hp hA _ k), wl_kept h.2.2.1 (fun i hi j hj => h.2.2.2.2.1 i hi j hj) hk, h.2.2.2.1, fun i hi j hj q9 => ?_, hS⟩
  obtain ⟨k1, hk1, -⟩ := wl_get (ad := u.2.1) (en := u.2.2) hi
  rcases hB.2.2 k1 _ hk1 with ⟨c9, hc9, e9⟩ | h9
  · exact h.2.2.2.2.1 c9 hc9 j hj (e9.trans q9)
  · obtain ⟨k2, hk2, -⟩ := wl_get (ad := a2) (en := e2) hj
    have h8 := (h.2.2.1 k2 _ hk2).lt
    have h9 : H.size ≤ u.2.1 i := h9
    exact absurd h9 (Nat.not_le.mpr (by rw [q9]; exact h8))
end LWC
theorem WXk {cy : Nat → ClassId} {cs : List Nat} {ad : Nat → Nat} {en e1 : Nat → va_E} (hI : SX cy cs ad en) (h : WX en) (h0 : rdI (e1 0) 6 = rdI (en 0) 6) (hu : ∀ c, 77 ≤ c ∧ c < 107 → e1 c = en c) : WX e1 := by
  intro w hw
  rw [h0] at hw
  obtain ⟨wc, lf, e, hwc⟩ := get_A hI
  have h1 : rdI (en 0) 6 = nI wc := by rw [e]; rfl
  rw [h1, nI_toInt (by omega)] at hw
  rw [hu (77 + 3 * w) (by omega)]
  exact h w (by rw [h1, nI_toInt (by omega)]; omega)
theorem WX_0 {en : Nat → va_E} (h0 : rdI (en 0) 6 = nI 0) : WX en := by
  intro w hw
  rw [h0] at hw
  have h1 : (nI 0).toInt = 0 := by decide
  omega
theorem TXF_0 {cy : Nat → ClassId} {cs : List Nat} {ad : Nat → Nat} {en : Nat → va_E} {F : Nat → Nat → Int32} (h0 : rdI (en 1) 4 = nI 0) : TXF cy cs ad en F := by
  intro t d _ _ ht
  rw [h0] at ht
  have h1 : (nI 0).toInt = 0 := by decide
  omega
theorem RWX_0 {en : Nat → va_E} (h0 : rdI (en 0) 30 = nI 0) : RWX en := by
  intro w hw
  rw [h0] at hw
  have h1 : (nI 0).toInt = 0 := by decide
  omega
def LIX (cy : Nat → ClassId) (z n : Nat) (a : Nat → Nat) (e : Nat → va_E) (F : Nat → Nat → Int32) : Prop := 115 ≤ n ∧ SX cy (List.range n) a e ∧ TXF cy (List.range n) a e F ∧ CPz z cy (List.range n) a e ∧ WX e
def LIM (cy : Nat → ClassId) (a : Nat → Nat) (e : Nat → va_E) : Prop := RX cy (List.range 20) a e ∧ RWX e ∧ CHX e
theorem LIX_k {cy : Nat → ClassId} {z n : Nat} {a : Nat → Nat} {e e1 : Nat → va_E} {F : Nat → Nat → Int32} (h : LIX cy z n a e F) (hI : SX cy (List.range n) a e1) (h0 : rdI (e1 0) 6 = rdI (e 0) 6) (hu : ∀ c, c = 1 ∨ c = 2 ∨ c = 70 ∨ (77 ≤ c ∧ c < 107) ∨ 115 ≤ c → e1 c = e c) : LIX cy z n a e1 F :=
  ⟨h.1, hI, TXF_keep h.2.2.1 (fun c hc => hu c (by omega)), CPz_keep h.2.2.2.1 (fun c hc => hu c (by omega)), WXk h.2.1 h.2.2.2.2 h0 (fun c hc => hu c (by omega))⟩
theorem LIM_k {cy : Nat → ClassId} {a : Nat → Nat} {e e1 : Nat → va_E} (h : LIM cy a e) (hI : RX cy (List.range 20) a e1) (h0 : rdI (e1 0) 25 = rdI (e 0) 25) (h1 : rdI (e1 0) 30 = rdI (e 0) 30) (hu : ∀ c, c = 16 ∨ c = 17 ∨ c = 19 → e1 c = e c) : LIM cy a e1 :=
  ⟨hI, RWX_keep h.2.1 h1 (hu 19 (by omega)), CHX_keep h.2.2 h0 (hu 16 (by omega)) (hu 17 (by omega))⟩
theorem nb2 {x : Int32} (h : x = 0 ∨ x = 1) : x = 0 ∨ x = 1 := h
theorem RTB_m {k la i r : Int32} {en e1 : Nat → va_E} (h : RTB k la i r en e1) : KP en e1 ∨ (rdI (e1 0) 25 = -9 ∧ rdI (e1 0) 30 = rdI (en 0) 30) := by
  obtain ⟨d, cnt, -, -, -, -, -, h⟩ := h
  rcases h with ⟨-, -, k, -⟩ | ⟨-, K, -, -, h⟩
  · exact Or.inl k
  · rcases h with ⟨-, -, k, -⟩ | ⟨I, -, -, -, h⟩
    · exact Or.inl k
    · rcases h with ⟨-, -, k, -⟩ | ⟨-, -, -, k, -⟩ | ⟨-, -, -, -, -, -, -, k25, k30, -⟩
      · exact Or.inl k
      · exact Or.inl k
      · exact Or.inr ⟨k25, k30⟩
