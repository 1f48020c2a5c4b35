/-! calls that may make cells: the world is the cells 0 .. n - 1, and behind the call 0 .. u.1 - 1 -/
def PostV (D : va_G) (A : Nat → Prop) : (Nat × (Nat → Nat) × (Nat → va_E)) → State → Prop := fun u t => va_P D vwCl (wl (List.range u.1) u.2.1 u.2.2) t.heap ∧ va_D A (wl (List.range u.1) u.2.1 u.2.2)
section VLB
variable {p : Program} {l : Launch} {e : Env} {R : Room} {s : State} {m : MethodId} {args : Array Value} {below : List Frame} {meth : Method} {c : Code} {H : Heap} {locs : List Loc} {cells slots : Nat} {Q : State → Prop}
variable {cc : ByteArray} {pc : Nat} {ls : Array Slot} {rest : List Value} {D : va_G} {A B : Nat → Prop} {cy : Nat → ClassId} {H0 : Heap} {n : Nat} {ad : Nat → Nat} {en : Nat → va_E}
theorem preVC_of {As : List Value} {q ci : Nat} {fs : List Value} {C : String} {T : u_T} {N : Nat} (hh : Hp D A B H0 H locs (List.range n) ad en) (hK : va_K D vwCl (tyl cy) s) (hX : XW s) (hq : q ∈ List.range n) (he : en q = .inr (ci, fs)) (hc : vwCl[ci]? = some (C, T, N)) : PreV s H C (ad q) (va_Pc (.ref (ad q) :: As) (PreC D cy n ad en H.size)) As := by
  obtain ⟨k, hk, -⟩ := wl_get (ad := ad) (en := en) hq
  rw [he] at hk
  exact ⟨preC_fb, va_recv hK hh.1 hc hk, fun U hU hW => ⟨rfl, ⟨by rw [hU], by rw [hU]; exact hh.1, va_K.moved hW.alike hK, hh.2.1.weaken (fun _ _ _ _ => trivial)⟩, XW_warm hW hX⟩⟩
theorem hv_calli {mc ms : Nat} {post : Int32 → (Nat × (Nat → Nat) × (Nat → va_E)) → Prop} {st0 : List Value} {av : Array Value} (hr : va_Run p l e R s m args below meth c H locs cells slots mc ms (F0 m pc ls st0) rest (va_Qi post (PostV D (Af (List.range n) ad H.size)) (Af (List.range n) ad H.size) av) (Af (List.range n) ad H.size)) (hh : Hp D A A H0 H locs (List.range n) ad en) (hA : ∀ q, H0.size ≤ q → A q)
    (kk : ∀ (r : Int32) (H1 : Heap) (locs1 : List Loc) (n1 : Nat) (ad1 : Nat → Nat) (en1 : Nat → va_E), post r (n1, ad1, en1) → Hp D A A H0 H1 locs1 (List.range n1) ad1 en1 → W p l e R s m args below meth c H1 locs1 (cells + mc) (slots + ms) Q (F0 m (pc + 3) ls (.int r :: rest))) : W p l e R s m args below meth c H locs cells slots Q (F0 m pc ls st0) := by
  refine va_calli hr hh.2.2 (fun q _ h => Af_in hh hA q h) (Af_in hh hA) (fun r u t H1 locs1 ht hvm hw hB hz hk hS => ?_)
  exact kk r H1 locs1 u.1 u.2.1 u.2.2 hw ⟨by rw [← ht]; exact hB.1, hB.2.weaken (fun _ _ _ h => Af_in hh hA _ h), hS⟩
theorem hv_callq {mc ms : Nat} {post : Option Nat → (Nat × (Nat → Nat) × (Nat → va_E)) → Prop} {st0 : List Value} {av : Array Value} (hr : va_Run p l e R s m args below meth c H locs cells slots mc ms (F0 m pc ls st0) rest (va_Qq post (PostV D (Af (List.range n) ad H.size)) (Af (List.range n) ad H.size) av) (Af (List.range n) ad H.size)) (hh : Hp D A A H0 H locs (List.range n) ad en) (hA : ∀ q, H0.size ≤ q → A q)
    (kk : ∀ (r : Option Nat) (H1 : Heap) (locs1 : List Loc) (n1 : Nat) (ad1 : Nat → Nat) (en1 : Nat → va_E), post r (n1, ad1, en1) → Hp D A A H0 H1 locs1 (List.range n1) ad1 en1 → W p l e R s m args below meth c H1 locs1 (cells + mc) (slots + ms) Q (F0 m (pc + 3) ls (va_rf r :: rest))) : W p l e R s m args below meth c H locs cells slots Q (F0 m pc ls st0) := by
  refine va_callq hr hh.2.2 (fun q _ h => Af_in hh hA q h) (Af_in hh hA) (fun r u t H1 locs1 ht hvm hw hB hz hk hS => ?_)
  exact kk r H1 locs1 u.1 u.2.1 u.2.2 hw ⟨by rw [← ht]; exact hB.1, hB.2.weaken (fun _ _ _ h => Af_in hh hA _ h), hS⟩
theorem hv_callv {mc ms : Nat} {post : (Nat × (Nat → Nat) × (Nat → va_E)) → Prop} {st0 : List Value} {av : Array Value} (hr : va_Run p l e R s m args below meth c H locs cells slots mc ms (F0 m pc ls st0) rest (va_Qv post (PostV D (Af (List.range n) ad H.size)) (Af (List.range n) ad H.size) av) (Af (List.range n) ad H.size)) (hh : Hp D A A H0 H locs (List.range n) ad en) (hA : ∀ q, H0.size ≤ q → A q)
    (kk : ∀ (H1 : Heap) (locs1 : List Loc) (n1 : Nat) (ad1 : Nat → Nat) (en1 : Nat → va_E), post (n1, ad1, en1) → Hp D A A H0 H1 locs1 (List.range n1) ad1 en1 → W p l e R s m args below meth c H1 locs1 (cells + mc) (slots + ms) Q (F0 m (pc + 3) ls rest)) : W p l e R s m args below meth c H locs cells slots Q (F0 m pc ls st0) := by
  refine va_callv hr hh.2.2 (fun q _ h => Af_in hh hA q h) (Af_in hh hA) (fun u t H1 locs1 ht hvm hw hB hz hk hS => ?_)
  exact kk H1 locs1 u.1 u.2.1 u.2.2 hw ⟨by rw [← ht]; exact hB.1, hB.2.weaken (fun _ _ _ h => Af_in hh hA _ h), hS⟩
theorem hv_vret {post : (Nat × (Nat → Nat) × (Nat → va_E)) → Prop} {F : Nat → Prop} (hx : p.tables.exec = Jvm.exec) (hb : c.code = cc) (hr : meth.sig.returnType = none) (hlocks : meth.locks = false) (hh : Hp D F F s.heap H locs (List.range n) ad en) (hpost : post (n, ad, en)) (hdg : decode cc pc = .ok (.return_, 1)) : W p l e R s m args below meth c H locs cells slots (MQ below (va_Qv post (PostV D F) F) args s cells slots F) (F0 m pc ls []) :=
  W.vret hx hb hr (fun t ht hW => ⟨⟨(n, ad, en), rfl, hpost, by rw [ht]; exact hh.1, hh.2.1⟩, hh.2.2.F ht⟩) hh.2.2.2.2 hdg hlocks
theorem hv_iret {post : Int32 → (Nat × (Nat → Nat) × (Nat → va_E)) → Prop} {v : Int32} {F : Nat → Prop} (hx : p.tables.exec = Jvm.exec) (hb : c.code = cc) {ty : FieldType} (hr : meth.sig.returnType = some ty) (hn : narrow ty (.int v) = .int v) (hlocks : meth.locks = false) (hh : Hp D F F s.heap H locs (List.range n) ad en) (hpost : post v (n, ad, en)) (hdg : decode cc pc = .ok (.ireturn, 1)) : W p l e R s m args below meth c H locs cells slots (MQ below (va_Qi post (PostV D F) F) args s cells slots F) (F0 m pc ls [.int v]) :=
  W.zret hx hb hr hn (fun t ht hW => ⟨⟨v, (n, ad, en), rfl, hpost, by rw [ht]; exact hh.1, hh.2.1⟩, hh.2.2.F ht⟩) hh.2.2.2.2 hdg hlocks
theorem hv_aret {post : Option Nat → (Nat × (Nat → Nat) × (Nat → va_E)) → Prop} {v : Option Nat} {va : Value} (hv : va = va_rf v) {F : Nat → Prop} (hx : p.tables.exec = Jvm.exec) (hb : c.code = cc) {rt : FieldType} (hr : meth.sig.returnType = some rt) (hrt : (∃ n, rt = .object n) ∨ ∃ t, rt = .array t) (hlocks : meth.locks = false) (hh : Hp D F F s.heap H locs (List.range n) ad en) (hpost : post v (n, ad, en)) (hdg : decode cc pc = .ok (.areturn, 1)) : W p l e R s m args below meth c H locs cells slots (MQ below (va_Qq post (PostV D F) F) args s cells slots F) (F0 m pc ls [va]) := by
  subst hv
  exact W.aret hx hb hr hrt (va_rf_or v) (fun t ht hW => ⟨⟨v, (n, ad, en), rfl, hpost, by rw [ht]; exact hh.1, hh.2.1⟩, hh.2.2.F ht⟩) hh.2.2.2.2 hdg hlocks
end VLB
theorem min_nat {a b : Nat} (h : a ≤ b) (hb : b < 2 ^ 31) : (if nI a < nI b then nI a else nI b) = nI a := by
  by_cases e : a = b
  · subst e
    rw [ite_self]
  · rw [if_pos ((nI_ltI (by omega) hb).mpr (by omega))]
