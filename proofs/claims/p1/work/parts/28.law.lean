theorem P_left {D : va_G} {w1 w2 : va_W} {H : Heap} (h : va_P D vwCl (w1 ++ w2) H) : va_P D vwCl w1 H := fun k q hk => h k q (by rw [List.getElem?_append_left (List.getElem?_eq_some_iff.mp hk).1]; exact hk)
theorem P_right {D : va_G} {w1 w2 : va_W} {H : Heap} (h : va_P D vwCl (w1 ++ w2) H) : va_P D vwCl w2 H := fun k q hk => h (w1.length + k) q (by rw [List.getElem?_append_right (by omega)]; rw [show w1.length + k - w1.length = k by omega]; exact hk)
theorem D_left {A : Nat → Prop} {w1 w2 : va_W} (h : va_D A (w1 ++ w2)) : va_D A w1 := ⟨fun i j p q hi hj e => h.1 i j p q (by rw [List.getElem?_append_left (List.getElem?_eq_some_iff.mp hi).1]; exact hi) (by rw [List.getElem?_append_left (List.getElem?_eq_some_iff.mp hj).1]; exact hj) e, fun k q hk => h.2 k q (by rw [List.getElem?_append_left (List.getElem?_eq_some_iff.mp hk).1]; exact hk)⟩
theorem D_right {A : Nat → Prop} {w1 w2 : va_W} (h : va_D A (w1 ++ w2)) : va_D A w2 := by
  have sh : ∀ (k : Nat) (q : Nat × va_E), w2[k]? = some q → (w1 ++ w2)[w1.length + k]? = some q := fun k q hk => by rw [List.getElem?_append_right (by omega)]; rw [show w1.length + k - w1.length = k by omega]; exact hk
  exact ⟨fun i j p q hi hj e => by have := h.1 _ _ p q (sh i p hi) (sh j q hj) e; omega, fun k q hk => h.2 _ q (sh k q hk)⟩
theorem D_apart {A : Nat → Prop} {w1 w2 : va_W} (h : va_D A (w1 ++ w2)) {i j : Nat} {p q : Nat × va_E} (hi : w1[i]? = some p) (hj : w2[j]? = some q) : p.1 ≠ q.1 := by
  intro e
  have hl := (List.getElem?_eq_some_iff.mp hi).1
  have := h.1 i (w1.length + j) p q (by rw [List.getElem?_append_left hl]; exact hi) (by rw [List.getElem?_append_right (by omega)]; rw [show w1.length + j - w1.length = j by omega]; exact hj) e
  omega
set_option maxHeartbeats 8000000 in
set_option maxRecDepth 100000 in
/-- THE LAW'S LOOP at its head, with a script of five ints -/
theorem law_five {p : Program} {e : Env} {s : State} {m : MethodId} {below : List Frame} {meth : Method} {c : Code} (l : Launch) {b : Nat} {xs : Nat → Int32} (C0 : lw_At p s m meth c b 5 xs) {D : va_G} {cy : Nat → ClassId} {adX adM : Nat → Nat} {enX enM : Nat → va_E} {H : Heap} {locs : List Loc} {ls : Array Slot} (hK : va_K D vwCl (tyl cy) s) (hFX : FX cy adX enX) (hFM : FMo cy adM enM) (hPX : va_P D vwCl (wl (List.range 115) adX enX) H) (hDX : va_D (AL s) (wl (List.range 115) adX enX)) (hPM : va_P D vwCl (wl (List.range 20) adM enM) H) (hDM : va_D (AL s) (wl (List.range 20) adM enM)) (hdis : ∀ i j, i < 115 → j < 20 → adX i ≠ adM j) (hS : va_S (AL s) s.heap H locs) (hl : lv_has ls 4 [(3, .int 0), (2, .ref (adM 0)), (1, .ref (adX 0)), (0, .ref b)]) : W p l e room_1 s m #[Value.ref b] below meth c H locs 135 27787 (lw_Z below #[Value.ref b] s) (F0 m 18 ls []) := by
  obtain ⟨hx, hb, hr, hml, hown, hts, hX, hbl, hlocks, hgv⟩ := id C0
  have hbA : ¬ (AL s) b := Nat.not_le.mpr hbl
  refine lv_iload_n hx hb dL_law_18 rfl (lv_at hl 0 rfl) ?_
  refine lv_aload_n hx hb dL_law_19 rfl (lv_at hl 3 rfl) ?_
  refine va_slen hx hb hX hbl hbA hS dL_law_20 ?_
  refine lv_iconst (v := 5) hx hb dL_law_21 (by decide) ?_
  refine lv_isub hx hb dL_law_22 ?_
  refine lv_icmp_gt (tgt := 1177) hx hb dL_law_23 (by decide) (fun c_0 => absurd c_0 (by decide)) (fun _ => ?_)
  refine lv_aload_n hx hb dL_law_26 rfl (lv_at hl 3 rfl) ?_
  refine lv_iload_n hx hb dL_law_27 rfl (lv_at hl 0 rfl) ?_
  refine va_sld hx hb hX hbl hbA hS (i := 0) (vp_in_iff.mpr (by decide)) dL_law_28 ?_
  refine lv_bipush (v := 31) hx hb dL_law_29 (by decide) ?_
  refine lv_iand hx hb dL_law_31 ?_
  refine lv_topi (fun v hv => ?_)
  by_cases q_0 : v = 0
  · refine lv_tableIn (off := 136) (tgt := 168) hx hb dL_law_32 (by rw [q_0]; decide) (by rw [q_0]; decide) (by rw [q_0]; decide) (by decide) ?_
    exact op_0 l C0 hK hFX hFM hPX hDX hPM hDM hdis hS hl
  by_cases q_1 : v = 1
  · refine lv_tableIn (off := 169) (tgt := 201) hx hb dL_law_32 (by rw [q_1]; decide) (by rw [q_1]; decide) (by rw [q_1]; decide) (by decide) ?_
    exact op_1 l C0 hK hFX hFM hPX hDX hPM hDM hdis hS hl
  by_cases q_2 : v = 2
  · refine lv_tableIn (off := 212) (tgt := 244) hx hb dL_law_32 (by rw [q_2]; decide) (by rw [q_2]; decide) (by rw [q_2]; decide) (by decide) ?_
    exact op_2 l C0 hK hFX hFM hPX hDX hPM hDM hdis hS hl
  by_cases q_3 : v = 3
  · refine lv_tableIn (off := 256) (tgt := 288) hx hb dL_law_32 (by rw [q_3]; decide) (by rw [q_3]; decide) (by rw [q_3]; decide) (by decide) ?_
    exact op_3 l C0 hK hFX hFM hPX hDX hPM hDM hdis hS hl
  by_cases q_4 : v = 4
  · refine lv_tableIn (off := 315) (tgt := 347) hx hb dL_law_32 (by rw [q_4]; decide) (by rw [q_4]; decide) (by rw [q_4]; decide) (by decide) ?_
    exact op_4 l C0 hK hFX hFM hPX hDX hPM hDM hdis hS hl
  by_cases q_5 : v = 5
  · refine lv_tableIn (off := 349) (tgt := 381) hx hb dL_law_32 (by rw [q_5]; decide) (by rw [q_5]; decide) (by rw [q_5]; decide) (by decide) ?_
    exact op_5 l C0 hK hFX hFM hPX hDX hPM hDM hdis hS hl
  by_cases q_6 : v = 6
  · refine lv_tableIn (off := 392) (tgt := 424) hx hb dL_law_32 (by rw [q_6]; decide) (by rw [q_6]; decide) (by rw [q_6]; decide) (by decide) ?_
    exact op_6 l C0 hK hFX hFM hPX hDX hPM hDM hdis hS hl
  by_cases q_7 : v = 7
  · refine lv_tableIn (off := 415) (tgt := 447) hx hb dL_law_32 (by rw [q_7]; decide) (by rw [q_7]; decide) (by rw [q_7]; decide) (by decide) ?_
    exact op_7 l C0 hK hFX hFM hPX hDX hPM hDM hdis hS hl
  by_cases q_8 : v = 8
  · refine lv_tableIn (off := 439) (tgt := 471) hx hb dL_law_32 (by rw [q_8]; decide) (by rw [q_8]; decide) (by rw [q_8]; decide) (by decide) ?_
    exact op_8 l C0 hK hFX hFM hPX hDX hPM hDM hdis hS hl
  by_cases q_9 : v = 9
  · refine lv_tableIn (off := 472) (tgt := 504) hx hb dL_law_32 (by rw [q_9]; decide) (by rw [q_9]; decide) (by rw [q_9]; decide) (by decide) ?_
    exact op_9 l C0 hK hFX hFM hPX hDX hPM hDM hdis hS hl
  by_cases q_10 : v = 10
  · refine lv_tableIn (off := 515) (tgt := 547) hx hb dL_law_32 (by rw [q_10]; decide) (by rw [q_10]; decide) (by rw [q_10]; decide) (by decide) ?_
    exact op_10 l C0 hK hFX hFM hPX hDX hPM hDM hdis hS hl
  by_cases q_11 : v = 11
  · refine lv_tableIn (off := 528) (tgt := 560) hx hb dL_law_32 (by rw [q_11]; decide) (by rw [q_11]; decide) (by rw [q_11]; decide) (by decide) ?_
    exact op_11 l C0 hK hFX hFM hPX hDX hPM hDM hdis hS hl
  by_cases q_12 : v = 12
  · refine lv_tableIn (off := 551) (tgt := 583) hx hb dL_law_32 (by rw [q_12]; decide) (by rw [q_12]; decide) (by rw [q_12]; decide) (by decide) ?_
    exact op_12 l C0 hK hFX hFM hPX hDX hPM hDM hdis hS hl
  by_cases q_13 : v = 13
  · refine lv_tableIn (off := 595) (tgt := 627) hx hb dL_law_32 (by rw [q_13]; decide) (by rw [q_13]; decide) (by rw [q_13]; decide) (by decide) ?_
    exact op_13 l C0 hK hFX hFM hPX hDX hPM hDM hdis hS hl
  by_cases q_14 : v = 14
  · refine lv_tableIn (off := 628) (tgt := 660) hx hb dL_law_32 (by rw [q_14]; decide) (by rw [q_14]; decide) (by rw [q_14]; decide) (by decide) ?_
    exact op_14 l C0 hK hFX hFM hPX hDX hPM hDM hdis hS hl
  by_cases q_15 : v = 15
  · refine lv_tableIn (off := 681) (tgt := 713) hx hb dL_law_32 (by rw [q_15]; decide) (by rw [q_15]; decide) (by rw [q_15]; decide) (by decide) ?_
    exact op_15 l C0 hK hFX hFM hPX hDX hPM hDM hdis hS hl
  by_cases q_16 : v = 16
  · refine lv_tableIn (off := 714) (tgt := 746) hx hb dL_law_32 (by rw [q_16]; decide) (by rw [q_16]; decide) (by rw [q_16]; decide) (by decide) ?_
    exact op_16 l C0 hK hFX hFM hPX hDX hPM hDM hdis hS hl
  by_cases q_17 : v = 17
  · refine lv_tableIn (off := 747) (tgt := 779) hx hb dL_law_32 (by rw [q_17]; decide) (by rw [q_17]; decide) (by rw [q_17]; decide) (by decide) ?_
    exact op_17 l C0 hK hFX hFM hPX hDX hPM hDM hdis hS hl
  by_cases q_18 : v = 18
  · refine lv_tableIn (off := 780) (tgt := 812) hx hb dL_law_32 (by rw [q_18]; decide) (by rw [q_18]; decide) (by rw [q_18]; decide) (by decide) ?_
    exact op_18 l C0 hK hFX hFM hPX hDX hPM hDM hdis hS hl
  by_cases q_19 : v = 19
  · refine lv_tableIn (off := 824) (tgt := 856) hx hb dL_law_32 (by rw [q_19]; decide) (by rw [q_19]; decide) (by rw [q_19]; decide) (by decide) ?_
    exact op_19 l C0 hK hFX hFM hPX hDX hPM hDM hdis hS hl
  by_cases q_20 : v = 20
  · refine lv_tableIn (off := 858) (tgt := 890) hx hb dL_law_32 (by rw [q_20]; decide) (by rw [q_20]; decide) (by rw [q_20]; decide) (by decide) ?_
    exact op_20 l C0 hK hFX hFM hPX hDX hPM hDM hdis hS hl
  by_cases q_21 : v = 21
  · refine lv_tableIn (off := 901) (tgt := 933) hx hb dL_law_32 (by rw [q_21]; decide) (by rw [q_21]; decide) (by rw [q_21]; decide) (by decide) ?_
    exact op_21 l C0 hK hFX hFM hPX hDX hPM hDM hdis hS hl
  by_cases q_22 : v = 22
  · refine lv_tableIn (off := 924) (tgt := 956) hx hb dL_law_32 (by rw [q_22]; decide) (by rw [q_22]; decide) (by rw [q_22]; decide) (by decide) ?_
    exact op_22 l C0 hK hFX hFM hPX hDX hPM hDM hdis hS hl
  by_cases q_23 : v = 23
  · refine lv_tableIn (off := 967) (tgt := 999) hx hb dL_law_32 (by rw [q_23]; decide) (by rw [q_23]; decide) (by rw [q_23]; decide) (by decide) ?_
    exact op_23 l C0 hK hFX hFM hPX hDX hPM hDM hdis hS hl
  by_cases q_24 : v = 24
  · refine lv_tableIn (off := 1011) (tgt := 1043) hx hb dL_law_32 (by rw [q_24]; decide) (by rw [q_24]; decide) (by rw [q_24]; decide) (by decide) ?_
    exact op_24 l C0 hK hFX hFM hPX hDX hPM hDM hdis hS hl
  by_cases q_25 : v = 25
  · refine lv_tableIn (off := 1034) (tgt := 1066) hx hb dL_law_32 (by rw [q_25]; decide) (by rw [q_25]; decide) (by rw [q_25]; decide) (by decide) ?_
    exact op_25 l C0 hK hFX hFM hPX hDX hPM hDM hdis hS hl
  by_cases q_26 : v = 26
  · refine lv_tableIn (off := 1057) (tgt := 1089) hx hb dL_law_32 (by rw [q_26]; decide) (by rw [q_26]; decide) (by rw [q_26]; decide) (by decide) ?_
    exact op_26 l C0 hK hFX hFM hPX hDX hPM hDM hdis hS hl
  by_cases q_27 : v = 27
  · refine lv_tableIn (off := 1090) (tgt := 1122) hx hb dL_law_32 (by rw [q_27]; decide) (by rw [q_27]; decide) (by rw [q_27]; decide) (by decide) ?_
    exact op_27 l C0 hK hFX hFM hPX hDX hPM hDM hdis hS hl
  by_cases q_28 : v = 28
  · refine lv_tableIn (off := 1103) (tgt := 1135) hx hb dL_law_32 (by rw [q_28]; decide) (by rw [q_28]; decide) (by rw [q_28]; decide) (by decide) ?_
    exact op_28 l C0 hK hFX hFM hPX hDX hPM hDM hdis hS hl
  by_cases q_29 : v = 29
  · refine lv_tableIn (off := 1116) (tgt := 1148) hx hb dL_law_32 (by rw [q_29]; decide) (by rw [q_29]; decide) (by rw [q_29]; decide) (by decide) ?_
    exact op_29 l C0 hK hFX hFM hPX hDX hPM hDM hdis hS hl
  refine lv_tableOut (tgt := 1171) hx hb dL_law_32 (tb_out 30 (by decide) (by decide) (fun j hj => by
    rcases (show j = 0 ∨ j = 1 ∨ j = 2 ∨ j = 3 ∨ j = 4 ∨ j = 5 ∨ j = 6 ∨ j = 7 ∨ j = 8 ∨ j = 9 ∨ j = 10 ∨ j = 11 ∨ j = 12 ∨ j = 13 ∨ j = 14 ∨ j = 15 ∨ j = 16 ∨ j = 17 ∨ j = 18 ∨ j = 19 ∨ j = 20 ∨ j = 21 ∨ j = 22 ∨ j = 23 ∨ j = 24 ∨ j = 25 ∨ j = 26 ∨ j = 27 ∨ j = 28 ∨ j = 29 by omega) with rfl | rfl | rfl | rfl | rfl | rfl | rfl | rfl | rfl | rfl | rfl | rfl | rfl | rfl | rfl | rfl | rfl | rfl | rfl | rfl | rfl | rfl | rfl | rfl | rfl | rfl | rfl | rfl | rfl | rfl
    · exact lv_neT q_0 (by decide)
    · exact lv_neT q_1 (by decide)
    · exact lv_neT q_2 (by decide)
    · exact lv_neT q_3 (by decide)
    · exact lv_neT q_4 (by decide)
    · exact lv_neT q_5 (by decide)
    · exact lv_neT q_6 (by decide)
    · exact lv_neT q_7 (by decide)
    · exact lv_neT q_8 (by decide)
    · exact lv_neT q_9 (by decide)
    · exact lv_neT q_10 (by decide)
    · exact lv_neT q_11 (by decide)
    · exact lv_neT q_12 (by decide)
    · exact lv_neT q_13 (by decide)
    · exact lv_neT q_14 (by decide)
    · exact lv_neT q_15 (by decide)
    · exact lv_neT q_16 (by decide)
    · exact lv_neT q_17 (by decide)
    · exact lv_neT q_18 (by decide)
    · exact lv_neT q_19 (by decide)
    · exact lv_neT q_20 (by decide)
    · exact lv_neT q_21 (by decide)
    · exact lv_neT q_22 (by decide)
    · exact lv_neT q_23 (by decide)
    · exact lv_neT q_24 (by decide)
    · exact lv_neT q_25 (by decide)
    · exact lv_neT q_26 (by decide)
    · exact lv_neT q_27 (by decide)
    · exact lv_neT q_28 (by decide)
    · exact lv_neT q_29 (by decide)
    )) (by decide) ?_
  exact law_end C0 hS hl
set_option maxHeartbeats 8000000 in
set_option maxRecDepth 100000 in
/-- a script of fewer than five ints: the end at once -/
theorem law_less {p : Program} {e : Env} {s : State} {m : MethodId} {below : List Frame} {meth : Method} {c : Code} (l : Launch) {b L : Nat} {xs : Nat → Int32} (C0 : lw_At p s m meth c b L xs) (hlt : Int32.ofNat L - 5 < 0) {H : Heap} {locs : List Loc} {ls : Array Slot} {x y : Nat} (hS : va_S (AL s) s.heap H locs) (hl : lv_has ls 4 [(3, .int 0), (2, .ref y), (1, .ref x), (0, .ref b)]) : W p l e room_1 s m #[Value.ref b] below meth c H locs 135 27787 (lw_Z below #[Value.ref b] s) (F0 m 18 ls []) := by
  obtain ⟨hx, hb, hr, hml, hown, hts, hX, hbl, hlocks, hgv⟩ := id C0
  have hbA : ¬ (AL s) b := Nat.not_le.mpr hbl
  refine lv_iload_n hx hb dL_law_18 rfl (lv_at hl 0 rfl) ?_
  refine lv_aload_n hx hb dL_law_19 rfl (lv_at hl 3 rfl) ?_
  refine va_slen hx hb hX hbl hbA hS dL_law_20 ?_
  refine lv_iconst (v := 5) hx hb dL_law_21 (by decide) ?_
  refine lv_isub hx hb dL_law_22 ?_
  refine lv_icmp_gt (tgt := 1177) hx hb dL_law_23 (by decide) (fun _ => ?_) (fun c_0 => absurd hlt c_0)
  refine lv_iconst (v := 1) hx hb dL_law_1177 (by decide) ?_
  refine va_forget (fun q hq => hS.2.2 q hq) ?_
  refine W.widen (k := 600000) (n := 7302250) (by decide) (by decide) ?_
  exact lw_ret hx hb hr hlocks dL_law_1178
set_option maxHeartbeats 8000000 in
set_option maxRecDepth 100000 in
/-- THE LAW, from its entry -/
theorem whole_start {p : Program} {e : Env} {s : State} {m : MethodId} {below : List Frame} {meth : Method} {c : Code} (l : Launch) {b L : Nat} {xs : Nat → Int32} (hL : L ≤ 5) (C0 : lw_At p s m meth c b L xs) : W p l e room_1 s m #[Value.ref b] below meth c s.heap [] 0 0 (lw_Z below #[Value.ref b] s) (entryFrame m ([Value.ref b] : List Value).toArray 4) := by
  obtain ⟨hx, hb, hr, hml, hown, hts, hXs, hbl, hlocks, hgv⟩ := id C0
  have ht : ∀ w ∈ TB, w.before #[Value.ref b] s = true := fun w h => hts w (TB_lw h)
  have hX := XW_law hts
  obtain ⟨D, cy, hK⟩ := K_law hts
  have hA : ∀ q : Nat, s.heap.size ≤ q → AL s q := fun _ h => h
  have hS : va_S (AL s) s.heap s.heap [] := va_S.rf
  have hh : Hp D (AL s) (AL s) s.heap s.heap [] (List.range 0) (fun _ => 0) (fun _ => .inr (0, [])) := ⟨fun k q h => by simp [wl] at h, ⟨fun i j p q h => by simp [wl] at h, fun k q h => by simp [wl] at h⟩, hS⟩
  have hl := lv_entry ([.ref b]) (n := 4) (Nat.le_of_ble_eq_true rfl)
  rw [lg_entry_eq]
  generalize (lg_sl ([.ref b]) ++ List.replicate (4 - (lg_sl ([.ref b])).length) Slot.unset).toArray = ls at hl ⊢
  have hl : lv_has ls 4 [(0, .ref b)] := hl
  refine hq_new (ci := 10) (fs := [.null, .null, .null, .null, .null, .null, .int 0, .int 0]) hx hb ht ix11 tyX11 tyX11_ok hown (ht _ tw_17) (ht _ tw_18) (ht _ tw_1) hK hh hA rfl (fun j hj => by rcases (show j = 0 ∨ j = 1 ∨ j = 2 ∨ j = 3 ∨ j = 4 ∨ j = 5 ∨ j = 6 ∨ j = 7 by omega) with rfl | rfl | rfl | rfl | rfl | rfl | rfl | rfl <;> rfl) (Nat.le_of_ble_eq_true rfl) (Nat.le_of_ble_eq_true rfl) dL_law_0 (fun q0 H ad1 en1 had1 hen1 hh => ?_)
  refine W.widen (k := 1) (n := 8) (Nat.le_refl _) (Nat.le_refl _) ?_
  refine lv_dup hx hb dL_law_3 rfl ?_
  have e0 : en1 0 = .inr (10, [.null, .null, .null, .null, .null, .null, .int 0, .int 0]) := by rw [hen1]; exact va_up_self _ _ _
  have a0 : ad1 0 = q0 := by rw [had1]; exact va_up_self _ _ _
  have hh : Hp D (AL s) (AL s) s.heap H _ (List.range 1) ad1 en1 := hh
  refine W.eq (g2 := F0 m 4 ls [.ref (ad1 0), .ref (ad1 0)]) (by rw [a0]) ?_
  refine hq_callC (va_runI (As := []) (rest := [.ref (ad1 0)]) ⟨hx, hb, hml, hown, ht⟩ (c_X11_init l D cy _ ad1 en1 e0) (kw_X11_init ht tw_19 ⟨(Nat.le_of_ble_eq_true rfl), (Nat.le_of_ble_eq_true rfl)⟩) (preC_of hh hK hX) rfl rfl hl.1 rfl (lv_room (Nat.le_of_ble_eq_true rfl)) dL_law_4 ⟨(Nat.le_of_ble_eq_true rfl), (Nat.le_of_ble_eq_true rfl)⟩) hh hA (fun H locs adX enX hw hh => ?_)
  obtain ⟨hda, hue, hFX⟩ := hw
  have hFX : FX cy adX enX := hFX
  have aX : adX 0 = ad1 0 := hda 0 (by decide)
  refine W.widen (k := 115) (n := 1069) (Nat.le_refl _) (Nat.le_refl _) ?_
  refine W.eq (g2 := F0 m 7 ls [.ref (adX 0)]) (by rw [aX]) ?_
  refine lv_astore_n (lv' := [(1, .ref (adX 0)), (0, .ref b)]) hx hb dL_law_7 rfl hl (by decide) rfl (fun ls hl => ?_)
  refine va_new (ci := 11) (fs := [.int 0, .int 0, .int 0, .int 0, .int 0, .null, .null, .null, .null, .null, .null, .null, .null, .null, .int 0, .long 0, .long 0, .long 0, .long 0, .null, .null, .null, .int 0, .long 0, .null, .int 0, .null, .null, .null, .null, .int 0, .null, .null]) (C := RX12) (T := TX12) (N := 33) hx hb ht ix12 tyX12 tyX12_ok hown (ht _ tw_873) (ht _ tw_874) (ht _ tw_9) hK hh.1 hh.2.1 hh.2.2 hA rfl (fun j hj => by rcases (show j = 0 ∨ j = 1 ∨ j = 2 ∨ j = 3 ∨ j = 4 ∨ j = 5 ∨ j = 6 ∨ j = 7 ∨ j = 8 ∨ j = 9 ∨ j = 10 ∨ j = 11 ∨ j = 12 ∨ j = 13 ∨ j = 14 ∨ j = 15 ∨ j = 16 ∨ j = 17 ∨ j = 18 ∨ j = 19 ∨ j = 20 ∨ j = 21 ∨ j = 22 ∨ j = 23 ∨ j = 24 ∨ j = 25 ∨ j = 26 ∨ j = 27 ∨ j = 28 ∨ j = 29 ∨ j = 30 ∨ j = 31 ∨ j = 32 by omega) with rfl | rfl | rfl | rfl | rfl | rfl | rfl | rfl | rfl | rfl | rfl | rfl | rfl | rfl | rfl | rfl | rfl | rfl | rfl | rfl | rfl | rfl | rfl | rfl | rfl | rfl | rfl | rfl | rfl | rfl | rfl | rfl | rfl <;> rfl) (Nat.le_of_ble_eq_true rfl) (Nat.le_of_ble_eq_true rfl) dL_law_8 (fun qm H hP hD hS => ?_)
  have hPX := P_left hP
  have hDX := D_left hD
  have hap : ∀ i, i < 115 → adX i ≠ qm := fun i hi => by
    obtain ⟨k, hk, -⟩ := wl_get (ad := adX) (en := enX) (List.mem_range.mpr hi)
    exact D_apart hD hk (show [(qm, (.inr (11, [.int 0, .int 0, .int 0, .int 0, .int 0, .null, .null, .null, .null, .null, .null, .null, .null, .null, .int 0, .long 0, .long 0, .long 0, .long 0, .null, .null, .null, .int 0, .long 0, .null, .int 0, .null, .null, .null, .null, .int 0, .null, .null]) : va_E))][0]? = some _ from rfl)
  have hhM : Hp D (AL s) (AL s) s.heap H _ (List.range 1) (fun _ => qm) (fun _ => .inr (11, [.int 0, .int 0, .int 0, .int 0, .int 0, .null, .null, .null, .null, .null, .null, .null, .null, .null, .int 0, .long 0, .long 0, .long 0, .long 0, .null, .null, .null, .int 0, .long 0, .null, .int 0, .null, .null, .null, .null, .int 0, .null, .null])) := ⟨P_right hP, D_right hD, hS⟩
  clear hP hD hh
  refine W.widen (k := 116) (n := 1102) (Nat.le_refl _) (Nat.le_refl _) ?_
  refine lv_dup hx hb dL_law_11 rfl ?_
  refine va_callv (va_runI (As := []) (rest := [.ref qm]) ⟨hx, hb, hml, hown, ht⟩ (c_X12_init l D cy _ (fun _ => qm) (fun _ => .inr (11, [.int 0, .int 0, .int 0, .int 0, .int 0, .null, .null, .null, .null, .null, .null, .null, .null, .null, .int 0, .long 0, .long 0, .long 0, .long 0, .null, .null, .null, .int 0, .long 0, .null, .int 0, .null, .null, .null, .null, .int 0, .null, .null])) rfl) (kw_X12_init ht tw_875 ⟨(Nat.le_of_ble_eq_true rfl), (Nat.le_of_ble_eq_true rfl)⟩) (preC_of hhM hK hX) rfl rfl hl.1 rfl (lv_room (Nat.le_of_ble_eq_true rfl)) dL_law_12 ⟨(Nat.le_of_ble_eq_true rfl), (Nat.le_of_ble_eq_true rfl)⟩) hS (fun q _ h => Af_in hhM hA q h) (Af_in hhM hA) (fun u t H1 locs ht1 hvm hw hB hz hk hS => ?_)
  obtain ⟨adM, enM⟩ := u
  obtain ⟨hdm, hum, hFM⟩ := hw
  have hFM : FMo cy adM enM := hFM
  have aM : adM 0 = qm := hdm 0 (by decide)
  have hPM : va_P D vwCl (wl (List.range 20) adM enM) H1 := by rw [← ht1]; exact hB.1
  have hDM : va_D (AL s) (wl (List.range 20) adM enM) := hB.2.weaken (fun _ _ _ h => Af_in hhM hA _ h)
  have hdis : ∀ i j, i < 115 → j < 20 → adX i ≠ adM j := by
    intro i j hi hj e
    obtain ⟨k, hk1, -⟩ := wl_get (ad := adM) (en := enM) (List.mem_range.mpr hj)
    rcases hB.2.2 k _ hk1 with ⟨c9, -, e9⟩ | h9
    · exact hap i hi (e.trans e9.symm)
    · obtain ⟨k2, hk2, -⟩ := wl_get (ad := adX) (en := enX) (List.mem_range.mpr hi)
      have h8 := (hPX k2 _ hk2).lt
      exact absurd h9 (Nat.not_le.mpr (by rw [← e]; exact h8))
  have hPX := wl_kept hPX (cs2 := List.range 1) (ad2 := fun _ => qm) (fun i _ j hj => (hap j (List.mem_range.mp hj)).symm) hk
  refine W.widen (k := 135) (n := 27787) (Nat.le_refl _) (Nat.le_refl _) ?_
  refine W.eq (g2 := F0 m 15 ls [.ref (adM 0)]) (by rw [aM]) ?_
  refine lv_astore_n (lv' := [(2, .ref (adM 0)), (1, .ref (adX 0)), (0, .ref b)]) hx hb dL_law_15 rfl hl (by decide) rfl (fun ls hl => ?_)
  refine lv_iconst (v := 0) hx hb dL_law_16 (by decide) ?_
  refine lv_istore_n (lv' := [(3, .int 0), (2, .ref (adM 0)), (1, .ref (adX 0)), (0, .ref b)]) hx hb dL_law_17 rfl hl (by decide) rfl (fun ls hl => ?_)
  rcases (show L = 0 ∨ L = 1 ∨ L = 2 ∨ L = 3 ∨ L = 4 ∨ L = 5 by omega) with rfl | rfl | rfl | rfl | rfl | rfl
  · exact law_less l C0 (by decide) hS hl
  · exact law_less l C0 (by decide) hS hl
  · exact law_less l C0 (by decide) hS hl
  · exact law_less l C0 (by decide) hS hl
  · exact law_less l C0 (by decide) hS hl
  · exact law_five l C0 hK hFX hFM hPX hDX hPM hDM hdis hS hl
