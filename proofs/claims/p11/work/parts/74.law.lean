theorem law_gt {L j : Nat} (hL : L ≤ 2560) (h : L < 5 * j + 5) (hj : 5 * j ≤ L + 5) : Int32.ofNat L - 5 < nI (5 * j) := by
  apply Int32.lt_iff_toInt_lt.mpr
  have h1 := pk_sub_toInt (a := L) (b := 5) (by omega) (by omega)
  have h2 : (nI L - nI 5).toInt = (Int32.ofNat L - 5).toInt := rfl
  rw [← h2, h1, nI_toInt (by omega)]
  omega
theorem law_ngt {L j : Nat} (h : ¬ Int32.ofNat L - 5 < nI (5 * j)) (hL : L ≤ 2560) (hj : 5 * j ≤ L + 5) : 5 * j + 5 ≤ L := by
  have h0 := i_nlt h
  have h1 := pk_sub_toInt (a := L) (b := 5) (by omega) (by omega)
  have h2 : (nI L - nI 5).toInt = (Int32.ofNat L - 5).toInt := rfl
  rw [← h2, h1, nI_toInt (by omega)] at h0
  omega
set_option maxHeartbeats 8000000 in
set_option maxRecDepth 100000 in
/-- THE LAW'S LOOP at its head -/
theorem law_loop {p : Program} {e : Env} {s : State} {m : MethodId} {below : List Frame} {meth : Method} {c : Code} (l : Launch) {b L : Nat} {xs : Nat → Int32} (C0 : lw_At p s m meth c b L xs) (hL : L ≤ 2560) {D : va_G} {cy : Nat → ClassId} (hK : va_K D vwCl (tyl cy) s) {x y : Nat} {aM : Nat → Nat} (hy0 : aM 0 = y) : ∀ (fu j z n : Nat) (aX : Nat → Nat) (eX eM : Nat → va_E) (F : Nat → Nat → Int32) (H : Heap) (locs : List Loc) (ls : Array Slot), L + 1 ≤ 5 * j + fu → 5 * j ≤ L + 5 → z ≤ 1 → aX 0 = x → LIX cy z n aX eX F → LIM cy aM eM → RLN9 F eX eM → LW2 D s (List.range n) aX eX (List.range 20) aM eM H locs → lv_has ls 4 [(3, .int (nI (5 * j))), (2, .ref y), (1, .ref x), (0, .ref b)] → W p l e room_1 s m #[Value.ref b] below meth c H locs (135 + 2 * j + 3 * z) (27787 + 12 * j + 24096 * z) (lw_Z below #[Value.ref b] s) (F0 m 18 ls []) := by
  obtain ⟨hx, hb, hr, hml, hown, hts, hXs, hbl, hlocks, hgv⟩ := id C0
  have hbA : ¬ (AL s) b := Nat.not_le.mpr hbl
  intro fu
  induction fu with
  | zero =>
    intro j z n aX eX eM F H locs ls hfu hjL hz hx0 hX0 hM0 hR hW hl
    refine lv_iload_n hx hb dL_law_18 rfl (lv_at hl 0 rfl) ?_
    refine lv_aload_n hx hb dL_law_19 rfl (lv_at hl 3 rfl) ?_
    refine va_slen hx hb hXs hbl hbA hW.2.2.2.2.2 dL_law_20 ?_
    refine lv_iconst (v := 5) hx hb dL_law_21 (by decide) ?_
    refine lv_isub hx hb dL_law_22 ?_
    refine lv_icmp_gt (tgt := 1170) hx hb dL_law_23 (by decide) (fun _ => ?_) (fun c_0 => absurd (law_gt (by omega) (by omega) (by omega)) c_0)
    refine lv_iconst (v := 1) hx hb dL_law_1170 (by decide) ?_
    refine va_forget (fun q hq => hW.2.2.2.2.2.2.2 q hq) ?_
    refine W.widen (k := 600000) (n := 7302250) (by omega) (by omega) ?_
    exact lw_ret hx hb hr hlocks dL_law_1171
  | succ fu ih =>
    intro j z n aX eX eM F H locs ls hfu hjL hz hx0 hX0 hM0 hR hW hl
    refine lv_iload_n hx hb dL_law_18 rfl (lv_at hl 0 rfl) ?_
    refine lv_aload_n hx hb dL_law_19 rfl (lv_at hl 3 rfl) ?_
    refine va_slen hx hb hXs hbl hbA hW.2.2.2.2.2 dL_law_20 ?_
    refine lv_iconst (v := 5) hx hb dL_law_21 (by decide) ?_
    refine lv_isub hx hb dL_law_22 ?_
    refine lv_icmp_gt (tgt := 1170) hx hb dL_law_23 (by decide) (fun _ => ?_) (fun c_0 => ?_)
    · refine lv_iconst (v := 1) hx hb dL_law_1170 (by decide) ?_
      refine va_forget (fun q hq => hW.2.2.2.2.2.2.2 q hq) ?_
      refine W.widen (k := 600000) (n := 7302250) (by omega) (by omega) ?_
      exact lw_ret hx hb hr hlocks dL_law_1171
    have hj5 : 5 * j + 5 ≤ L := law_ngt c_0 (by omega) (by omega)
    have kk : ∀ (z1 n1 : Nat) (aX1 : Nat → Nat) (eX1 eM1 : Nat → va_E) (F1 : Nat → Nat → Int32) (H1 : Heap) (locs1 : List Loc) (ls1 : Array Slot), z1 ≤ 1 → aX1 0 = x → LIX cy z1 n1 aX1 eX1 F1 → LIM cy aM eM1 → RLN9 F1 eX1 eM1 → LW2 D s (List.range n1) aX1 eX1 (List.range 20) aM eM1 H1 locs1 → lv_has ls1 4 [(3, .int (nI (5 * j))), (2, .ref y), (1, .ref x), (0, .ref b)] → W p l e room_1 s m #[Value.ref b] below meth c H1 locs1 (137 + 2 * j + 3 * z1) (27799 + 12 * j + 24096 * z1) (lw_Z below #[Value.ref b] s) (F0 m 1164 ls1 []) := by
      intro z1 n1 aX1 eX1 eM1 F1 H1 locs1 ls1 hz1 hx1 hX1 hM1 hR1 hW1 hl1
      refine lv_iinc (v := nI (5 * (j + 1))) (lv' := [(3, .int (nI (5 * (j + 1)))), (2, .ref y), (1, .ref x), (0, .ref b)]) hx hb dL_law_1164 hl1 (k := 0) rfl (by rw [show Int32.ofInt 5 = nI 5 from by decide, nI_add]; exact congrArg nI (by omega)) (by decide) rfl (fun ls hl => ?_)
      refine lv_goto (tgt := 18) hx hb dL_law_1167 (by decide) ?_
      refine W.widen (k := 135 + 2 * (j + 1) + 3 * z1) (n := 27787 + 12 * (j + 1) + 24096 * z1) (by omega) (by omega) ?_
      exact ih (j + 1) z1 n1 aX1 eX1 eM1 F1 H1 locs1 ls (by omega) (by omega) hz1 hx1 hX1 hM1 hR1 hW1 hl
    refine lv_aload_n hx hb dL_law_26 rfl (lv_at hl 3 rfl) ?_
    refine lv_iload_n hx hb dL_law_27 rfl (lv_at hl 0 rfl) ?_
    refine va_sld hx hb hXs hbl hbA hW.2.2.2.2.2 (i := nI (5 * j)) (vp_in_nI (n := 5 * j) (by omega) (by omega)) dL_law_28 ?_
    refine lv_bipush (v := 31) hx hb dL_law_29 (by decide) ?_
    refine lv_iand hx hb dL_law_31 ?_
    refine lv_topi (fun v hv => ?_)
    by_cases q_0 : v = 0
    · refine lv_tableIn (off := 136) (tgt := 168) hx hb dL_law_32 (by rw [q_0]; decide) (by rw [q_0]; decide) (by rw [q_0]; decide) (by decide) ?_
      exact op_0 l C0 hL hK hj5 hz hx0 hy0 hX0 hM0 hR hW hl kk
    by_cases q_1 : v = 1
    · refine lv_tableIn (off := 169) (tgt := 201) hx hb dL_law_32 (by rw [q_1]; decide) (by rw [q_1]; decide) (by rw [q_1]; decide) (by decide) ?_
      exact op_1 l C0 hL hK hj5 hz hx0 hy0 hX0 hM0 hR hW hl kk
    by_cases q_2 : v = 2
    · refine lv_tableIn (off := 212) (tgt := 244) hx hb dL_law_32 (by rw [q_2]; decide) (by rw [q_2]; decide) (by rw [q_2]; decide) (by decide) ?_
      exact op_2 l C0 hL hK hj5 hz hx0 hy0 hX0 hM0 hR hW hl kk
    by_cases q_3 : v = 3
    · refine lv_tableIn (off := 255) (tgt := 287) hx hb dL_law_32 (by rw [q_3]; decide) (by rw [q_3]; decide) (by rw [q_3]; decide) (by decide) ?_
      exact op_3 l C0 hL hK hj5 hz hx0 hy0 hX0 hM0 hR hW hl kk
    by_cases q_4 : v = 4
    · refine lv_tableIn (off := 314) (tgt := 346) hx hb dL_law_32 (by rw [q_4]; decide) (by rw [q_4]; decide) (by rw [q_4]; decide) (by decide) ?_
      exact op_4 l C0 hL hK hj5 hz hx0 hy0 hX0 hM0 hR hW hl kk
    by_cases q_5 : v = 5
    · refine lv_tableIn (off := 347) (tgt := 379) hx hb dL_law_32 (by rw [q_5]; decide) (by rw [q_5]; decide) (by rw [q_5]; decide) (by decide) ?_
      exact op_5 l C0 hL hK hj5 hz hx0 hy0 hX0 hM0 hR hW hl kk
    by_cases q_6 : v = 6
    · refine lv_tableIn (off := 390) (tgt := 422) hx hb dL_law_32 (by rw [q_6]; decide) (by rw [q_6]; decide) (by rw [q_6]; decide) (by decide) ?_
      exact op_6 l C0 hL hK hj5 hz hx0 hy0 hX0 hM0 hR hW hl kk
    by_cases q_7 : v = 7
    · refine lv_tableIn (off := 413) (tgt := 445) hx hb dL_law_32 (by rw [q_7]; decide) (by rw [q_7]; decide) (by rw [q_7]; decide) (by decide) ?_
      exact op_7 l C0 hL hK hj5 hz hx0 hy0 hX0 hM0 hR hW hl kk
    by_cases q_8 : v = 8
    · refine lv_tableIn (off := 436) (tgt := 468) hx hb dL_law_32 (by rw [q_8]; decide) (by rw [q_8]; decide) (by rw [q_8]; decide) (by decide) ?_
      exact op_8 l C0 hL hK hj5 hz hx0 hy0 hX0 hM0 hR hW hl kk
    by_cases q_9 : v = 9
    · refine lv_tableIn (off := 469) (tgt := 501) hx hb dL_law_32 (by rw [q_9]; decide) (by rw [q_9]; decide) (by rw [q_9]; decide) (by decide) ?_
      exact op_9 l C0 hL hK hj5 hz hx0 hy0 hX0 hM0 hR hW hl kk
    by_cases q_10 : v = 10
    · refine lv_tableIn (off := 512) (tgt := 544) hx hb dL_law_32 (by rw [q_10]; decide) (by rw [q_10]; decide) (by rw [q_10]; decide) (by decide) ?_
      exact op_10 l C0 hL hK hj5 hz hx0 hy0 hX0 hM0 hR hW hl kk
    by_cases q_11 : v = 11
    · refine lv_tableIn (off := 525) (tgt := 557) hx hb dL_law_32 (by rw [q_11]; decide) (by rw [q_11]; decide) (by rw [q_11]; decide) (by decide) ?_
      exact op_11 l C0 hL hK hj5 hz hx0 hy0 hX0 hM0 hR hW hl kk
    by_cases q_12 : v = 12
    · refine lv_tableIn (off := 548) (tgt := 580) hx hb dL_law_32 (by rw [q_12]; decide) (by rw [q_12]; decide) (by rw [q_12]; decide) (by decide) ?_
      exact op_12 l C0 hL hK hj5 hz hx0 hy0 hX0 hM0 hR hW hl kk
    by_cases q_13 : v = 13
    · refine lv_tableIn (off := 591) (tgt := 623) hx hb dL_law_32 (by rw [q_13]; decide) (by rw [q_13]; decide) (by rw [q_13]; decide) (by decide) ?_
      exact op_13 l C0 hL hK hj5 hz hx0 hy0 hX0 hM0 hR hW hl kk
    by_cases q_14 : v = 14
    · refine lv_tableIn (off := 624) (tgt := 656) hx hb dL_law_32 (by rw [q_14]; decide) (by rw [q_14]; decide) (by rw [q_14]; decide) (by decide) ?_
      exact op_14 l C0 hL hK hj5 hz hx0 hy0 hX0 hM0 hR hW hl kk
    by_cases q_15 : v = 15
    · refine lv_tableIn (off := 677) (tgt := 709) hx hb dL_law_32 (by rw [q_15]; decide) (by rw [q_15]; decide) (by rw [q_15]; decide) (by decide) ?_
      exact op_15 l C0 hL hK hj5 hz hx0 hy0 hX0 hM0 hR hW hl kk
    by_cases q_16 : v = 16
    · refine lv_tableIn (off := 710) (tgt := 742) hx hb dL_law_32 (by rw [q_16]; decide) (by rw [q_16]; decide) (by rw [q_16]; decide) (by decide) ?_
      exact op_16 l C0 hL hK hj5 hz hx0 hy0 hX0 hM0 hR hW hl kk
    by_cases q_17 : v = 17
    · refine lv_tableIn (off := 743) (tgt := 775) hx hb dL_law_32 (by rw [q_17]; decide) (by rw [q_17]; decide) (by rw [q_17]; decide) (by decide) ?_
      exact op_17 l C0 hL hK hj5 hz hx0 hy0 hX0 hM0 hR hW hl kk
    by_cases q_18 : v = 18
    · refine lv_tableIn (off := 776) (tgt := 808) hx hb dL_law_32 (by rw [q_18]; decide) (by rw [q_18]; decide) (by rw [q_18]; decide) (by decide) ?_
      exact op_18 l C0 hL hK hj5 hz hx0 hy0 hX0 hM0 hR hW hl kk
    by_cases q_19 : v = 19
    · refine lv_tableIn (off := 819) (tgt := 851) hx hb dL_law_32 (by rw [q_19]; decide) (by rw [q_19]; decide) (by rw [q_19]; decide) (by decide) ?_
      exact op_19 l C0 hL hK hj5 hz hx0 hy0 hX0 hM0 hR hW hl kk
    by_cases q_20 : v = 20
    · refine lv_tableIn (off := 852) (tgt := 884) hx hb dL_law_32 (by rw [q_20]; decide) (by rw [q_20]; decide) (by rw [q_20]; decide) (by decide) ?_
      exact op_20 l C0 hL hK hj5 hz hx0 hy0 hX0 hM0 hR hW hl kk
    by_cases q_21 : v = 21
    · refine lv_tableIn (off := 895) (tgt := 927) hx hb dL_law_32 (by rw [q_21]; decide) (by rw [q_21]; decide) (by rw [q_21]; decide) (by decide) ?_
      exact op_21 l C0 hL hK hj5 hz hx0 hy0 hX0 hM0 hR hW hl kk
    by_cases q_22 : v = 22
    · refine lv_tableIn (off := 918) (tgt := 950) hx hb dL_law_32 (by rw [q_22]; decide) (by rw [q_22]; decide) (by rw [q_22]; decide) (by decide) ?_
      exact op_22 l C0 hL hK hj5 hz hx0 hy0 hX0 hM0 hR hW hl kk
    by_cases q_23 : v = 23
    · refine lv_tableIn (off := 961) (tgt := 993) hx hb dL_law_32 (by rw [q_23]; decide) (by rw [q_23]; decide) (by rw [q_23]; decide) (by decide) ?_
      exact op_23 l C0 hL hK hj5 hz hx0 hy0 hX0 hM0 hR hW hl kk
    by_cases q_24 : v = 24
    · refine lv_tableIn (off := 1004) (tgt := 1036) hx hb dL_law_32 (by rw [q_24]; decide) (by rw [q_24]; decide) (by rw [q_24]; decide) (by decide) ?_
      exact op_24 l C0 hL hK hj5 hz hx0 hy0 hX0 hM0 hR hW hl kk
    by_cases q_25 : v = 25
    · refine lv_tableIn (off := 1027) (tgt := 1059) hx hb dL_law_32 (by rw [q_25]; decide) (by rw [q_25]; decide) (by rw [q_25]; decide) (by decide) ?_
      exact op_25 l C0 hL hK hj5 hz hx0 hy0 hX0 hM0 hR hW hl kk
    by_cases q_26 : v = 26
    · refine lv_tableIn (off := 1050) (tgt := 1082) hx hb dL_law_32 (by rw [q_26]; decide) (by rw [q_26]; decide) (by rw [q_26]; decide) (by decide) ?_
      exact op_26 l C0 hL hK hj5 hz hx0 hy0 hX0 hM0 hR hW hl kk
    by_cases q_27 : v = 27
    · refine lv_tableIn (off := 1083) (tgt := 1115) hx hb dL_law_32 (by rw [q_27]; decide) (by rw [q_27]; decide) (by rw [q_27]; decide) (by decide) ?_
      exact op_27 l C0 hL hK hj5 hz hx0 hy0 hX0 hM0 hR hW hl kk
    by_cases q_28 : v = 28
    · refine lv_tableIn (off := 1096) (tgt := 1128) hx hb dL_law_32 (by rw [q_28]; decide) (by rw [q_28]; decide) (by rw [q_28]; decide) (by decide) ?_
      exact op_28 l C0 hL hK hj5 hz hx0 hy0 hX0 hM0 hR hW hl kk
    by_cases q_29 : v = 29
    · refine lv_tableIn (off := 1109) (tgt := 1141) hx hb dL_law_32 (by rw [q_29]; decide) (by rw [q_29]; decide) (by rw [q_29]; decide) (by decide) ?_
      exact op_29 l C0 hL hK hj5 hz hx0 hy0 hX0 hM0 hR hW hl kk
    refine lv_tableOut (tgt := 1164) hx hb dL_law_32 (tb_out 30 (by decide) (by decide) (fun j hj => by
      rcases (show j = 0 ∨ j = 1 ∨ j = 2 ∨ j = 3 ∨ j = 4 ∨ j = 5 ∨ j = 6 ∨ j = 7 ∨ j = 8 ∨ j = 9 ∨ j = 10 ∨ j = 11 ∨ j = 12 ∨ j = 13 ∨ j = 14 ∨ j = 15 ∨ j = 16 ∨ j = 17 ∨ j = 18 ∨ j = 19 ∨ j = 20 ∨ j = 21 ∨ j = 22 ∨ j = 23 ∨ j = 24 ∨ j = 25 ∨ j = 26 ∨ j = 27 ∨ j = 28 ∨ j = 29 by omega) with rfl | rfl | rfl | rfl | rfl | rfl | rfl | rfl | rfl | rfl | rfl | rfl | rfl | rfl | rfl | rfl | rfl | rfl | rfl | rfl | rfl | rfl | rfl | rfl | rfl | rfl | rfl | rfl | rfl | rfl
      · exact lv_neT q_0 (by decide)
      · exact lv_neT q_1 (by decide)
      · exact lv_neT q_2 (by decide)
      · exact lv_neT q_3 (by decide)
      · exact lv_neT q_4 (by decide)
      · exact lv_neT q_5 (by decide)
      · exact lv_neT q_6 (by decide)
      · exact lv_neT q_7 (by decide)
      · exact lv_neT q_8 (by decide)
      · exact lv_neT q_9 (by decide)
      · exact lv_neT q_10 (by decide)
      · exact lv_neT q_11 (by decide)
      · exact lv_neT q_12 (by decide)
      · exact lv_neT q_13 (by decide)
      · exact lv_neT q_14 (by decide)
      · exact lv_neT q_15 (by decide)
      · exact lv_neT q_16 (by decide)
      · exact lv_neT q_17 (by decide)
      · exact lv_neT q_18 (by decide)
      · exact lv_neT q_19 (by decide)
      · exact lv_neT q_20 (by decide)
      · exact lv_neT q_21 (by decide)
      · exact lv_neT q_22 (by decide)
      · exact lv_neT q_23 (by decide)
      · exact lv_neT q_24 (by decide)
      · exact lv_neT q_25 (by decide)
      · exact lv_neT q_26 (by decide)
      · exact lv_neT q_27 (by decide)
      · exact lv_neT q_28 (by decide)
      · exact lv_neT q_29 (by decide)
      )) (by decide) ?_
    refine W.widen (k := 137 + 2 * j + 3 * z) (n := 27799 + 12 * j + 24096 * z) (by omega) (by omega) ?_
    exact kk z n aX eX eM F H locs ls hz hx0 hX0 hM0 hR hW hl
set_option maxHeartbeats 8000000 in
set_option maxRecDepth 100000 in
/-- THE LAW, from its entry -/
theorem whole_start {p : Program} {e : Env} {s : State} {m : MethodId} {below : List Frame} {meth : Method} {c : Code} (l : Launch) {b L : Nat} {xs : Nat → Int32} (hL : L ≤ 2560) (C0 : lw_At p s m meth c b L xs) : W p l e room_1 s m #[Value.ref b] below meth c s.heap [] 0 0 (lw_Z below #[Value.ref b] s) (entryFrame m ([Value.ref b] : List Value).toArray 4) := by
  obtain ⟨hx, hb, hr, hml, hown, hts, hXs, hbl, hlocks, hgv⟩ := id C0
  have ht : ∀ w ∈ TB, w.before #[Value.ref b] s = true := fun w h => hts w (TB_lw h)
  have hX := XW_law hts
  obtain ⟨D, cy, hK⟩ := K_law hts
  have hA : ∀ q : Nat, s.heap.size ≤ q → AL s q := fun _ h => h
  have hS : va_S (AL s) s.heap s.heap [] := va_S.rf
  have hh : Hp D (AL s) (AL s) s.heap s.heap [] (List.range 0) (fun _ => 0) (fun _ => .inr (0, [])) := ⟨fun k q h => by simp [wl] at h, ⟨fun i j p q h => by simp [wl] at h, fun k q h => by simp [wl] at h⟩, hS⟩
  have hl := lv_entry ([.ref b]) (n := 4) (Nat.le_of_ble_eq_true rfl)
  rw [lg_entry_eq]
  generalize (lg_sl ([.ref b]) ++ List.replicate (4 - (lg_sl ([.ref b])).length) Slot.unset).toArray = ls at hl ⊢
  have hl : lv_has ls 4 [(0, .ref b)] := hl
  refine hq_new (ci := 10) (fs := [.null, .null, .null, .null, .null, .null, .int 0, .int 0]) hx hb ht ix11 tyX11 tyX11_ok hown (ht _ tw_17) (ht _ tw_18) (ht _ tw_1) hK hh hA rfl (fun j hj => by rcases (show j = 0 ∨ j = 1 ∨ j = 2 ∨ j = 3 ∨ j = 4 ∨ j = 5 ∨ j = 6 ∨ j = 7 by omega) with rfl | rfl | rfl | rfl | rfl | rfl | rfl | rfl <;> rfl) (Nat.le_of_ble_eq_true rfl) (Nat.le_of_ble_eq_true rfl) dL_law_0 (fun q0 H ad1 en1 had1 hen1 hh => ?_)
  refine W.widen (k := 1) (n := 8) (Nat.le_refl _) (Nat.le_refl _) ?_
  refine lv_dup hx hb dL_law_3 rfl ?_
  have e0 : en1 0 = .inr (10, [.null, .null, .null, .null, .null, .null, .int 0, .int 0]) := by rw [hen1]; exact va_up_self _ _ _
  have a0 : ad1 0 = q0 := by rw [had1]; exact va_up_self _ _ _
  have hh : Hp D (AL s) (AL s) s.heap H _ (List.range 1) ad1 en1 := hh
  refine W.eq (g2 := F0 m 4 ls [.ref (ad1 0), .ref (ad1 0)]) (by rw [a0]) ?_
  refine hq_callC (va_runI (As := []) (rest := [.ref (ad1 0)]) ⟨hx, hb, hml, hown, ht⟩ (c_X11_init l D cy _ ad1 en1 e0) (kw_X11_init ht tw_19 ⟨(Nat.le_of_ble_eq_true rfl), (Nat.le_of_ble_eq_true rfl)⟩) (preC_of hh hK hX) rfl rfl hl.1 rfl (lv_room (Nat.le_of_ble_eq_true rfl)) dL_law_4 ⟨(Nat.le_of_ble_eq_true rfl), (Nat.le_of_ble_eq_true rfl)⟩) hh hA (fun H locs adX enX hw hh => ?_)
  obtain ⟨hda, hue, hSX, hx0, hx1, hx10, hx70, hx76, hxs, hxc, hx12, hxv⟩ := hw
  dsimp only at hda hue hSX hx0 hx1 hx10 hx70 hx76 hxs hxc hx12 hxv
  have aX : adX 0 = ad1 0 := hda 0 (by decide)
  have hLX : LIX cy 0 115 adX enX (fun _ _ => 0) := ⟨Nat.le_refl _, hSX, TXF_0 (by rw [hx1]; rfl), Or.inr ⟨rfl, hx70⟩, WX_0 (by rw [hx0]; rfl)⟩
  refine W.widen (k := 115) (n := 1069) (Nat.le_refl _) (Nat.le_refl _) ?_
  refine W.eq (g2 := F0 m 7 ls [.ref (adX 0)]) (by rw [aX]) ?_
  refine lv_astore_n (lv' := [(1, .ref (adX 0)), (0, .ref b)]) hx hb dL_law_7 rfl hl (by decide) rfl (fun ls hl => ?_)
  refine va_new (ci := 11) (fs := [.int 0, .int 0, .int 0, .int 0, .int 0, .null, .null, .null, .null, .null, .null, .null, .null, .null, .int 0, .long 0, .long 0, .long 0, .long 0, .null, .null, .null, .int 0, .long 0, .null, .int 0, .null, .null, .null, .null, .int 0, .null, .null]) (C := RX12) (T := TX12) (N := 33) hx hb ht ix12 tyX12 tyX12_ok hown (ht _ tw_873) (ht _ tw_874) (ht _ tw_9) hK hh.1 hh.2.1 hh.2.2 hA rfl (fun j hj => by rcases (show j = 0 ∨ j = 1 ∨ j = 2 ∨ j = 3 ∨ j = 4 ∨ j = 5 ∨ j = 6 ∨ j = 7 ∨ j = 8 ∨ j = 9 ∨ j = 10 ∨ j = 11 ∨ j = 12 ∨ j = 13 ∨ j = 14 ∨ j = 15 ∨ j = 16 ∨ j = 17 ∨ j = 18 ∨ j = 19 ∨ j = 20 ∨ j = 21 ∨ j = 22 ∨ j = 23 ∨ j = 24 ∨ j = 25 ∨ j = 26 ∨ j = 27 ∨ j = 28 ∨ j = 29 ∨ j = 30 ∨ j = 31 ∨ j = 32 by omega) with rfl | rfl | rfl | rfl | rfl | rfl | rfl | rfl | rfl | rfl | rfl | rfl | rfl | rfl | rfl | rfl | rfl | rfl | rfl | rfl | rfl | rfl | rfl | rfl | rfl | rfl | rfl | rfl | rfl | rfl | rfl | rfl | rfl <;> rfl) (Nat.le_of_ble_eq_true rfl) (Nat.le_of_ble_eq_true rfl) dL_law_8 (fun qm H hP hD hS => ?_)
  have hPX := P_left hP
  have hDX := D_left hD
  have hap : ∀ i, i < 115 → adX i ≠ qm := fun i hi => by
    obtain ⟨k, hk, -⟩ := wl_get (ad := adX) (en := enX) (List.mem_range.mpr hi)
    exact D_apart hD hk (show [(qm, (.inr (11, [.int 0, .int 0, .int 0, .int 0, .int 0, .null, .null, .null, .null, .null, .null, .null, .null, .null, .int 0, .long 0, .long 0, .long 0, .long 0, .null, .null, .null, .int 0, .long 0, .null, .int 0, .null, .null, .null, .null, .int 0, .null, .null]) : va_E))][0]? = some _ from rfl)
  have hhM : Hp D (AL s) (AL s) s.heap H _ (List.range 1) (fun _ => qm) (fun _ => .inr (11, [.int 0, .int 0, .int 0, .int 0, .int 0, .null, .null, .null, .null, .null, .null, .null, .null, .null, .int 0, .long 0, .long 0, .long 0, .long 0, .null, .null, .null, .int 0, .long 0, .null, .int 0, .null, .null, .null, .null, .int 0, .null, .null])) := ⟨P_right hP, D_right hD, hS⟩
  clear hP hD hh
  refine W.widen (k := 116) (n := 1102) (Nat.le_refl _) (Nat.le_refl _) ?_
  refine lv_dup hx hb dL_law_11 rfl ?_
  refine va_callv (va_runI (As := []) (rest := [.ref qm]) ⟨hx, hb, hml, hown, ht⟩ (c_X12_init l D cy _ (fun _ => qm) (fun _ => .inr (11, [.int 0, .int 0, .int 0, .int 0, .int 0, .null, .null, .null, .null, .null, .null, .null, .null, .null, .int 0, .long 0, .long 0, .long 0, .long 0, .null, .null, .null, .int 0, .long 0, .null, .int 0, .null, .null, .null, .null, .int 0, .null, .null])) rfl) (kw_X12_init ht tw_875 ⟨(Nat.le_of_ble_eq_true rfl), (Nat.le_of_ble_eq_true rfl)⟩) (preC_of hhM hK hX) rfl rfl hl.1 rfl (lv_room (Nat.le_of_ble_eq_true rfl)) dL_law_12 ⟨(Nat.le_of_ble_eq_true rfl), (Nat.le_of_ble_eq_true rfl)⟩) hS (fun q _ h => Af_in hhM hA q h) (Af_in hhM hA) (fun u t H1 locs ht1 hvm hw hB hz hk hS => ?_)
  obtain ⟨adM, enM⟩ := u
  obtain ⟨hdm, hum, hm0, hm3, hm1, hm2, hm4, hm5, hm6, hm7, hm8, hm9, hm10, hm11, hm12, hm13, hm14, hm15, hm16, hm17, hm18, hm19⟩ := hw
  dsimp only at hdm hum hm0 hm3 hm1 hm2 hm4 hm5 hm6 hm7 hm8 hm9 hm10 hm11 hm12 hm13 hm14 hm15 hm16 hm17 hm18 hm19
  have hLM : LIM cy adM enM := ⟨RX_new hm0 hm3 hm1 hm2 hm4 hm5 hm6 hm7 hm8 hm9 hm10 hm11 hm12 hm13 hm14 hm15 hm16 hm17 hm18 hm19, RWX_0 (by rw [hm0]; rfl), Or.inl (by rw [hm0]; rfl)⟩
  have aM : adM 0 = qm := hdm 0 (by decide)
  have hPM : va_P D vwCl (wl (List.range 20) adM enM) H1 := by rw [← ht1]; exact hB.1
  have hDM : va_D (AL s) (wl (List.range 20) adM enM) := hB.2.weaken (fun _ _ _ h => Af_in hhM hA _ h)
  have hdis : ∀ i, i ∈ List.range 115 → ∀ j, j ∈ List.range 20 → adX i ≠ adM j := by
    intro i hi j hj e
    obtain ⟨k, hk1, -⟩ := wl_get (ad := adM) (en := enM) hj
    rcases hB.2.2 k _ hk1 with ⟨c9, -, e9⟩ | h9
    · exact hap i (List.mem_range.mp hi) (e.trans e9.symm)
    · obtain ⟨k2, hk2, -⟩ := wl_get (ad := adX) (en := enX) hi
      have h8 := (hPX k2 _ hk2).lt
      exact absurd h9 (Nat.not_le.mpr (by rw [← e]; exact h8))
  have hPX := wl_kept hPX (cs2 := List.range 1) (ad2 := fun _ => qm) (fun i _ j hj => (hap j (List.mem_range.mp hj)).symm) hk
  refine W.widen (k := 135 + 2 * 0 + 3 * 0) (n := 27787 + 12 * 0 + 24096 * 0) (Nat.le_refl _) (Nat.le_refl _) ?_
  refine W.eq (g2 := F0 m 15 ls [.ref (adM 0)]) (by rw [aM]) ?_
  refine lv_astore_n (lv' := [(2, .ref (adM 0)), (1, .ref (adX 0)), (0, .ref b)]) hx hb dL_law_15 rfl hl (by decide) rfl (fun ls hl => ?_)
  refine lv_iconst (v := 0) hx hb dL_law_16 (by decide) ?_
  refine lv_istore_n (lv' := [(3, .int (nI (5 * 0))), (2, .ref (adM 0)), (1, .ref (adX 0)), (0, .ref b)]) hx hb dL_law_17 rfl hl (by decide) rfl (fun ls hl => ?_)
  exact law_loop l C0 hL hK rfl (L + 1) 0 0 115 adX enX enM (fun _ _ => 0) H1 _ ls (by omega) (by omega) (by omega) rfl hLX hLM ⟨(RLX_new (SR_new (fun j hj => by rw [hxs j hj]; rfl) (fun j hj => by obtain ⟨g, e9, hg⟩ := hm3; rw [e9]; exact hg j hj)) ⟨by rw [hx1, hm0]; rfl, by rw [hx1, hm0]; rfl, by rw [hx1, hm0]; rfl⟩ (by rw [hx1]; rfl) (fun i hi => ⟨by obtain ⟨g, e9, hg⟩ := hx10; rw [e9]; exact hg i hi, by rw [hm2]; rfl⟩) (by unfold HR; rw [hx76, hm0]; rfl) (by rw [hx0]; rfl) (by rw [hm0]; rfl)), LNX_0 (by rw [hx12]; rfl) (fun m hm => by rw [hxv m (by omega)]; rfl)⟩ ⟨hPX, hDX, hPM, hDM, hdis, hS⟩ hl
