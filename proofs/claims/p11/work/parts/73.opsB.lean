set_option maxHeartbeats 4000000 in
set_option maxRecDepth 100000 in
/-- the law at join -/
theorem op_15 {p : Program} {e : Env} {s : State} {m : MethodId} {below : List Frame} {meth : Method} {c : Code} (l : Launch) {b L : Nat} {xs : Nat → Int32} (C0 : lw_At p s m meth c b L xs) (hL : L ≤ 2560) {D : va_G} {cy : Nat → ClassId} (hK : va_K D vwCl (tyl cy) s) {x y j z n : Nat} {aX aM : Nat → Nat} {eX eM : Nat → va_E} {F : Nat → Nat → Int32} {H : Heap} {locs : List Loc} {ls : Array Slot} (hj : 5 * j + 5 ≤ L) (hz : z ≤ 1) (hx0 : aX 0 = x) (hy0 : aM 0 = y) (hX0 : LIX cy z n aX eX F) (hM0 : LIM cy aM eM) (hRL : RLN9 F eX eM) (hW : LW2 D s (List.range n) aX eX (List.range 20) aM eM H locs) (hl : lv_has ls 4 [(3, .int (nI (5 * j))), (2, .ref y), (1, .ref x), (0, .ref b)]) (kk : ∀ (z1 n1 : Nat) (aX1 : Nat → Nat) (eX1 eM1 : Nat → va_E) (F1 : Nat → Nat → Int32) (H1 : Heap) (locs1 : List Loc) (ls1 : Array Slot), z1 ≤ 1 → aX1 0 = x → LIX cy z1 n1 aX1 eX1 F1 → LIM cy aM eM1 → RLN9 F1 eX1 eM1 → LW2 D s (List.range n1) aX1 eX1 (List.range 20) aM eM1 H1 locs1 → lv_has ls1 4 [(3, .int (nI (5 * j))), (2, .ref y), (1, .ref x), (0, .ref b)] → W p l e room_1 s m #[Value.ref b] below meth c H1 locs1 (137 + 2 * j + 3 * z1) (27799 + 12 * j + 24096 * z1) (lw_Z below #[Value.ref b] s) (F0 m 1164 ls1 [])) : W p l e room_1 s m #[Value.ref b] below meth c H locs (135 + 2 * j + 3 * z) (27787 + 12 * j + 24096 * z) (lw_Z below #[Value.ref b] s) (F0 m 709 ls []) := by
  obtain ⟨hx, hb, hr, hml, hown, hts, hXs, hbl, hlocks, hgv⟩ := id C0
  have ht : ∀ w ∈ TB, w.before #[Value.ref b] s = true := fun w h => hts w (TB_lw h)
  have hXW := XW_law hts
  have hbA : ¬ (AL s) b := Nat.not_le.mpr hbl
  subst hx0
  subst hy0
  have hn115 := hX0.1
  have hXo := hX0
  have hR := hRL.1
  have hLN := hRL.2
  refine lv_aload_n hx hb dL_law_709 rfl (lv_at hl 2 rfl) ?_
  refine lv_aload_n hx hb dL_law_710 rfl (lv_at hl 3 rfl) ?_
  refine lv_iload_n hx hb dL_law_711 rfl (lv_at hl 0 rfl) ?_
  refine lv_iconst (v := 1) hx hb dL_law_712 (by decide) ?_
  refine lv_iadd hx hb dL_law_713 ?_
  rw [show (1 : Int32) = nI 1 from rfl, nI_add (5 * j) 1]
  refine va_sld hx hb hXs hbl hbA hW.2.2.2.2.2 (i := nI ((5 * j) + 1)) (vp_in_nI (n := ((5 * j) + 1)) (by omega) (by omega)) dL_law_714 ?_
  rw [nI_clamp (n := ((5 * j) + 1)) (by omega)]
  refine lv_aload_n hx hb dL_law_715 rfl (lv_at hl 3 rfl) ?_
  refine lv_iload_n hx hb dL_law_716 rfl (lv_at hl 0 rfl) ?_
  refine lv_iconst (v := 2) hx hb dL_law_717 (by decide) ?_
  refine lv_iadd hx hb dL_law_718 ?_
  rw [show (2 : Int32) = nI 2 from rfl, nI_add (5 * j) 2]
  refine va_sld hx hb hXs hbl hbA hW.2.2.2.2.2 (i := nI ((5 * j) + 2)) (vp_in_nI (n := ((5 * j) + 2)) (by omega) (by omega)) dL_law_719 ?_
  rw [nI_clamp (n := ((5 * j) + 2)) (by omega)]
  obtain ⟨wc_38, lf_38, x0_38, -⟩ := get_A hX0.2.1
  refine lw_Mi (va_runV (As := [.int (xs ((5 * j) + 1)), .int (xs ((5 * j) + 2))]) (rest := []) ⟨hx, hb, hml, hown, ht⟩ (c_X11_join l D cy _ (List.range n) aX eX hX0.2.1 (xs ((5 * j) + 1)) (xs ((5 * j) + 2)) hX0.2.2.2.2) (kw_X11_join ht tw_699 ⟨(Nat.le_of_ble_eq_true rfl), (Nat.le_of_ble_eq_true rfl)⟩) (preV_of hW.hp hK (List.mem_range.mpr (by omega)) x0_38 rfl) rfl rfl hl.1 rfl (lv_room (Nat.le_of_ble_eq_true rfl)) dL_law_720 ⟨by show 135 + 2 * j + 3 * z + 0 ≤ 600000; omega, by show 27787 + 12 * j + 24096 * z + 0 ≤ 7302250; omega⟩) hW (fun r_38 H locs en_38 hw_38 hW9 => ?_)
  have hW := hW9
  obtain ⟨hs_38, hu_38, hxs_38⟩ := hw_38
  have hX_38 : LIX cy z n aX en_38 F := ⟨hX0.1, hs_38, TXF_keep hX0.2.2.1 (fun c hc => hu_38 c (by omega)), CPz_keep hX0.2.2.2.1 (fun c hc => hu_38 c (by omega)), WK_WX hX0.2.2.2.2 (WK_of hxs_38.2)⟩
  have hX0 := hX_38
  refine lv_pop hx hb dL_law_723 rfl ?_
  refine lv_aload_n hx hb dL_law_724 rfl (lv_at hl 1 rfl) ?_
  refine lv_aload_n hx hb dL_law_725 rfl (lv_at hl 3 rfl) ?_
  refine lv_iload_n hx hb dL_law_726 rfl (lv_at hl 0 rfl) ?_
  refine lv_iconst (v := 1) hx hb dL_law_727 (by decide) ?_
  refine lv_iadd hx hb dL_law_728 ?_
  rw [show (1 : Int32) = nI 1 from rfl, nI_add (5 * j) 1]
  refine va_sld hx hb hXs hbl hbA hW.2.2.2.2.2 (i := nI ((5 * j) + 1)) (vp_in_nI (n := ((5 * j) + 1)) (by omega) (by omega)) dL_law_729 ?_
  rw [nI_clamp (n := ((5 * j) + 1)) (by omega)]
  refine lv_aload_n hx hb dL_law_730 rfl (lv_at hl 3 rfl) ?_
  refine lv_iload_n hx hb dL_law_731 rfl (lv_at hl 0 rfl) ?_
  refine lv_iconst (v := 2) hx hb dL_law_732 (by decide) ?_
  refine lv_iadd hx hb dL_law_733 ?_
  rw [show (2 : Int32) = nI 2 from rfl, nI_add (5 * j) 2]
  refine va_sld hx hb hXs hbl hbA hW.2.2.2.2.2 (i := nI ((5 * j) + 2)) (vp_in_nI (n := ((5 * j) + 2)) (by omega) (by omega)) dL_law_734 ?_
  rw [nI_clamp (n := ((5 * j) + 2)) (by omega)]
  obtain ⟨_, _, _, _, _, _, _, _, _, _, _, _, _, _, x0_39, -⟩ := getr_M hM0.1
  refine lw_Mi (va_runV (As := [.int (xs ((5 * j) + 1)), .int (xs ((5 * j) + 2))]) (rest := []) ⟨hx, hb, hml, hown, ht⟩ (c_X12_join l D cy _ (List.range 20) aM eM hM0.1 (xs ((5 * j) + 1)) (xs ((5 * j) + 2)) hM0.2.1) (kw_X12_join ht tw_1171 ⟨(Nat.le_of_ble_eq_true rfl), (Nat.le_of_ble_eq_true rfl)⟩) (preV_of hW.sy.hp hK (List.mem_range.mpr (by decide)) x0_39 rfl) rfl rfl hl.1 rfl (lv_room (Nat.le_of_ble_eq_true rfl)) dL_law_735 ⟨by show 135 + 2 * j + 3 * z + 0 ≤ 600000; omega, by show 27787 + 12 * j + 24096 * z + 0 ≤ 7302250; omega⟩) hW.sy (fun r_39 H locs en_39 hw_39 hW9 => ?_)
  have hW := hW9.sy
  obtain ⟨hs_39, hu_39, hrw_39, hkp_39, hms_39⟩ := hw_39
  have hM_39 : LIM cy aM en_39 := ⟨hs_39, hrw_39, CHX_keep hM0.2.2 hkp_39.2.2.2.2 (hu_39 16 (by omega)) (hu_39 17 (by omega))⟩
  have hM0 := hM_39
  refine lv_pop hx hb dL_law_738 rfl ?_
  refine lv_goto (tgt := 1164) hx hb dL_law_739 (by decide) ?_
  refine W.widen (k := 137 + 2 * j + 3 * z) (n := 27799 + 12 * j + 24096 * z) (by omega) (by omega) ?_
  exact kk z n aX en_38 en_39 F _ _ ls (by omega) rfl hX_38 hM_39 ⟨(RLX_w hR (join_rel hXo.2.1 hR.2.2.2.2.1 hxs_38 hms_39).2 (RWP_join hXo.2.1 hR.2.2.2.2.2.2 hxs_38) (fun c hc => hu_38 c (by omega)) hkp_39 (fun c hc => hu_39 c (by omega))), (LNX_f hLN (fun c h1 h2 h3 => hu_38 c (by omega)))⟩ hW (lv_sub hl [0, 1, 2, 3] rfl)
set_option maxHeartbeats 4000000 in
set_option maxRecDepth 100000 in
/-- the law at letter -/
theorem op_16 {p : Program} {e : Env} {s : State} {m : MethodId} {below : List Frame} {meth : Method} {c : Code} (l : Launch) {b L : Nat} {xs : Nat → Int32} (C0 : lw_At p s m meth c b L xs) (hL : L ≤ 2560) {D : va_G} {cy : Nat → ClassId} (hK : va_K D vwCl (tyl cy) s) {x y j z n : Nat} {aX aM : Nat → Nat} {eX eM : Nat → va_E} {F : Nat → Nat → Int32} {H : Heap} {locs : List Loc} {ls : Array Slot} (hj : 5 * j + 5 ≤ L) (hz : z ≤ 1) (hx0 : aX 0 = x) (hy0 : aM 0 = y) (hX0 : LIX cy z n aX eX F) (hM0 : LIM cy aM eM) (hRL : RLN9 F eX eM) (hW : LW2 D s (List.range n) aX eX (List.range 20) aM eM H locs) (hl : lv_has ls 4 [(3, .int (nI (5 * j))), (2, .ref y), (1, .ref x), (0, .ref b)]) (kk : ∀ (z1 n1 : Nat) (aX1 : Nat → Nat) (eX1 eM1 : Nat → va_E) (F1 : Nat → Nat → Int32) (H1 : Heap) (locs1 : List Loc) (ls1 : Array Slot), z1 ≤ 1 → aX1 0 = x → LIX cy z1 n1 aX1 eX1 F1 → LIM cy aM eM1 → RLN9 F1 eX1 eM1 → LW2 D s (List.range n1) aX1 eX1 (List.range 20) aM eM1 H1 locs1 → lv_has ls1 4 [(3, .int (nI (5 * j))), (2, .ref y), (1, .ref x), (0, .ref b)] → W p l e room_1 s m #[Value.ref b] below meth c H1 locs1 (137 + 2 * j + 3 * z1) (27799 + 12 * j + 24096 * z1) (lw_Z below #[Value.ref b] s) (F0 m 1164 ls1 [])) : W p l e room_1 s m #[Value.ref b] below meth c H locs (135 + 2 * j + 3 * z) (27787 + 12 * j + 24096 * z) (lw_Z below #[Value.ref b] s) (F0 m 742 ls []) := by
  obtain ⟨hx, hb, hr, hml, hown, hts, hXs, hbl, hlocks, hgv⟩ := id C0
  have ht : ∀ w ∈ TB, w.before #[Value.ref b] s = true := fun w h => hts w (TB_lw h)
  have hXW := XW_law hts
  have hbA : ¬ (AL s) b := Nat.not_le.mpr hbl
  subst hx0
  subst hy0
  have hn115 := hX0.1
  have hXo := hX0
  have hR := hRL.1
  have hLN := hRL.2
  refine lv_aload_n hx hb dL_law_742 rfl (lv_at hl 2 rfl) ?_
  refine lv_aload_n hx hb dL_law_743 rfl (lv_at hl 3 rfl) ?_
  refine lv_iload_n hx hb dL_law_744 rfl (lv_at hl 0 rfl) ?_
  refine lv_iconst (v := 1) hx hb dL_law_745 (by decide) ?_
  refine lv_iadd hx hb dL_law_746 ?_
  rw [show (1 : Int32) = nI 1 from rfl, nI_add (5 * j) 1]
  refine va_sld hx hb hXs hbl hbA hW.2.2.2.2.2 (i := nI ((5 * j) + 1)) (vp_in_nI (n := ((5 * j) + 1)) (by omega) (by omega)) dL_law_747 ?_
  rw [nI_clamp (n := ((5 * j) + 1)) (by omega)]
  refine lv_aload_n hx hb dL_law_748 rfl (lv_at hl 3 rfl) ?_
  refine lv_iload_n hx hb dL_law_749 rfl (lv_at hl 0 rfl) ?_
  refine lv_iconst (v := 2) hx hb dL_law_750 (by decide) ?_
  refine lv_iadd hx hb dL_law_751 ?_
  rw [show (2 : Int32) = nI 2 from rfl, nI_add (5 * j) 2]
  refine va_sld hx hb hXs hbl hbA hW.2.2.2.2.2 (i := nI ((5 * j) + 2)) (vp_in_nI (n := ((5 * j) + 2)) (by omega) (by omega)) dL_law_752 ?_
  rw [nI_clamp (n := ((5 * j) + 2)) (by omega)]
  obtain ⟨wc_40, lf_40, x0_40, -⟩ := get_A hX0.2.1
  refine lw_Ri (va_runV (As := [.int (xs ((5 * j) + 1)), .int (xs ((5 * j) + 2))]) (rest := []) ⟨hx, hb, hml, hown, ht⟩ (c_X11_letter l D cy _ (List.range n) aX eX hX0.2.1 (xs ((5 * j) + 1)) (xs ((5 * j) + 2)) ) (kw_X11_letter ht tw_712 ⟨(Nat.le_of_ble_eq_true rfl), (Nat.le_of_ble_eq_true rfl)⟩) (preV_of hW.hp hK (List.mem_range.mpr (by omega)) x0_40 rfl) rfl rfl hl.1 rfl (lv_room (Nat.le_of_ble_eq_true rfl)) dL_law_753 ⟨by show 135 + 2 * j + 3 * z + 0 ≤ 600000; omega, by show 27787 + 12 * j + 24096 * z + 0 ≤ 7302250; omega⟩) hW (fun r_40 H locs hw_40 hW9 => ?_)
  have hW := hW9
  refine lv_pop hx hb dL_law_756 rfl ?_
  refine lv_aload_n hx hb dL_law_757 rfl (lv_at hl 1 rfl) ?_
  refine lv_aload_n hx hb dL_law_758 rfl (lv_at hl 3 rfl) ?_
  refine lv_iload_n hx hb dL_law_759 rfl (lv_at hl 0 rfl) ?_
  refine lv_iconst (v := 1) hx hb dL_law_760 (by decide) ?_
  refine lv_iadd hx hb dL_law_761 ?_
  rw [show (1 : Int32) = nI 1 from rfl, nI_add (5 * j) 1]
  refine va_sld hx hb hXs hbl hbA hW.2.2.2.2.2 (i := nI ((5 * j) + 1)) (vp_in_nI (n := ((5 * j) + 1)) (by omega) (by omega)) dL_law_762 ?_
  rw [nI_clamp (n := ((5 * j) + 1)) (by omega)]
  refine lv_aload_n hx hb dL_law_763 rfl (lv_at hl 3 rfl) ?_
  refine lv_iload_n hx hb dL_law_764 rfl (lv_at hl 0 rfl) ?_
  refine lv_iconst (v := 2) hx hb dL_law_765 (by decide) ?_
  refine lv_iadd hx hb dL_law_766 ?_
  rw [show (2 : Int32) = nI 2 from rfl, nI_add (5 * j) 2]
  refine va_sld hx hb hXs hbl hbA hW.2.2.2.2.2 (i := nI ((5 * j) + 2)) (vp_in_nI (n := ((5 * j) + 2)) (by omega) (by omega)) dL_law_767 ?_
  rw [nI_clamp (n := ((5 * j) + 2)) (by omega)]
  obtain ⟨_, _, _, _, _, _, _, _, _, _, _, _, _, _, x0_41, -⟩ := getr_M hM0.1
  refine lw_Ri (va_runV (As := [.int (xs ((5 * j) + 1)), .int (xs ((5 * j) + 2))]) (rest := []) ⟨hx, hb, hml, hown, ht⟩ (c_X12_letter l D cy _ (List.range 20) aM eM hM0.1 (xs ((5 * j) + 1)) (xs ((5 * j) + 2)) ) (kw_X12_letter ht tw_1179 ⟨(Nat.le_of_ble_eq_true rfl), (Nat.le_of_ble_eq_true rfl)⟩) (preV_of hW.sy.hp hK (List.mem_range.mpr (by decide)) x0_41 rfl) rfl rfl hl.1 rfl (lv_room (Nat.le_of_ble_eq_true rfl)) dL_law_768 ⟨by show 135 + 2 * j + 3 * z + 0 ≤ 600000; omega, by show 27787 + 12 * j + 24096 * z + 0 ≤ 7302250; omega⟩) hW.sy (fun r_41 H locs hw_41 hW9 => ?_)
  have hW := hW9.sy
  refine lv_pop hx hb dL_law_771 rfl ?_
  refine lv_goto (tgt := 1164) hx hb dL_law_772 (by decide) ?_
  refine W.widen (k := 137 + 2 * j + 3 * z) (n := 27799 + 12 * j + 24096 * z) (by omega) (by omega) ?_
  exact kk z n aX eX eM F _ _ ls (by omega) rfl hX0 hM0 ⟨(RLX_keep hR (XK_rf _) (MK_rf _)), hLN⟩ hW (lv_sub hl [0, 1, 2, 3] rfl)
set_option maxHeartbeats 4000000 in
set_option maxRecDepth 100000 in
/-- the law at about -/
theorem op_17 {p : Program} {e : Env} {s : State} {m : MethodId} {below : List Frame} {meth : Method} {c : Code} (l : Launch) {b L : Nat} {xs : Nat → Int32} (C0 : lw_At p s m meth c b L xs) (hL : L ≤ 2560) {D : va_G} {cy : Nat → ClassId} (hK : va_K D vwCl (tyl cy) s) {x y j z n : Nat} {aX aM : Nat → Nat} {eX eM : Nat → va_E} {F : Nat → Nat → Int32} {H : Heap} {locs : List Loc} {ls : Array Slot} (hj : 5 * j + 5 ≤ L) (hz : z ≤ 1) (hx0 : aX 0 = x) (hy0 : aM 0 = y) (hX0 : LIX cy z n aX eX F) (hM0 : LIM cy aM eM) (hRL : RLN9 F eX eM) (hW : LW2 D s (List.range n) aX eX (List.range 20) aM eM H locs) (hl : lv_has ls 4 [(3, .int (nI (5 * j))), (2, .ref y), (1, .ref x), (0, .ref b)]) (kk : ∀ (z1 n1 : Nat) (aX1 : Nat → Nat) (eX1 eM1 : Nat → va_E) (F1 : Nat → Nat → Int32) (H1 : Heap) (locs1 : List Loc) (ls1 : Array Slot), z1 ≤ 1 → aX1 0 = x → LIX cy z1 n1 aX1 eX1 F1 → LIM cy aM eM1 → RLN9 F1 eX1 eM1 → LW2 D s (List.range n1) aX1 eX1 (List.range 20) aM eM1 H1 locs1 → lv_has ls1 4 [(3, .int (nI (5 * j))), (2, .ref y), (1, .ref x), (0, .ref b)] → W p l e room_1 s m #[Value.ref b] below meth c H1 locs1 (137 + 2 * j + 3 * z1) (27799 + 12 * j + 24096 * z1) (lw_Z below #[Value.ref b] s) (F0 m 1164 ls1 [])) : W p l e room_1 s m #[Value.ref b] below meth c H locs (135 + 2 * j + 3 * z) (27787 + 12 * j + 24096 * z) (lw_Z below #[Value.ref b] s) (F0 m 775 ls []) := by
  obtain ⟨hx, hb, hr, hml, hown, hts, hXs, hbl, hlocks, hgv⟩ := id C0
  have ht : ∀ w ∈ TB, w.before #[Value.ref b] s = true := fun w h => hts w (TB_lw h)
  have hXW := XW_law hts
  have hbA : ¬ (AL s) b := Nat.not_le.mpr hbl
  subst hx0
  subst hy0
  have hn115 := hX0.1
  have hXo := hX0
  have hR := hRL.1
  have hLN := hRL.2
  refine lv_aload_n hx hb dL_law_775 rfl (lv_at hl 2 rfl) ?_
  refine lv_aload_n hx hb dL_law_776 rfl (lv_at hl 3 rfl) ?_
  refine lv_iload_n hx hb dL_law_777 rfl (lv_at hl 0 rfl) ?_
  refine lv_iconst (v := 1) hx hb dL_law_778 (by decide) ?_
  refine lv_iadd hx hb dL_law_779 ?_
  rw [show (1 : Int32) = nI 1 from rfl, nI_add (5 * j) 1]
  refine va_sld hx hb hXs hbl hbA hW.2.2.2.2.2 (i := nI ((5 * j) + 1)) (vp_in_nI (n := ((5 * j) + 1)) (by omega) (by omega)) dL_law_780 ?_
  rw [nI_clamp (n := ((5 * j) + 1)) (by omega)]
  refine lv_aload_n hx hb dL_law_781 rfl (lv_at hl 3 rfl) ?_
  refine lv_iload_n hx hb dL_law_782 rfl (lv_at hl 0 rfl) ?_
  refine lv_iconst (v := 2) hx hb dL_law_783 (by decide) ?_
  refine lv_iadd hx hb dL_law_784 ?_
  rw [show (2 : Int32) = nI 2 from rfl, nI_add (5 * j) 2]
  refine va_sld hx hb hXs hbl hbA hW.2.2.2.2.2 (i := nI ((5 * j) + 2)) (vp_in_nI (n := ((5 * j) + 2)) (by omega) (by omega)) dL_law_785 ?_
  rw [nI_clamp (n := ((5 * j) + 2)) (by omega)]
  obtain ⟨wc_42, lf_42, x0_42, -⟩ := get_A hX0.2.1
  refine lw_Ri (va_runV (As := [.int (xs ((5 * j) + 1)), .int (xs ((5 * j) + 2))]) (rest := []) ⟨hx, hb, hml, hown, ht⟩ (c_X11_about l D cy _ (List.range n) aX eX hX0.2.1 (xs ((5 * j) + 1)) (xs ((5 * j) + 2)) hX0.2.2.2.2) (kw_X11_about ht tw_716 ⟨(Nat.le_of_ble_eq_true rfl), (Nat.le_of_ble_eq_true rfl)⟩) (preV_of hW.hp hK (List.mem_range.mpr (by omega)) x0_42 rfl) rfl rfl hl.1 rfl (lv_room (Nat.le_of_ble_eq_true rfl)) dL_law_786 ⟨by show 135 + 2 * j + 3 * z + 0 ≤ 600000; omega, by show 27787 + 12 * j + 24096 * z + 0 ≤ 7302250; omega⟩) hW (fun r_42 H locs hw_42 hW9 => ?_)
  have hW := hW9
  refine lv_pop hx hb dL_law_789 rfl ?_
  refine lv_aload_n hx hb dL_law_790 rfl (lv_at hl 1 rfl) ?_
  refine lv_aload_n hx hb dL_law_791 rfl (lv_at hl 3 rfl) ?_
  refine lv_iload_n hx hb dL_law_792 rfl (lv_at hl 0 rfl) ?_
  refine lv_iconst (v := 1) hx hb dL_law_793 (by decide) ?_
  refine lv_iadd hx hb dL_law_794 ?_
  rw [show (1 : Int32) = nI 1 from rfl, nI_add (5 * j) 1]
  refine va_sld hx hb hXs hbl hbA hW.2.2.2.2.2 (i := nI ((5 * j) + 1)) (vp_in_nI (n := ((5 * j) + 1)) (by omega) (by omega)) dL_law_795 ?_
  rw [nI_clamp (n := ((5 * j) + 1)) (by omega)]
  refine lv_aload_n hx hb dL_law_796 rfl (lv_at hl 3 rfl) ?_
  refine lv_iload_n hx hb dL_law_797 rfl (lv_at hl 0 rfl) ?_
  refine lv_iconst (v := 2) hx hb dL_law_798 (by decide) ?_
  refine lv_iadd hx hb dL_law_799 ?_
  rw [show (2 : Int32) = nI 2 from rfl, nI_add (5 * j) 2]
  refine va_sld hx hb hXs hbl hbA hW.2.2.2.2.2 (i := nI ((5 * j) + 2)) (vp_in_nI (n := ((5 * j) + 2)) (by omega) (by omega)) dL_law_800 ?_
  rw [nI_clamp (n := ((5 * j) + 2)) (by omega)]
  obtain ⟨_, _, _, _, _, _, _, _, _, _, _, _, _, _, x0_43, -⟩ := getr_M hM0.1
  refine lw_Mi (va_runV (As := [.int (xs ((5 * j) + 1)), .int (xs ((5 * j) + 2))]) (rest := []) ⟨hx, hb, hml, hown, ht⟩ (c_X12_about l D cy _ (List.range 20) aM eM hM0.1 (xs ((5 * j) + 1)) (xs ((5 * j) + 2)) hM0.2.1) (kw_X12_about ht tw_1183 ⟨(Nat.le_of_ble_eq_true rfl), (Nat.le_of_ble_eq_true rfl)⟩) (preV_of hW.sy.hp hK (List.mem_range.mpr (by decide)) x0_43 rfl) rfl rfl hl.1 rfl (lv_room (Nat.le_of_ble_eq_true rfl)) dL_law_801 ⟨by show 135 + 2 * j + 3 * z + 0 ≤ 600000; omega, by show 27787 + 12 * j + 24096 * z + 0 ≤ 7302250; omega⟩) hW.sy (fun r_43 H locs en_43 hw_43 hW9 => ?_)
  have hW := hW9.sy
  obtain ⟨hs_43, hu_43, hms_43⟩ := hw_43
  have hM_43 := LIM_k hM0 hs_43 (congrArg (fun x => rdI x 25) (hu_43 0 (by omega))) (congrArg (fun x => rdI x 30) (hu_43 0 (by omega))) (fun c hc => hu_43 c (by omega))
  have hM0 := hM_43
  refine lv_pop hx hb dL_law_804 rfl ?_
  refine lv_goto (tgt := 1164) hx hb dL_law_805 (by decide) ?_
  refine W.widen (k := 137 + 2 * j + 3 * z) (n := 27799 + 12 * j + 24096 * z) (by omega) (by omega) ?_
  exact kk z n aX eX en_43 F _ _ ls (by omega) rfl hX0 hM_43 ⟨(RLX_keep hR (XK_rf _) (MK_0 (hu_43 0 (by omega)) (fun c hc => hu_43 c (by omega)))), hLN⟩ hW (lv_sub hl [0, 1, 2, 3] rfl)
set_option maxHeartbeats 4000000 in
set_option maxRecDepth 100000 in
/-- the law at entryOf -/
theorem op_18 {p : Program} {e : Env} {s : State} {m : MethodId} {below : List Frame} {meth : Method} {c : Code} (l : Launch) {b L : Nat} {xs : Nat → Int32} (C0 : lw_At p s m meth c b L xs) (hL : L ≤ 2560) {D : va_G} {cy : Nat → ClassId} (hK : va_K D vwCl (tyl cy) s) {x y j z n : Nat} {aX aM : Nat → Nat} {eX eM : Nat → va_E} {F : Nat → Nat → Int32} {H : Heap} {locs : List Loc} {ls : Array Slot} (hj : 5 * j + 5 ≤ L) (hz : z ≤ 1) (hx0 : aX 0 = x) (hy0 : aM 0 = y) (hX0 : LIX cy z n aX eX F) (hM0 : LIM cy aM eM) (hRL : RLN9 F eX eM) (hW : LW2 D s (List.range n) aX eX (List.range 20) aM eM H locs) (hl : lv_has ls 4 [(3, .int (nI (5 * j))), (2, .ref y), (1, .ref x), (0, .ref b)]) (kk : ∀ (z1 n1 : Nat) (aX1 : Nat → Nat) (eX1 eM1 : Nat → va_E) (F1 : Nat → Nat → Int32) (H1 : Heap) (locs1 : List Loc) (ls1 : Array Slot), z1 ≤ 1 → aX1 0 = x → LIX cy z1 n1 aX1 eX1 F1 → LIM cy aM eM1 → RLN9 F1 eX1 eM1 → LW2 D s (List.range n1) aX1 eX1 (List.range 20) aM eM1 H1 locs1 → lv_has ls1 4 [(3, .int (nI (5 * j))), (2, .ref y), (1, .ref x), (0, .ref b)] → W p l e room_1 s m #[Value.ref b] below meth c H1 locs1 (137 + 2 * j + 3 * z1) (27799 + 12 * j + 24096 * z1) (lw_Z below #[Value.ref b] s) (F0 m 1164 ls1 [])) : W p l e room_1 s m #[Value.ref b] below meth c H locs (135 + 2 * j + 3 * z) (27787 + 12 * j + 24096 * z) (lw_Z below #[Value.ref b] s) (F0 m 808 ls []) := by
  obtain ⟨hx, hb, hr, hml, hown, hts, hXs, hbl, hlocks, hgv⟩ := id C0
  have ht : ∀ w ∈ TB, w.before #[Value.ref b] s = true := fun w h => hts w (TB_lw h)
  have hXW := XW_law hts
  have hbA : ¬ (AL s) b := Nat.not_le.mpr hbl
  subst hx0
  subst hy0
  have hn115 := hX0.1
  have hXo := hX0
  have hR := hRL.1
  have hLN := hRL.2
  refine lv_aload_n hx hb dL_law_808 rfl (lv_at hl 2 rfl) ?_
  refine lv_aload_n hx hb dL_law_809 rfl (lv_at hl 3 rfl) ?_
  refine lv_iload_n hx hb dL_law_810 rfl (lv_at hl 0 rfl) ?_
  refine lv_iconst (v := 1) hx hb dL_law_811 (by decide) ?_
  refine lv_iadd hx hb dL_law_812 ?_
  rw [show (1 : Int32) = nI 1 from rfl, nI_add (5 * j) 1]
  refine va_sld hx hb hXs hbl hbA hW.2.2.2.2.2 (i := nI ((5 * j) + 1)) (vp_in_nI (n := ((5 * j) + 1)) (by omega) (by omega)) dL_law_813 ?_
  rw [nI_clamp (n := ((5 * j) + 1)) (by omega)]
  refine lv_aload_n hx hb dL_law_814 rfl (lv_at hl 3 rfl) ?_
  refine lv_iload_n hx hb dL_law_815 rfl (lv_at hl 0 rfl) ?_
  refine lv_iconst (v := 2) hx hb dL_law_816 (by decide) ?_
  refine lv_iadd hx hb dL_law_817 ?_
  rw [show (2 : Int32) = nI 2 from rfl, nI_add (5 * j) 2]
  refine va_sld hx hb hXs hbl hbA hW.2.2.2.2.2 (i := nI ((5 * j) + 2)) (vp_in_nI (n := ((5 * j) + 2)) (by omega) (by omega)) dL_law_818 ?_
  rw [nI_clamp (n := ((5 * j) + 2)) (by omega)]
  refine lv_aload_n hx hb dL_law_819 rfl (lv_at hl 3 rfl) ?_
  refine lv_iload_n hx hb dL_law_820 rfl (lv_at hl 0 rfl) ?_
  refine lv_iconst (v := 3) hx hb dL_law_821 (by decide) ?_
  refine lv_iadd hx hb dL_law_822 ?_
  rw [show (3 : Int32) = nI 3 from rfl, nI_add (5 * j) 3]
  refine va_sld hx hb hXs hbl hbA hW.2.2.2.2.2 (i := nI ((5 * j) + 3)) (vp_in_nI (n := ((5 * j) + 3)) (by omega) (by omega)) dL_law_823 ?_
  rw [nI_clamp (n := ((5 * j) + 3)) (by omega)]
  obtain ⟨wc_44, lf_44, x0_44, -⟩ := get_A hX0.2.1
  refine lw_Rl (va_runV (As := [.int (xs ((5 * j) + 1)), .int (xs ((5 * j) + 2)), .int (xs ((5 * j) + 3))]) (rest := []) ⟨hx, hb, hml, hown, ht⟩ (c_X11_entryOf l D cy _ (List.range n) aX eX hX0.2.1 (xs ((5 * j) + 1)) (xs ((5 * j) + 2)) (xs ((5 * j) + 3)) ) (kw_X11_entryOf ht tw_736 ⟨(Nat.le_of_ble_eq_true rfl), (Nat.le_of_ble_eq_true rfl)⟩) (preV_of hW.hp hK (List.mem_range.mpr (by omega)) x0_44 rfl) rfl rfl hl.1 rfl (lv_room (Nat.le_of_ble_eq_true rfl)) dL_law_824 ⟨by show 135 + 2 * j + 3 * z + 0 ≤ 600000; omega, by show 27787 + 12 * j + 24096 * z + 0 ≤ 7302250; omega⟩) hW (fun r_44 H locs hw_44 hW9 => ?_)
  have hW := hW9
  refine lv_pop2_2 hx hb dL_law_827 rfl ?_
  refine lv_aload_n hx hb dL_law_828 rfl (lv_at hl 1 rfl) ?_
  refine lv_aload_n hx hb dL_law_829 rfl (lv_at hl 3 rfl) ?_
  refine lv_iload_n hx hb dL_law_830 rfl (lv_at hl 0 rfl) ?_
  refine lv_iconst (v := 1) hx hb dL_law_831 (by decide) ?_
  refine lv_iadd hx hb dL_law_832 ?_
  rw [show (1 : Int32) = nI 1 from rfl, nI_add (5 * j) 1]
  refine va_sld hx hb hXs hbl hbA hW.2.2.2.2.2 (i := nI ((5 * j) + 1)) (vp_in_nI (n := ((5 * j) + 1)) (by omega) (by omega)) dL_law_833 ?_
  rw [nI_clamp (n := ((5 * j) + 1)) (by omega)]
  refine lv_aload_n hx hb dL_law_834 rfl (lv_at hl 3 rfl) ?_
  refine lv_iload_n hx hb dL_law_835 rfl (lv_at hl 0 rfl) ?_
  refine lv_iconst (v := 2) hx hb dL_law_836 (by decide) ?_
  refine lv_iadd hx hb dL_law_837 ?_
  rw [show (2 : Int32) = nI 2 from rfl, nI_add (5 * j) 2]
  refine va_sld hx hb hXs hbl hbA hW.2.2.2.2.2 (i := nI ((5 * j) + 2)) (vp_in_nI (n := ((5 * j) + 2)) (by omega) (by omega)) dL_law_838 ?_
  rw [nI_clamp (n := ((5 * j) + 2)) (by omega)]
  refine lv_aload_n hx hb dL_law_839 rfl (lv_at hl 3 rfl) ?_
  refine lv_iload_n hx hb dL_law_840 rfl (lv_at hl 0 rfl) ?_
  refine lv_iconst (v := 3) hx hb dL_law_841 (by decide) ?_
  refine lv_iadd hx hb dL_law_842 ?_
  rw [show (3 : Int32) = nI 3 from rfl, nI_add (5 * j) 3]
  refine va_sld hx hb hXs hbl hbA hW.2.2.2.2.2 (i := nI ((5 * j) + 3)) (vp_in_nI (n := ((5 * j) + 3)) (by omega) (by omega)) dL_law_843 ?_
  rw [nI_clamp (n := ((5 * j) + 3)) (by omega)]
  obtain ⟨_, _, _, _, _, _, _, _, _, _, _, _, _, _, x0_45, -⟩ := getr_M hM0.1
  refine lw_Ml (va_runV (As := [.int (xs ((5 * j) + 1)), .int (xs ((5 * j) + 2)), .int (xs ((5 * j) + 3))]) (rest := []) ⟨hx, hb, hml, hown, ht⟩ (c_X12_entryOf l D cy _ (List.range 20) aM eM hM0.1 (xs ((5 * j) + 1)) (xs ((5 * j) + 2)) (xs ((5 * j) + 3)) ) (kw_X12_entryOf ht tw_1187 ⟨(Nat.le_of_ble_eq_true rfl), (Nat.le_of_ble_eq_true rfl)⟩) (preV_of hW.sy.hp hK (List.mem_range.mpr (by decide)) x0_45 rfl) rfl rfl hl.1 rfl (lv_room (Nat.le_of_ble_eq_true rfl)) dL_law_844 ⟨by show 135 + 2 * j + 3 * z + 0 ≤ 600000; omega, by show 27787 + 12 * j + 24096 * z + 0 ≤ 7302250; omega⟩) hW.sy (fun r_45 H locs en_45 hw_45 hW9 => ?_)
  have hW := hW9.sy
  obtain ⟨hs_45, hu_45, hms_45⟩ := hw_45
  have hM_45 := LIM_k hM0 hs_45 (congrArg (fun x => rdI x 25) (hu_45 0 (by omega))) (congrArg (fun x => rdI x 30) (hu_45 0 (by omega))) (fun c hc => hu_45 c (by omega))
  have hM0 := hM_45
  refine lv_pop2_2 hx hb dL_law_847 rfl ?_
  refine lv_goto (tgt := 1164) hx hb dL_law_848 (by decide) ?_
  refine W.widen (k := 137 + 2 * j + 3 * z) (n := 27799 + 12 * j + 24096 * z) (by omega) (by omega) ?_
  exact kk z n aX eX en_45 F _ _ ls (by omega) rfl hX0 hM_45 ⟨(RLX_keep hR (XK_rf _) (MK_0 (hu_45 0 (by omega)) (fun c hc => hu_45 c (by omega)))), hLN⟩ hW (lv_sub hl [0, 1, 2, 3] rfl)
set_option maxHeartbeats 4000000 in
set_option maxRecDepth 100000 in
/-- the law at size -/
theorem op_19 {p : Program} {e : Env} {s : State} {m : MethodId} {below : List Frame} {meth : Method} {c : Code} (l : Launch) {b L : Nat} {xs : Nat → Int32} (C0 : lw_At p s m meth c b L xs) (hL : L ≤ 2560) {D : va_G} {cy : Nat → ClassId} (hK : va_K D vwCl (tyl cy) s) {x y j z n : Nat} {aX aM : Nat → Nat} {eX eM : Nat → va_E} {F : Nat → Nat → Int32} {H : Heap} {locs : List Loc} {ls : Array Slot} (hj : 5 * j + 5 ≤ L) (hz : z ≤ 1) (hx0 : aX 0 = x) (hy0 : aM 0 = y) (hX0 : LIX cy z n aX eX F) (hM0 : LIM cy aM eM) (hRL : RLN9 F eX eM) (hW : LW2 D s (List.range n) aX eX (List.range 20) aM eM H locs) (hl : lv_has ls 4 [(3, .int (nI (5 * j))), (2, .ref y), (1, .ref x), (0, .ref b)]) (kk : ∀ (z1 n1 : Nat) (aX1 : Nat → Nat) (eX1 eM1 : Nat → va_E) (F1 : Nat → Nat → Int32) (H1 : Heap) (locs1 : List Loc) (ls1 : Array Slot), z1 ≤ 1 → aX1 0 = x → LIX cy z1 n1 aX1 eX1 F1 → LIM cy aM eM1 → RLN9 F1 eX1 eM1 → LW2 D s (List.range n1) aX1 eX1 (List.range 20) aM eM1 H1 locs1 → lv_has ls1 4 [(3, .int (nI (5 * j))), (2, .ref y), (1, .ref x), (0, .ref b)] → W p l e room_1 s m #[Value.ref b] below meth c H1 locs1 (137 + 2 * j + 3 * z1) (27799 + 12 * j + 24096 * z1) (lw_Z below #[Value.ref b] s) (F0 m 1164 ls1 [])) : W p l e room_1 s m #[Value.ref b] below meth c H locs (135 + 2 * j + 3 * z) (27787 + 12 * j + 24096 * z) (lw_Z below #[Value.ref b] s) (F0 m 851 ls []) := by
  obtain ⟨hx, hb, hr, hml, hown, hts, hXs, hbl, hlocks, hgv⟩ := id C0
  have ht : ∀ w ∈ TB, w.before #[Value.ref b] s = true := fun w h => hts w (TB_lw h)
  have hXW := XW_law hts
  have hbA : ¬ (AL s) b := Nat.not_le.mpr hbl
  subst hx0
  subst hy0
  have hn115 := hX0.1
  have hXo := hX0
  have hR := hRL.1
  have hLN := hRL.2
  refine lv_aload_n hx hb dL_law_851 rfl (lv_at hl 2 rfl) ?_
  refine lv_aload_n hx hb dL_law_852 rfl (lv_at hl 3 rfl) ?_
  refine lv_iload_n hx hb dL_law_853 rfl (lv_at hl 0 rfl) ?_
  refine lv_iconst (v := 1) hx hb dL_law_854 (by decide) ?_
  refine lv_iadd hx hb dL_law_855 ?_
  rw [show (1 : Int32) = nI 1 from rfl, nI_add (5 * j) 1]
  refine va_sld hx hb hXs hbl hbA hW.2.2.2.2.2 (i := nI ((5 * j) + 1)) (vp_in_nI (n := ((5 * j) + 1)) (by omega) (by omega)) dL_law_856 ?_
  rw [nI_clamp (n := ((5 * j) + 1)) (by omega)]
  refine lv_aload_n hx hb dL_law_857 rfl (lv_at hl 3 rfl) ?_
  refine lv_iload_n hx hb dL_law_858 rfl (lv_at hl 0 rfl) ?_
  refine lv_iconst (v := 2) hx hb dL_law_859 (by decide) ?_
  refine lv_iadd hx hb dL_law_860 ?_
  rw [show (2 : Int32) = nI 2 from rfl, nI_add (5 * j) 2]
  refine va_sld hx hb hXs hbl hbA hW.2.2.2.2.2 (i := nI ((5 * j) + 2)) (vp_in_nI (n := ((5 * j) + 2)) (by omega) (by omega)) dL_law_861 ?_
  rw [nI_clamp (n := ((5 * j) + 2)) (by omega)]
  obtain ⟨wc_46, lf_46, x0_46, -⟩ := get_A hX0.2.1
  refine lw_Rl (va_runV (As := [.int (xs ((5 * j) + 1)), .int (xs ((5 * j) + 2))]) (rest := []) ⟨hx, hb, hml, hown, ht⟩ (c_X11_size l D cy _ (List.range n) aX eX hX0.2.1 (xs ((5 * j) + 1)) (xs ((5 * j) + 2)) ) (kw_X11_size ht tw_740 ⟨(Nat.le_of_ble_eq_true rfl), (Nat.le_of_ble_eq_true rfl)⟩) (preV_of hW.hp hK (List.mem_range.mpr (by omega)) x0_46 rfl) rfl rfl hl.1 rfl (lv_room (Nat.le_of_ble_eq_true rfl)) dL_law_862 ⟨by show 135 + 2 * j + 3 * z + 0 ≤ 600000; omega, by show 27787 + 12 * j + 24096 * z + 0 ≤ 7302250; omega⟩) hW (fun r_46 H locs hw_46 hW9 => ?_)
  have hW := hW9
  refine lv_pop2_2 hx hb dL_law_865 rfl ?_
  refine lv_aload_n hx hb dL_law_866 rfl (lv_at hl 1 rfl) ?_
  refine lv_aload_n hx hb dL_law_867 rfl (lv_at hl 3 rfl) ?_
  refine lv_iload_n hx hb dL_law_868 rfl (lv_at hl 0 rfl) ?_
  refine lv_iconst (v := 1) hx hb dL_law_869 (by decide) ?_
  refine lv_iadd hx hb dL_law_870 ?_
  rw [show (1 : Int32) = nI 1 from rfl, nI_add (5 * j) 1]
  refine va_sld hx hb hXs hbl hbA hW.2.2.2.2.2 (i := nI ((5 * j) + 1)) (vp_in_nI (n := ((5 * j) + 1)) (by omega) (by omega)) dL_law_871 ?_
  rw [nI_clamp (n := ((5 * j) + 1)) (by omega)]
  refine lv_aload_n hx hb dL_law_872 rfl (lv_at hl 3 rfl) ?_
  refine lv_iload_n hx hb dL_law_873 rfl (lv_at hl 0 rfl) ?_
  refine lv_iconst (v := 2) hx hb dL_law_874 (by decide) ?_
  refine lv_iadd hx hb dL_law_875 ?_
  rw [show (2 : Int32) = nI 2 from rfl, nI_add (5 * j) 2]
  refine va_sld hx hb hXs hbl hbA hW.2.2.2.2.2 (i := nI ((5 * j) + 2)) (vp_in_nI (n := ((5 * j) + 2)) (by omega) (by omega)) dL_law_876 ?_
  rw [nI_clamp (n := ((5 * j) + 2)) (by omega)]
  obtain ⟨_, _, _, _, _, _, _, _, _, _, _, _, _, _, x0_47, -⟩ := getr_M hM0.1
  refine lw_Ml (va_runV (As := [.int (xs ((5 * j) + 1)), .int (xs ((5 * j) + 2))]) (rest := []) ⟨hx, hb, hml, hown, ht⟩ (c_X12_size l D cy _ (List.range 20) aM eM hM0.1 (xs ((5 * j) + 1)) (xs ((5 * j) + 2)) ) (kw_X12_size ht tw_1195 ⟨(Nat.le_of_ble_eq_true rfl), (Nat.le_of_ble_eq_true rfl)⟩) (preV_of hW.sy.hp hK (List.mem_range.mpr (by decide)) x0_47 rfl) rfl rfl hl.1 rfl (lv_room (Nat.le_of_ble_eq_true rfl)) dL_law_877 ⟨by show 135 + 2 * j + 3 * z + 0 ≤ 600000; omega, by show 27787 + 12 * j + 24096 * z + 0 ≤ 7302250; omega⟩) hW.sy (fun r_47 H locs en_47 hw_47 hW9 => ?_)
  have hW := hW9.sy
  obtain ⟨hs_47, hu_47, hms_47⟩ := hw_47
  have hM_47 := LIM_k hM0 hs_47 (congrArg (fun x => rdI x 25) (hu_47 0 (by omega))) (congrArg (fun x => rdI x 30) (hu_47 0 (by omega))) (fun c hc => hu_47 c (by omega))
  have hM0 := hM_47
  refine lv_pop2_2 hx hb dL_law_880 rfl ?_
  refine lv_goto (tgt := 1164) hx hb dL_law_881 (by decide) ?_
  refine W.widen (k := 137 + 2 * j + 3 * z) (n := 27799 + 12 * j + 24096 * z) (by omega) (by omega) ?_
  exact kk z n aX eX en_47 F _ _ ls (by omega) rfl hX0 hM_47 ⟨(RLX_keep hR (XK_rf _) (MK_0 (hu_47 0 (by omega)) (fun c hc => hu_47 c (by omega)))), hLN⟩ hW (lv_sub hl [0, 1, 2, 3] rfl)
set_option maxHeartbeats 4000000 in
set_option maxRecDepth 100000 in
/-- the law at sheet -/
theorem op_20 {p : Program} {e : Env} {s : State} {m : MethodId} {below : List Frame} {meth : Method} {c : Code} (l : Launch) {b L : Nat} {xs : Nat → Int32} (C0 : lw_At p s m meth c b L xs) (hL : L ≤ 2560) {D : va_G} {cy : Nat → ClassId} (hK : va_K D vwCl (tyl cy) s) {x y j z n : Nat} {aX aM : Nat → Nat} {eX eM : Nat → va_E} {F : Nat → Nat → Int32} {H : Heap} {locs : List Loc} {ls : Array Slot} (hj : 5 * j + 5 ≤ L) (hz : z ≤ 1) (hx0 : aX 0 = x) (hy0 : aM 0 = y) (hX0 : LIX cy z n aX eX F) (hM0 : LIM cy aM eM) (hRL : RLN9 F eX eM) (hW : LW2 D s (List.range n) aX eX (List.range 20) aM eM H locs) (hl : lv_has ls 4 [(3, .int (nI (5 * j))), (2, .ref y), (1, .ref x), (0, .ref b)]) (kk : ∀ (z1 n1 : Nat) (aX1 : Nat → Nat) (eX1 eM1 : Nat → va_E) (F1 : Nat → Nat → Int32) (H1 : Heap) (locs1 : List Loc) (ls1 : Array Slot), z1 ≤ 1 → aX1 0 = x → LIX cy z1 n1 aX1 eX1 F1 → LIM cy aM eM1 → RLN9 F1 eX1 eM1 → LW2 D s (List.range n1) aX1 eX1 (List.range 20) aM eM1 H1 locs1 → lv_has ls1 4 [(3, .int (nI (5 * j))), (2, .ref y), (1, .ref x), (0, .ref b)] → W p l e room_1 s m #[Value.ref b] below meth c H1 locs1 (137 + 2 * j + 3 * z1) (27799 + 12 * j + 24096 * z1) (lw_Z below #[Value.ref b] s) (F0 m 1164 ls1 [])) : W p l e room_1 s m #[Value.ref b] below meth c H locs (135 + 2 * j + 3 * z) (27787 + 12 * j + 24096 * z) (lw_Z below #[Value.ref b] s) (F0 m 884 ls []) := by
  obtain ⟨hx, hb, hr, hml, hown, hts, hXs, hbl, hlocks, hgv⟩ := id C0
  have ht : ∀ w ∈ TB, w.before #[Value.ref b] s = true := fun w h => hts w (TB_lw h)
  have hXW := XW_law hts
  have hbA : ¬ (AL s) b := Nat.not_le.mpr hbl
  subst hx0
  subst hy0
  have hn115 := hX0.1
  have hXo := hX0
  have hR := hRL.1
  have hLN := hRL.2
  refine lv_aload_n hx hb dL_law_884 rfl (lv_at hl 2 rfl) ?_
  refine lv_aload_n hx hb dL_law_885 rfl (lv_at hl 3 rfl) ?_
  refine lv_iload_n hx hb dL_law_886 rfl (lv_at hl 0 rfl) ?_
  refine lv_iconst (v := 1) hx hb dL_law_887 (by decide) ?_
  refine lv_iadd hx hb dL_law_888 ?_
  rw [show (1 : Int32) = nI 1 from rfl, nI_add (5 * j) 1]
  refine va_sld hx hb hXs hbl hbA hW.2.2.2.2.2 (i := nI ((5 * j) + 1)) (vp_in_nI (n := ((5 * j) + 1)) (by omega) (by omega)) dL_law_889 ?_
  rw [nI_clamp (n := ((5 * j) + 1)) (by omega)]
  refine lv_aload_n hx hb dL_law_890 rfl (lv_at hl 3 rfl) ?_
  refine lv_iload_n hx hb dL_law_891 rfl (lv_at hl 0 rfl) ?_
  refine lv_iconst (v := 2) hx hb dL_law_892 (by decide) ?_
  refine lv_iadd hx hb dL_law_893 ?_
  rw [show (2 : Int32) = nI 2 from rfl, nI_add (5 * j) 2]
  refine va_sld hx hb hXs hbl hbA hW.2.2.2.2.2 (i := nI ((5 * j) + 2)) (vp_in_nI (n := ((5 * j) + 2)) (by omega) (by omega)) dL_law_894 ?_
  rw [nI_clamp (n := ((5 * j) + 2)) (by omega)]
  refine lv_aload_n hx hb dL_law_895 rfl (lv_at hl 3 rfl) ?_
  refine lv_iload_n hx hb dL_law_896 rfl (lv_at hl 0 rfl) ?_
  refine lv_iconst (v := 3) hx hb dL_law_897 (by decide) ?_
  refine lv_iadd hx hb dL_law_898 ?_
  rw [show (3 : Int32) = nI 3 from rfl, nI_add (5 * j) 3]
  refine va_sld hx hb hXs hbl hbA hW.2.2.2.2.2 (i := nI ((5 * j) + 3)) (vp_in_nI (n := ((5 * j) + 3)) (by omega) (by omega)) dL_law_899 ?_
  rw [nI_clamp (n := ((5 * j) + 3)) (by omega)]
  obtain ⟨wc_48, lf_48, x0_48, -⟩ := get_A hX0.2.1
  refine lw_Mi (va_runV (As := [.int (xs ((5 * j) + 1)), .int (xs ((5 * j) + 2)), .int (xs ((5 * j) + 3))]) (rest := []) ⟨hx, hb, hml, hown, ht⟩ (c_X11_sheet l D cy _ (List.range n) aX eX hX0.2.1 (xs ((5 * j) + 1)) (xs ((5 * j) + 2)) (xs ((5 * j) + 3)) ) (kw_X11_sheet ht tw_746 ⟨(Nat.le_of_ble_eq_true rfl), (Nat.le_of_ble_eq_true rfl)⟩) (preV_of hW.hp hK (List.mem_range.mpr (by omega)) x0_48 rfl) rfl rfl hl.1 rfl (lv_room (Nat.le_of_ble_eq_true rfl)) dL_law_900 ⟨by show 135 + 2 * j + 3 * z + 0 ≤ 600000; omega, by show 27787 + 12 * j + 24096 * z + 0 ≤ 7302250; omega⟩) hW (fun r_48 H locs en_48 hw_48 hW9 => ?_)
  have hW := hW9
  obtain ⟨hs_48, hu_48, hxs_48, hr6_48⟩ := hw_48
  have hX_48 := LIX_k hX0 hs_48 hr6_48 (fun c hc => hu_48 c (by omega))
  have hX0 := hX_48
  refine lv_pop hx hb dL_law_903 rfl ?_
  refine lv_aload_n hx hb dL_law_904 rfl (lv_at hl 1 rfl) ?_
  refine lv_aload_n hx hb dL_law_905 rfl (lv_at hl 3 rfl) ?_
  refine lv_iload_n hx hb dL_law_906 rfl (lv_at hl 0 rfl) ?_
  refine lv_iconst (v := 1) hx hb dL_law_907 (by decide) ?_
  refine lv_iadd hx hb dL_law_908 ?_
  rw [show (1 : Int32) = nI 1 from rfl, nI_add (5 * j) 1]
  refine va_sld hx hb hXs hbl hbA hW.2.2.2.2.2 (i := nI ((5 * j) + 1)) (vp_in_nI (n := ((5 * j) + 1)) (by omega) (by omega)) dL_law_909 ?_
  rw [nI_clamp (n := ((5 * j) + 1)) (by omega)]
  refine lv_aload_n hx hb dL_law_910 rfl (lv_at hl 3 rfl) ?_
  refine lv_iload_n hx hb dL_law_911 rfl (lv_at hl 0 rfl) ?_
  refine lv_iconst (v := 2) hx hb dL_law_912 (by decide) ?_
  refine lv_iadd hx hb dL_law_913 ?_
  rw [show (2 : Int32) = nI 2 from rfl, nI_add (5 * j) 2]
  refine va_sld hx hb hXs hbl hbA hW.2.2.2.2.2 (i := nI ((5 * j) + 2)) (vp_in_nI (n := ((5 * j) + 2)) (by omega) (by omega)) dL_law_914 ?_
  rw [nI_clamp (n := ((5 * j) + 2)) (by omega)]
  refine lv_aload_n hx hb dL_law_915 rfl (lv_at hl 3 rfl) ?_
  refine lv_iload_n hx hb dL_law_916 rfl (lv_at hl 0 rfl) ?_
  refine lv_iconst (v := 3) hx hb dL_law_917 (by decide) ?_
  refine lv_iadd hx hb dL_law_918 ?_
  rw [show (3 : Int32) = nI 3 from rfl, nI_add (5 * j) 3]
  refine va_sld hx hb hXs hbl hbA hW.2.2.2.2.2 (i := nI ((5 * j) + 3)) (vp_in_nI (n := ((5 * j) + 3)) (by omega) (by omega)) dL_law_919 ?_
  rw [nI_clamp (n := ((5 * j) + 3)) (by omega)]
  obtain ⟨_, _, _, _, _, _, _, _, _, _, _, _, _, _, x0_49, -⟩ := getr_M hM0.1
  refine lw_Mi (va_runV (As := [.int (xs ((5 * j) + 1)), .int (xs ((5 * j) + 2)), .int (xs ((5 * j) + 3))]) (rest := []) ⟨hx, hb, hml, hown, ht⟩ (c_X12_sheet l D cy _ (List.range 20) aM eM hM0.1 (xs ((5 * j) + 1)) (xs ((5 * j) + 2)) (xs ((5 * j) + 3)) ) (kw_X12_sheet ht tw_1199 ⟨(Nat.le_of_ble_eq_true rfl), (Nat.le_of_ble_eq_true rfl)⟩) (preV_of hW.sy.hp hK (List.mem_range.mpr (by decide)) x0_49 rfl) rfl rfl hl.1 rfl (lv_room (Nat.le_of_ble_eq_true rfl)) dL_law_920 ⟨by show 135 + 2 * j + 3 * z + 0 ≤ 600000; omega, by show 27787 + 12 * j + 24096 * z + 0 ≤ 7302250; omega⟩) hW.sy (fun r_49 H locs en_49 hw_49 hW9 => ?_)
  have hW := hW9.sy
  obtain ⟨hs_49, hu_49, hms_49, hkp_49⟩ := hw_49
  have hM_49 := LIM_k hM0 hs_49 hkp_49.2.2.2.2.1 hkp_49.2.2.2.2.2 (fun c hc => hu_49 c (by omega))
  have hM0 := hM_49
  refine lv_pop hx hb dL_law_923 rfl ?_
  refine lv_goto (tgt := 1164) hx hb dL_law_924 (by decide) ?_
  refine W.widen (k := 137 + 2 * j + 3 * z) (n := 27799 + 12 * j + 24096 * z) (by omega) (by omega) ?_
  exact kk z n aX en_48 en_49 F _ _ ls (by omega) rfl hX_48 hM_49 ⟨(RLX_sh hR (SR_sheet hR.1 hxs_48 hms_49) hr6_48 (fun c hc => hu_48 c (by omega)) hkp_49.1 hkp_49.2.1 hkp_49.2.2.1 hkp_49.2.2.2.1 hkp_49.2.2.2.2.2 (fun c hc => hu_49 c (by omega))), (LNX_f hLN (fun c h1 h2 h3 => hu_48 c (by omega)))⟩ hW (lv_sub hl [0, 1, 2, 3] rfl)
set_option maxHeartbeats 4000000 in
set_option maxRecDepth 100000 in
/-- the law at lose -/
theorem op_21 {p : Program} {e : Env} {s : State} {m : MethodId} {below : List Frame} {meth : Method} {c : Code} (l : Launch) {b L : Nat} {xs : Nat → Int32} (C0 : lw_At p s m meth c b L xs) (hL : L ≤ 2560) {D : va_G} {cy : Nat → ClassId} (hK : va_K D vwCl (tyl cy) s) {x y j z n : Nat} {aX aM : Nat → Nat} {eX eM : Nat → va_E} {F : Nat → Nat → Int32} {H : Heap} {locs : List Loc} {ls : Array Slot} (hj : 5 * j + 5 ≤ L) (hz : z ≤ 1) (hx0 : aX 0 = x) (hy0 : aM 0 = y) (hX0 : LIX cy z n aX eX F) (hM0 : LIM cy aM eM) (hRL : RLN9 F eX eM) (hW : LW2 D s (List.range n) aX eX (List.range 20) aM eM H locs) (hl : lv_has ls 4 [(3, .int (nI (5 * j))), (2, .ref y), (1, .ref x), (0, .ref b)]) (kk : ∀ (z1 n1 : Nat) (aX1 : Nat → Nat) (eX1 eM1 : Nat → va_E) (F1 : Nat → Nat → Int32) (H1 : Heap) (locs1 : List Loc) (ls1 : Array Slot), z1 ≤ 1 → aX1 0 = x → LIX cy z1 n1 aX1 eX1 F1 → LIM cy aM eM1 → RLN9 F1 eX1 eM1 → LW2 D s (List.range n1) aX1 eX1 (List.range 20) aM eM1 H1 locs1 → lv_has ls1 4 [(3, .int (nI (5 * j))), (2, .ref y), (1, .ref x), (0, .ref b)] → W p l e room_1 s m #[Value.ref b] below meth c H1 locs1 (137 + 2 * j + 3 * z1) (27799 + 12 * j + 24096 * z1) (lw_Z below #[Value.ref b] s) (F0 m 1164 ls1 [])) : W p l e room_1 s m #[Value.ref b] below meth c H locs (135 + 2 * j + 3 * z) (27787 + 12 * j + 24096 * z) (lw_Z below #[Value.ref b] s) (F0 m 927 ls []) := by
  obtain ⟨hx, hb, hr, hml, hown, hts, hXs, hbl, hlocks, hgv⟩ := id C0
  have ht : ∀ w ∈ TB, w.before #[Value.ref b] s = true := fun w h => hts w (TB_lw h)
  have hXW := XW_law hts
  have hbA : ¬ (AL s) b := Nat.not_le.mpr hbl
  subst hx0
  subst hy0
  have hn115 := hX0.1
  have hXo := hX0
  have hR := hRL.1
  have hLN := hRL.2
  refine lv_aload_n hx hb dL_law_927 rfl (lv_at hl 2 rfl) ?_
  refine lv_aload_n hx hb dL_law_928 rfl (lv_at hl 3 rfl) ?_
  refine lv_iload_n hx hb dL_law_929 rfl (lv_at hl 0 rfl) ?_
  refine lv_iconst (v := 1) hx hb dL_law_930 (by decide) ?_
  refine lv_iadd hx hb dL_law_931 ?_
  rw [show (1 : Int32) = nI 1 from rfl, nI_add (5 * j) 1]
  refine va_sld hx hb hXs hbl hbA hW.2.2.2.2.2 (i := nI ((5 * j) + 1)) (vp_in_nI (n := ((5 * j) + 1)) (by omega) (by omega)) dL_law_932 ?_
  rw [nI_clamp (n := ((5 * j) + 1)) (by omega)]
  obtain ⟨wc_50, lf_50, x0_50, -⟩ := get_A hX0.2.1
  refine lw_Mi (va_runV (As := [.int (xs ((5 * j) + 1))]) (rest := []) ⟨hx, hb, hml, hown, ht⟩ (c_X11_lose l D cy _ (List.range n) aX eX hX0.2.1 (xs ((5 * j) + 1)) ) (kw_X11_lose ht tw_759 ⟨(Nat.le_of_ble_eq_true rfl), (Nat.le_of_ble_eq_true rfl)⟩) (preV_of hW.hp hK (List.mem_range.mpr (by omega)) x0_50 rfl) rfl rfl hl.1 rfl (lv_room (Nat.le_of_ble_eq_true rfl)) dL_law_933 ⟨by show 135 + 2 * j + 3 * z + 0 ≤ 600000; omega, by show 27787 + 12 * j + 24096 * z + 0 ≤ 7302250; omega⟩) hW (fun r_50 H locs en_50 hw_50 hW9 => ?_)
  have hW := hW9
  obtain ⟨hs_50, hu_50, hxs_50⟩ := hw_50
  have hX_50 := LIX_k hX0 hs_50 (congrArg (fun x => rdI x 6) (hu_50 0 (by omega))) (fun c hc => hu_50 c (by omega))
  have hX0 := hX_50
  refine lv_pop hx hb dL_law_936 rfl ?_
  refine lv_aload_n hx hb dL_law_937 rfl (lv_at hl 1 rfl) ?_
  refine lv_aload_n hx hb dL_law_938 rfl (lv_at hl 3 rfl) ?_
  refine lv_iload_n hx hb dL_law_939 rfl (lv_at hl 0 rfl) ?_
  refine lv_iconst (v := 1) hx hb dL_law_940 (by decide) ?_
  refine lv_iadd hx hb dL_law_941 ?_
  rw [show (1 : Int32) = nI 1 from rfl, nI_add (5 * j) 1]
  refine va_sld hx hb hXs hbl hbA hW.2.2.2.2.2 (i := nI ((5 * j) + 1)) (vp_in_nI (n := ((5 * j) + 1)) (by omega) (by omega)) dL_law_942 ?_
  rw [nI_clamp (n := ((5 * j) + 1)) (by omega)]
  obtain ⟨_, _, _, _, _, _, _, _, _, _, _, _, _, _, x0_51, -⟩ := getr_M hM0.1
  refine lw_Mi (va_runV (As := [.int (xs ((5 * j) + 1))]) (rest := []) ⟨hx, hb, hml, hown, ht⟩ (c_X12_lose l D cy _ (List.range 20) aM eM hM0.1 (xs ((5 * j) + 1)) ) (kw_X12_lose ht tw_1203 ⟨(Nat.le_of_ble_eq_true rfl), (Nat.le_of_ble_eq_true rfl)⟩) (preV_of hW.sy.hp hK (List.mem_range.mpr (by decide)) x0_51 rfl) rfl rfl hl.1 rfl (lv_room (Nat.le_of_ble_eq_true rfl)) dL_law_943 ⟨by show 135 + 2 * j + 3 * z + 0 ≤ 600000; omega, by show 27787 + 12 * j + 24096 * z + 0 ≤ 7302250; omega⟩) hW.sy (fun r_51 H locs en_51 hw_51 hW9 => ?_)
  have hW := hW9.sy
  obtain ⟨hs_51, hu_51, hms_51⟩ := hw_51
  have hM_51 := LIM_k hM0 hs_51 (congrArg (fun x => rdI x 25) (hu_51 0 (by omega))) (congrArg (fun x => rdI x 30) (hu_51 0 (by omega))) (fun c hc => hu_51 c (by omega))
  have hM0 := hM_51
  refine lv_pop hx hb dL_law_946 rfl ?_
  refine lv_goto (tgt := 1164) hx hb dL_law_947 (by decide) ?_
  refine W.widen (k := 137 + 2 * j + 3 * z) (n := 27799 + 12 * j + 24096 * z) (by omega) (by omega) ?_
  exact kk z n aX en_50 en_51 F _ _ ls (by omega) rfl hX_50 hM_51 ⟨(RLX_sh hR (SR_lose hR.1 hxs_50 hms_51 (hu_51 4 (by omega)) (hu_51 5 (by omega))).1 (congrArg (fun x => rdI x 6) (hu_50 0 (by omega))) (fun c hc => hu_50 c (by omega)) (congrArg (fun x => rdI x 1) (hu_51 0 (by omega))) (congrArg (fun x => rdI x 2) (hu_51 0 (by omega))) (congrArg (fun x => rdI x 3) (hu_51 0 (by omega))) (congrArg (fun x => rdI x 4) (hu_51 0 (by omega))) (congrArg (fun x => rdI x 30) (hu_51 0 (by omega))) (fun c hc => hu_51 c (by omega))), (LNX_f hLN (fun c h1 h2 h3 => hu_50 c (by omega)))⟩ hW (lv_sub hl [0, 1, 2, 3] rfl)
set_option maxHeartbeats 4000000 in
set_option maxRecDepth 100000 in
/-- the law at put -/
theorem op_22 {p : Program} {e : Env} {s : State} {m : MethodId} {below : List Frame} {meth : Method} {c : Code} (l : Launch) {b L : Nat} {xs : Nat → Int32} (C0 : lw_At p s m meth c b L xs) (hL : L ≤ 2560) {D : va_G} {cy : Nat → ClassId} (hK : va_K D vwCl (tyl cy) s) {x y j z n : Nat} {aX aM : Nat → Nat} {eX eM : Nat → va_E} {F : Nat → Nat → Int32} {H : Heap} {locs : List Loc} {ls : Array Slot} (hj : 5 * j + 5 ≤ L) (hz : z ≤ 1) (hx0 : aX 0 = x) (hy0 : aM 0 = y) (hX0 : LIX cy z n aX eX F) (hM0 : LIM cy aM eM) (hRL : RLN9 F eX eM) (hW : LW2 D s (List.range n) aX eX (List.range 20) aM eM H locs) (hl : lv_has ls 4 [(3, .int (nI (5 * j))), (2, .ref y), (1, .ref x), (0, .ref b)]) (kk : ∀ (z1 n1 : Nat) (aX1 : Nat → Nat) (eX1 eM1 : Nat → va_E) (F1 : Nat → Nat → Int32) (H1 : Heap) (locs1 : List Loc) (ls1 : Array Slot), z1 ≤ 1 → aX1 0 = x → LIX cy z1 n1 aX1 eX1 F1 → LIM cy aM eM1 → RLN9 F1 eX1 eM1 → LW2 D s (List.range n1) aX1 eX1 (List.range 20) aM eM1 H1 locs1 → lv_has ls1 4 [(3, .int (nI (5 * j))), (2, .ref y), (1, .ref x), (0, .ref b)] → W p l e room_1 s m #[Value.ref b] below meth c H1 locs1 (137 + 2 * j + 3 * z1) (27799 + 12 * j + 24096 * z1) (lw_Z below #[Value.ref b] s) (F0 m 1164 ls1 [])) : W p l e room_1 s m #[Value.ref b] below meth c H locs (135 + 2 * j + 3 * z) (27787 + 12 * j + 24096 * z) (lw_Z below #[Value.ref b] s) (F0 m 950 ls []) := by
  obtain ⟨hx, hb, hr, hml, hown, hts, hXs, hbl, hlocks, hgv⟩ := id C0
  have ht : ∀ w ∈ TB, w.before #[Value.ref b] s = true := fun w h => hts w (TB_lw h)
  have hXW := XW_law hts
  have hbA : ¬ (AL s) b := Nat.not_le.mpr hbl
  subst hx0
  subst hy0
  have hn115 := hX0.1
  have hXo := hX0
  have hR := hRL.1
  have hLN := hRL.2
  refine lv_aload_n hx hb dL_law_950 rfl (lv_at hl 2 rfl) ?_
  refine lv_aload_n hx hb dL_law_951 rfl (lv_at hl 3 rfl) ?_
  refine lv_iload_n hx hb dL_law_952 rfl (lv_at hl 0 rfl) ?_
  refine lv_iconst (v := 1) hx hb dL_law_953 (by decide) ?_
  refine lv_iadd hx hb dL_law_954 ?_
  rw [show (1 : Int32) = nI 1 from rfl, nI_add (5 * j) 1]
  refine va_sld hx hb hXs hbl hbA hW.2.2.2.2.2 (i := nI ((5 * j) + 1)) (vp_in_nI (n := ((5 * j) + 1)) (by omega) (by omega)) dL_law_955 ?_
  rw [nI_clamp (n := ((5 * j) + 1)) (by omega)]
  refine lv_aload_n hx hb dL_law_956 rfl (lv_at hl 3 rfl) ?_
  refine lv_iload_n hx hb dL_law_957 rfl (lv_at hl 0 rfl) ?_
  refine lv_iconst (v := 2) hx hb dL_law_958 (by decide) ?_
  refine lv_iadd hx hb dL_law_959 ?_
  rw [show (2 : Int32) = nI 2 from rfl, nI_add (5 * j) 2]
  refine va_sld hx hb hXs hbl hbA hW.2.2.2.2.2 (i := nI ((5 * j) + 2)) (vp_in_nI (n := ((5 * j) + 2)) (by omega) (by omega)) dL_law_960 ?_
  rw [nI_clamp (n := ((5 * j) + 2)) (by omega)]
  refine lv_aload_n hx hb dL_law_961 rfl (lv_at hl 3 rfl) ?_
  refine lv_iload_n hx hb dL_law_962 rfl (lv_at hl 0 rfl) ?_
  refine lv_iconst (v := 3) hx hb dL_law_963 (by decide) ?_
  refine lv_iadd hx hb dL_law_964 ?_
  rw [show (3 : Int32) = nI 3 from rfl, nI_add (5 * j) 3]
  refine va_sld hx hb hXs hbl hbA hW.2.2.2.2.2 (i := nI ((5 * j) + 3)) (vp_in_nI (n := ((5 * j) + 3)) (by omega) (by omega)) dL_law_965 ?_
  rw [nI_clamp (n := ((5 * j) + 3)) (by omega)]
  obtain ⟨wc_52, lf_52, x0_52, -⟩ := get_A hX0.2.1
  refine lw_Mi (va_runV (As := [.int (xs ((5 * j) + 1)), .int (xs ((5 * j) + 2)), .int (xs ((5 * j) + 3))]) (rest := []) ⟨hx, hb, hml, hown, ht⟩ (c_X11_put l D cy _ (List.range n) aX eX hX0.2.1 (xs ((5 * j) + 1)) (xs ((5 * j) + 2)) (xs ((5 * j) + 3)) ) (kw_X11_put ht tw_767 ⟨(Nat.le_of_ble_eq_true rfl), (Nat.le_of_ble_eq_true rfl)⟩) (preV_of hW.hp hK (List.mem_range.mpr (by omega)) x0_52 rfl) rfl rfl hl.1 rfl (lv_room (Nat.le_of_ble_eq_true rfl)) dL_law_966 ⟨by show 135 + 2 * j + 3 * z + 0 ≤ 600000; omega, by show 27787 + 12 * j + 24096 * z + 0 ≤ 7302250; omega⟩) hW (fun r_52 H locs en_52 hw_52 hW9 => ?_)
  have hW := hW9
  obtain ⟨hs_52, hu_52, hxs_52, hr6_52⟩ := hw_52
  have hX_52 := LIX_k hX0 hs_52 hr6_52 (fun c hc => hu_52 c (by omega))
  have hX0 := hX_52
  refine lv_pop hx hb dL_law_969 rfl ?_
  refine lv_aload_n hx hb dL_law_970 rfl (lv_at hl 1 rfl) ?_
  refine lv_aload_n hx hb dL_law_971 rfl (lv_at hl 3 rfl) ?_
  refine lv_iload_n hx hb dL_law_972 rfl (lv_at hl 0 rfl) ?_
  refine lv_iconst (v := 1) hx hb dL_law_973 (by decide) ?_
  refine lv_iadd hx hb dL_law_974 ?_
  rw [show (1 : Int32) = nI 1 from rfl, nI_add (5 * j) 1]
  refine va_sld hx hb hXs hbl hbA hW.2.2.2.2.2 (i := nI ((5 * j) + 1)) (vp_in_nI (n := ((5 * j) + 1)) (by omega) (by omega)) dL_law_975 ?_
  rw [nI_clamp (n := ((5 * j) + 1)) (by omega)]
  refine lv_aload_n hx hb dL_law_976 rfl (lv_at hl 3 rfl) ?_
  refine lv_iload_n hx hb dL_law_977 rfl (lv_at hl 0 rfl) ?_
  refine lv_iconst (v := 2) hx hb dL_law_978 (by decide) ?_
  refine lv_iadd hx hb dL_law_979 ?_
  rw [show (2 : Int32) = nI 2 from rfl, nI_add (5 * j) 2]
  refine va_sld hx hb hXs hbl hbA hW.2.2.2.2.2 (i := nI ((5 * j) + 2)) (vp_in_nI (n := ((5 * j) + 2)) (by omega) (by omega)) dL_law_980 ?_
  rw [nI_clamp (n := ((5 * j) + 2)) (by omega)]
  refine lv_aload_n hx hb dL_law_981 rfl (lv_at hl 3 rfl) ?_
  refine lv_iload_n hx hb dL_law_982 rfl (lv_at hl 0 rfl) ?_
  refine lv_iconst (v := 3) hx hb dL_law_983 (by decide) ?_
  refine lv_iadd hx hb dL_law_984 ?_
  rw [show (3 : Int32) = nI 3 from rfl, nI_add (5 * j) 3]
  refine va_sld hx hb hXs hbl hbA hW.2.2.2.2.2 (i := nI ((5 * j) + 3)) (vp_in_nI (n := ((5 * j) + 3)) (by omega) (by omega)) dL_law_985 ?_
  rw [nI_clamp (n := ((5 * j) + 3)) (by omega)]
  obtain ⟨_, _, _, _, _, _, _, _, _, _, _, _, _, _, x0_53, -⟩ := getr_M hM0.1
  refine lw_Mi (va_runV (As := [.int (xs ((5 * j) + 1)), .int (xs ((5 * j) + 2)), .int (xs ((5 * j) + 3))]) (rest := []) ⟨hx, hb, hml, hown, ht⟩ (c_X12_put l D cy _ (List.range 20) aM eM hM0.1 (xs ((5 * j) + 1)) (xs ((5 * j) + 2)) (xs ((5 * j) + 3)) ) (kw_X12_put ht tw_1207 ⟨(Nat.le_of_ble_eq_true rfl), (Nat.le_of_ble_eq_true rfl)⟩) (preV_of hW.sy.hp hK (List.mem_range.mpr (by decide)) x0_53 rfl) rfl rfl hl.1 rfl (lv_room (Nat.le_of_ble_eq_true rfl)) dL_law_986 ⟨by show 135 + 2 * j + 3 * z + 0 ≤ 600000; omega, by show 27787 + 12 * j + 24096 * z + 0 ≤ 7302250; omega⟩) hW.sy (fun r_53 H locs en_53 hw_53 hW9 => ?_)
  have hW := hW9.sy
  obtain ⟨hs_53, hu_53, hms_53, hkp_53⟩ := hw_53
  have hM_53 := LIM_k hM0 hs_53 hkp_53.2.2.2.2.1 hkp_53.2.2.2.2.2 (fun c hc => hu_53 c (by omega))
  have hM0 := hM_53
  refine lv_pop hx hb dL_law_989 rfl ?_
  refine lv_goto (tgt := 1164) hx hb dL_law_990 (by decide) ?_
  refine W.widen (k := 137 + 2 * j + 3 * z) (n := 27799 + 12 * j + 24096 * z) (by omega) (by omega) ?_
  exact kk z n aX en_52 en_53 F _ _ ls (by omega) rfl hX_52 hM_53 ⟨(RLX_sh hR (SR_put hR.1 hxs_52 hms_53 (hu_53 3 (by omega)) (hu_53 4 (by omega))).1 hr6_52 (fun c hc => hu_52 c (by omega)) hkp_53.1 hkp_53.2.1 hkp_53.2.2.1 hkp_53.2.2.2.1 hkp_53.2.2.2.2.2 (fun c hc => hu_53 c (by omega))), (LNX_f hLN (fun c h1 h2 h3 => hu_52 c (by omega)))⟩ hW (lv_sub hl [0, 1, 2, 3] rfl)
set_option maxHeartbeats 4000000 in
set_option maxRecDepth 100000 in
/-- the law at at -/
theorem op_23 {p : Program} {e : Env} {s : State} {m : MethodId} {below : List Frame} {meth : Method} {c : Code} (l : Launch) {b L : Nat} {xs : Nat → Int32} (C0 : lw_At p s m meth c b L xs) (hL : L ≤ 2560) {D : va_G} {cy : Nat → ClassId} (hK : va_K D vwCl (tyl cy) s) {x y j z n : Nat} {aX aM : Nat → Nat} {eX eM : Nat → va_E} {F : Nat → Nat → Int32} {H : Heap} {locs : List Loc} {ls : Array Slot} (hj : 5 * j + 5 ≤ L) (hz : z ≤ 1) (hx0 : aX 0 = x) (hy0 : aM 0 = y) (hX0 : LIX cy z n aX eX F) (hM0 : LIM cy aM eM) (hRL : RLN9 F eX eM) (hW : LW2 D s (List.range n) aX eX (List.range 20) aM eM H locs) (hl : lv_has ls 4 [(3, .int (nI (5 * j))), (2, .ref y), (1, .ref x), (0, .ref b)]) (kk : ∀ (z1 n1 : Nat) (aX1 : Nat → Nat) (eX1 eM1 : Nat → va_E) (F1 : Nat → Nat → Int32) (H1 : Heap) (locs1 : List Loc) (ls1 : Array Slot), z1 ≤ 1 → aX1 0 = x → LIX cy z1 n1 aX1 eX1 F1 → LIM cy aM eM1 → RLN9 F1 eX1 eM1 → LW2 D s (List.range n1) aX1 eX1 (List.range 20) aM eM1 H1 locs1 → lv_has ls1 4 [(3, .int (nI (5 * j))), (2, .ref y), (1, .ref x), (0, .ref b)] → W p l e room_1 s m #[Value.ref b] below meth c H1 locs1 (137 + 2 * j + 3 * z1) (27799 + 12 * j + 24096 * z1) (lw_Z below #[Value.ref b] s) (F0 m 1164 ls1 [])) : W p l e room_1 s m #[Value.ref b] below meth c H locs (135 + 2 * j + 3 * z) (27787 + 12 * j + 24096 * z) (lw_Z below #[Value.ref b] s) (F0 m 993 ls []) := by
  obtain ⟨hx, hb, hr, hml, hown, hts, hXs, hbl, hlocks, hgv⟩ := id C0
  have ht : ∀ w ∈ TB, w.before #[Value.ref b] s = true := fun w h => hts w (TB_lw h)
  have hXW := XW_law hts
  have hbA : ¬ (AL s) b := Nat.not_le.mpr hbl
  subst hx0
  subst hy0
  have hn115 := hX0.1
  have hXo := hX0
  have hR := hRL.1
  have hLN := hRL.2
  refine lv_aload_n hx hb dL_law_993 rfl (lv_at hl 2 rfl) ?_
  refine lv_aload_n hx hb dL_law_994 rfl (lv_at hl 3 rfl) ?_
  refine lv_iload_n hx hb dL_law_995 rfl (lv_at hl 0 rfl) ?_
  refine lv_iconst (v := 1) hx hb dL_law_996 (by decide) ?_
  refine lv_iadd hx hb dL_law_997 ?_
  rw [show (1 : Int32) = nI 1 from rfl, nI_add (5 * j) 1]
  refine va_sld hx hb hXs hbl hbA hW.2.2.2.2.2 (i := nI ((5 * j) + 1)) (vp_in_nI (n := ((5 * j) + 1)) (by omega) (by omega)) dL_law_998 ?_
  rw [nI_clamp (n := ((5 * j) + 1)) (by omega)]
  refine lv_aload_n hx hb dL_law_999 rfl (lv_at hl 3 rfl) ?_
  refine lv_iload_n hx hb dL_law_1000 rfl (lv_at hl 0 rfl) ?_
  refine lv_iconst (v := 2) hx hb dL_law_1001 (by decide) ?_
  refine lv_iadd hx hb dL_law_1002 ?_
  rw [show (2 : Int32) = nI 2 from rfl, nI_add (5 * j) 2]
  refine va_sld hx hb hXs hbl hbA hW.2.2.2.2.2 (i := nI ((5 * j) + 2)) (vp_in_nI (n := ((5 * j) + 2)) (by omega) (by omega)) dL_law_1003 ?_
  rw [nI_clamp (n := ((5 * j) + 2)) (by omega)]
  refine lv_aload_n hx hb dL_law_1004 rfl (lv_at hl 3 rfl) ?_
  refine lv_iload_n hx hb dL_law_1005 rfl (lv_at hl 0 rfl) ?_
  refine lv_iconst (v := 3) hx hb dL_law_1006 (by decide) ?_
  refine lv_iadd hx hb dL_law_1007 ?_
  rw [show (3 : Int32) = nI 3 from rfl, nI_add (5 * j) 3]
  refine va_sld hx hb hXs hbl hbA hW.2.2.2.2.2 (i := nI ((5 * j) + 3)) (vp_in_nI (n := ((5 * j) + 3)) (by omega) (by omega)) dL_law_1008 ?_
  rw [nI_clamp (n := ((5 * j) + 3)) (by omega)]
  obtain ⟨wc_54, lf_54, x0_54, -⟩ := get_A hX0.2.1
  refine lw_Ml (va_runV (As := [.int (xs ((5 * j) + 1)), .int (xs ((5 * j) + 2)), .int (xs ((5 * j) + 3))]) (rest := []) ⟨hx, hb, hml, hown, ht⟩ (c_X11_at l D cy _ (List.range n) aX eX hX0.2.1 (xs ((5 * j) + 1)) (xs ((5 * j) + 2)) (xs ((5 * j) + 3)) ) (kw_X11_at ht tw_779 ⟨(Nat.le_of_ble_eq_true rfl), (Nat.le_of_ble_eq_true rfl)⟩) (preV_of hW.hp hK (List.mem_range.mpr (by omega)) x0_54 rfl) rfl rfl hl.1 rfl (lv_room (Nat.le_of_ble_eq_true rfl)) dL_law_1009 ⟨by show 135 + 2 * j + 3 * z + 0 ≤ 600000; omega, by show 27787 + 12 * j + 24096 * z + 0 ≤ 7302250; omega⟩) hW (fun r_54 H locs en_54 hw_54 hW9 => ?_)
  have hW := hW9
  obtain ⟨hs_54, hu_54, hxs_54, hr6_54⟩ := hw_54
  have hX_54 := LIX_k hX0 hs_54 hr6_54 (fun c hc => hu_54 c (by omega))
  have hX0 := hX_54
  refine lv_pop2_2 hx hb dL_law_1012 rfl ?_
  refine lv_aload_n hx hb dL_law_1013 rfl (lv_at hl 1 rfl) ?_
  refine lv_aload_n hx hb dL_law_1014 rfl (lv_at hl 3 rfl) ?_
  refine lv_iload_n hx hb dL_law_1015 rfl (lv_at hl 0 rfl) ?_
  refine lv_iconst (v := 1) hx hb dL_law_1016 (by decide) ?_
  refine lv_iadd hx hb dL_law_1017 ?_
  rw [show (1 : Int32) = nI 1 from rfl, nI_add (5 * j) 1]
  refine va_sld hx hb hXs hbl hbA hW.2.2.2.2.2 (i := nI ((5 * j) + 1)) (vp_in_nI (n := ((5 * j) + 1)) (by omega) (by omega)) dL_law_1018 ?_
  rw [nI_clamp (n := ((5 * j) + 1)) (by omega)]
  refine lv_aload_n hx hb dL_law_1019 rfl (lv_at hl 3 rfl) ?_
  refine lv_iload_n hx hb dL_law_1020 rfl (lv_at hl 0 rfl) ?_
  refine lv_iconst (v := 2) hx hb dL_law_1021 (by decide) ?_
  refine lv_iadd hx hb dL_law_1022 ?_
  rw [show (2 : Int32) = nI 2 from rfl, nI_add (5 * j) 2]
  refine va_sld hx hb hXs hbl hbA hW.2.2.2.2.2 (i := nI ((5 * j) + 2)) (vp_in_nI (n := ((5 * j) + 2)) (by omega) (by omega)) dL_law_1023 ?_
  rw [nI_clamp (n := ((5 * j) + 2)) (by omega)]
  refine lv_aload_n hx hb dL_law_1024 rfl (lv_at hl 3 rfl) ?_
  refine lv_iload_n hx hb dL_law_1025 rfl (lv_at hl 0 rfl) ?_
  refine lv_iconst (v := 3) hx hb dL_law_1026 (by decide) ?_
  refine lv_iadd hx hb dL_law_1027 ?_
  rw [show (3 : Int32) = nI 3 from rfl, nI_add (5 * j) 3]
  refine va_sld hx hb hXs hbl hbA hW.2.2.2.2.2 (i := nI ((5 * j) + 3)) (vp_in_nI (n := ((5 * j) + 3)) (by omega) (by omega)) dL_law_1028 ?_
  rw [nI_clamp (n := ((5 * j) + 3)) (by omega)]
  obtain ⟨_, _, _, _, _, _, _, _, _, _, _, _, _, _, x0_55, -⟩ := getr_M hM0.1
  refine lw_Ml (va_runV (As := [.int (xs ((5 * j) + 1)), .int (xs ((5 * j) + 2)), .int (xs ((5 * j) + 3))]) (rest := []) ⟨hx, hb, hml, hown, ht⟩ (c_X12_at l D cy _ (List.range 20) aM eM hM0.1 (xs ((5 * j) + 1)) (xs ((5 * j) + 2)) (xs ((5 * j) + 3)) ) (kw_X12_at ht tw_1211 ⟨(Nat.le_of_ble_eq_true rfl), (Nat.le_of_ble_eq_true rfl)⟩) (preV_of hW.sy.hp hK (List.mem_range.mpr (by decide)) x0_55 rfl) rfl rfl hl.1 rfl (lv_room (Nat.le_of_ble_eq_true rfl)) dL_law_1029 ⟨by show 135 + 2 * j + 3 * z + 0 ≤ 600000; omega, by show 27787 + 12 * j + 24096 * z + 0 ≤ 7302250; omega⟩) hW.sy (fun r_55 H locs en_55 hw_55 hW9 => ?_)
  have hW := hW9.sy
  obtain ⟨hs_55, hu_55, hms_55, hkp_55⟩ := hw_55
  have hM_55 := LIM_k hM0 hs_55 hkp_55.2.2.2.2.1 hkp_55.2.2.2.2.2 (fun c hc => hu_55 c (by omega))
  have hM0 := hM_55
  refine lv_pop2_2 hx hb dL_law_1032 rfl ?_
  refine lv_goto (tgt := 1164) hx hb dL_law_1033 (by decide) ?_
  refine W.widen (k := 137 + 2 * j + 3 * z) (n := 27799 + 12 * j + 24096 * z) (by omega) (by omega) ?_
  exact kk z n aX en_54 en_55 F _ _ ls (by omega) rfl hX_54 hM_55 ⟨(RLX_keep hR ⟨hr6_54, fun c hc => hu_54 c (by omega)⟩ (MK_KP hkp_55 (fun c hc => hu_55 c (by omega)))), (LNX_f hLN (fun c h1 h2 h3 => hu_54 c (by omega)))⟩ hW (lv_sub hl [0, 1, 2, 3] rfl)
set_option maxHeartbeats 4000000 in
set_option maxRecDepth 100000 in
/-- the law at tell -/
theorem op_24 {p : Program} {e : Env} {s : State} {m : MethodId} {below : List Frame} {meth : Method} {c : Code} (l : Launch) {b L : Nat} {xs : Nat → Int32} (C0 : lw_At p s m meth c b L xs) (hL : L ≤ 2560) {D : va_G} {cy : Nat → ClassId} (hK : va_K D vwCl (tyl cy) s) {x y j z n : Nat} {aX aM : Nat → Nat} {eX eM : Nat → va_E} {F : Nat → Nat → Int32} {H : Heap} {locs : List Loc} {ls : Array Slot} (hj : 5 * j + 5 ≤ L) (hz : z ≤ 1) (hx0 : aX 0 = x) (hy0 : aM 0 = y) (hX0 : LIX cy z n aX eX F) (hM0 : LIM cy aM eM) (hRL : RLN9 F eX eM) (hW : LW2 D s (List.range n) aX eX (List.range 20) aM eM H locs) (hl : lv_has ls 4 [(3, .int (nI (5 * j))), (2, .ref y), (1, .ref x), (0, .ref b)]) (kk : ∀ (z1 n1 : Nat) (aX1 : Nat → Nat) (eX1 eM1 : Nat → va_E) (F1 : Nat → Nat → Int32) (H1 : Heap) (locs1 : List Loc) (ls1 : Array Slot), z1 ≤ 1 → aX1 0 = x → LIX cy z1 n1 aX1 eX1 F1 → LIM cy aM eM1 → RLN9 F1 eX1 eM1 → LW2 D s (List.range n1) aX1 eX1 (List.range 20) aM eM1 H1 locs1 → lv_has ls1 4 [(3, .int (nI (5 * j))), (2, .ref y), (1, .ref x), (0, .ref b)] → W p l e room_1 s m #[Value.ref b] below meth c H1 locs1 (137 + 2 * j + 3 * z1) (27799 + 12 * j + 24096 * z1) (lw_Z below #[Value.ref b] s) (F0 m 1164 ls1 [])) : W p l e room_1 s m #[Value.ref b] below meth c H locs (135 + 2 * j + 3 * z) (27787 + 12 * j + 24096 * z) (lw_Z below #[Value.ref b] s) (F0 m 1036 ls []) := by
  obtain ⟨hx, hb, hr, hml, hown, hts, hXs, hbl, hlocks, hgv⟩ := id C0
  have ht : ∀ w ∈ TB, w.before #[Value.ref b] s = true := fun w h => hts w (TB_lw h)
  have hXW := XW_law hts
  have hbA : ¬ (AL s) b := Nat.not_le.mpr hbl
  subst hx0
  subst hy0
  have hn115 := hX0.1
  have hXo := hX0
  have hR := hRL.1
  have hLN := hRL.2
  refine lv_aload_n hx hb dL_law_1036 rfl (lv_at hl 2 rfl) ?_
  refine lv_aload_n hx hb dL_law_1037 rfl (lv_at hl 3 rfl) ?_
  refine lv_iload_n hx hb dL_law_1038 rfl (lv_at hl 0 rfl) ?_
  refine lv_iconst (v := 1) hx hb dL_law_1039 (by decide) ?_
  refine lv_iadd hx hb dL_law_1040 ?_
  rw [show (1 : Int32) = nI 1 from rfl, nI_add (5 * j) 1]
  refine va_sld hx hb hXs hbl hbA hW.2.2.2.2.2 (i := nI ((5 * j) + 1)) (vp_in_nI (n := ((5 * j) + 1)) (by omega) (by omega)) dL_law_1041 ?_
  rw [nI_clamp (n := ((5 * j) + 1)) (by omega)]
  obtain ⟨wc_56, lf_56, x0_56, -⟩ := get_A hX0.2.1
  refine lw_Mi (va_runV (As := [.int (xs ((5 * j) + 1))]) (rest := []) ⟨hx, hb, hml, hown, ht⟩ (c_X11_tell l D cy _ (List.range n) aX eX hX0.2.1 (xs ((5 * j) + 1)) F hX0.2.2.1) (kw_X11_tell ht tw_783 ⟨(Nat.le_of_ble_eq_true rfl), (Nat.le_of_ble_eq_true rfl)⟩) (preV_of hW.hp hK (List.mem_range.mpr (by omega)) x0_56 rfl) rfl rfl hl.1 rfl (lv_room (Nat.le_of_ble_eq_true rfl)) dL_law_1042 ⟨by show 135 + 2 * j + 3 * z + 0 ≤ 600000; omega, by show 27787 + 12 * j + 24096 * z + 0 ≤ 7302250; omega⟩) hW (fun r_56 H locs en_56 hw_56 hW9 => ?_)
  have hW := hW9
  obtain ⟨hs_56, hu_56, hxs_56⟩ := hw_56
  have hX_56 := LIX_k hX0 hs_56 (congrArg (fun x => rdI x 6) (hu_56 0 (by omega))) (fun c hc => hu_56 c (by omega))
  have hX0 := hX_56
  refine lv_pop hx hb dL_law_1045 rfl ?_
  refine lv_aload_n hx hb dL_law_1046 rfl (lv_at hl 1 rfl) ?_
  refine lv_aload_n hx hb dL_law_1047 rfl (lv_at hl 3 rfl) ?_
  refine lv_iload_n hx hb dL_law_1048 rfl (lv_at hl 0 rfl) ?_
  refine lv_iconst (v := 1) hx hb dL_law_1049 (by decide) ?_
  refine lv_iadd hx hb dL_law_1050 ?_
  rw [show (1 : Int32) = nI 1 from rfl, nI_add (5 * j) 1]
  refine va_sld hx hb hXs hbl hbA hW.2.2.2.2.2 (i := nI ((5 * j) + 1)) (vp_in_nI (n := ((5 * j) + 1)) (by omega) (by omega)) dL_law_1051 ?_
  rw [nI_clamp (n := ((5 * j) + 1)) (by omega)]
  obtain ⟨_, _, _, _, _, _, _, _, _, _, _, _, _, _, x0_57, -⟩ := getr_M hM0.1
  refine lw_Mi (va_runV (As := [.int (xs ((5 * j) + 1))]) (rest := []) ⟨hx, hb, hml, hown, ht⟩ (c_X12_tell l D cy _ (List.range 20) aM eM hM0.1 (xs ((5 * j) + 1)) ) (kw_X12_tell ht tw_1219 ⟨(Nat.le_of_ble_eq_true rfl), (Nat.le_of_ble_eq_true rfl)⟩) (preV_of hW.sy.hp hK (List.mem_range.mpr (by decide)) x0_57 rfl) rfl rfl hl.1 rfl (lv_room (Nat.le_of_ble_eq_true rfl)) dL_law_1052 ⟨by show 135 + 2 * j + 3 * z + 0 ≤ 600000; omega, by show 27787 + 12 * j + 24096 * z + 0 ≤ 7302250; omega⟩) hW.sy (fun r_57 H locs en_57 hw_57 hW9 => ?_)
  have hW := hW9.sy
  obtain ⟨hs_57, hu_57, hms_57, hkp_57⟩ := hw_57
  have hM_57 := LIM_k hM0 hs_57 hkp_57.2.2.2.1 hkp_57.2.2.2.2 (fun c hc => hu_57 c (by omega))
  have hM0 := hM_57
  refine lv_pop hx hb dL_law_1055 rfl ?_
  refine lv_goto (tgt := 1164) hx hb dL_law_1056 (by decide) ?_
  refine W.widen (k := 137 + 2 * j + 3 * z) (n := 27799 + 12 * j + 24096 * z) (by omega) (by omega) ?_
  exact kk z n aX en_56 en_57 F _ _ ls (by omega) rfl hX_56 hM_57 ⟨(RLX_h hR (tell_rel hXo.2.1 hXo.2.2.1 hR.2.1 hR.2.2.2.2.2.1 hR.2.2.2.1 hxs_56 hms_57).2 hu_56 hkp_57.1 hkp_57.2.1 hkp_57.2.2.1 hkp_57.2.2.2.2 hu_57), (LNX_f hLN (fun c h1 h2 h3 => hu_56 c (by omega)))⟩ hW (lv_sub hl [0, 1, 2, 3] rfl)
set_option maxHeartbeats 4000000 in
set_option maxRecDepth 100000 in
/-- the law at weigh -/
theorem op_25 {p : Program} {e : Env} {s : State} {m : MethodId} {below : List Frame} {meth : Method} {c : Code} (l : Launch) {b L : Nat} {xs : Nat → Int32} (C0 : lw_At p s m meth c b L xs) (hL : L ≤ 2560) {D : va_G} {cy : Nat → ClassId} (hK : va_K D vwCl (tyl cy) s) {x y j z n : Nat} {aX aM : Nat → Nat} {eX eM : Nat → va_E} {F : Nat → Nat → Int32} {H : Heap} {locs : List Loc} {ls : Array Slot} (hj : 5 * j + 5 ≤ L) (hz : z ≤ 1) (hx0 : aX 0 = x) (hy0 : aM 0 = y) (hX0 : LIX cy z n aX eX F) (hM0 : LIM cy aM eM) (hRL : RLN9 F eX eM) (hW : LW2 D s (List.range n) aX eX (List.range 20) aM eM H locs) (hl : lv_has ls 4 [(3, .int (nI (5 * j))), (2, .ref y), (1, .ref x), (0, .ref b)]) (kk : ∀ (z1 n1 : Nat) (aX1 : Nat → Nat) (eX1 eM1 : Nat → va_E) (F1 : Nat → Nat → Int32) (H1 : Heap) (locs1 : List Loc) (ls1 : Array Slot), z1 ≤ 1 → aX1 0 = x → LIX cy z1 n1 aX1 eX1 F1 → LIM cy aM eM1 → RLN9 F1 eX1 eM1 → LW2 D s (List.range n1) aX1 eX1 (List.range 20) aM eM1 H1 locs1 → lv_has ls1 4 [(3, .int (nI (5 * j))), (2, .ref y), (1, .ref x), (0, .ref b)] → W p l e room_1 s m #[Value.ref b] below meth c H1 locs1 (137 + 2 * j + 3 * z1) (27799 + 12 * j + 24096 * z1) (lw_Z below #[Value.ref b] s) (F0 m 1164 ls1 [])) : W p l e room_1 s m #[Value.ref b] below meth c H locs (135 + 2 * j + 3 * z) (27787 + 12 * j + 24096 * z) (lw_Z below #[Value.ref b] s) (F0 m 1059 ls []) := by
  obtain ⟨hx, hb, hr, hml, hown, hts, hXs, hbl, hlocks, hgv⟩ := id C0
  have ht : ∀ w ∈ TB, w.before #[Value.ref b] s = true := fun w h => hts w (TB_lw h)
  have hXW := XW_law hts
  have hbA : ¬ (AL s) b := Nat.not_le.mpr hbl
  subst hx0
  subst hy0
  have hn115 := hX0.1
  have hXo := hX0
  have hR := hRL.1
  have hLN := hRL.2
  refine lv_aload_n hx hb dL_law_1059 rfl (lv_at hl 2 rfl) ?_
  refine lv_aload_n hx hb dL_law_1060 rfl (lv_at hl 3 rfl) ?_
  refine lv_iload_n hx hb dL_law_1061 rfl (lv_at hl 0 rfl) ?_
  refine lv_iconst (v := 1) hx hb dL_law_1062 (by decide) ?_
  refine lv_iadd hx hb dL_law_1063 ?_
  rw [show (1 : Int32) = nI 1 from rfl, nI_add (5 * j) 1]
  refine va_sld hx hb hXs hbl hbA hW.2.2.2.2.2 (i := nI ((5 * j) + 1)) (vp_in_nI (n := ((5 * j) + 1)) (by omega) (by omega)) dL_law_1064 ?_
  rw [nI_clamp (n := ((5 * j) + 1)) (by omega)]
  obtain ⟨wc_58, lf_58, x0_58, -⟩ := get_A hX0.2.1
  refine lw_Mi (va_runV (As := [.int (xs ((5 * j) + 1))]) (rest := []) ⟨hx, hb, hml, hown, ht⟩ (c_X11_weigh l D cy _ (List.range n) aX eX hX0.2.1 (xs ((5 * j) + 1)) F hX0.2.2.1) (kw_X11_weigh ht tw_822 ⟨(Nat.le_of_ble_eq_true rfl), (Nat.le_of_ble_eq_true rfl)⟩) (preV_of hW.hp hK (List.mem_range.mpr (by omega)) x0_58 rfl) rfl rfl hl.1 rfl (lv_room (Nat.le_of_ble_eq_true rfl)) dL_law_1065 ⟨by show 135 + 2 * j + 3 * z + 0 ≤ 600000; omega, by show 27787 + 12 * j + 24096 * z + 0 ≤ 7302250; omega⟩) hW (fun r_58 H locs en_58 hw_58 hW9 => ?_)
  have hW := hW9
  obtain ⟨hs_58, hu_58, hxs_58⟩ := hw_58
  have hX_58 := LIX_k hX0 hs_58 (congrArg (fun x => rdI x 6) (hu_58 0 (by omega))) (fun c hc => hu_58 c (by omega))
  have hX0 := hX_58
  refine lv_pop hx hb dL_law_1068 rfl ?_
  refine lv_aload_n hx hb dL_law_1069 rfl (lv_at hl 1 rfl) ?_
  refine lv_aload_n hx hb dL_law_1070 rfl (lv_at hl 3 rfl) ?_
  refine lv_iload_n hx hb dL_law_1071 rfl (lv_at hl 0 rfl) ?_
  refine lv_iconst (v := 1) hx hb dL_law_1072 (by decide) ?_
  refine lv_iadd hx hb dL_law_1073 ?_
  rw [show (1 : Int32) = nI 1 from rfl, nI_add (5 * j) 1]
  refine va_sld hx hb hXs hbl hbA hW.2.2.2.2.2 (i := nI ((5 * j) + 1)) (vp_in_nI (n := ((5 * j) + 1)) (by omega) (by omega)) dL_law_1074 ?_
  rw [nI_clamp (n := ((5 * j) + 1)) (by omega)]
  obtain ⟨_, _, _, _, _, _, _, _, _, _, _, _, _, _, x0_59, -⟩ := getr_M hM0.1
  refine lw_Mi (va_runV (As := [.int (xs ((5 * j) + 1))]) (rest := []) ⟨hx, hb, hml, hown, ht⟩ (c_X12_weigh l D cy _ (List.range 20) aM eM hM0.1 (xs ((5 * j) + 1)) ) (kw_X12_weigh ht tw_1239 ⟨(Nat.le_of_ble_eq_true rfl), (Nat.le_of_ble_eq_true rfl)⟩) (preV_of hW.sy.hp hK (List.mem_range.mpr (by decide)) x0_59 rfl) rfl rfl hl.1 rfl (lv_room (Nat.le_of_ble_eq_true rfl)) dL_law_1075 ⟨by show 135 + 2 * j + 3 * z + 0 ≤ 600000; omega, by show 27787 + 12 * j + 24096 * z + 0 ≤ 7302250; omega⟩) hW.sy (fun r_59 H locs en_59 hw_59 hW9 => ?_)
  have hW := hW9.sy
  obtain ⟨hs_59, hu_59, hms_59, hkp_59⟩ := hw_59
  have hM_59 := LIM_k hM0 hs_59 hkp_59.2.2.2.1 hkp_59.2.2.2.2 (fun c hc => hu_59 c (by omega))
  have hM0 := hM_59
  refine lv_pop hx hb dL_law_1078 rfl ?_
  refine lv_goto (tgt := 1164) hx hb dL_law_1079 (by decide) ?_
  refine W.widen (k := 137 + 2 * j + 3 * z) (n := 27799 + 12 * j + 24096 * z) (by omega) (by omega) ?_
  exact kk z n aX en_58 en_59 F _ _ ls (by omega) rfl hX_58 hM_59 ⟨(RLX_h hR (weigh_rel hXo.2.1 hXo.2.2.1 hR.2.1 hR.2.2.2.2.2.1 hR.2.2.2.1 hxs_58 hms_59).2 hu_58 hkp_59.1 hkp_59.2.1 hkp_59.2.2.1 hkp_59.2.2.2.2 hu_59), (LNX_f hLN (fun c h1 h2 h3 => hu_58 c (by omega)))⟩ hW (lv_sub hl [0, 1, 2, 3] rfl)
set_option maxHeartbeats 4000000 in
set_option maxRecDepth 100000 in
/-- the law at as -/
theorem op_26 {p : Program} {e : Env} {s : State} {m : MethodId} {below : List Frame} {meth : Method} {c : Code} (l : Launch) {b L : Nat} {xs : Nat → Int32} (C0 : lw_At p s m meth c b L xs) (hL : L ≤ 2560) {D : va_G} {cy : Nat → ClassId} (hK : va_K D vwCl (tyl cy) s) {x y j z n : Nat} {aX aM : Nat → Nat} {eX eM : Nat → va_E} {F : Nat → Nat → Int32} {H : Heap} {locs : List Loc} {ls : Array Slot} (hj : 5 * j + 5 ≤ L) (hz : z ≤ 1) (hx0 : aX 0 = x) (hy0 : aM 0 = y) (hX0 : LIX cy z n aX eX F) (hM0 : LIM cy aM eM) (hRL : RLN9 F eX eM) (hW : LW2 D s (List.range n) aX eX (List.range 20) aM eM H locs) (hl : lv_has ls 4 [(3, .int (nI (5 * j))), (2, .ref y), (1, .ref x), (0, .ref b)]) (kk : ∀ (z1 n1 : Nat) (aX1 : Nat → Nat) (eX1 eM1 : Nat → va_E) (F1 : Nat → Nat → Int32) (H1 : Heap) (locs1 : List Loc) (ls1 : Array Slot), z1 ≤ 1 → aX1 0 = x → LIX cy z1 n1 aX1 eX1 F1 → LIM cy aM eM1 → RLN9 F1 eX1 eM1 → LW2 D s (List.range n1) aX1 eX1 (List.range 20) aM eM1 H1 locs1 → lv_has ls1 4 [(3, .int (nI (5 * j))), (2, .ref y), (1, .ref x), (0, .ref b)] → W p l e room_1 s m #[Value.ref b] below meth c H1 locs1 (137 + 2 * j + 3 * z1) (27799 + 12 * j + 24096 * z1) (lw_Z below #[Value.ref b] s) (F0 m 1164 ls1 [])) : W p l e room_1 s m #[Value.ref b] below meth c H locs (135 + 2 * j + 3 * z) (27787 + 12 * j + 24096 * z) (lw_Z below #[Value.ref b] s) (F0 m 1082 ls []) := by
  obtain ⟨hx, hb, hr, hml, hown, hts, hXs, hbl, hlocks, hgv⟩ := id C0
  have ht : ∀ w ∈ TB, w.before #[Value.ref b] s = true := fun w h => hts w (TB_lw h)
  have hXW := XW_law hts
  have hbA : ¬ (AL s) b := Nat.not_le.mpr hbl
  subst hx0
  subst hy0
  have hn115 := hX0.1
  have hXo := hX0
  have hR := hRL.1
  have hLN := hRL.2
  refine lv_aload_n hx hb dL_law_1082 rfl (lv_at hl 2 rfl) ?_
  refine lv_aload_n hx hb dL_law_1083 rfl (lv_at hl 3 rfl) ?_
  refine lv_iload_n hx hb dL_law_1084 rfl (lv_at hl 0 rfl) ?_
  refine lv_iconst (v := 1) hx hb dL_law_1085 (by decide) ?_
  refine lv_iadd hx hb dL_law_1086 ?_
  rw [show (1 : Int32) = nI 1 from rfl, nI_add (5 * j) 1]
  refine va_sld hx hb hXs hbl hbA hW.2.2.2.2.2 (i := nI ((5 * j) + 1)) (vp_in_nI (n := ((5 * j) + 1)) (by omega) (by omega)) dL_law_1087 ?_
  rw [nI_clamp (n := ((5 * j) + 1)) (by omega)]
  refine lv_aload_n hx hb dL_law_1088 rfl (lv_at hl 3 rfl) ?_
  refine lv_iload_n hx hb dL_law_1089 rfl (lv_at hl 0 rfl) ?_
  refine lv_iconst (v := 2) hx hb dL_law_1090 (by decide) ?_
  refine lv_iadd hx hb dL_law_1091 ?_
  rw [show (2 : Int32) = nI 2 from rfl, nI_add (5 * j) 2]
  refine va_sld hx hb hXs hbl hbA hW.2.2.2.2.2 (i := nI ((5 * j) + 2)) (vp_in_nI (n := ((5 * j) + 2)) (by omega) (by omega)) dL_law_1092 ?_
  rw [nI_clamp (n := ((5 * j) + 2)) (by omega)]
  obtain ⟨wc_60, lf_60, x0_60, -⟩ := get_A hX0.2.1
  refine lw_Mi (va_runV (As := [.int (xs ((5 * j) + 1)), .int (xs ((5 * j) + 2))]) (rest := []) ⟨hx, hb, hml, hown, ht⟩ (c_X11_as l D cy _ (List.range n) aX eX hX0.2.1 (xs ((5 * j) + 1)) (xs ((5 * j) + 2)) F hX0.2.2.1) (kw_X11_as ht tw_835 ⟨(Nat.le_of_ble_eq_true rfl), (Nat.le_of_ble_eq_true rfl)⟩) (preV_of hW.hp hK (List.mem_range.mpr (by omega)) x0_60 rfl) rfl rfl hl.1 rfl (lv_room (Nat.le_of_ble_eq_true rfl)) dL_law_1093 ⟨by show 135 + 2 * j + 3 * z + 0 ≤ 600000; omega, by show 27787 + 12 * j + 24096 * z + 0 ≤ 7302250; omega⟩) hW (fun r_60 H locs en_60 hw_60 hW9 => ?_)
  have hW := hW9
  obtain ⟨hs_60, hu_60, hxs_60, hr6_60⟩ := hw_60
  have hX_60 := LIX_k hX0 hs_60 hr6_60 (fun c hc => hu_60 c (by omega))
  have hX0 := hX_60
  refine lv_pop hx hb dL_law_1096 rfl ?_
  refine lv_aload_n hx hb dL_law_1097 rfl (lv_at hl 1 rfl) ?_
  refine lv_aload_n hx hb dL_law_1098 rfl (lv_at hl 3 rfl) ?_
  refine lv_iload_n hx hb dL_law_1099 rfl (lv_at hl 0 rfl) ?_
  refine lv_iconst (v := 1) hx hb dL_law_1100 (by decide) ?_
  refine lv_iadd hx hb dL_law_1101 ?_
  rw [show (1 : Int32) = nI 1 from rfl, nI_add (5 * j) 1]
  refine va_sld hx hb hXs hbl hbA hW.2.2.2.2.2 (i := nI ((5 * j) + 1)) (vp_in_nI (n := ((5 * j) + 1)) (by omega) (by omega)) dL_law_1102 ?_
  rw [nI_clamp (n := ((5 * j) + 1)) (by omega)]
  refine lv_aload_n hx hb dL_law_1103 rfl (lv_at hl 3 rfl) ?_
  refine lv_iload_n hx hb dL_law_1104 rfl (lv_at hl 0 rfl) ?_
  refine lv_iconst (v := 2) hx hb dL_law_1105 (by decide) ?_
  refine lv_iadd hx hb dL_law_1106 ?_
  rw [show (2 : Int32) = nI 2 from rfl, nI_add (5 * j) 2]
  refine va_sld hx hb hXs hbl hbA hW.2.2.2.2.2 (i := nI ((5 * j) + 2)) (vp_in_nI (n := ((5 * j) + 2)) (by omega) (by omega)) dL_law_1107 ?_
  rw [nI_clamp (n := ((5 * j) + 2)) (by omega)]
  obtain ⟨_, _, _, _, _, _, _, _, _, _, _, _, _, _, x0_61, -⟩ := getr_M hM0.1
  refine lw_Mi (va_runV (As := [.int (xs ((5 * j) + 1)), .int (xs ((5 * j) + 2))]) (rest := []) ⟨hx, hb, hml, hown, ht⟩ (c_X12_as l D cy _ (List.range 20) aM eM hM0.1 (xs ((5 * j) + 1)) (xs ((5 * j) + 2)) ) (kw_X12_as ht tw_1243 ⟨(Nat.le_of_ble_eq_true rfl), (Nat.le_of_ble_eq_true rfl)⟩) (preV_of hW.sy.hp hK (List.mem_range.mpr (by decide)) x0_61 rfl) rfl rfl hl.1 rfl (lv_room (Nat.le_of_ble_eq_true rfl)) dL_law_1108 ⟨by show 135 + 2 * j + 3 * z + 0 ≤ 600000; omega, by show 27787 + 12 * j + 24096 * z + 0 ≤ 7302250; omega⟩) hW.sy (fun r_61 H locs en_61 hw_61 hW9 => ?_)
  have hW := hW9.sy
  obtain ⟨hs_61, hu_61, hms_61, hkp_61⟩ := hw_61
  have hM_61 := LIM_k hM0 hs_61 hkp_61.2.2.2.2.1 hkp_61.2.2.2.2.2 (fun c hc => hu_61 c (by omega))
  have hM0 := hM_61
  refine lv_pop hx hb dL_law_1111 rfl ?_
  refine lv_goto (tgt := 1164) hx hb dL_law_1112 (by decide) ?_
  refine W.widen (k := 137 + 2 * j + 3 * z) (n := 27799 + 12 * j + 24096 * z) (by omega) (by omega) ?_
  exact kk z n aX en_60 en_61 F _ _ ls (by omega) rfl hX_60 hM_61 ⟨(RLX_keep hR ⟨hr6_60, fun c hc => hu_60 c (by omega)⟩ (MK_KP hkp_61 (fun c hc => hu_61 c (by omega)))), (LNX_f hLN (fun c h1 h2 h3 => hu_60 c (by omega)))⟩ hW (lv_sub hl [0, 1, 2, 3] rfl)
set_option maxHeartbeats 4000000 in
set_option maxRecDepth 100000 in
/-- the law at history -/
theorem op_27 {p : Program} {e : Env} {s : State} {m : MethodId} {below : List Frame} {meth : Method} {c : Code} (l : Launch) {b L : Nat} {xs : Nat → Int32} (C0 : lw_At p s m meth c b L xs) (hL : L ≤ 2560) {D : va_G} {cy : Nat → ClassId} (hK : va_K D vwCl (tyl cy) s) {x y j z n : Nat} {aX aM : Nat → Nat} {eX eM : Nat → va_E} {F : Nat → Nat → Int32} {H : Heap} {locs : List Loc} {ls : Array Slot} (hj : 5 * j + 5 ≤ L) (hz : z ≤ 1) (hx0 : aX 0 = x) (hy0 : aM 0 = y) (hX0 : LIX cy z n aX eX F) (hM0 : LIM cy aM eM) (hRL : RLN9 F eX eM) (hW : LW2 D s (List.range n) aX eX (List.range 20) aM eM H locs) (hl : lv_has ls 4 [(3, .int (nI (5 * j))), (2, .ref y), (1, .ref x), (0, .ref b)]) (kk : ∀ (z1 n1 : Nat) (aX1 : Nat → Nat) (eX1 eM1 : Nat → va_E) (F1 : Nat → Nat → Int32) (H1 : Heap) (locs1 : List Loc) (ls1 : Array Slot), z1 ≤ 1 → aX1 0 = x → LIX cy z1 n1 aX1 eX1 F1 → LIM cy aM eM1 → RLN9 F1 eX1 eM1 → LW2 D s (List.range n1) aX1 eX1 (List.range 20) aM eM1 H1 locs1 → lv_has ls1 4 [(3, .int (nI (5 * j))), (2, .ref y), (1, .ref x), (0, .ref b)] → W p l e room_1 s m #[Value.ref b] below meth c H1 locs1 (137 + 2 * j + 3 * z1) (27799 + 12 * j + 24096 * z1) (lw_Z below #[Value.ref b] s) (F0 m 1164 ls1 [])) : W p l e room_1 s m #[Value.ref b] below meth c H locs (135 + 2 * j + 3 * z) (27787 + 12 * j + 24096 * z) (lw_Z below #[Value.ref b] s) (F0 m 1115 ls []) := by
  obtain ⟨hx, hb, hr, hml, hown, hts, hXs, hbl, hlocks, hgv⟩ := id C0
  have ht : ∀ w ∈ TB, w.before #[Value.ref b] s = true := fun w h => hts w (TB_lw h)
  have hXW := XW_law hts
  have hbA : ¬ (AL s) b := Nat.not_le.mpr hbl
  subst hx0
  subst hy0
  have hn115 := hX0.1
  have hXo := hX0
  have hR := hRL.1
  have hLN := hRL.2
  refine lv_aload_n hx hb dL_law_1115 rfl (lv_at hl 2 rfl) ?_
  obtain ⟨wc_62, lf_62, x0_62, -⟩ := get_A hX0.2.1
  refine lw_Ri (va_runV (As := []) (rest := []) ⟨hx, hb, hml, hown, ht⟩ (c_X11_history l D cy _ (List.range n) aX eX hX0.2.1  ) (kw_X11_history ht tw_856 ⟨(Nat.le_of_ble_eq_true rfl), (Nat.le_of_ble_eq_true rfl)⟩) (preV_of hW.hp hK (List.mem_range.mpr (by omega)) x0_62 rfl) rfl rfl hl.1 rfl (lv_room (Nat.le_of_ble_eq_true rfl)) dL_law_1116 ⟨by show 135 + 2 * j + 3 * z + 0 ≤ 600000; omega, by show 27787 + 12 * j + 24096 * z + 0 ≤ 7302250; omega⟩) hW (fun r_62 H locs hw_62 hW9 => ?_)
  have hW := hW9
  refine lv_pop hx hb dL_law_1119 rfl ?_
  refine lv_aload_n hx hb dL_law_1120 rfl (lv_at hl 1 rfl) ?_
  obtain ⟨_, _, _, _, _, _, _, _, _, _, _, _, _, _, x0_63, -⟩ := getr_M hM0.1
  refine lw_Ri (va_runV (As := []) (rest := []) ⟨hx, hb, hml, hown, ht⟩ (c_X12_history l D cy _ (List.range 20) aM eM hM0.1  ) (kw_X12_history ht tw_1247 ⟨(Nat.le_of_ble_eq_true rfl), (Nat.le_of_ble_eq_true rfl)⟩) (preV_of hW.sy.hp hK (List.mem_range.mpr (by decide)) x0_63 rfl) rfl rfl hl.1 rfl (lv_room (Nat.le_of_ble_eq_true rfl)) dL_law_1121 ⟨by show 135 + 2 * j + 3 * z + 0 ≤ 600000; omega, by show 27787 + 12 * j + 24096 * z + 0 ≤ 7302250; omega⟩) hW.sy (fun r_63 H locs hw_63 hW9 => ?_)
  have hW := hW9.sy
  refine lv_pop hx hb dL_law_1124 rfl ?_
  refine lv_goto (tgt := 1164) hx hb dL_law_1125 (by decide) ?_
  refine W.widen (k := 137 + 2 * j + 3 * z) (n := 27799 + 12 * j + 24096 * z) (by omega) (by omega) ?_
  exact kk z n aX eX eM F _ _ ls (by omega) rfl hX0 hM0 ⟨(RLX_keep hR (XK_rf _) (MK_rf _)), hLN⟩ hW (lv_sub hl [0, 1, 2, 3] rfl)
set_option maxHeartbeats 4000000 in
set_option maxRecDepth 100000 in
/-- the law at fault -/
theorem op_28 {p : Program} {e : Env} {s : State} {m : MethodId} {below : List Frame} {meth : Method} {c : Code} (l : Launch) {b L : Nat} {xs : Nat → Int32} (C0 : lw_At p s m meth c b L xs) (hL : L ≤ 2560) {D : va_G} {cy : Nat → ClassId} (hK : va_K D vwCl (tyl cy) s) {x y j z n : Nat} {aX aM : Nat → Nat} {eX eM : Nat → va_E} {F : Nat → Nat → Int32} {H : Heap} {locs : List Loc} {ls : Array Slot} (hj : 5 * j + 5 ≤ L) (hz : z ≤ 1) (hx0 : aX 0 = x) (hy0 : aM 0 = y) (hX0 : LIX cy z n aX eX F) (hM0 : LIM cy aM eM) (hRL : RLN9 F eX eM) (hW : LW2 D s (List.range n) aX eX (List.range 20) aM eM H locs) (hl : lv_has ls 4 [(3, .int (nI (5 * j))), (2, .ref y), (1, .ref x), (0, .ref b)]) (kk : ∀ (z1 n1 : Nat) (aX1 : Nat → Nat) (eX1 eM1 : Nat → va_E) (F1 : Nat → Nat → Int32) (H1 : Heap) (locs1 : List Loc) (ls1 : Array Slot), z1 ≤ 1 → aX1 0 = x → LIX cy z1 n1 aX1 eX1 F1 → LIM cy aM eM1 → RLN9 F1 eX1 eM1 → LW2 D s (List.range n1) aX1 eX1 (List.range 20) aM eM1 H1 locs1 → lv_has ls1 4 [(3, .int (nI (5 * j))), (2, .ref y), (1, .ref x), (0, .ref b)] → W p l e room_1 s m #[Value.ref b] below meth c H1 locs1 (137 + 2 * j + 3 * z1) (27799 + 12 * j + 24096 * z1) (lw_Z below #[Value.ref b] s) (F0 m 1164 ls1 [])) : W p l e room_1 s m #[Value.ref b] below meth c H locs (135 + 2 * j + 3 * z) (27787 + 12 * j + 24096 * z) (lw_Z below #[Value.ref b] s) (F0 m 1128 ls []) := by
  obtain ⟨hx, hb, hr, hml, hown, hts, hXs, hbl, hlocks, hgv⟩ := id C0
  have ht : ∀ w ∈ TB, w.before #[Value.ref b] s = true := fun w h => hts w (TB_lw h)
  have hXW := XW_law hts
  have hbA : ¬ (AL s) b := Nat.not_le.mpr hbl
  subst hx0
  subst hy0
  have hn115 := hX0.1
  have hXo := hX0
  have hR := hRL.1
  have hLN := hRL.2
  refine lv_aload_n hx hb dL_law_1128 rfl (lv_at hl 2 rfl) ?_
  obtain ⟨wc_64, lf_64, x0_64, -⟩ := get_A hX0.2.1
  refine lw_Ri (va_runV (As := []) (rest := []) ⟨hx, hb, hml, hown, ht⟩ (c_X11_fault l D cy _ (List.range n) aX eX hX0.2.1  ) (kw_X11_fault ht tw_860 ⟨(Nat.le_of_ble_eq_true rfl), (Nat.le_of_ble_eq_true rfl)⟩) (preV_of hW.hp hK (List.mem_range.mpr (by omega)) x0_64 rfl) rfl rfl hl.1 rfl (lv_room (Nat.le_of_ble_eq_true rfl)) dL_law_1129 ⟨by show 135 + 2 * j + 3 * z + 0 ≤ 600000; omega, by show 27787 + 12 * j + 24096 * z + 0 ≤ 7302250; omega⟩) hW (fun r_64 H locs hw_64 hW9 => ?_)
  have hW := hW9
  refine lv_pop hx hb dL_law_1132 rfl ?_
  refine lv_aload_n hx hb dL_law_1133 rfl (lv_at hl 1 rfl) ?_
  obtain ⟨_, _, _, _, _, _, _, _, _, _, _, _, _, _, x0_65, -⟩ := getr_M hM0.1
  refine lw_Ri (va_runV (As := []) (rest := []) ⟨hx, hb, hml, hown, ht⟩ (c_X12_fault l D cy _ (List.range 20) aM eM hM0.1  ) (kw_X12_fault ht tw_1251 ⟨(Nat.le_of_ble_eq_true rfl), (Nat.le_of_ble_eq_true rfl)⟩) (preV_of hW.sy.hp hK (List.mem_range.mpr (by decide)) x0_65 rfl) rfl rfl hl.1 rfl (lv_room (Nat.le_of_ble_eq_true rfl)) dL_law_1134 ⟨by show 135 + 2 * j + 3 * z + 0 ≤ 600000; omega, by show 27787 + 12 * j + 24096 * z + 0 ≤ 7302250; omega⟩) hW.sy (fun r_65 H locs hw_65 hW9 => ?_)
  have hW := hW9.sy
  refine lv_pop hx hb dL_law_1137 rfl ?_
  refine lv_goto (tgt := 1164) hx hb dL_law_1138 (by decide) ?_
  refine W.widen (k := 137 + 2 * j + 3 * z) (n := 27799 + 12 * j + 24096 * z) (by omega) (by omega) ?_
  exact kk z n aX eX eM F _ _ ls (by omega) rfl hX0 hM0 ⟨(RLX_keep hR (XK_rf _) (MK_rf _)), hLN⟩ hW (lv_sub hl [0, 1, 2, 3] rfl)
set_option maxHeartbeats 4000000 in
set_option maxRecDepth 100000 in
/-- the law at told -/
theorem op_29 {p : Program} {e : Env} {s : State} {m : MethodId} {below : List Frame} {meth : Method} {c : Code} (l : Launch) {b L : Nat} {xs : Nat → Int32} (C0 : lw_At p s m meth c b L xs) (hL : L ≤ 2560) {D : va_G} {cy : Nat → ClassId} (hK : va_K D vwCl (tyl cy) s) {x y j z n : Nat} {aX aM : Nat → Nat} {eX eM : Nat → va_E} {F : Nat → Nat → Int32} {H : Heap} {locs : List Loc} {ls : Array Slot} (hj : 5 * j + 5 ≤ L) (hz : z ≤ 1) (hx0 : aX 0 = x) (hy0 : aM 0 = y) (hX0 : LIX cy z n aX eX F) (hM0 : LIM cy aM eM) (hRL : RLN9 F eX eM) (hW : LW2 D s (List.range n) aX eX (List.range 20) aM eM H locs) (hl : lv_has ls 4 [(3, .int (nI (5 * j))), (2, .ref y), (1, .ref x), (0, .ref b)]) (kk : ∀ (z1 n1 : Nat) (aX1 : Nat → Nat) (eX1 eM1 : Nat → va_E) (F1 : Nat → Nat → Int32) (H1 : Heap) (locs1 : List Loc) (ls1 : Array Slot), z1 ≤ 1 → aX1 0 = x → LIX cy z1 n1 aX1 eX1 F1 → LIM cy aM eM1 → RLN9 F1 eX1 eM1 → LW2 D s (List.range n1) aX1 eX1 (List.range 20) aM eM1 H1 locs1 → lv_has ls1 4 [(3, .int (nI (5 * j))), (2, .ref y), (1, .ref x), (0, .ref b)] → W p l e room_1 s m #[Value.ref b] below meth c H1 locs1 (137 + 2 * j + 3 * z1) (27799 + 12 * j + 24096 * z1) (lw_Z below #[Value.ref b] s) (F0 m 1164 ls1 [])) : W p l e room_1 s m #[Value.ref b] below meth c H locs (135 + 2 * j + 3 * z) (27787 + 12 * j + 24096 * z) (lw_Z below #[Value.ref b] s) (F0 m 1141 ls []) := by
  obtain ⟨hx, hb, hr, hml, hown, hts, hXs, hbl, hlocks, hgv⟩ := id C0
  have ht : ∀ w ∈ TB, w.before #[Value.ref b] s = true := fun w h => hts w (TB_lw h)
  have hXW := XW_law hts
  have hbA : ¬ (AL s) b := Nat.not_le.mpr hbl
  subst hx0
  subst hy0
  have hn115 := hX0.1
  have hXo := hX0
  have hR := hRL.1
  have hLN := hRL.2
  refine lv_aload_n hx hb dL_law_1141 rfl (lv_at hl 2 rfl) ?_
  refine lv_aload_n hx hb dL_law_1142 rfl (lv_at hl 3 rfl) ?_
  refine lv_iload_n hx hb dL_law_1143 rfl (lv_at hl 0 rfl) ?_
  refine lv_iconst (v := 1) hx hb dL_law_1144 (by decide) ?_
  refine lv_iadd hx hb dL_law_1145 ?_
  rw [show (1 : Int32) = nI 1 from rfl, nI_add (5 * j) 1]
  refine va_sld hx hb hXs hbl hbA hW.2.2.2.2.2 (i := nI ((5 * j) + 1)) (vp_in_nI (n := ((5 * j) + 1)) (by omega) (by omega)) dL_law_1146 ?_
  rw [nI_clamp (n := ((5 * j) + 1)) (by omega)]
  obtain ⟨wc_66, lf_66, x0_66, -⟩ := get_A hX0.2.1
  refine lw_Ri (va_runV (As := [.int (xs ((5 * j) + 1))]) (rest := []) ⟨hx, hb, hml, hown, ht⟩ (c_X11_told l D cy _ (List.range n) aX eX hX0.2.1 (xs ((5 * j) + 1)) ) (kw_X11_told ht tw_864 ⟨(Nat.le_of_ble_eq_true rfl), (Nat.le_of_ble_eq_true rfl)⟩) (preV_of hW.hp hK (List.mem_range.mpr (by omega)) x0_66 rfl) rfl rfl hl.1 rfl (lv_room (Nat.le_of_ble_eq_true rfl)) dL_law_1147 ⟨by show 135 + 2 * j + 3 * z + 0 ≤ 600000; omega, by show 27787 + 12 * j + 24096 * z + 0 ≤ 7302250; omega⟩) hW (fun r_66 H locs hw_66 hW9 => ?_)
  have hW := hW9
  refine lv_pop hx hb dL_law_1150 rfl ?_
  refine lv_aload_n hx hb dL_law_1151 rfl (lv_at hl 1 rfl) ?_
  refine lv_aload_n hx hb dL_law_1152 rfl (lv_at hl 3 rfl) ?_
  refine lv_iload_n hx hb dL_law_1153 rfl (lv_at hl 0 rfl) ?_
  refine lv_iconst (v := 1) hx hb dL_law_1154 (by decide) ?_
  refine lv_iadd hx hb dL_law_1155 ?_
  rw [show (1 : Int32) = nI 1 from rfl, nI_add (5 * j) 1]
  refine va_sld hx hb hXs hbl hbA hW.2.2.2.2.2 (i := nI ((5 * j) + 1)) (vp_in_nI (n := ((5 * j) + 1)) (by omega) (by omega)) dL_law_1156 ?_
  rw [nI_clamp (n := ((5 * j) + 1)) (by omega)]
  obtain ⟨_, _, _, _, _, _, _, _, _, _, _, _, _, _, x0_67, -⟩ := getr_M hM0.1
  refine lw_Ri (va_runV (As := [.int (xs ((5 * j) + 1))]) (rest := []) ⟨hx, hb, hml, hown, ht⟩ (c_X12_told l D cy _ (List.range 20) aM eM hM0.1 (xs ((5 * j) + 1)) ) (kw_X12_told ht tw_1255 ⟨(Nat.le_of_ble_eq_true rfl), (Nat.le_of_ble_eq_true rfl)⟩) (preV_of hW.sy.hp hK (List.mem_range.mpr (by decide)) x0_67 rfl) rfl rfl hl.1 rfl (lv_room (Nat.le_of_ble_eq_true rfl)) dL_law_1157 ⟨by show 135 + 2 * j + 3 * z + 0 ≤ 600000; omega, by show 27787 + 12 * j + 24096 * z + 0 ≤ 7302250; omega⟩) hW.sy (fun r_67 H locs hw_67 hW9 => ?_)
  have hW := hW9.sy
  refine lv_pop hx hb dL_law_1160 rfl ?_
  refine lv_goto (tgt := 1164) hx hb dL_law_1161 (by decide) ?_
  refine W.widen (k := 137 + 2 * j + 3 * z) (n := 27799 + 12 * j + 24096 * z) (by omega) (by omega) ?_
  exact kk z n aX eX eM F _ _ ls (by omega) rfl hX0 hM0 ⟨(RLX_keep hR (XK_rf _) (MK_rf _)), hLN⟩ hW (lv_sub hl [0, 1, 2, 3] rfl)
