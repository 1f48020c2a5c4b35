set_option maxHeartbeats 4000000 in
set_option maxRecDepth 100000 in
/-- the law at join -/
theorem op_15 {p : Program} {e : Env} {s : State} {m : MethodId} {below : List Frame} {meth : Method} {c : Code} (l : Launch) {b : Nat} {xs : Nat → Int32} (C0 : lw_At p s m meth c b 5 xs) {D : va_G} {cy : Nat → ClassId} {adX adM : Nat → Nat} {enX enM : Nat → va_E} {H : Heap} {locs : List Loc} {ls : Array Slot} (hK : va_K D vwCl (tyl cy) s) (hFX : FX cy adX enX) (hFM : FMo cy adM enM) (hPX : va_P D vwCl (wl (List.range 115) adX enX) H) (hDX : va_D (AL s) (wl (List.range 115) adX enX)) (hPM : va_P D vwCl (wl (List.range 20) adM enM) H) (hDM : va_D (AL s) (wl (List.range 20) adM enM)) (hdis : ∀ i j, i < 115 → j < 20 → adX i ≠ adM j) (hS : va_S (AL s) s.heap H locs) (hl : lv_has ls 4 [(3, .int 0), (2, .ref (adM 0)), (1, .ref (adX 0)), (0, .ref b)]) : W p l e room_1 s m #[Value.ref b] below meth c H locs 135 27787 (lw_Z below #[Value.ref b] s) (F0 m 713 ls []) := by
  obtain ⟨hx, hb, hr, hml, hown, hts, hX, hbl, hlocks, hgv⟩ := id C0
  have ht : ∀ w ∈ TB, w.before #[Value.ref b] s = true := fun w h => hts w (TB_lw h)
  have hbA : ¬ (AL s) b := Nat.not_le.mpr hbl
  have hAL : ∀ q : Nat, s.heap.size ≤ q → AL s q := fun _ h => h
  obtain ⟨x0, x1, ⟨f10, x10⟩, x12, x13, x14, x16, xv, x70, x75, xs_, xc, x76⟩ := hFX
  obtain ⟨y0, y2, ⟨g3, y3, hg3⟩, y4, y5, y6, y7⟩ := hFM
  refine lv_aload_n hx hb dL_law_713 rfl (lv_at hl 2 rfl) ?_
  refine lv_aload_n hx hb dL_law_714 rfl (lv_at hl 3 rfl) ?_
  refine lv_iload_n hx hb dL_law_715 rfl (lv_at hl 0 rfl) ?_
  refine lv_iconst (v := 1) hx hb dL_law_716 (by decide) ?_
  refine lv_iadd hx hb dL_law_717 ?_
  rw [show (0 : Int32) + 1 = 1 by decide]
  refine va_sld hx hb hX hbl hbA hS (i := 1) (vp_in_iff.mpr (by decide)) dL_law_718 ?_
  refine lv_aload_n hx hb dL_law_719 rfl (lv_at hl 3 rfl) ?_
  refine lv_iload_n hx hb dL_law_720 rfl (lv_at hl 0 rfl) ?_
  refine lv_iconst (v := 2) hx hb dL_law_721 (by decide) ?_
  refine lv_iadd hx hb dL_law_722 ?_
  rw [show (0 : Int32) + 2 = 2 by decide]
  refine va_sld hx hb hX hbl hbA hS (i := 2) (vp_in_iff.mpr (by decide)) dL_law_723 ?_
  refine va_calli (va_runV (As := [.int (xs (1 : Int32).toNatClampNeg), .int (xs (2 : Int32).toNatClampNeg)]) (rest := []) ⟨hx, hb, hml, hown, ht⟩ (c_X11_join l D cy _ (List.range 115) adX enX (fun c h => List.mem_range.mpr h) 0 (xs (1 : Int32).toNatClampNeg) (xs (2 : Int32).toNatClampNeg) x0) (kw_X11_join ht tw_699 ⟨Nat.le_of_ble_eq_true rfl, Nat.le_of_ble_eq_true rfl⟩) (preV_of (⟨hPX, hDX, hS⟩ : Hp D (AL s) (AL s) s.heap _ _ (List.range 115) adX enX) hK (List.mem_range.mpr (by decide)) x0 rfl) rfl rfl hl.1 rfl (lv_room (Nat.le_of_ble_eq_true rfl)) dL_law_724 ⟨Nat.le_of_ble_eq_true rfl, Nat.le_of_ble_eq_true rfl⟩) hS (fun q h1 h2 => absurd h2 (Nat.not_le.mpr h1)) (fun q h => Nat.le_trans hS.1 h) (fun r_304 u_304 t_304 H locs ht_304 hvm_304 hw_304 hB_304 hz_304 hk_304 hS => ?_)
  obtain rfl : r_304 = (-1) := hw_304
  have hPM := wl_keptN hPM hk_304
  refine lv_aload_n hx hb dL_law_727 rfl (lv_at hl 1 rfl) ?_
  refine lv_aload_n hx hb dL_law_728 rfl (lv_at hl 3 rfl) ?_
  refine lv_iload_n hx hb dL_law_729 rfl (lv_at hl 0 rfl) ?_
  refine lv_iconst (v := 1) hx hb dL_law_730 (by decide) ?_
  refine lv_iadd hx hb dL_law_731 ?_
  rw [show (0 : Int32) + 1 = 1 by decide]
  refine va_sld hx hb hX hbl hbA hS (i := 1) (vp_in_iff.mpr (by decide)) dL_law_732 ?_
  refine lv_aload_n hx hb dL_law_733 rfl (lv_at hl 3 rfl) ?_
  refine lv_iload_n hx hb dL_law_734 rfl (lv_at hl 0 rfl) ?_
  refine lv_iconst (v := 2) hx hb dL_law_735 (by decide) ?_
  refine lv_iadd hx hb dL_law_736 ?_
  rw [show (0 : Int32) + 2 = 2 by decide]
  refine va_sld hx hb hX hbl hbA hS (i := 2) (vp_in_iff.mpr (by decide)) dL_law_737 ?_
  refine va_calli (va_runV (As := [.int (xs (1 : Int32).toNatClampNeg), .int (xs (2 : Int32).toNatClampNeg)]) (rest := [.int ((-1))]) ⟨hx, hb, hml, hown, ht⟩ (c_X12_join l D cy _ (List.range 20) adM enM (fun c h => List.mem_range.mpr h) (xs (1 : Int32).toNatClampNeg) (xs (2 : Int32).toNatClampNeg) y0) (kw_X12_join ht tw_1171 ⟨Nat.le_of_ble_eq_true rfl, Nat.le_of_ble_eq_true rfl⟩) (preV_of (⟨hPM, hDM, hS⟩ : Hp D (AL s) (AL s) s.heap _ _ (List.range 20) adM enM) hK (List.mem_range.mpr (by decide)) y0 rfl) rfl rfl hl.1 rfl (lv_room (Nat.le_of_ble_eq_true rfl)) dL_law_738 ⟨Nat.le_of_ble_eq_true rfl, Nat.le_of_ble_eq_true rfl⟩) hS (fun q _ h => Af_in (⟨hPM, hDM, hS⟩ : Hp D (AL s) (AL s) s.heap _ _ (List.range 20) adM enM) hAL q h) (Af_in (⟨hPM, hDM, hS⟩ : Hp D (AL s) (AL s) s.heap _ _ (List.range 20) adM enM) hAL) (fun r_305 u_305 t_305 H locs ht_305 hvm_305 hw_305 hB_305 hz_305 hk_305 hS => ?_)
  obtain rfl : r_305 = (-1) := hw_305
  refine lv_icmp_eq (tgt := 1171) hx hb dL_law_741 (by decide) (fun _ => ?_) (fun c_0 => absurd (rfl) c_0)
  exact law_end C0 hS (lv_sub hl [0, 1, 2, 3] rfl)
set_option maxHeartbeats 4000000 in
set_option maxRecDepth 100000 in
/-- the law at letter -/
theorem op_16 {p : Program} {e : Env} {s : State} {m : MethodId} {below : List Frame} {meth : Method} {c : Code} (l : Launch) {b : Nat} {xs : Nat → Int32} (C0 : lw_At p s m meth c b 5 xs) {D : va_G} {cy : Nat → ClassId} {adX adM : Nat → Nat} {enX enM : Nat → va_E} {H : Heap} {locs : List Loc} {ls : Array Slot} (hK : va_K D vwCl (tyl cy) s) (hFX : FX cy adX enX) (hFM : FMo cy adM enM) (hPX : va_P D vwCl (wl (List.range 115) adX enX) H) (hDX : va_D (AL s) (wl (List.range 115) adX enX)) (hPM : va_P D vwCl (wl (List.range 20) adM enM) H) (hDM : va_D (AL s) (wl (List.range 20) adM enM)) (hdis : ∀ i j, i < 115 → j < 20 → adX i ≠ adM j) (hS : va_S (AL s) s.heap H locs) (hl : lv_has ls 4 [(3, .int 0), (2, .ref (adM 0)), (1, .ref (adX 0)), (0, .ref b)]) : W p l e room_1 s m #[Value.ref b] below meth c H locs 135 27787 (lw_Z below #[Value.ref b] s) (F0 m 746 ls []) := by
  obtain ⟨hx, hb, hr, hml, hown, hts, hX, hbl, hlocks, hgv⟩ := id C0
  have ht : ∀ w ∈ TB, w.before #[Value.ref b] s = true := fun w h => hts w (TB_lw h)
  have hbA : ¬ (AL s) b := Nat.not_le.mpr hbl
  have hAL : ∀ q : Nat, s.heap.size ≤ q → AL s q := fun _ h => h
  obtain ⟨x0, x1, ⟨f10, x10⟩, x12, x13, x14, x16, xv, x70, x75, xs_, xc, x76⟩ := hFX
  obtain ⟨y0, y2, ⟨g3, y3, hg3⟩, y4, y5, y6, y7⟩ := hFM
  refine lv_aload_n hx hb dL_law_746 rfl (lv_at hl 2 rfl) ?_
  refine lv_aload_n hx hb dL_law_747 rfl (lv_at hl 3 rfl) ?_
  refine lv_iload_n hx hb dL_law_748 rfl (lv_at hl 0 rfl) ?_
  refine lv_iconst (v := 1) hx hb dL_law_749 (by decide) ?_
  refine lv_iadd hx hb dL_law_750 ?_
  rw [show (0 : Int32) + 1 = 1 by decide]
  refine va_sld hx hb hX hbl hbA hS (i := 1) (vp_in_iff.mpr (by decide)) dL_law_751 ?_
  refine lv_aload_n hx hb dL_law_752 rfl (lv_at hl 3 rfl) ?_
  refine lv_iload_n hx hb dL_law_753 rfl (lv_at hl 0 rfl) ?_
  refine lv_iconst (v := 2) hx hb dL_law_754 (by decide) ?_
  refine lv_iadd hx hb dL_law_755 ?_
  rw [show (0 : Int32) + 2 = 2 by decide]
  refine va_sld hx hb hX hbl hbA hS (i := 2) (vp_in_iff.mpr (by decide)) dL_law_756 ?_
  refine va_calli (va_runV (As := [.int (xs (1 : Int32).toNatClampNeg), .int (xs (2 : Int32).toNatClampNeg)]) (rest := []) ⟨hx, hb, hml, hown, ht⟩ (c_X11_letter l D cy _ (List.range 115) adX enX (fun c h => List.mem_range.mpr h) 0 (xs (1 : Int32).toNatClampNeg) (xs (2 : Int32).toNatClampNeg) x0) (kw_X11_letter ht tw_712 ⟨Nat.le_of_ble_eq_true rfl, Nat.le_of_ble_eq_true rfl⟩) (preV_of (⟨hPX, hDX, hS⟩ : Hp D (AL s) (AL s) s.heap _ _ (List.range 115) adX enX) hK (List.mem_range.mpr (by decide)) x0 rfl) rfl rfl hl.1 rfl (lv_room (Nat.le_of_ble_eq_true rfl)) dL_law_757 ⟨Nat.le_of_ble_eq_true rfl, Nat.le_of_ble_eq_true rfl⟩) hS (fun q h1 h2 => absurd h2 (Nat.not_le.mpr h1)) (fun q h => Nat.le_trans hS.1 h) (fun r_306 u_306 t_306 H locs ht_306 hvm_306 hw_306 hB_306 hz_306 hk_306 hS => ?_)
  obtain rfl : r_306 = (-1) := hw_306
  have hPM := wl_keptN hPM hk_306
  refine lv_aload_n hx hb dL_law_760 rfl (lv_at hl 1 rfl) ?_
  refine lv_aload_n hx hb dL_law_761 rfl (lv_at hl 3 rfl) ?_
  refine lv_iload_n hx hb dL_law_762 rfl (lv_at hl 0 rfl) ?_
  refine lv_iconst (v := 1) hx hb dL_law_763 (by decide) ?_
  refine lv_iadd hx hb dL_law_764 ?_
  rw [show (0 : Int32) + 1 = 1 by decide]
  refine va_sld hx hb hX hbl hbA hS (i := 1) (vp_in_iff.mpr (by decide)) dL_law_765 ?_
  refine lv_aload_n hx hb dL_law_766 rfl (lv_at hl 3 rfl) ?_
  refine lv_iload_n hx hb dL_law_767 rfl (lv_at hl 0 rfl) ?_
  refine lv_iconst (v := 2) hx hb dL_law_768 (by decide) ?_
  refine lv_iadd hx hb dL_law_769 ?_
  rw [show (0 : Int32) + 2 = 2 by decide]
  refine va_sld hx hb hX hbl hbA hS (i := 2) (vp_in_iff.mpr (by decide)) dL_law_770 ?_
  refine va_calli (va_runV (As := [.int (xs (1 : Int32).toNatClampNeg), .int (xs (2 : Int32).toNatClampNeg)]) (rest := [.int ((-1))]) ⟨hx, hb, hml, hown, ht⟩ (c_X12_letter l D cy _ (List.range 20) adM enM (fun c h => List.mem_range.mpr h) (xs (1 : Int32).toNatClampNeg) (xs (2 : Int32).toNatClampNeg) y0) (kw_X12_letter ht tw_1179 ⟨Nat.le_of_ble_eq_true rfl, Nat.le_of_ble_eq_true rfl⟩) (preV_of (⟨hPM, hDM, hS⟩ : Hp D (AL s) (AL s) s.heap _ _ (List.range 20) adM enM) hK (List.mem_range.mpr (by decide)) y0 rfl) rfl rfl hl.1 rfl (lv_room (Nat.le_of_ble_eq_true rfl)) dL_law_771 ⟨Nat.le_of_ble_eq_true rfl, Nat.le_of_ble_eq_true rfl⟩) hS (fun q _ h => Af_in (⟨hPM, hDM, hS⟩ : Hp D (AL s) (AL s) s.heap _ _ (List.range 20) adM enM) hAL q h) (Af_in (⟨hPM, hDM, hS⟩ : Hp D (AL s) (AL s) s.heap _ _ (List.range 20) adM enM) hAL) (fun r_307 u_307 t_307 H locs ht_307 hvm_307 hw_307 hB_307 hz_307 hk_307 hS => ?_)
  obtain rfl : r_307 = (-1) := hw_307
  refine lv_icmp_eq (tgt := 1171) hx hb dL_law_774 (by decide) (fun _ => ?_) (fun c_0 => absurd (rfl) c_0)
  exact law_end C0 hS (lv_sub hl [0, 1, 2, 3] rfl)
set_option maxHeartbeats 4000000 in
set_option maxRecDepth 100000 in
/-- the law at about -/
theorem op_17 {p : Program} {e : Env} {s : State} {m : MethodId} {below : List Frame} {meth : Method} {c : Code} (l : Launch) {b : Nat} {xs : Nat → Int32} (C0 : lw_At p s m meth c b 5 xs) {D : va_G} {cy : Nat → ClassId} {adX adM : Nat → Nat} {enX enM : Nat → va_E} {H : Heap} {locs : List Loc} {ls : Array Slot} (hK : va_K D vwCl (tyl cy) s) (hFX : FX cy adX enX) (hFM : FMo cy adM enM) (hPX : va_P D vwCl (wl (List.range 115) adX enX) H) (hDX : va_D (AL s) (wl (List.range 115) adX enX)) (hPM : va_P D vwCl (wl (List.range 20) adM enM) H) (hDM : va_D (AL s) (wl (List.range 20) adM enM)) (hdis : ∀ i j, i < 115 → j < 20 → adX i ≠ adM j) (hS : va_S (AL s) s.heap H locs) (hl : lv_has ls 4 [(3, .int 0), (2, .ref (adM 0)), (1, .ref (adX 0)), (0, .ref b)]) : W p l e room_1 s m #[Value.ref b] below meth c H locs 135 27787 (lw_Z below #[Value.ref b] s) (F0 m 779 ls []) := by
  obtain ⟨hx, hb, hr, hml, hown, hts, hX, hbl, hlocks, hgv⟩ := id C0
  have ht : ∀ w ∈ TB, w.before #[Value.ref b] s = true := fun w h => hts w (TB_lw h)
  have hbA : ¬ (AL s) b := Nat.not_le.mpr hbl
  have hAL : ∀ q : Nat, s.heap.size ≤ q → AL s q := fun _ h => h
  obtain ⟨x0, x1, ⟨f10, x10⟩, x12, x13, x14, x16, xv, x70, x75, xs_, xc, x76⟩ := hFX
  obtain ⟨y0, y2, ⟨g3, y3, hg3⟩, y4, y5, y6, y7⟩ := hFM
  refine lv_aload_n hx hb dL_law_779 rfl (lv_at hl 2 rfl) ?_
  refine lv_aload_n hx hb dL_law_780 rfl (lv_at hl 3 rfl) ?_
  refine lv_iload_n hx hb dL_law_781 rfl (lv_at hl 0 rfl) ?_
  refine lv_iconst (v := 1) hx hb dL_law_782 (by decide) ?_
  refine lv_iadd hx hb dL_law_783 ?_
  rw [show (0 : Int32) + 1 = 1 by decide]
  refine va_sld hx hb hX hbl hbA hS (i := 1) (vp_in_iff.mpr (by decide)) dL_law_784 ?_
  refine lv_aload_n hx hb dL_law_785 rfl (lv_at hl 3 rfl) ?_
  refine lv_iload_n hx hb dL_law_786 rfl (lv_at hl 0 rfl) ?_
  refine lv_iconst (v := 2) hx hb dL_law_787 (by decide) ?_
  refine lv_iadd hx hb dL_law_788 ?_
  rw [show (0 : Int32) + 2 = 2 by decide]
  refine va_sld hx hb hX hbl hbA hS (i := 2) (vp_in_iff.mpr (by decide)) dL_law_789 ?_
  refine va_calli (va_runV (As := [.int (xs (1 : Int32).toNatClampNeg), .int (xs (2 : Int32).toNatClampNeg)]) (rest := []) ⟨hx, hb, hml, hown, ht⟩ (c_X11_about l D cy _ (List.range 115) adX enX (fun c h => List.mem_range.mpr h) 0 (xs (1 : Int32).toNatClampNeg) (xs (2 : Int32).toNatClampNeg) x0) (kw_X11_about ht tw_716 ⟨Nat.le_of_ble_eq_true rfl, Nat.le_of_ble_eq_true rfl⟩) (preV_of (⟨hPX, hDX, hS⟩ : Hp D (AL s) (AL s) s.heap _ _ (List.range 115) adX enX) hK (List.mem_range.mpr (by decide)) x0 rfl) rfl rfl hl.1 rfl (lv_room (Nat.le_of_ble_eq_true rfl)) dL_law_790 ⟨Nat.le_of_ble_eq_true rfl, Nat.le_of_ble_eq_true rfl⟩) hS (fun q h1 h2 => absurd h2 (Nat.not_le.mpr h1)) (fun q h => Nat.le_trans hS.1 h) (fun r_308 u_308 t_308 H locs ht_308 hvm_308 hw_308 hB_308 hz_308 hk_308 hS => ?_)
  obtain rfl : r_308 = (-1) := hw_308
  have hPM := wl_keptN hPM hk_308
  refine lv_aload_n hx hb dL_law_793 rfl (lv_at hl 1 rfl) ?_
  refine lv_aload_n hx hb dL_law_794 rfl (lv_at hl 3 rfl) ?_
  refine lv_iload_n hx hb dL_law_795 rfl (lv_at hl 0 rfl) ?_
  refine lv_iconst (v := 1) hx hb dL_law_796 (by decide) ?_
  refine lv_iadd hx hb dL_law_797 ?_
  rw [show (0 : Int32) + 1 = 1 by decide]
  refine va_sld hx hb hX hbl hbA hS (i := 1) (vp_in_iff.mpr (by decide)) dL_law_798 ?_
  refine lv_aload_n hx hb dL_law_799 rfl (lv_at hl 3 rfl) ?_
  refine lv_iload_n hx hb dL_law_800 rfl (lv_at hl 0 rfl) ?_
  refine lv_iconst (v := 2) hx hb dL_law_801 (by decide) ?_
  refine lv_iadd hx hb dL_law_802 ?_
  rw [show (0 : Int32) + 2 = 2 by decide]
  refine va_sld hx hb hX hbl hbA hS (i := 2) (vp_in_iff.mpr (by decide)) dL_law_803 ?_
  refine va_calli (va_runV (As := [.int (xs (1 : Int32).toNatClampNeg), .int (xs (2 : Int32).toNatClampNeg)]) (rest := [.int ((-1))]) ⟨hx, hb, hml, hown, ht⟩ (c_X12_about l D cy _ (List.range 20) adM enM (fun c h => List.mem_range.mpr h) (xs (1 : Int32).toNatClampNeg) (xs (2 : Int32).toNatClampNeg) y0) (kw_X12_about ht tw_1183 ⟨Nat.le_of_ble_eq_true rfl, Nat.le_of_ble_eq_true rfl⟩) (preV_of (⟨hPM, hDM, hS⟩ : Hp D (AL s) (AL s) s.heap _ _ (List.range 20) adM enM) hK (List.mem_range.mpr (by decide)) y0 rfl) rfl rfl hl.1 rfl (lv_room (Nat.le_of_ble_eq_true rfl)) dL_law_804 ⟨Nat.le_of_ble_eq_true rfl, Nat.le_of_ble_eq_true rfl⟩) hS (fun q _ h => Af_in (⟨hPM, hDM, hS⟩ : Hp D (AL s) (AL s) s.heap _ _ (List.range 20) adM enM) hAL q h) (Af_in (⟨hPM, hDM, hS⟩ : Hp D (AL s) (AL s) s.heap _ _ (List.range 20) adM enM) hAL) (fun r_309 u_309 t_309 H locs ht_309 hvm_309 hw_309 hB_309 hz_309 hk_309 hS => ?_)
  obtain rfl : r_309 = (-1) := hw_309
  refine lv_icmp_eq (tgt := 1171) hx hb dL_law_807 (by decide) (fun _ => ?_) (fun c_0 => absurd (rfl) c_0)
  exact law_end C0 hS (lv_sub hl [0, 1, 2, 3] rfl)
set_option maxHeartbeats 4000000 in
set_option maxRecDepth 100000 in
/-- the law at entryOf -/
theorem op_18 {p : Program} {e : Env} {s : State} {m : MethodId} {below : List Frame} {meth : Method} {c : Code} (l : Launch) {b : Nat} {xs : Nat → Int32} (C0 : lw_At p s m meth c b 5 xs) {D : va_G} {cy : Nat → ClassId} {adX adM : Nat → Nat} {enX enM : Nat → va_E} {H : Heap} {locs : List Loc} {ls : Array Slot} (hK : va_K D vwCl (tyl cy) s) (hFX : FX cy adX enX) (hFM : FMo cy adM enM) (hPX : va_P D vwCl (wl (List.range 115) adX enX) H) (hDX : va_D (AL s) (wl (List.range 115) adX enX)) (hPM : va_P D vwCl (wl (List.range 20) adM enM) H) (hDM : va_D (AL s) (wl (List.range 20) adM enM)) (hdis : ∀ i j, i < 115 → j < 20 → adX i ≠ adM j) (hS : va_S (AL s) s.heap H locs) (hl : lv_has ls 4 [(3, .int 0), (2, .ref (adM 0)), (1, .ref (adX 0)), (0, .ref b)]) : W p l e room_1 s m #[Value.ref b] below meth c H locs 135 27787 (lw_Z below #[Value.ref b] s) (F0 m 812 ls []) := by
  obtain ⟨hx, hb, hr, hml, hown, hts, hX, hbl, hlocks, hgv⟩ := id C0
  have ht : ∀ w ∈ TB, w.before #[Value.ref b] s = true := fun w h => hts w (TB_lw h)
  have hbA : ¬ (AL s) b := Nat.not_le.mpr hbl
  have hAL : ∀ q : Nat, s.heap.size ≤ q → AL s q := fun _ h => h
  obtain ⟨x0, x1, ⟨f10, x10⟩, x12, x13, x14, x16, xv, x70, x75, xs_, xc, x76⟩ := hFX
  obtain ⟨y0, y2, ⟨g3, y3, hg3⟩, y4, y5, y6, y7⟩ := hFM
  refine lv_aload_n hx hb dL_law_812 rfl (lv_at hl 2 rfl) ?_
  refine lv_aload_n hx hb dL_law_813 rfl (lv_at hl 3 rfl) ?_
  refine lv_iload_n hx hb dL_law_814 rfl (lv_at hl 0 rfl) ?_
  refine lv_iconst (v := 1) hx hb dL_law_815 (by decide) ?_
  refine lv_iadd hx hb dL_law_816 ?_
  rw [show (0 : Int32) + 1 = 1 by decide]
  refine va_sld hx hb hX hbl hbA hS (i := 1) (vp_in_iff.mpr (by decide)) dL_law_817 ?_
  refine lv_aload_n hx hb dL_law_818 rfl (lv_at hl 3 rfl) ?_
  refine lv_iload_n hx hb dL_law_819 rfl (lv_at hl 0 rfl) ?_
  refine lv_iconst (v := 2) hx hb dL_law_820 (by decide) ?_
  refine lv_iadd hx hb dL_law_821 ?_
  rw [show (0 : Int32) + 2 = 2 by decide]
  refine va_sld hx hb hX hbl hbA hS (i := 2) (vp_in_iff.mpr (by decide)) dL_law_822 ?_
  refine lv_aload_n hx hb dL_law_823 rfl (lv_at hl 3 rfl) ?_
  refine lv_iload_n hx hb dL_law_824 rfl (lv_at hl 0 rfl) ?_
  refine lv_iconst (v := 3) hx hb dL_law_825 (by decide) ?_
  refine lv_iadd hx hb dL_law_826 ?_
  rw [show (0 : Int32) + 3 = 3 by decide]
  refine va_sld hx hb hX hbl hbA hS (i := 3) (vp_in_iff.mpr (by decide)) dL_law_827 ?_
  refine va_calll (va_runV (As := [.int (xs (1 : Int32).toNatClampNeg), .int (xs (2 : Int32).toNatClampNeg), .int (xs (3 : Int32).toNatClampNeg)]) (rest := []) ⟨hx, hb, hml, hown, ht⟩ (c_X11_entryOf l D cy _ (List.range 115) adX enX (fun c h => List.mem_range.mpr h) 0 (xs (1 : Int32).toNatClampNeg) (xs (2 : Int32).toNatClampNeg) (xs (3 : Int32).toNatClampNeg) x0) (kw_X11_entryOf ht tw_736 ⟨Nat.le_of_ble_eq_true rfl, Nat.le_of_ble_eq_true rfl⟩) (preV_of (⟨hPX, hDX, hS⟩ : Hp D (AL s) (AL s) s.heap _ _ (List.range 115) adX enX) hK (List.mem_range.mpr (by decide)) x0 rfl) rfl rfl hl.1 rfl (lv_room (Nat.le_of_ble_eq_true rfl)) dL_law_828 ⟨Nat.le_of_ble_eq_true rfl, Nat.le_of_ble_eq_true rfl⟩) hS (fun q h1 h2 => absurd h2 (Nat.not_le.mpr h1)) (fun q h => Nat.le_trans hS.1 h) (fun r_310 u_310 t_310 H locs ht_310 hvm_310 hw_310 hB_310 hz_310 hk_310 hS => ?_)
  obtain rfl : r_310 = (-9223372036854775808) := hw_310
  have hPM := wl_keptN hPM hk_310
  refine lv_aload_n hx hb dL_law_831 rfl (lv_at hl 1 rfl) ?_
  refine lv_aload_n hx hb dL_law_832 rfl (lv_at hl 3 rfl) ?_
  refine lv_iload_n hx hb dL_law_833 rfl (lv_at hl 0 rfl) ?_
  refine lv_iconst (v := 1) hx hb dL_law_834 (by decide) ?_
  refine lv_iadd hx hb dL_law_835 ?_
  rw [show (0 : Int32) + 1 = 1 by decide]
  refine va_sld hx hb hX hbl hbA hS (i := 1) (vp_in_iff.mpr (by decide)) dL_law_836 ?_
  refine lv_aload_n hx hb dL_law_837 rfl (lv_at hl 3 rfl) ?_
  refine lv_iload_n hx hb dL_law_838 rfl (lv_at hl 0 rfl) ?_
  refine lv_iconst (v := 2) hx hb dL_law_839 (by decide) ?_
  refine lv_iadd hx hb dL_law_840 ?_
  rw [show (0 : Int32) + 2 = 2 by decide]
  refine va_sld hx hb hX hbl hbA hS (i := 2) (vp_in_iff.mpr (by decide)) dL_law_841 ?_
  refine lv_aload_n hx hb dL_law_842 rfl (lv_at hl 3 rfl) ?_
  refine lv_iload_n hx hb dL_law_843 rfl (lv_at hl 0 rfl) ?_
  refine lv_iconst (v := 3) hx hb dL_law_844 (by decide) ?_
  refine lv_iadd hx hb dL_law_845 ?_
  rw [show (0 : Int32) + 3 = 3 by decide]
  refine va_sld hx hb hX hbl hbA hS (i := 3) (vp_in_iff.mpr (by decide)) dL_law_846 ?_
  refine va_calll (va_runV (As := [.int (xs (1 : Int32).toNatClampNeg), .int (xs (2 : Int32).toNatClampNeg), .int (xs (3 : Int32).toNatClampNeg)]) (rest := [.long ((-9223372036854775808))]) ⟨hx, hb, hml, hown, ht⟩ (c_X12_entryOf l D cy _ (List.range 20) adM enM (fun c h => List.mem_range.mpr h) (xs (1 : Int32).toNatClampNeg) (xs (2 : Int32).toNatClampNeg) (xs (3 : Int32).toNatClampNeg) y0) (kw_X12_entryOf ht tw_1187 ⟨Nat.le_of_ble_eq_true rfl, Nat.le_of_ble_eq_true rfl⟩) (preV_of (⟨hPM, hDM, hS⟩ : Hp D (AL s) (AL s) s.heap _ _ (List.range 20) adM enM) hK (List.mem_range.mpr (by decide)) y0 rfl) rfl rfl hl.1 rfl (lv_room (Nat.le_of_ble_eq_true rfl)) dL_law_847 ⟨Nat.le_of_ble_eq_true rfl, Nat.le_of_ble_eq_true rfl⟩) hS (fun q _ h => Af_in (⟨hPM, hDM, hS⟩ : Hp D (AL s) (AL s) s.heap _ _ (List.range 20) adM enM) hAL q h) (Af_in (⟨hPM, hDM, hS⟩ : Hp D (AL s) (AL s) s.heap _ _ (List.range 20) adM enM) hAL) (fun r_311 u_311 t_311 H locs ht_311 hvm_311 hw_311 hB_311 hz_311 hk_311 hS => ?_)
  obtain rfl : r_311 = (-9223372036854775808) := hw_311
  refine W.lcmp hx hb dL_law_850 ?_
  refine lv_if_eq (tgt := 1171) hx hb dL_law_851 (by decide) (fun _ => ?_) (fun c_0 => absurd ((lg_cmp_eq _ _).mpr rfl) c_0)
  exact law_end C0 hS (lv_sub hl [0, 1, 2, 3] rfl)
set_option maxHeartbeats 4000000 in
set_option maxRecDepth 100000 in
/-- the law at size -/
theorem op_19 {p : Program} {e : Env} {s : State} {m : MethodId} {below : List Frame} {meth : Method} {c : Code} (l : Launch) {b : Nat} {xs : Nat → Int32} (C0 : lw_At p s m meth c b 5 xs) {D : va_G} {cy : Nat → ClassId} {adX adM : Nat → Nat} {enX enM : Nat → va_E} {H : Heap} {locs : List Loc} {ls : Array Slot} (hK : va_K D vwCl (tyl cy) s) (hFX : FX cy adX enX) (hFM : FMo cy adM enM) (hPX : va_P D vwCl (wl (List.range 115) adX enX) H) (hDX : va_D (AL s) (wl (List.range 115) adX enX)) (hPM : va_P D vwCl (wl (List.range 20) adM enM) H) (hDM : va_D (AL s) (wl (List.range 20) adM enM)) (hdis : ∀ i j, i < 115 → j < 20 → adX i ≠ adM j) (hS : va_S (AL s) s.heap H locs) (hl : lv_has ls 4 [(3, .int 0), (2, .ref (adM 0)), (1, .ref (adX 0)), (0, .ref b)]) : W p l e room_1 s m #[Value.ref b] below meth c H locs 135 27787 (lw_Z below #[Value.ref b] s) (F0 m 856 ls []) := by
  obtain ⟨hx, hb, hr, hml, hown, hts, hX, hbl, hlocks, hgv⟩ := id C0
  have ht : ∀ w ∈ TB, w.before #[Value.ref b] s = true := fun w h => hts w (TB_lw h)
  have hbA : ¬ (AL s) b := Nat.not_le.mpr hbl
  have hAL : ∀ q : Nat, s.heap.size ≤ q → AL s q := fun _ h => h
  obtain ⟨x0, x1, ⟨f10, x10⟩, x12, x13, x14, x16, xv, x70, x75, xs_, xc, x76⟩ := hFX
  obtain ⟨y0, y2, ⟨g3, y3, hg3⟩, y4, y5, y6, y7⟩ := hFM
  refine lv_aload_n hx hb dL_law_856 rfl (lv_at hl 2 rfl) ?_
  refine lv_aload_n hx hb dL_law_857 rfl (lv_at hl 3 rfl) ?_
  refine lv_iload_n hx hb dL_law_858 rfl (lv_at hl 0 rfl) ?_
  refine lv_iconst (v := 1) hx hb dL_law_859 (by decide) ?_
  refine lv_iadd hx hb dL_law_860 ?_
  rw [show (0 : Int32) + 1 = 1 by decide]
  refine va_sld hx hb hX hbl hbA hS (i := 1) (vp_in_iff.mpr (by decide)) dL_law_861 ?_
  refine lv_aload_n hx hb dL_law_862 rfl (lv_at hl 3 rfl) ?_
  refine lv_iload_n hx hb dL_law_863 rfl (lv_at hl 0 rfl) ?_
  refine lv_iconst (v := 2) hx hb dL_law_864 (by decide) ?_
  refine lv_iadd hx hb dL_law_865 ?_
  rw [show (0 : Int32) + 2 = 2 by decide]
  refine va_sld hx hb hX hbl hbA hS (i := 2) (vp_in_iff.mpr (by decide)) dL_law_866 ?_
  refine va_calll (va_runV (As := [.int (xs (1 : Int32).toNatClampNeg), .int (xs (2 : Int32).toNatClampNeg)]) (rest := []) ⟨hx, hb, hml, hown, ht⟩ (c_X11_size l D cy _ (List.range 115) adX enX (fun c h => List.mem_range.mpr h) 0 (xs (1 : Int32).toNatClampNeg) (xs (2 : Int32).toNatClampNeg) x0) (kw_X11_size ht tw_740 ⟨Nat.le_of_ble_eq_true rfl, Nat.le_of_ble_eq_true rfl⟩) (preV_of (⟨hPX, hDX, hS⟩ : Hp D (AL s) (AL s) s.heap _ _ (List.range 115) adX enX) hK (List.mem_range.mpr (by decide)) x0 rfl) rfl rfl hl.1 rfl (lv_room (Nat.le_of_ble_eq_true rfl)) dL_law_867 ⟨Nat.le_of_ble_eq_true rfl, Nat.le_of_ble_eq_true rfl⟩) hS (fun q h1 h2 => absurd h2 (Nat.not_le.mpr h1)) (fun q h => Nat.le_trans hS.1 h) (fun r_312 u_312 t_312 H locs ht_312 hvm_312 hw_312 hB_312 hz_312 hk_312 hS => ?_)
  obtain rfl : r_312 = (-9223372036854775808) := hw_312
  have hPM := wl_keptN hPM hk_312
  refine lv_aload_n hx hb dL_law_870 rfl (lv_at hl 1 rfl) ?_
  refine lv_aload_n hx hb dL_law_871 rfl (lv_at hl 3 rfl) ?_
  refine lv_iload_n hx hb dL_law_872 rfl (lv_at hl 0 rfl) ?_
  refine lv_iconst (v := 1) hx hb dL_law_873 (by decide) ?_
  refine lv_iadd hx hb dL_law_874 ?_
  rw [show (0 : Int32) + 1 = 1 by decide]
  refine va_sld hx hb hX hbl hbA hS (i := 1) (vp_in_iff.mpr (by decide)) dL_law_875 ?_
  refine lv_aload_n hx hb dL_law_876 rfl (lv_at hl 3 rfl) ?_
  refine lv_iload_n hx hb dL_law_877 rfl (lv_at hl 0 rfl) ?_
  refine lv_iconst (v := 2) hx hb dL_law_878 (by decide) ?_
  refine lv_iadd hx hb dL_law_879 ?_
  rw [show (0 : Int32) + 2 = 2 by decide]
  refine va_sld hx hb hX hbl hbA hS (i := 2) (vp_in_iff.mpr (by decide)) dL_law_880 ?_
  refine va_calll (va_runV (As := [.int (xs (1 : Int32).toNatClampNeg), .int (xs (2 : Int32).toNatClampNeg)]) (rest := [.long ((-9223372036854775808))]) ⟨hx, hb, hml, hown, ht⟩ (c_X12_size l D cy _ (List.range 20) adM enM (fun c h => List.mem_range.mpr h) (xs (1 : Int32).toNatClampNeg) (xs (2 : Int32).toNatClampNeg) y0) (kw_X12_size ht tw_1195 ⟨Nat.le_of_ble_eq_true rfl, Nat.le_of_ble_eq_true rfl⟩) (preV_of (⟨hPM, hDM, hS⟩ : Hp D (AL s) (AL s) s.heap _ _ (List.range 20) adM enM) hK (List.mem_range.mpr (by decide)) y0 rfl) rfl rfl hl.1 rfl (lv_room (Nat.le_of_ble_eq_true rfl)) dL_law_881 ⟨Nat.le_of_ble_eq_true rfl, Nat.le_of_ble_eq_true rfl⟩) hS (fun q _ h => Af_in (⟨hPM, hDM, hS⟩ : Hp D (AL s) (AL s) s.heap _ _ (List.range 20) adM enM) hAL q h) (Af_in (⟨hPM, hDM, hS⟩ : Hp D (AL s) (AL s) s.heap _ _ (List.range 20) adM enM) hAL) (fun r_313 u_313 t_313 H locs ht_313 hvm_313 hw_313 hB_313 hz_313 hk_313 hS => ?_)
  obtain rfl : r_313 = (-9223372036854775808) := hw_313
  refine W.lcmp hx hb dL_law_884 ?_
  refine lv_if_eq (tgt := 1171) hx hb dL_law_885 (by decide) (fun _ => ?_) (fun c_0 => absurd ((lg_cmp_eq _ _).mpr rfl) c_0)
  exact law_end C0 hS (lv_sub hl [0, 1, 2, 3] rfl)
set_option maxHeartbeats 4000000 in
set_option maxRecDepth 100000 in
/-- the law at sheet -/
theorem op_20 {p : Program} {e : Env} {s : State} {m : MethodId} {below : List Frame} {meth : Method} {c : Code} (l : Launch) {b : Nat} {xs : Nat → Int32} (C0 : lw_At p s m meth c b 5 xs) {D : va_G} {cy : Nat → ClassId} {adX adM : Nat → Nat} {enX enM : Nat → va_E} {H : Heap} {locs : List Loc} {ls : Array Slot} (hK : va_K D vwCl (tyl cy) s) (hFX : FX cy adX enX) (hFM : FMo cy adM enM) (hPX : va_P D vwCl (wl (List.range 115) adX enX) H) (hDX : va_D (AL s) (wl (List.range 115) adX enX)) (hPM : va_P D vwCl (wl (List.range 20) adM enM) H) (hDM : va_D (AL s) (wl (List.range 20) adM enM)) (hdis : ∀ i j, i < 115 → j < 20 → adX i ≠ adM j) (hS : va_S (AL s) s.heap H locs) (hl : lv_has ls 4 [(3, .int 0), (2, .ref (adM 0)), (1, .ref (adX 0)), (0, .ref b)]) : W p l e room_1 s m #[Value.ref b] below meth c H locs 135 27787 (lw_Z below #[Value.ref b] s) (F0 m 890 ls []) := by
  obtain ⟨hx, hb, hr, hml, hown, hts, hX, hbl, hlocks, hgv⟩ := id C0
  have ht : ∀ w ∈ TB, w.before #[Value.ref b] s = true := fun w h => hts w (TB_lw h)
  have hbA : ¬ (AL s) b := Nat.not_le.mpr hbl
  have hAL : ∀ q : Nat, s.heap.size ≤ q → AL s q := fun _ h => h
  obtain ⟨x0, x1, ⟨f10, x10⟩, x12, x13, x14, x16, xv, x70, x75, xs_, xc, x76⟩ := hFX
  obtain ⟨y0, y2, ⟨g3, y3, hg3⟩, y4, y5, y6, y7⟩ := hFM
  refine lv_aload_n hx hb dL_law_890 rfl (lv_at hl 2 rfl) ?_
  refine lv_aload_n hx hb dL_law_891 rfl (lv_at hl 3 rfl) ?_
  refine lv_iload_n hx hb dL_law_892 rfl (lv_at hl 0 rfl) ?_
  refine lv_iconst (v := 1) hx hb dL_law_893 (by decide) ?_
  refine lv_iadd hx hb dL_law_894 ?_
  rw [show (0 : Int32) + 1 = 1 by decide]
  refine va_sld hx hb hX hbl hbA hS (i := 1) (vp_in_iff.mpr (by decide)) dL_law_895 ?_
  refine lv_aload_n hx hb dL_law_896 rfl (lv_at hl 3 rfl) ?_
  refine lv_iload_n hx hb dL_law_897 rfl (lv_at hl 0 rfl) ?_
  refine lv_iconst (v := 2) hx hb dL_law_898 (by decide) ?_
  refine lv_iadd hx hb dL_law_899 ?_
  rw [show (0 : Int32) + 2 = 2 by decide]
  refine va_sld hx hb hX hbl hbA hS (i := 2) (vp_in_iff.mpr (by decide)) dL_law_900 ?_
  refine lv_aload_n hx hb dL_law_901 rfl (lv_at hl 3 rfl) ?_
  refine lv_iload_n hx hb dL_law_902 rfl (lv_at hl 0 rfl) ?_
  refine lv_iconst (v := 3) hx hb dL_law_903 (by decide) ?_
  refine lv_iadd hx hb dL_law_904 ?_
  rw [show (0 : Int32) + 3 = 3 by decide]
  refine va_sld hx hb hX hbl hbA hS (i := 3) (vp_in_iff.mpr (by decide)) dL_law_905 ?_
  refine va_calli (va_runV (As := [.int (xs (1 : Int32).toNatClampNeg), .int (xs (2 : Int32).toNatClampNeg), .int (xs (3 : Int32).toNatClampNeg)]) (rest := []) ⟨hx, hb, hml, hown, ht⟩ (c_X11_sheet l D cy _ (List.range 115) adX enX (fun c h => List.mem_range.mpr h) 0 (xs (1 : Int32).toNatClampNeg) (xs (2 : Int32).toNatClampNeg) (xs (3 : Int32).toNatClampNeg) (fun _ _ => 0) x0 x75 xs_ xc) (kw_X11_sheet ht tw_746 ⟨Nat.le_of_ble_eq_true rfl, Nat.le_of_ble_eq_true rfl⟩) (preV_of (⟨hPX, hDX, hS⟩ : Hp D (AL s) (AL s) s.heap _ _ (List.range 115) adX enX) hK (List.mem_range.mpr (by decide)) x0 rfl) rfl rfl hl.1 rfl (lv_room (Nat.le_of_ble_eq_true rfl)) dL_law_906 ⟨Nat.le_of_ble_eq_true rfl, Nat.le_of_ble_eq_true rfl⟩) hS (fun q _ h => Af_in (⟨hPX, hDX, hS⟩ : Hp D (AL s) (AL s) s.heap _ _ (List.range 115) adX enX) hAL q h) (Af_in (⟨hPX, hDX, hS⟩ : Hp D (AL s) (AL s) s.heap _ _ (List.range 115) adX enX) hAL) (fun r_314 u_314 t_314 H locs ht_314 hvm_314 hw_314 hB_314 hz_314 hk_314 hS => ?_)
  obtain rfl : r_314 = spSheet (xs (1 : Int32).toNatClampNeg) (xs (2 : Int32).toNatClampNeg) (xs (3 : Int32).toNatClampNeg) := hw_314
  have hPM := wl_kept hPM (fun i hi j hj => hdis i j (List.mem_range.mp hi) (List.mem_range.mp hj)) hk_314
  refine lv_aload_n hx hb dL_law_909 rfl (lv_at hl 1 rfl) ?_
  refine lv_aload_n hx hb dL_law_910 rfl (lv_at hl 3 rfl) ?_
  refine lv_iload_n hx hb dL_law_911 rfl (lv_at hl 0 rfl) ?_
  refine lv_iconst (v := 1) hx hb dL_law_912 (by decide) ?_
  refine lv_iadd hx hb dL_law_913 ?_
  rw [show (0 : Int32) + 1 = 1 by decide]
  refine va_sld hx hb hX hbl hbA hS (i := 1) (vp_in_iff.mpr (by decide)) dL_law_914 ?_
  refine lv_aload_n hx hb dL_law_915 rfl (lv_at hl 3 rfl) ?_
  refine lv_iload_n hx hb dL_law_916 rfl (lv_at hl 0 rfl) ?_
  refine lv_iconst (v := 2) hx hb dL_law_917 (by decide) ?_
  refine lv_iadd hx hb dL_law_918 ?_
  rw [show (0 : Int32) + 2 = 2 by decide]
  refine va_sld hx hb hX hbl hbA hS (i := 2) (vp_in_iff.mpr (by decide)) dL_law_919 ?_
  refine lv_aload_n hx hb dL_law_920 rfl (lv_at hl 3 rfl) ?_
  refine lv_iload_n hx hb dL_law_921 rfl (lv_at hl 0 rfl) ?_
  refine lv_iconst (v := 3) hx hb dL_law_922 (by decide) ?_
  refine lv_iadd hx hb dL_law_923 ?_
  rw [show (0 : Int32) + 3 = 3 by decide]
  refine va_sld hx hb hX hbl hbA hS (i := 3) (vp_in_iff.mpr (by decide)) dL_law_924 ?_
  refine va_calli (va_runV (As := [.int (xs (1 : Int32).toNatClampNeg), .int (xs (2 : Int32).toNatClampNeg), .int (xs (3 : Int32).toNatClampNeg)]) (rest := [.int (spSheet (xs (1 : Int32).toNatClampNeg) (xs (2 : Int32).toNatClampNeg) (xs (3 : Int32).toNatClampNeg))]) ⟨hx, hb, hml, hown, ht⟩ (c_X12_sheet l D cy _ (List.range 20) adM enM (fun c h => List.mem_range.mpr h) g3 (fun _ => 0) (fun _ => 0) (xs (1 : Int32).toNatClampNeg) (xs (2 : Int32).toNatClampNeg) (xs (3 : Int32).toNatClampNeg) y0 y3 y4 y5) (kw_X12_sheet ht tw_1199 ⟨Nat.le_of_ble_eq_true rfl, Nat.le_of_ble_eq_true rfl⟩) (preV_of (⟨hPM, hDM, hS⟩ : Hp D (AL s) (AL s) s.heap _ _ (List.range 20) adM enM) hK (List.mem_range.mpr (by decide)) y0 rfl) rfl rfl hl.1 rfl (lv_room (Nat.le_of_ble_eq_true rfl)) dL_law_925 ⟨Nat.le_of_ble_eq_true rfl, Nat.le_of_ble_eq_true rfl⟩) hS (fun q _ h => Af_in (⟨hPM, hDM, hS⟩ : Hp D (AL s) (AL s) s.heap _ _ (List.range 20) adM enM) hAL q h) (Af_in (⟨hPM, hDM, hS⟩ : Hp D (AL s) (AL s) s.heap _ _ (List.range 20) adM enM) hAL) (fun r_315 u_315 t_315 H locs ht_315 hvm_315 hw_315 hB_315 hz_315 hk_315 hS => ?_)
  obtain rfl : r_315 = spSheet (xs (1 : Int32).toNatClampNeg) (xs (2 : Int32).toNatClampNeg) (xs (3 : Int32).toNatClampNeg) := hw_315
  refine lv_icmp_eq (tgt := 1171) hx hb dL_law_928 (by decide) (fun _ => ?_) (fun c_0 => absurd (rfl) c_0)
  exact law_end C0 hS (lv_sub hl [0, 1, 2, 3] rfl)
set_option maxHeartbeats 4000000 in
set_option maxRecDepth 100000 in
/-- the law at lose -/
theorem op_21 {p : Program} {e : Env} {s : State} {m : MethodId} {below : List Frame} {meth : Method} {c : Code} (l : Launch) {b : Nat} {xs : Nat → Int32} (C0 : lw_At p s m meth c b 5 xs) {D : va_G} {cy : Nat → ClassId} {adX adM : Nat → Nat} {enX enM : Nat → va_E} {H : Heap} {locs : List Loc} {ls : Array Slot} (hK : va_K D vwCl (tyl cy) s) (hFX : FX cy adX enX) (hFM : FMo cy adM enM) (hPX : va_P D vwCl (wl (List.range 115) adX enX) H) (hDX : va_D (AL s) (wl (List.range 115) adX enX)) (hPM : va_P D vwCl (wl (List.range 20) adM enM) H) (hDM : va_D (AL s) (wl (List.range 20) adM enM)) (hdis : ∀ i j, i < 115 → j < 20 → adX i ≠ adM j) (hS : va_S (AL s) s.heap H locs) (hl : lv_has ls 4 [(3, .int 0), (2, .ref (adM 0)), (1, .ref (adX 0)), (0, .ref b)]) : W p l e room_1 s m #[Value.ref b] below meth c H locs 135 27787 (lw_Z below #[Value.ref b] s) (F0 m 933 ls []) := by
  obtain ⟨hx, hb, hr, hml, hown, hts, hX, hbl, hlocks, hgv⟩ := id C0
  have ht : ∀ w ∈ TB, w.before #[Value.ref b] s = true := fun w h => hts w (TB_lw h)
  have hbA : ¬ (AL s) b := Nat.not_le.mpr hbl
  have hAL : ∀ q : Nat, s.heap.size ≤ q → AL s q := fun _ h => h
  obtain ⟨x0, x1, ⟨f10, x10⟩, x12, x13, x14, x16, xv, x70, x75, xs_, xc, x76⟩ := hFX
  obtain ⟨y0, y2, ⟨g3, y3, hg3⟩, y4, y5, y6, y7⟩ := hFM
  refine lv_aload_n hx hb dL_law_933 rfl (lv_at hl 2 rfl) ?_
  refine lv_aload_n hx hb dL_law_934 rfl (lv_at hl 3 rfl) ?_
  refine lv_iload_n hx hb dL_law_935 rfl (lv_at hl 0 rfl) ?_
  refine lv_iconst (v := 1) hx hb dL_law_936 (by decide) ?_
  refine lv_iadd hx hb dL_law_937 ?_
  rw [show (0 : Int32) + 1 = 1 by decide]
  refine va_sld hx hb hX hbl hbA hS (i := 1) (vp_in_iff.mpr (by decide)) dL_law_938 ?_
  refine va_calli (va_runV (As := [.int (xs (1 : Int32).toNatClampNeg)]) (rest := []) ⟨hx, hb, hml, hown, ht⟩ (c_X11_lose l D cy _ (List.range 115) adX enX (fun c h => List.mem_range.mpr h) 0 (xs (1 : Int32).toNatClampNeg) x0 x75 xs_) (kw_X11_lose ht tw_759 ⟨Nat.le_of_ble_eq_true rfl, Nat.le_of_ble_eq_true rfl⟩) (preV_of (⟨hPX, hDX, hS⟩ : Hp D (AL s) (AL s) s.heap _ _ (List.range 115) adX enX) hK (List.mem_range.mpr (by decide)) x0 rfl) rfl rfl hl.1 rfl (lv_room (Nat.le_of_ble_eq_true rfl)) dL_law_939 ⟨Nat.le_of_ble_eq_true rfl, Nat.le_of_ble_eq_true rfl⟩) hS (fun q _ h => Af_in (⟨hPX, hDX, hS⟩ : Hp D (AL s) (AL s) s.heap _ _ (List.range 115) adX enX) hAL q h) (Af_in (⟨hPX, hDX, hS⟩ : Hp D (AL s) (AL s) s.heap _ _ (List.range 115) adX enX) hAL) (fun r_316 u_316 t_316 H locs ht_316 hvm_316 hw_316 hB_316 hz_316 hk_316 hS => ?_)
  obtain rfl : r_316 = if wi (xs (1 : Int32).toNatClampNeg) 0 3 then 0 else (-1) := hw_316
  have hPM := wl_kept hPM (fun i hi j hj => hdis i j (List.mem_range.mp hi) (List.mem_range.mp hj)) hk_316
  refine lv_aload_n hx hb dL_law_942 rfl (lv_at hl 1 rfl) ?_
  refine lv_aload_n hx hb dL_law_943 rfl (lv_at hl 3 rfl) ?_
  refine lv_iload_n hx hb dL_law_944 rfl (lv_at hl 0 rfl) ?_
  refine lv_iconst (v := 1) hx hb dL_law_945 (by decide) ?_
  refine lv_iadd hx hb dL_law_946 ?_
  rw [show (0 : Int32) + 1 = 1 by decide]
  refine va_sld hx hb hX hbl hbA hS (i := 1) (vp_in_iff.mpr (by decide)) dL_law_947 ?_
  refine va_calli (va_runV (As := [.int (xs (1 : Int32).toNatClampNeg)]) (rest := [.int (if wi (xs (1 : Int32).toNatClampNeg) 0 3 then 0 else (-1))]) ⟨hx, hb, hml, hown, ht⟩ (c_X12_lose l D cy _ (List.range 20) adM enM (fun c h => List.mem_range.mpr h) g3 hg3 (xs (1 : Int32).toNatClampNeg) y0 y3) (kw_X12_lose ht tw_1203 ⟨Nat.le_of_ble_eq_true rfl, Nat.le_of_ble_eq_true rfl⟩) (preV_of (⟨hPM, hDM, hS⟩ : Hp D (AL s) (AL s) s.heap _ _ (List.range 20) adM enM) hK (List.mem_range.mpr (by decide)) y0 rfl) rfl rfl hl.1 rfl (lv_room (Nat.le_of_ble_eq_true rfl)) dL_law_948 ⟨Nat.le_of_ble_eq_true rfl, Nat.le_of_ble_eq_true rfl⟩) hS (fun q _ h => Af_in (⟨hPM, hDM, hS⟩ : Hp D (AL s) (AL s) s.heap _ _ (List.range 20) adM enM) hAL q h) (Af_in (⟨hPM, hDM, hS⟩ : Hp D (AL s) (AL s) s.heap _ _ (List.range 20) adM enM) hAL) (fun r_317 u_317 t_317 H locs ht_317 hvm_317 hw_317 hB_317 hz_317 hk_317 hS => ?_)
  obtain rfl : r_317 = if wi (xs (1 : Int32).toNatClampNeg) 0 3 then 0 else (-1) := hw_317
  refine lv_icmp_eq (tgt := 1171) hx hb dL_law_951 (by decide) (fun _ => ?_) (fun c_0 => absurd (rfl) c_0)
  exact law_end C0 hS (lv_sub hl [0, 1, 2, 3] rfl)
set_option maxHeartbeats 4000000 in
set_option maxRecDepth 100000 in
/-- the law at put -/
theorem op_22 {p : Program} {e : Env} {s : State} {m : MethodId} {below : List Frame} {meth : Method} {c : Code} (l : Launch) {b : Nat} {xs : Nat → Int32} (C0 : lw_At p s m meth c b 5 xs) {D : va_G} {cy : Nat → ClassId} {adX adM : Nat → Nat} {enX enM : Nat → va_E} {H : Heap} {locs : List Loc} {ls : Array Slot} (hK : va_K D vwCl (tyl cy) s) (hFX : FX cy adX enX) (hFM : FMo cy adM enM) (hPX : va_P D vwCl (wl (List.range 115) adX enX) H) (hDX : va_D (AL s) (wl (List.range 115) adX enX)) (hPM : va_P D vwCl (wl (List.range 20) adM enM) H) (hDM : va_D (AL s) (wl (List.range 20) adM enM)) (hdis : ∀ i j, i < 115 → j < 20 → adX i ≠ adM j) (hS : va_S (AL s) s.heap H locs) (hl : lv_has ls 4 [(3, .int 0), (2, .ref (adM 0)), (1, .ref (adX 0)), (0, .ref b)]) : W p l e room_1 s m #[Value.ref b] below meth c H locs 135 27787 (lw_Z below #[Value.ref b] s) (F0 m 956 ls []) := by
  obtain ⟨hx, hb, hr, hml, hown, hts, hX, hbl, hlocks, hgv⟩ := id C0
  have ht : ∀ w ∈ TB, w.before #[Value.ref b] s = true := fun w h => hts w (TB_lw h)
  have hbA : ¬ (AL s) b := Nat.not_le.mpr hbl
  have hAL : ∀ q : Nat, s.heap.size ≤ q → AL s q := fun _ h => h
  obtain ⟨x0, x1, ⟨f10, x10⟩, x12, x13, x14, x16, xv, x70, x75, xs_, xc, x76⟩ := hFX
  obtain ⟨y0, y2, ⟨g3, y3, hg3⟩, y4, y5, y6, y7⟩ := hFM
  refine lv_aload_n hx hb dL_law_956 rfl (lv_at hl 2 rfl) ?_
  refine lv_aload_n hx hb dL_law_957 rfl (lv_at hl 3 rfl) ?_
  refine lv_iload_n hx hb dL_law_958 rfl (lv_at hl 0 rfl) ?_
  refine lv_iconst (v := 1) hx hb dL_law_959 (by decide) ?_
  refine lv_iadd hx hb dL_law_960 ?_
  rw [show (0 : Int32) + 1 = 1 by decide]
  refine va_sld hx hb hX hbl hbA hS (i := 1) (vp_in_iff.mpr (by decide)) dL_law_961 ?_
  refine lv_aload_n hx hb dL_law_962 rfl (lv_at hl 3 rfl) ?_
  refine lv_iload_n hx hb dL_law_963 rfl (lv_at hl 0 rfl) ?_
  refine lv_iconst (v := 2) hx hb dL_law_964 (by decide) ?_
  refine lv_iadd hx hb dL_law_965 ?_
  rw [show (0 : Int32) + 2 = 2 by decide]
  refine va_sld hx hb hX hbl hbA hS (i := 2) (vp_in_iff.mpr (by decide)) dL_law_966 ?_
  refine lv_aload_n hx hb dL_law_967 rfl (lv_at hl 3 rfl) ?_
  refine lv_iload_n hx hb dL_law_968 rfl (lv_at hl 0 rfl) ?_
  refine lv_iconst (v := 3) hx hb dL_law_969 (by decide) ?_
  refine lv_iadd hx hb dL_law_970 ?_
  rw [show (0 : Int32) + 3 = 3 by decide]
  refine va_sld hx hb hX hbl hbA hS (i := 3) (vp_in_iff.mpr (by decide)) dL_law_971 ?_
  refine va_calli (va_runV (As := [.int (xs (1 : Int32).toNatClampNeg), .int (xs (2 : Int32).toNatClampNeg), .int (xs (3 : Int32).toNatClampNeg)]) (rest := []) ⟨hx, hb, hml, hown, ht⟩ (c_X11_put l D cy _ (List.range 115) adX enX (fun c h => List.mem_range.mpr h) 0 (xs (1 : Int32).toNatClampNeg) (xs (2 : Int32).toNatClampNeg) (xs (3 : Int32).toNatClampNeg) x0 x75 xs_) (kw_X11_put ht tw_767 ⟨Nat.le_of_ble_eq_true rfl, Nat.le_of_ble_eq_true rfl⟩) (preV_of (⟨hPX, hDX, hS⟩ : Hp D (AL s) (AL s) s.heap _ _ (List.range 115) adX enX) hK (List.mem_range.mpr (by decide)) x0 rfl) rfl rfl hl.1 rfl (lv_room (Nat.le_of_ble_eq_true rfl)) dL_law_972 ⟨Nat.le_of_ble_eq_true rfl, Nat.le_of_ble_eq_true rfl⟩) hS (fun q _ h => Af_in (⟨hPX, hDX, hS⟩ : Hp D (AL s) (AL s) s.heap _ _ (List.range 115) adX enX) hAL q h) (Af_in (⟨hPX, hDX, hS⟩ : Hp D (AL s) (AL s) s.heap _ _ (List.range 115) adX enX) hAL) (fun r_318 u_318 t_318 H locs ht_318 hvm_318 hw_318 hB_318 hz_318 hk_318 hS => ?_)
  obtain rfl : r_318 = if wi (xs (1 : Int32).toNatClampNeg) 0 3 then (-11) else (-1) := hw_318
  have hPM := wl_kept hPM (fun i hi j hj => hdis i j (List.mem_range.mp hi) (List.mem_range.mp hj)) hk_318
  refine lv_aload_n hx hb dL_law_975 rfl (lv_at hl 1 rfl) ?_
  refine lv_aload_n hx hb dL_law_976 rfl (lv_at hl 3 rfl) ?_
  refine lv_iload_n hx hb dL_law_977 rfl (lv_at hl 0 rfl) ?_
  refine lv_iconst (v := 1) hx hb dL_law_978 (by decide) ?_
  refine lv_iadd hx hb dL_law_979 ?_
  rw [show (0 : Int32) + 1 = 1 by decide]
  refine va_sld hx hb hX hbl hbA hS (i := 1) (vp_in_iff.mpr (by decide)) dL_law_980 ?_
  refine lv_aload_n hx hb dL_law_981 rfl (lv_at hl 3 rfl) ?_
  refine lv_iload_n hx hb dL_law_982 rfl (lv_at hl 0 rfl) ?_
  refine lv_iconst (v := 2) hx hb dL_law_983 (by decide) ?_
  refine lv_iadd hx hb dL_law_984 ?_
  rw [show (0 : Int32) + 2 = 2 by decide]
  refine va_sld hx hb hX hbl hbA hS (i := 2) (vp_in_iff.mpr (by decide)) dL_law_985 ?_
  refine lv_aload_n hx hb dL_law_986 rfl (lv_at hl 3 rfl) ?_
  refine lv_iload_n hx hb dL_law_987 rfl (lv_at hl 0 rfl) ?_
  refine lv_iconst (v := 3) hx hb dL_law_988 (by decide) ?_
  refine lv_iadd hx hb dL_law_989 ?_
  rw [show (0 : Int32) + 3 = 3 by decide]
  refine va_sld hx hb hX hbl hbA hS (i := 3) (vp_in_iff.mpr (by decide)) dL_law_990 ?_
  refine va_calli (va_runV (As := [.int (xs (1 : Int32).toNatClampNeg), .int (xs (2 : Int32).toNatClampNeg), .int (xs (3 : Int32).toNatClampNeg)]) (rest := [.int (if wi (xs (1 : Int32).toNatClampNeg) 0 3 then (-11) else (-1))]) ⟨hx, hb, hml, hown, ht⟩ (c_X12_put l D cy _ (List.range 20) adM enM (fun c h => List.mem_range.mpr h) g3 hg3 (xs (1 : Int32).toNatClampNeg) (xs (2 : Int32).toNatClampNeg) (xs (3 : Int32).toNatClampNeg) y0 y3) (kw_X12_put ht tw_1207 ⟨Nat.le_of_ble_eq_true rfl, Nat.le_of_ble_eq_true rfl⟩) (preV_of (⟨hPM, hDM, hS⟩ : Hp D (AL s) (AL s) s.heap _ _ (List.range 20) adM enM) hK (List.mem_range.mpr (by decide)) y0 rfl) rfl rfl hl.1 rfl (lv_room (Nat.le_of_ble_eq_true rfl)) dL_law_991 ⟨Nat.le_of_ble_eq_true rfl, Nat.le_of_ble_eq_true rfl⟩) hS (fun q _ h => Af_in (⟨hPM, hDM, hS⟩ : Hp D (AL s) (AL s) s.heap _ _ (List.range 20) adM enM) hAL q h) (Af_in (⟨hPM, hDM, hS⟩ : Hp D (AL s) (AL s) s.heap _ _ (List.range 20) adM enM) hAL) (fun r_319 u_319 t_319 H locs ht_319 hvm_319 hw_319 hB_319 hz_319 hk_319 hS => ?_)
  obtain rfl : r_319 = if wi (xs (1 : Int32).toNatClampNeg) 0 3 then (-11) else (-1) := hw_319
  refine lv_icmp_eq (tgt := 1171) hx hb dL_law_994 (by decide) (fun _ => ?_) (fun c_0 => absurd (rfl) c_0)
  exact law_end C0 hS (lv_sub hl [0, 1, 2, 3] rfl)
set_option maxHeartbeats 4000000 in
set_option maxRecDepth 100000 in
/-- the law at at -/
theorem op_23 {p : Program} {e : Env} {s : State} {m : MethodId} {below : List Frame} {meth : Method} {c : Code} (l : Launch) {b : Nat} {xs : Nat → Int32} (C0 : lw_At p s m meth c b 5 xs) {D : va_G} {cy : Nat → ClassId} {adX adM : Nat → Nat} {enX enM : Nat → va_E} {H : Heap} {locs : List Loc} {ls : Array Slot} (hK : va_K D vwCl (tyl cy) s) (hFX : FX cy adX enX) (hFM : FMo cy adM enM) (hPX : va_P D vwCl (wl (List.range 115) adX enX) H) (hDX : va_D (AL s) (wl (List.range 115) adX enX)) (hPM : va_P D vwCl (wl (List.range 20) adM enM) H) (hDM : va_D (AL s) (wl (List.range 20) adM enM)) (hdis : ∀ i j, i < 115 → j < 20 → adX i ≠ adM j) (hS : va_S (AL s) s.heap H locs) (hl : lv_has ls 4 [(3, .int 0), (2, .ref (adM 0)), (1, .ref (adX 0)), (0, .ref b)]) : W p l e room_1 s m #[Value.ref b] below meth c H locs 135 27787 (lw_Z below #[Value.ref b] s) (F0 m 999 ls []) := by
  obtain ⟨hx, hb, hr, hml, hown, hts, hX, hbl, hlocks, hgv⟩ := id C0
  have ht : ∀ w ∈ TB, w.before #[Value.ref b] s = true := fun w h => hts w (TB_lw h)
  have hbA : ¬ (AL s) b := Nat.not_le.mpr hbl
  have hAL : ∀ q : Nat, s.heap.size ≤ q → AL s q := fun _ h => h
  obtain ⟨x0, x1, ⟨f10, x10⟩, x12, x13, x14, x16, xv, x70, x75, xs_, xc, x76⟩ := hFX
  obtain ⟨y0, y2, ⟨g3, y3, hg3⟩, y4, y5, y6, y7⟩ := hFM
  refine lv_aload_n hx hb dL_law_999 rfl (lv_at hl 2 rfl) ?_
  refine lv_aload_n hx hb dL_law_1000 rfl (lv_at hl 3 rfl) ?_
  refine lv_iload_n hx hb dL_law_1001 rfl (lv_at hl 0 rfl) ?_
  refine lv_iconst (v := 1) hx hb dL_law_1002 (by decide) ?_
  refine lv_iadd hx hb dL_law_1003 ?_
  rw [show (0 : Int32) + 1 = 1 by decide]
  refine va_sld hx hb hX hbl hbA hS (i := 1) (vp_in_iff.mpr (by decide)) dL_law_1004 ?_
  refine lv_aload_n hx hb dL_law_1005 rfl (lv_at hl 3 rfl) ?_
  refine lv_iload_n hx hb dL_law_1006 rfl (lv_at hl 0 rfl) ?_
  refine lv_iconst (v := 2) hx hb dL_law_1007 (by decide) ?_
  refine lv_iadd hx hb dL_law_1008 ?_
  rw [show (0 : Int32) + 2 = 2 by decide]
  refine va_sld hx hb hX hbl hbA hS (i := 2) (vp_in_iff.mpr (by decide)) dL_law_1009 ?_
  refine lv_aload_n hx hb dL_law_1010 rfl (lv_at hl 3 rfl) ?_
  refine lv_iload_n hx hb dL_law_1011 rfl (lv_at hl 0 rfl) ?_
  refine lv_iconst (v := 3) hx hb dL_law_1012 (by decide) ?_
  refine lv_iadd hx hb dL_law_1013 ?_
  rw [show (0 : Int32) + 3 = 3 by decide]
  refine va_sld hx hb hX hbl hbA hS (i := 3) (vp_in_iff.mpr (by decide)) dL_law_1014 ?_
  refine va_calll (va_runV (As := [.int (xs (1 : Int32).toNatClampNeg), .int (xs (2 : Int32).toNatClampNeg), .int (xs (3 : Int32).toNatClampNeg)]) (rest := []) ⟨hx, hb, hml, hown, ht⟩ (c_X11_at l D cy _ (List.range 115) adX enX (fun c h => List.mem_range.mpr h) 0 (xs (1 : Int32).toNatClampNeg) (xs (2 : Int32).toNatClampNeg) (xs (3 : Int32).toNatClampNeg) x0 x75 xs_) (kw_X11_at ht tw_779 ⟨Nat.le_of_ble_eq_true rfl, Nat.le_of_ble_eq_true rfl⟩) (preV_of (⟨hPX, hDX, hS⟩ : Hp D (AL s) (AL s) s.heap _ _ (List.range 115) adX enX) hK (List.mem_range.mpr (by decide)) x0 rfl) rfl rfl hl.1 rfl (lv_room (Nat.le_of_ble_eq_true rfl)) dL_law_1015 ⟨Nat.le_of_ble_eq_true rfl, Nat.le_of_ble_eq_true rfl⟩) hS (fun q _ h => Af_in (⟨hPX, hDX, hS⟩ : Hp D (AL s) (AL s) s.heap _ _ (List.range 115) adX enX) hAL q h) (Af_in (⟨hPX, hDX, hS⟩ : Hp D (AL s) (AL s) s.heap _ _ (List.range 115) adX enX) hAL) (fun r_320 u_320 t_320 H locs ht_320 hvm_320 hw_320 hB_320 hz_320 hk_320 hS => ?_)
  obtain rfl : r_320 = (-9223372036854775808) := hw_320
  have hPM := wl_kept hPM (fun i hi j hj => hdis i j (List.mem_range.mp hi) (List.mem_range.mp hj)) hk_320
  refine lv_aload_n hx hb dL_law_1018 rfl (lv_at hl 1 rfl) ?_
  refine lv_aload_n hx hb dL_law_1019 rfl (lv_at hl 3 rfl) ?_
  refine lv_iload_n hx hb dL_law_1020 rfl (lv_at hl 0 rfl) ?_
  refine lv_iconst (v := 1) hx hb dL_law_1021 (by decide) ?_
  refine lv_iadd hx hb dL_law_1022 ?_
  rw [show (0 : Int32) + 1 = 1 by decide]
  refine va_sld hx hb hX hbl hbA hS (i := 1) (vp_in_iff.mpr (by decide)) dL_law_1023 ?_
  refine lv_aload_n hx hb dL_law_1024 rfl (lv_at hl 3 rfl) ?_
  refine lv_iload_n hx hb dL_law_1025 rfl (lv_at hl 0 rfl) ?_
  refine lv_iconst (v := 2) hx hb dL_law_1026 (by decide) ?_
  refine lv_iadd hx hb dL_law_1027 ?_
  rw [show (0 : Int32) + 2 = 2 by decide]
  refine va_sld hx hb hX hbl hbA hS (i := 2) (vp_in_iff.mpr (by decide)) dL_law_1028 ?_
  refine lv_aload_n hx hb dL_law_1029 rfl (lv_at hl 3 rfl) ?_
  refine lv_iload_n hx hb dL_law_1030 rfl (lv_at hl 0 rfl) ?_
  refine lv_iconst (v := 3) hx hb dL_law_1031 (by decide) ?_
  refine lv_iadd hx hb dL_law_1032 ?_
  rw [show (0 : Int32) + 3 = 3 by decide]
  refine va_sld hx hb hX hbl hbA hS (i := 3) (vp_in_iff.mpr (by decide)) dL_law_1033 ?_
  refine va_calll (va_runV (As := [.int (xs (1 : Int32).toNatClampNeg), .int (xs (2 : Int32).toNatClampNeg), .int (xs (3 : Int32).toNatClampNeg)]) (rest := [.long ((-9223372036854775808))]) ⟨hx, hb, hml, hown, ht⟩ (c_X12_at l D cy _ (List.range 20) adM enM (fun c h => List.mem_range.mpr h) g3 hg3 (xs (1 : Int32).toNatClampNeg) (xs (2 : Int32).toNatClampNeg) (xs (3 : Int32).toNatClampNeg) y0 y3) (kw_X12_at ht tw_1211 ⟨Nat.le_of_ble_eq_true rfl, Nat.le_of_ble_eq_true rfl⟩) (preV_of (⟨hPM, hDM, hS⟩ : Hp D (AL s) (AL s) s.heap _ _ (List.range 20) adM enM) hK (List.mem_range.mpr (by decide)) y0 rfl) rfl rfl hl.1 rfl (lv_room (Nat.le_of_ble_eq_true rfl)) dL_law_1034 ⟨Nat.le_of_ble_eq_true rfl, Nat.le_of_ble_eq_true rfl⟩) hS (fun q _ h => Af_in (⟨hPM, hDM, hS⟩ : Hp D (AL s) (AL s) s.heap _ _ (List.range 20) adM enM) hAL q h) (Af_in (⟨hPM, hDM, hS⟩ : Hp D (AL s) (AL s) s.heap _ _ (List.range 20) adM enM) hAL) (fun r_321 u_321 t_321 H locs ht_321 hvm_321 hw_321 hB_321 hz_321 hk_321 hS => ?_)
  obtain rfl : r_321 = (-9223372036854775808) := hw_321
  refine W.lcmp hx hb dL_law_1037 ?_
  refine lv_if_eq (tgt := 1171) hx hb dL_law_1038 (by decide) (fun _ => ?_) (fun c_0 => absurd ((lg_cmp_eq _ _).mpr rfl) c_0)
  exact law_end C0 hS (lv_sub hl [0, 1, 2, 3] rfl)
set_option maxHeartbeats 4000000 in
set_option maxRecDepth 100000 in
/-- the law at tell -/
theorem op_24 {p : Program} {e : Env} {s : State} {m : MethodId} {below : List Frame} {meth : Method} {c : Code} (l : Launch) {b : Nat} {xs : Nat → Int32} (C0 : lw_At p s m meth c b 5 xs) {D : va_G} {cy : Nat → ClassId} {adX adM : Nat → Nat} {enX enM : Nat → va_E} {H : Heap} {locs : List Loc} {ls : Array Slot} (hK : va_K D vwCl (tyl cy) s) (hFX : FX cy adX enX) (hFM : FMo cy adM enM) (hPX : va_P D vwCl (wl (List.range 115) adX enX) H) (hDX : va_D (AL s) (wl (List.range 115) adX enX)) (hPM : va_P D vwCl (wl (List.range 20) adM enM) H) (hDM : va_D (AL s) (wl (List.range 20) adM enM)) (hdis : ∀ i j, i < 115 → j < 20 → adX i ≠ adM j) (hS : va_S (AL s) s.heap H locs) (hl : lv_has ls 4 [(3, .int 0), (2, .ref (adM 0)), (1, .ref (adX 0)), (0, .ref b)]) : W p l e room_1 s m #[Value.ref b] below meth c H locs 135 27787 (lw_Z below #[Value.ref b] s) (F0 m 1043 ls []) := by
  obtain ⟨hx, hb, hr, hml, hown, hts, hX, hbl, hlocks, hgv⟩ := id C0
  have ht : ∀ w ∈ TB, w.before #[Value.ref b] s = true := fun w h => hts w (TB_lw h)
  have hbA : ¬ (AL s) b := Nat.not_le.mpr hbl
  have hAL : ∀ q : Nat, s.heap.size ≤ q → AL s q := fun _ h => h
  obtain ⟨x0, x1, ⟨f10, x10⟩, x12, x13, x14, x16, xv, x70, x75, xs_, xc, x76⟩ := hFX
  obtain ⟨y0, y2, ⟨g3, y3, hg3⟩, y4, y5, y6, y7⟩ := hFM
  refine lv_aload_n hx hb dL_law_1043 rfl (lv_at hl 2 rfl) ?_
  refine lv_aload_n hx hb dL_law_1044 rfl (lv_at hl 3 rfl) ?_
  refine lv_iload_n hx hb dL_law_1045 rfl (lv_at hl 0 rfl) ?_
  refine lv_iconst (v := 1) hx hb dL_law_1046 (by decide) ?_
  refine lv_iadd hx hb dL_law_1047 ?_
  rw [show (0 : Int32) + 1 = 1 by decide]
  refine va_sld hx hb hX hbl hbA hS (i := 1) (vp_in_iff.mpr (by decide)) dL_law_1048 ?_
  refine va_calli (va_runV (As := [.int (xs (1 : Int32).toNatClampNeg)]) (rest := []) ⟨hx, hb, hml, hown, ht⟩ (c_X11_tell l D cy _ (List.range 115) adX enX (fun c h => List.mem_range.mpr h) 0 (xs (1 : Int32).toNatClampNeg) x0 x1) (kw_X11_tell ht tw_783 ⟨Nat.le_of_ble_eq_true rfl, Nat.le_of_ble_eq_true rfl⟩) (preV_of (⟨hPX, hDX, hS⟩ : Hp D (AL s) (AL s) s.heap _ _ (List.range 115) adX enX) hK (List.mem_range.mpr (by decide)) x0 rfl) rfl rfl hl.1 rfl (lv_room (Nat.le_of_ble_eq_true rfl)) dL_law_1049 ⟨Nat.le_of_ble_eq_true rfl, Nat.le_of_ble_eq_true rfl⟩) hS (fun q h1 h2 => absurd h2 (Nat.not_le.mpr h1)) (fun q h => Nat.le_trans hS.1 h) (fun r_322 u_322 t_322 H locs ht_322 hvm_322 hw_322 hB_322 hz_322 hk_322 hS => ?_)
  obtain rfl : r_322 = (-1) := hw_322
  have hPM := wl_keptN hPM hk_322
  refine lv_aload_n hx hb dL_law_1052 rfl (lv_at hl 1 rfl) ?_
  refine lv_aload_n hx hb dL_law_1053 rfl (lv_at hl 3 rfl) ?_
  refine lv_iload_n hx hb dL_law_1054 rfl (lv_at hl 0 rfl) ?_
  refine lv_iconst (v := 1) hx hb dL_law_1055 (by decide) ?_
  refine lv_iadd hx hb dL_law_1056 ?_
  rw [show (0 : Int32) + 1 = 1 by decide]
  refine va_sld hx hb hX hbl hbA hS (i := 1) (vp_in_iff.mpr (by decide)) dL_law_1057 ?_
  refine va_calli (va_runV (As := [.int (xs (1 : Int32).toNatClampNeg)]) (rest := [.int ((-1))]) ⟨hx, hb, hml, hown, ht⟩ (c_X12_tell l D cy _ (List.range 20) adM enM (fun c h => List.mem_range.mpr h) (xs (1 : Int32).toNatClampNeg) y0) (kw_X12_tell ht tw_1219 ⟨Nat.le_of_ble_eq_true rfl, Nat.le_of_ble_eq_true rfl⟩) (preV_of (⟨hPM, hDM, hS⟩ : Hp D (AL s) (AL s) s.heap _ _ (List.range 20) adM enM) hK (List.mem_range.mpr (by decide)) y0 rfl) rfl rfl hl.1 rfl (lv_room (Nat.le_of_ble_eq_true rfl)) dL_law_1058 ⟨Nat.le_of_ble_eq_true rfl, Nat.le_of_ble_eq_true rfl⟩) hS (fun q _ h => Af_in (⟨hPM, hDM, hS⟩ : Hp D (AL s) (AL s) s.heap _ _ (List.range 20) adM enM) hAL q h) (Af_in (⟨hPM, hDM, hS⟩ : Hp D (AL s) (AL s) s.heap _ _ (List.range 20) adM enM) hAL) (fun r_323 u_323 t_323 H locs ht_323 hvm_323 hw_323 hB_323 hz_323 hk_323 hS => ?_)
  obtain rfl : r_323 = (-1) := hw_323
  refine lv_icmp_eq (tgt := 1171) hx hb dL_law_1061 (by decide) (fun _ => ?_) (fun c_0 => absurd (rfl) c_0)
  exact law_end C0 hS (lv_sub hl [0, 1, 2, 3] rfl)
set_option maxHeartbeats 4000000 in
set_option maxRecDepth 100000 in
/-- the law at weigh -/
theorem op_25 {p : Program} {e : Env} {s : State} {m : MethodId} {below : List Frame} {meth : Method} {c : Code} (l : Launch) {b : Nat} {xs : Nat → Int32} (C0 : lw_At p s m meth c b 5 xs) {D : va_G} {cy : Nat → ClassId} {adX adM : Nat → Nat} {enX enM : Nat → va_E} {H : Heap} {locs : List Loc} {ls : Array Slot} (hK : va_K D vwCl (tyl cy) s) (hFX : FX cy adX enX) (hFM : FMo cy adM enM) (hPX : va_P D vwCl (wl (List.range 115) adX enX) H) (hDX : va_D (AL s) (wl (List.range 115) adX enX)) (hPM : va_P D vwCl (wl (List.range 20) adM enM) H) (hDM : va_D (AL s) (wl (List.range 20) adM enM)) (hdis : ∀ i j, i < 115 → j < 20 → adX i ≠ adM j) (hS : va_S (AL s) s.heap H locs) (hl : lv_has ls 4 [(3, .int 0), (2, .ref (adM 0)), (1, .ref (adX 0)), (0, .ref b)]) : W p l e room_1 s m #[Value.ref b] below meth c H locs 135 27787 (lw_Z below #[Value.ref b] s) (F0 m 1066 ls []) := by
  obtain ⟨hx, hb, hr, hml, hown, hts, hX, hbl, hlocks, hgv⟩ := id C0
  have ht : ∀ w ∈ TB, w.before #[Value.ref b] s = true := fun w h => hts w (TB_lw h)
  have hbA : ¬ (AL s) b := Nat.not_le.mpr hbl
  have hAL : ∀ q : Nat, s.heap.size ≤ q → AL s q := fun _ h => h
  obtain ⟨x0, x1, ⟨f10, x10⟩, x12, x13, x14, x16, xv, x70, x75, xs_, xc, x76⟩ := hFX
  obtain ⟨y0, y2, ⟨g3, y3, hg3⟩, y4, y5, y6, y7⟩ := hFM
  refine lv_aload_n hx hb dL_law_1066 rfl (lv_at hl 2 rfl) ?_
  refine lv_aload_n hx hb dL_law_1067 rfl (lv_at hl 3 rfl) ?_
  refine lv_iload_n hx hb dL_law_1068 rfl (lv_at hl 0 rfl) ?_
  refine lv_iconst (v := 1) hx hb dL_law_1069 (by decide) ?_
  refine lv_iadd hx hb dL_law_1070 ?_
  rw [show (0 : Int32) + 1 = 1 by decide]
  refine va_sld hx hb hX hbl hbA hS (i := 1) (vp_in_iff.mpr (by decide)) dL_law_1071 ?_
  refine va_calli (va_runV (As := [.int (xs (1 : Int32).toNatClampNeg)]) (rest := []) ⟨hx, hb, hml, hown, ht⟩ (c_X11_weigh l D cy _ (List.range 115) adX enX (fun c h => List.mem_range.mpr h) 0 (xs (1 : Int32).toNatClampNeg) x0 x1) (kw_X11_weigh ht tw_822 ⟨Nat.le_of_ble_eq_true rfl, Nat.le_of_ble_eq_true rfl⟩) (preV_of (⟨hPX, hDX, hS⟩ : Hp D (AL s) (AL s) s.heap _ _ (List.range 115) adX enX) hK (List.mem_range.mpr (by decide)) x0 rfl) rfl rfl hl.1 rfl (lv_room (Nat.le_of_ble_eq_true rfl)) dL_law_1072 ⟨Nat.le_of_ble_eq_true rfl, Nat.le_of_ble_eq_true rfl⟩) hS (fun q h1 h2 => absurd h2 (Nat.not_le.mpr h1)) (fun q h => Nat.le_trans hS.1 h) (fun r_324 u_324 t_324 H locs ht_324 hvm_324 hw_324 hB_324 hz_324 hk_324 hS => ?_)
  obtain rfl : r_324 = (-1) := hw_324
  have hPM := wl_keptN hPM hk_324
  refine lv_aload_n hx hb dL_law_1075 rfl (lv_at hl 1 rfl) ?_
  refine lv_aload_n hx hb dL_law_1076 rfl (lv_at hl 3 rfl) ?_
  refine lv_iload_n hx hb dL_law_1077 rfl (lv_at hl 0 rfl) ?_
  refine lv_iconst (v := 1) hx hb dL_law_1078 (by decide) ?_
  refine lv_iadd hx hb dL_law_1079 ?_
  rw [show (0 : Int32) + 1 = 1 by decide]
  refine va_sld hx hb hX hbl hbA hS (i := 1) (vp_in_iff.mpr (by decide)) dL_law_1080 ?_
  refine va_calli (va_runV (As := [.int (xs (1 : Int32).toNatClampNeg)]) (rest := [.int ((-1))]) ⟨hx, hb, hml, hown, ht⟩ (c_X12_weigh l D cy _ (List.range 20) adM enM (fun c h => List.mem_range.mpr h) (xs (1 : Int32).toNatClampNeg) y0) (kw_X12_weigh ht tw_1239 ⟨Nat.le_of_ble_eq_true rfl, Nat.le_of_ble_eq_true rfl⟩) (preV_of (⟨hPM, hDM, hS⟩ : Hp D (AL s) (AL s) s.heap _ _ (List.range 20) adM enM) hK (List.mem_range.mpr (by decide)) y0 rfl) rfl rfl hl.1 rfl (lv_room (Nat.le_of_ble_eq_true rfl)) dL_law_1081 ⟨Nat.le_of_ble_eq_true rfl, Nat.le_of_ble_eq_true rfl⟩) hS (fun q _ h => Af_in (⟨hPM, hDM, hS⟩ : Hp D (AL s) (AL s) s.heap _ _ (List.range 20) adM enM) hAL q h) (Af_in (⟨hPM, hDM, hS⟩ : Hp D (AL s) (AL s) s.heap _ _ (List.range 20) adM enM) hAL) (fun r_325 u_325 t_325 H locs ht_325 hvm_325 hw_325 hB_325 hz_325 hk_325 hS => ?_)
  obtain rfl : r_325 = (-1) := hw_325
  refine lv_icmp_eq (tgt := 1171) hx hb dL_law_1084 (by decide) (fun _ => ?_) (fun c_0 => absurd (rfl) c_0)
  exact law_end C0 hS (lv_sub hl [0, 1, 2, 3] rfl)
set_option maxHeartbeats 4000000 in
set_option maxRecDepth 100000 in
/-- the law at as -/
theorem op_26 {p : Program} {e : Env} {s : State} {m : MethodId} {below : List Frame} {meth : Method} {c : Code} (l : Launch) {b : Nat} {xs : Nat → Int32} (C0 : lw_At p s m meth c b 5 xs) {D : va_G} {cy : Nat → ClassId} {adX adM : Nat → Nat} {enX enM : Nat → va_E} {H : Heap} {locs : List Loc} {ls : Array Slot} (hK : va_K D vwCl (tyl cy) s) (hFX : FX cy adX enX) (hFM : FMo cy adM enM) (hPX : va_P D vwCl (wl (List.range 115) adX enX) H) (hDX : va_D (AL s) (wl (List.range 115) adX enX)) (hPM : va_P D vwCl (wl (List.range 20) adM enM) H) (hDM : va_D (AL s) (wl (List.range 20) adM enM)) (hdis : ∀ i j, i < 115 → j < 20 → adX i ≠ adM j) (hS : va_S (AL s) s.heap H locs) (hl : lv_has ls 4 [(3, .int 0), (2, .ref (adM 0)), (1, .ref (adX 0)), (0, .ref b)]) : W p l e room_1 s m #[Value.ref b] below meth c H locs 135 27787 (lw_Z below #[Value.ref b] s) (F0 m 1089 ls []) := by
  obtain ⟨hx, hb, hr, hml, hown, hts, hX, hbl, hlocks, hgv⟩ := id C0
  have ht : ∀ w ∈ TB, w.before #[Value.ref b] s = true := fun w h => hts w (TB_lw h)
  have hbA : ¬ (AL s) b := Nat.not_le.mpr hbl
  have hAL : ∀ q : Nat, s.heap.size ≤ q → AL s q := fun _ h => h
  obtain ⟨x0, x1, ⟨f10, x10⟩, x12, x13, x14, x16, xv, x70, x75, xs_, xc, x76⟩ := hFX
  obtain ⟨y0, y2, ⟨g3, y3, hg3⟩, y4, y5, y6, y7⟩ := hFM
  refine lv_aload_n hx hb dL_law_1089 rfl (lv_at hl 2 rfl) ?_
  refine lv_aload_n hx hb dL_law_1090 rfl (lv_at hl 3 rfl) ?_
  refine lv_iload_n hx hb dL_law_1091 rfl (lv_at hl 0 rfl) ?_
  refine lv_iconst (v := 1) hx hb dL_law_1092 (by decide) ?_
  refine lv_iadd hx hb dL_law_1093 ?_
  rw [show (0 : Int32) + 1 = 1 by decide]
  refine va_sld hx hb hX hbl hbA hS (i := 1) (vp_in_iff.mpr (by decide)) dL_law_1094 ?_
  refine lv_aload_n hx hb dL_law_1095 rfl (lv_at hl 3 rfl) ?_
  refine lv_iload_n hx hb dL_law_1096 rfl (lv_at hl 0 rfl) ?_
  refine lv_iconst (v := 2) hx hb dL_law_1097 (by decide) ?_
  refine lv_iadd hx hb dL_law_1098 ?_
  rw [show (0 : Int32) + 2 = 2 by decide]
  refine va_sld hx hb hX hbl hbA hS (i := 2) (vp_in_iff.mpr (by decide)) dL_law_1099 ?_
  refine va_calli (va_runV (As := [.int (xs (1 : Int32).toNatClampNeg), .int (xs (2 : Int32).toNatClampNeg)]) (rest := []) ⟨hx, hb, hml, hown, ht⟩ (c_X11_as l D cy _ (List.range 115) adX enX (fun c h => List.mem_range.mpr h) 0 (xs (1 : Int32).toNatClampNeg) (xs (2 : Int32).toNatClampNeg) x0 x1) (kw_X11_as ht tw_835 ⟨Nat.le_of_ble_eq_true rfl, Nat.le_of_ble_eq_true rfl⟩) (preV_of (⟨hPX, hDX, hS⟩ : Hp D (AL s) (AL s) s.heap _ _ (List.range 115) adX enX) hK (List.mem_range.mpr (by decide)) x0 rfl) rfl rfl hl.1 rfl (lv_room (Nat.le_of_ble_eq_true rfl)) dL_law_1100 ⟨Nat.le_of_ble_eq_true rfl, Nat.le_of_ble_eq_true rfl⟩) hS (fun q _ h => Af_in (⟨hPX, hDX, hS⟩ : Hp D (AL s) (AL s) s.heap _ _ (List.range 115) adX enX) hAL q h) (Af_in (⟨hPX, hDX, hS⟩ : Hp D (AL s) (AL s) s.heap _ _ (List.range 115) adX enX) hAL) (fun r_326 u_326 t_326 H locs ht_326 hvm_326 hw_326 hB_326 hz_326 hk_326 hS => ?_)
  obtain rfl : r_326 = (-1) := hw_326
  have hPM := wl_kept hPM (fun i hi j hj => hdis i j (List.mem_range.mp hi) (List.mem_range.mp hj)) hk_326
  refine lv_aload_n hx hb dL_law_1103 rfl (lv_at hl 1 rfl) ?_
  refine lv_aload_n hx hb dL_law_1104 rfl (lv_at hl 3 rfl) ?_
  refine lv_iload_n hx hb dL_law_1105 rfl (lv_at hl 0 rfl) ?_
  refine lv_iconst (v := 1) hx hb dL_law_1106 (by decide) ?_
  refine lv_iadd hx hb dL_law_1107 ?_
  rw [show (0 : Int32) + 1 = 1 by decide]
  refine va_sld hx hb hX hbl hbA hS (i := 1) (vp_in_iff.mpr (by decide)) dL_law_1108 ?_
  refine lv_aload_n hx hb dL_law_1109 rfl (lv_at hl 3 rfl) ?_
  refine lv_iload_n hx hb dL_law_1110 rfl (lv_at hl 0 rfl) ?_
  refine lv_iconst (v := 2) hx hb dL_law_1111 (by decide) ?_
  refine lv_iadd hx hb dL_law_1112 ?_
  rw [show (0 : Int32) + 2 = 2 by decide]
  refine va_sld hx hb hX hbl hbA hS (i := 2) (vp_in_iff.mpr (by decide)) dL_law_1113 ?_
  refine va_calli (va_runV (As := [.int (xs (1 : Int32).toNatClampNeg), .int (xs (2 : Int32).toNatClampNeg)]) (rest := [.int ((-1))]) ⟨hx, hb, hml, hown, ht⟩ (c_X12_as l D cy _ (List.range 20) adM enM (fun c h => List.mem_range.mpr h) (xs (1 : Int32).toNatClampNeg) (xs (2 : Int32).toNatClampNeg) y0) (kw_X12_as ht tw_1243 ⟨Nat.le_of_ble_eq_true rfl, Nat.le_of_ble_eq_true rfl⟩) (preV_of (⟨hPM, hDM, hS⟩ : Hp D (AL s) (AL s) s.heap _ _ (List.range 20) adM enM) hK (List.mem_range.mpr (by decide)) y0 rfl) rfl rfl hl.1 rfl (lv_room (Nat.le_of_ble_eq_true rfl)) dL_law_1114 ⟨Nat.le_of_ble_eq_true rfl, Nat.le_of_ble_eq_true rfl⟩) hS (fun q _ h => Af_in (⟨hPM, hDM, hS⟩ : Hp D (AL s) (AL s) s.heap _ _ (List.range 20) adM enM) hAL q h) (Af_in (⟨hPM, hDM, hS⟩ : Hp D (AL s) (AL s) s.heap _ _ (List.range 20) adM enM) hAL) (fun r_327 u_327 t_327 H locs ht_327 hvm_327 hw_327 hB_327 hz_327 hk_327 hS => ?_)
  obtain rfl : r_327 = (-1) := hw_327
  refine lv_icmp_eq (tgt := 1171) hx hb dL_law_1117 (by decide) (fun _ => ?_) (fun c_0 => absurd (rfl) c_0)
  exact law_end C0 hS (lv_sub hl [0, 1, 2, 3] rfl)
set_option maxHeartbeats 4000000 in
set_option maxRecDepth 100000 in
/-- the law at history -/
theorem op_27 {p : Program} {e : Env} {s : State} {m : MethodId} {below : List Frame} {meth : Method} {c : Code} (l : Launch) {b : Nat} {xs : Nat → Int32} (C0 : lw_At p s m meth c b 5 xs) {D : va_G} {cy : Nat → ClassId} {adX adM : Nat → Nat} {enX enM : Nat → va_E} {H : Heap} {locs : List Loc} {ls : Array Slot} (hK : va_K D vwCl (tyl cy) s) (hFX : FX cy adX enX) (hFM : FMo cy adM enM) (hPX : va_P D vwCl (wl (List.range 115) adX enX) H) (hDX : va_D (AL s) (wl (List.range 115) adX enX)) (hPM : va_P D vwCl (wl (List.range 20) adM enM) H) (hDM : va_D (AL s) (wl (List.range 20) adM enM)) (hdis : ∀ i j, i < 115 → j < 20 → adX i ≠ adM j) (hS : va_S (AL s) s.heap H locs) (hl : lv_has ls 4 [(3, .int 0), (2, .ref (adM 0)), (1, .ref (adX 0)), (0, .ref b)]) : W p l e room_1 s m #[Value.ref b] below meth c H locs 135 27787 (lw_Z below #[Value.ref b] s) (F0 m 1122 ls []) := by
  obtain ⟨hx, hb, hr, hml, hown, hts, hX, hbl, hlocks, hgv⟩ := id C0
  have ht : ∀ w ∈ TB, w.before #[Value.ref b] s = true := fun w h => hts w (TB_lw h)
  have hbA : ¬ (AL s) b := Nat.not_le.mpr hbl
  have hAL : ∀ q : Nat, s.heap.size ≤ q → AL s q := fun _ h => h
  obtain ⟨x0, x1, ⟨f10, x10⟩, x12, x13, x14, x16, xv, x70, x75, xs_, xc, x76⟩ := hFX
  obtain ⟨y0, y2, ⟨g3, y3, hg3⟩, y4, y5, y6, y7⟩ := hFM
  refine lv_aload_n hx hb dL_law_1122 rfl (lv_at hl 2 rfl) ?_
  refine va_calli (va_runV (As := []) (rest := []) ⟨hx, hb, hml, hown, ht⟩ (c_X11_history l D cy _ (List.range 115) adX enX (fun c h => List.mem_range.mpr h) 0 x0 x76) (kw_X11_history ht tw_856 ⟨Nat.le_of_ble_eq_true rfl, Nat.le_of_ble_eq_true rfl⟩) (preV_of (⟨hPX, hDX, hS⟩ : Hp D (AL s) (AL s) s.heap _ _ (List.range 115) adX enX) hK (List.mem_range.mpr (by decide)) x0 rfl) rfl rfl hl.1 rfl (lv_room (Nat.le_of_ble_eq_true rfl)) dL_law_1123 ⟨Nat.le_of_ble_eq_true rfl, Nat.le_of_ble_eq_true rfl⟩) hS (fun q h1 h2 => absurd h2 (Nat.not_le.mpr h1)) (fun q h => Nat.le_trans hS.1 h) (fun r_328 u_328 t_328 H locs ht_328 hvm_328 hw_328 hB_328 hz_328 hk_328 hS => ?_)
  obtain rfl : r_328 = 0 := hw_328
  have hPM := wl_keptN hPM hk_328
  refine lv_aload_n hx hb dL_law_1126 rfl (lv_at hl 1 rfl) ?_
  refine va_calli (va_runV (As := []) (rest := [.int (0)]) ⟨hx, hb, hml, hown, ht⟩ (c_X12_history l D cy _ (List.range 20) adM enM (fun c h => List.mem_range.mpr h) y0) (kw_X12_history ht tw_1247 ⟨Nat.le_of_ble_eq_true rfl, Nat.le_of_ble_eq_true rfl⟩) (preV_of (⟨hPM, hDM, hS⟩ : Hp D (AL s) (AL s) s.heap _ _ (List.range 20) adM enM) hK (List.mem_range.mpr (by decide)) y0 rfl) rfl rfl hl.1 rfl (lv_room (Nat.le_of_ble_eq_true rfl)) dL_law_1127 ⟨Nat.le_of_ble_eq_true rfl, Nat.le_of_ble_eq_true rfl⟩) hS (fun q _ h => Af_in (⟨hPM, hDM, hS⟩ : Hp D (AL s) (AL s) s.heap _ _ (List.range 20) adM enM) hAL q h) (Af_in (⟨hPM, hDM, hS⟩ : Hp D (AL s) (AL s) s.heap _ _ (List.range 20) adM enM) hAL) (fun r_329 u_329 t_329 H locs ht_329 hvm_329 hw_329 hB_329 hz_329 hk_329 hS => ?_)
  obtain rfl : r_329 = 0 := hw_329
  refine lv_icmp_eq (tgt := 1171) hx hb dL_law_1130 (by decide) (fun _ => ?_) (fun c_0 => absurd (rfl) c_0)
  exact law_end C0 hS (lv_sub hl [0, 1, 2, 3] rfl)
set_option maxHeartbeats 4000000 in
set_option maxRecDepth 100000 in
/-- the law at fault -/
theorem op_28 {p : Program} {e : Env} {s : State} {m : MethodId} {below : List Frame} {meth : Method} {c : Code} (l : Launch) {b : Nat} {xs : Nat → Int32} (C0 : lw_At p s m meth c b 5 xs) {D : va_G} {cy : Nat → ClassId} {adX adM : Nat → Nat} {enX enM : Nat → va_E} {H : Heap} {locs : List Loc} {ls : Array Slot} (hK : va_K D vwCl (tyl cy) s) (hFX : FX cy adX enX) (hFM : FMo cy adM enM) (hPX : va_P D vwCl (wl (List.range 115) adX enX) H) (hDX : va_D (AL s) (wl (List.range 115) adX enX)) (hPM : va_P D vwCl (wl (List.range 20) adM enM) H) (hDM : va_D (AL s) (wl (List.range 20) adM enM)) (hdis : ∀ i j, i < 115 → j < 20 → adX i ≠ adM j) (hS : va_S (AL s) s.heap H locs) (hl : lv_has ls 4 [(3, .int 0), (2, .ref (adM 0)), (1, .ref (adX 0)), (0, .ref b)]) : W p l e room_1 s m #[Value.ref b] below meth c H locs 135 27787 (lw_Z below #[Value.ref b] s) (F0 m 1135 ls []) := by
  obtain ⟨hx, hb, hr, hml, hown, hts, hX, hbl, hlocks, hgv⟩ := id C0
  have ht : ∀ w ∈ TB, w.before #[Value.ref b] s = true := fun w h => hts w (TB_lw h)
  have hbA : ¬ (AL s) b := Nat.not_le.mpr hbl
  have hAL : ∀ q : Nat, s.heap.size ≤ q → AL s q := fun _ h => h
  obtain ⟨x0, x1, ⟨f10, x10⟩, x12, x13, x14, x16, xv, x70, x75, xs_, xc, x76⟩ := hFX
  obtain ⟨y0, y2, ⟨g3, y3, hg3⟩, y4, y5, y6, y7⟩ := hFM
  refine lv_aload_n hx hb dL_law_1135 rfl (lv_at hl 2 rfl) ?_
  refine va_calli (va_runV (As := []) (rest := []) ⟨hx, hb, hml, hown, ht⟩ (c_X11_fault l D cy _ (List.range 115) adX enX (fun c h => List.mem_range.mpr h) x0) (kw_X11_fault ht tw_860 ⟨Nat.le_of_ble_eq_true rfl, Nat.le_of_ble_eq_true rfl⟩) (preV_of (⟨hPX, hDX, hS⟩ : Hp D (AL s) (AL s) s.heap _ _ (List.range 115) adX enX) hK (List.mem_range.mpr (by decide)) x0 rfl) rfl rfl hl.1 rfl (lv_room (Nat.le_of_ble_eq_true rfl)) dL_law_1136 ⟨Nat.le_of_ble_eq_true rfl, Nat.le_of_ble_eq_true rfl⟩) hS (fun q h1 h2 => absurd h2 (Nat.not_le.mpr h1)) (fun q h => Nat.le_trans hS.1 h) (fun r_330 u_330 t_330 H locs ht_330 hvm_330 hw_330 hB_330 hz_330 hk_330 hS => ?_)
  obtain rfl : r_330 = 0 := hw_330
  have hPM := wl_keptN hPM hk_330
  refine lv_aload_n hx hb dL_law_1139 rfl (lv_at hl 1 rfl) ?_
  refine va_calli (va_runV (As := []) (rest := [.int (0)]) ⟨hx, hb, hml, hown, ht⟩ (c_X12_fault l D cy _ (List.range 20) adM enM (fun c h => List.mem_range.mpr h) y0) (kw_X12_fault ht tw_1251 ⟨Nat.le_of_ble_eq_true rfl, Nat.le_of_ble_eq_true rfl⟩) (preV_of (⟨hPM, hDM, hS⟩ : Hp D (AL s) (AL s) s.heap _ _ (List.range 20) adM enM) hK (List.mem_range.mpr (by decide)) y0 rfl) rfl rfl hl.1 rfl (lv_room (Nat.le_of_ble_eq_true rfl)) dL_law_1140 ⟨Nat.le_of_ble_eq_true rfl, Nat.le_of_ble_eq_true rfl⟩) hS (fun q _ h => Af_in (⟨hPM, hDM, hS⟩ : Hp D (AL s) (AL s) s.heap _ _ (List.range 20) adM enM) hAL q h) (Af_in (⟨hPM, hDM, hS⟩ : Hp D (AL s) (AL s) s.heap _ _ (List.range 20) adM enM) hAL) (fun r_331 u_331 t_331 H locs ht_331 hvm_331 hw_331 hB_331 hz_331 hk_331 hS => ?_)
  obtain rfl : r_331 = 0 := hw_331
  refine lv_icmp_eq (tgt := 1171) hx hb dL_law_1143 (by decide) (fun _ => ?_) (fun c_0 => absurd (rfl) c_0)
  exact law_end C0 hS (lv_sub hl [0, 1, 2, 3] rfl)
set_option maxHeartbeats 4000000 in
set_option maxRecDepth 100000 in
/-- the law at told -/
theorem op_29 {p : Program} {e : Env} {s : State} {m : MethodId} {below : List Frame} {meth : Method} {c : Code} (l : Launch) {b : Nat} {xs : Nat → Int32} (C0 : lw_At p s m meth c b 5 xs) {D : va_G} {cy : Nat → ClassId} {adX adM : Nat → Nat} {enX enM : Nat → va_E} {H : Heap} {locs : List Loc} {ls : Array Slot} (hK : va_K D vwCl (tyl cy) s) (hFX : FX cy adX enX) (hFM : FMo cy adM enM) (hPX : va_P D vwCl (wl (List.range 115) adX enX) H) (hDX : va_D (AL s) (wl (List.range 115) adX enX)) (hPM : va_P D vwCl (wl (List.range 20) adM enM) H) (hDM : va_D (AL s) (wl (List.range 20) adM enM)) (hdis : ∀ i j, i < 115 → j < 20 → adX i ≠ adM j) (hS : va_S (AL s) s.heap H locs) (hl : lv_has ls 4 [(3, .int 0), (2, .ref (adM 0)), (1, .ref (adX 0)), (0, .ref b)]) : W p l e room_1 s m #[Value.ref b] below meth c H locs 135 27787 (lw_Z below #[Value.ref b] s) (F0 m 1148 ls []) := by
  obtain ⟨hx, hb, hr, hml, hown, hts, hX, hbl, hlocks, hgv⟩ := id C0
  have ht : ∀ w ∈ TB, w.before #[Value.ref b] s = true := fun w h => hts w (TB_lw h)
  have hbA : ¬ (AL s) b := Nat.not_le.mpr hbl
  have hAL : ∀ q : Nat, s.heap.size ≤ q → AL s q := fun _ h => h
  obtain ⟨x0, x1, ⟨f10, x10⟩, x12, x13, x14, x16, xv, x70, x75, xs_, xc, x76⟩ := hFX
  obtain ⟨y0, y2, ⟨g3, y3, hg3⟩, y4, y5, y6, y7⟩ := hFM
  refine lv_aload_n hx hb dL_law_1148 rfl (lv_at hl 2 rfl) ?_
  refine lv_aload_n hx hb dL_law_1149 rfl (lv_at hl 3 rfl) ?_
  refine lv_iload_n hx hb dL_law_1150 rfl (lv_at hl 0 rfl) ?_
  refine lv_iconst (v := 1) hx hb dL_law_1151 (by decide) ?_
  refine lv_iadd hx hb dL_law_1152 ?_
  rw [show (0 : Int32) + 1 = 1 by decide]
  refine va_sld hx hb hX hbl hbA hS (i := 1) (vp_in_iff.mpr (by decide)) dL_law_1153 ?_
  refine va_calli (va_runV (As := [.int (xs (1 : Int32).toNatClampNeg)]) (rest := []) ⟨hx, hb, hml, hown, ht⟩ (c_X11_told l D cy _ (List.range 115) adX enX (fun c h => List.mem_range.mpr h) 0 (xs (1 : Int32).toNatClampNeg) x0 x1) (kw_X11_told ht tw_864 ⟨Nat.le_of_ble_eq_true rfl, Nat.le_of_ble_eq_true rfl⟩) (preV_of (⟨hPX, hDX, hS⟩ : Hp D (AL s) (AL s) s.heap _ _ (List.range 115) adX enX) hK (List.mem_range.mpr (by decide)) x0 rfl) rfl rfl hl.1 rfl (lv_room (Nat.le_of_ble_eq_true rfl)) dL_law_1154 ⟨Nat.le_of_ble_eq_true rfl, Nat.le_of_ble_eq_true rfl⟩) hS (fun q h1 h2 => absurd h2 (Nat.not_le.mpr h1)) (fun q h => Nat.le_trans hS.1 h) (fun r_332 u_332 t_332 H locs ht_332 hvm_332 hw_332 hB_332 hz_332 hk_332 hS => ?_)
  obtain rfl : r_332 = spTold (xs (1 : Int32).toNatClampNeg) := hw_332
  have hPM := wl_keptN hPM hk_332
  refine lv_aload_n hx hb dL_law_1157 rfl (lv_at hl 1 rfl) ?_
  refine lv_aload_n hx hb dL_law_1158 rfl (lv_at hl 3 rfl) ?_
  refine lv_iload_n hx hb dL_law_1159 rfl (lv_at hl 0 rfl) ?_
  refine lv_iconst (v := 1) hx hb dL_law_1160 (by decide) ?_
  refine lv_iadd hx hb dL_law_1161 ?_
  rw [show (0 : Int32) + 1 = 1 by decide]
  refine va_sld hx hb hX hbl hbA hS (i := 1) (vp_in_iff.mpr (by decide)) dL_law_1162 ?_
  refine va_calli (va_runV (As := [.int (xs (1 : Int32).toNatClampNeg)]) (rest := [.int (spTold (xs (1 : Int32).toNatClampNeg))]) ⟨hx, hb, hml, hown, ht⟩ (c_X12_told l D cy _ (List.range 20) adM enM (fun c h => List.mem_range.mpr h) (xs (1 : Int32).toNatClampNeg) y0) (kw_X12_told ht tw_1255 ⟨Nat.le_of_ble_eq_true rfl, Nat.le_of_ble_eq_true rfl⟩) (preV_of (⟨hPM, hDM, hS⟩ : Hp D (AL s) (AL s) s.heap _ _ (List.range 20) adM enM) hK (List.mem_range.mpr (by decide)) y0 rfl) rfl rfl hl.1 rfl (lv_room (Nat.le_of_ble_eq_true rfl)) dL_law_1163 ⟨Nat.le_of_ble_eq_true rfl, Nat.le_of_ble_eq_true rfl⟩) hS (fun q _ h => Af_in (⟨hPM, hDM, hS⟩ : Hp D (AL s) (AL s) s.heap _ _ (List.range 20) adM enM) hAL q h) (Af_in (⟨hPM, hDM, hS⟩ : Hp D (AL s) (AL s) s.heap _ _ (List.range 20) adM enM) hAL) (fun r_333 u_333 t_333 H locs ht_333 hvm_333 hw_333 hB_333 hz_333 hk_333 hS => ?_)
  obtain rfl : r_333 = spTold (xs (1 : Int32).toNatClampNeg) := hw_333
  refine lv_icmp_eq (tgt := 1171) hx hb dL_law_1166 (by decide) (fun _ => ?_) (fun c_0 => absurd (rfl) c_0)
  exact law_end C0 hS (lv_sub hl [0, 1, 2, 3] rfl)
