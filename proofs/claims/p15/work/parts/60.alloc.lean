set_option maxHeartbeats 8000000 in
set_option maxRecDepth 100000 in
/-- prepareRows, the arrays not made -/
theorem c_X0_prepareRowsU (l : Launch) (D : va_G) (cy : Nat → ClassId) (sz : Nat) (ad : Nat → Nat) (en : Nat → va_E) (n : Nat) (hn : 115 ≤ n) (hI : SX cy (List.range n) ad en)  (e70 : en 70 = .inr (0, [.ref (ad 1), .ref (ad 71), .ref (ad 72), .ref (ad 73), .null, .null, .null, .int 0, .int 0, .int 0, .int 0, .int 0, .int 0])) : Met l yX0_prepareRows (Cond.code yX0_prepareRows cX0_prepareRows 1 none :: TB) (rmC 1 3 24096) (va_Pc [.ref (ad 70)] (PreC D cy n ad en sz)) (va_Qv (S := Nat × (Nat → Nat) × (Nat → va_E)) (fun u => (∀ i, i < n → u.2.1 i = ad i) ∧ (∀ i, (i ≠ 70 ∧ i < n) → u.2.2 i = en i) ∧ u.1 = n + 3 ∧ ∃ ka kb kc, n ≤ ka ∧ SC cy (List.range (n + 3)) u.2.1 ka kb kc u.2.2 ∧ CL9 ka kb kc (dC en * dC en) u.2.2 []) (PostV D (Af (List.range n) ad sz)) (Af (List.range n) ad sz)) 3 24096 (Af (List.range n) ad sz) := by
  refine Met.ofW (cc := cX0_prepareRows) (maxL := 1) (ret := none) (by decide) rfl ?_
  intro p e s m args below meth c s₁ B hml hv
  obtain ⟨rfl, ⟨hsz, hP, hK, hD0⟩, hX⟩ := hv
  have hx := B.exec
  have hb := B.bytes
  have hr := B.returns
  have hts : ∀ w ∈ TB, w.before _ s = true := fun w h => atoms_spec (ws := _ :: TB) B.pre w (List.mem_cons_of_mem _ h)
  have hown : s.vm.findClass RX0 = some m.cls := findClass_of_methodNamed B.named
  have hlocks := B.notSynchronized
  have hh : Hp D (Af (List.range n) ad sz) (Af (List.range n) ad sz) s.heap s.heap [] (List.range n) ad en := ⟨hP, Af_self hD0, va_S.rf⟩
  have hA : ∀ q : Nat, s.heap.size ≤ q → (Af (List.range n) ad sz) q := fun q h => Or.inr (by rw [hsz] at h; exact h)
  generalize (Af (List.range n) ad sz) = A at hh hA ⊢
  have hl := lv_entry ([.ref (ad 70)]) (n := 1) (Nat.le_of_ble_eq_true rfl)
  rw [lg_entry_eq]
  generalize (lg_sl ([.ref (ad 70)]) ++ List.replicate (1 - (lg_sl ([.ref (ad 70)])).length) Slot.unset).toArray = ls at hl ⊢
  have hl : lv_has ls 1 [(0, .ref (ad 70))] := hl
  have hf0 : ∀ c, (c ≠ 70 ∧ c < n) → en c = en c := fun _ _ => rfl
  obtain ⟨cnt, d, mm, es928, hcnt, hd2, hd3, hmm⟩ := get_T hI
  have hdd : d * d ≤ 9 := Nat.mul_le_mul hd3 hd3
  have hk9 : kC en = cnt := by unfold kC; rw [show rdI (en 1) 4 = nI cnt from by rw [es928]; rfl]; exact nI_clamp (by omega)
  have hd9 : dC en = d := by unfold dC; rw [show rdI (en 1) 5 = nI d from by rw [es928]; rfl]; exact nI_clamp (by omega)
  have hm9 : mC en = mm := by unfold mC; rw [show rdI (en 1) 6 = nI mm from by rw [es928]; rfl]; exact nI_clamp (by omega)
  refine lv_aload_n hx hb dX0_prepareRows_0 rfl (lv_at hl 0 rfl) ?_
  refine hp_get hx hb hts ix0 hown hK hh (q := 70) rfl (List.mem_range.mpr (by omega)) e70 rfl 4 (by decide) (hts _ tw_151) (fun _ h9 => h9) rfl dX0_prepareRows_1 ?_
  refine lv_ifnullN (tgt := 21) hx hb dX0_prepareRows_4 (by decide) ?_
  refine lv_aload_n hx hb dX0_prepareRows_21 rfl (lv_at hl 0 rfl) ?_
  refine lv_sipush (v := 18000) hx hb dX0_prepareRows_22 (by decide) ?_
  rw [show (18000 : Int32) = nI 18000 from rfl]
  refine hq_newa (atype := .long) (ty := .long) hx hb (hts _ tw_61) rfl hK hh hA 1 rfl (N' := 18000) (a0 := (18000, .inr (.inl (fun _ => 0)))) (fun _ => rfl) (by decide) (by decide) (by decide) (Nat.le_of_ble_eq_true rfl) (Nat.le_of_ble_eq_true rfl) dX0_prepareRows_25 (fun q_929 H ad_929 en_929 had_929 hen_929 hh => ?_)
  have hda_929 : ∀ i, i < n → ad_929 i = ad i := fun i hi => by rw [had_929, va_up_ne _ _ (by omega)]
  have hue_929 : ∀ i, i < n → en_929 i = en i := fun i hi => by rw [hen_929, va_up_ne _ _ (by omega)]
  have hh : Hp D A A s.heap H _ (List.range (n + 1)) ad_929 en_929 := hh
  refine W.eq (g2 := F0 m 27 ls [.ref q_929, .ref (ad_929 70)]) (by rw [hda_929 70 (by omega)]) ?_
  have hl : lv_has ls 1 [(0, .ref (ad_929 70))] := by rw [hda_929 70 (by omega)]; exact hl
  have e70_929 : en_929 70 = .inr (0, [.ref (ad_929 1), .ref (ad_929 71), .ref (ad_929 72), .ref (ad_929 73), .null, .null, .null, .int 0, .int 0, .int 0, .int 0, .int 0, .int 0]) := by rw [hue_929 70 (by omega), hda_929 1 (by omega), hda_929 71 (by omega), hda_929 72 (by omega), hda_929 73 (by omega)]; exact e70
  have es928_929 : en_929 1 = .inr (7, [.ref (ad_929 2), .ref (ad_929 3), .ref (ad_929 10), .ref (ad_929 11), .int (nI cnt), .int (nI d), .int (nI mm)]) := by rw [hue_929 1 (by omega), hda_929 2 (by omega), hda_929 3 (by omega), hda_929 10 (by omega), hda_929 11 (by omega)]; exact es928
  have b1_929 : en 1 = .inr (7, [.ref (ad_929 2), .ref (ad_929 3), .ref (ad_929 10), .ref (ad_929 11), .int (nI cnt), .int (nI d), .int (nI mm)]) := by rw [hda_929 2 (by omega), hda_929 3 (by omega), hda_929 10 (by omega), hda_929 11 (by omega)]; exact es928
  have hI_929 : SX cy (List.range (n + 1)) ad_929 en_929 := SX_grow hI (fun c h => List.mem_range.mpr (by omega)) (fun i h => hda_929 i (by omega)) (fun i h => hue_929 i (by omega))
  have hf_929 : ∀ c, (c ≠ 70 ∧ c < n) → en_929 c = en c := fun c hc => (hue_929 c (by omega)).trans (hf0 c hc)
  have en1_929 : en_929 n = .inl (cy 1, 18000, .inr (.inl (fun _ => 0))) := by rw [hen_929]; exact va_up_self _ _ _
  refine W.eq (g2 := F0 m 27 ls [.ref (ad_929 n), .ref (ad_929 70)]) (by rw [show ad_929 n = q_929 from by rw [had_929]; exact va_up_self _ _ _]) ?_
  refine W.widen (k := 1) (n := 18000) (by omega) (by omega) ?_
  refine hp_put hx hb hts ix0 tyX0 tyX0_ok nmX0 hown hK hh (q := 70) rfl (List.mem_range.mpr (by omega)) e70_929 rfl 4 (by decide) (hts _ tw_151) (fun _ h9 => h9) rfl (ty := (.array .long)) (by decide +kernel) rfl rfl (Nat.le_of_ble_eq_true rfl) dX0_prepareRows_27 (fun H locs en_930 hen_930 hh => ?_)
  have es928_930 : en_930 1 = .inr (7, [.ref (ad_929 2), .ref (ad_929 3), .ref (ad_929 10), .ref (ad_929 11), .int (nI cnt), .int (nI d), .int (nI mm)]) := by rw [hen_930, va_up_ne _ _ (by decide)]; exact es928_929
  have en1_930 : en_930 n = .inl (cy 1, 18000, .inr (.inl (fun _ => 0))) := by rw [hen_930, va_up_ne _ _ (by omega)]; exact en1_929
  have e70_930 : en_930 70 = .inr (0, [.ref (ad_929 1), .ref (ad_929 71), .ref (ad_929 72), .ref (ad_929 73), .ref (ad_929 n), .null, .null, .int 0, .int 0, .int 0, .int 0, .int 0, .int 0]) := by rw [hen_930]; exact va_up_self _ _ _
  have hI_930 : SX cy (List.range (n + 1)) ad_929 en_930 := by rw [hen_930]; exact up_C hI_929 ⟨(some (ad_929 n)), none, none, 0, 0, 0, 0, 0, 0, rfl⟩
  have hf_930 : ∀ c, (c ≠ 70 ∧ c < n) → en_930 c = en c := fun c hc => Eq.trans (show en_930 c = en_929 c from by rw [hen_930, va_up_ne _ _ (by omega)]) (hf_929 c hc)
  refine lv_aload_n hx hb dX0_prepareRows_30 rfl (lv_at hl 0 rfl) ?_
  refine lv_sipush (v := 2000) hx hb dX0_prepareRows_31 (by decide) ?_
  rw [show (2000 : Int32) = nI 2000 from rfl]
  refine hq_newa (atype := .int) (ty := .int) hx hb (hts _ tw_121) rfl hK hh hA 0 rfl (N' := 2000) (a0 := (2000, .inl (fun _ => 0))) (fun _ => rfl) (by decide) (by decide) (by decide) (Nat.le_of_ble_eq_true rfl) (Nat.le_of_ble_eq_true rfl) dX0_prepareRows_34 (fun q_931 H ad_931 en_931 had_931 hen_931 hh => ?_)
  have hda_931 : ∀ i, i < (n + 1) → ad_931 i = ad_929 i := fun i hi => by rw [had_931, va_up_ne _ _ (by omega)]
  have hue_931 : ∀ i, i < (n + 1) → en_931 i = en_930 i := fun i hi => by rw [hen_931, va_up_ne _ _ (by omega)]
  have hh : Hp D A A s.heap H _ (List.range (n + 2)) ad_931 en_931 := hh
  refine W.eq (g2 := F0 m 36 ls [.ref q_931, .ref (ad_931 70)]) (by rw [hda_931 70 (by omega)]) ?_
  have hl : lv_has ls 1 [(0, .ref (ad_931 70))] := by rw [hda_931 70 (by omega)]; exact hl
  have es928_931 : en_931 1 = .inr (7, [.ref (ad_931 2), .ref (ad_931 3), .ref (ad_931 10), .ref (ad_931 11), .int (nI cnt), .int (nI d), .int (nI mm)]) := by rw [hue_931 1 (by omega), hda_931 2 (by omega), hda_931 3 (by omega), hda_931 10 (by omega), hda_931 11 (by omega)]; exact es928_930
  have en1_931 : en_931 n = .inl (cy 1, 18000, .inr (.inl (fun _ => 0))) := by rw [hue_931 n (by omega)]; exact en1_930
  have e70_931 : en_931 70 = .inr (0, [.ref (ad_931 1), .ref (ad_931 71), .ref (ad_931 72), .ref (ad_931 73), .ref (ad_931 n), .null, .null, .int 0, .int 0, .int 0, .int 0, .int 0, .int 0]) := by rw [hue_931 70 (by omega), hda_931 1 (by omega), hda_931 71 (by omega), hda_931 72 (by omega), hda_931 73 (by omega), hda_931 n (by omega)]; exact e70_930
  have b1_931 : en 1 = .inr (7, [.ref (ad_931 2), .ref (ad_931 3), .ref (ad_931 10), .ref (ad_931 11), .int (nI cnt), .int (nI d), .int (nI mm)]) := by rw [hda_931 2 (by omega), hda_931 3 (by omega), hda_931 10 (by omega), hda_931 11 (by omega)]; exact b1_929
  have hI_931 : SX cy (List.range (n + 2)) ad_931 en_931 := SX_grow hI_930 (fun c h => List.mem_range.mpr (by omega)) (fun i h => hda_931 i (by omega)) (fun i h => hue_931 i (by omega))
  have hf_931 : ∀ c, (c ≠ 70 ∧ c < n) → en_931 c = en c := fun c hc => (hue_931 c (by omega)).trans (hf_930 c hc)
  have en2_931 : en_931 (n + 1) = .inl (cy 0, 2000, .inl (fun _ => 0)) := by rw [hen_931]; exact va_up_self _ _ _
  refine W.eq (g2 := F0 m 36 ls [.ref (ad_931 (n + 1)), .ref (ad_931 70)]) (by rw [show ad_931 (n + 1) = q_931 from by rw [had_931]; exact va_up_self _ _ _]) ?_
  refine W.widen (k := 2) (n := 20000) (by omega) (by omega) ?_
  refine hp_put hx hb hts ix0 tyX0 tyX0_ok nmX0 hown hK hh (q := 70) rfl (List.mem_range.mpr (by omega)) e70_931 rfl 5 (by decide) (hts _ tw_152) (fun _ h9 => h9) rfl (ty := (.array .int)) (by decide +kernel) rfl rfl (Nat.le_of_ble_eq_true rfl) dX0_prepareRows_36 (fun H locs en_932 hen_932 hh => ?_)
  have es928_932 : en_932 1 = .inr (7, [.ref (ad_931 2), .ref (ad_931 3), .ref (ad_931 10), .ref (ad_931 11), .int (nI cnt), .int (nI d), .int (nI mm)]) := by rw [hen_932, va_up_ne _ _ (by decide)]; exact es928_931
  have en1_932 : en_932 n = .inl (cy 1, 18000, .inr (.inl (fun _ => 0))) := by rw [hen_932, va_up_ne _ _ (by omega)]; exact en1_931
  have en2_932 : en_932 (n + 1) = .inl (cy 0, 2000, .inl (fun _ => 0)) := by rw [hen_932, va_up_ne _ _ (by omega)]; exact en2_931
  have e70_932 : en_932 70 = .inr (0, [.ref (ad_931 1), .ref (ad_931 71), .ref (ad_931 72), .ref (ad_931 73), .ref (ad_931 n), .ref (ad_931 (n + 1)), .null, .int 0, .int 0, .int 0, .int 0, .int 0, .int 0]) := by rw [hen_932]; exact va_up_self _ _ _
  have hI_932 : SX cy (List.range (n + 2)) ad_931 en_932 := by rw [hen_932]; exact up_C hI_931 ⟨(some (ad_931 n)), (some (ad_931 (n + 1))), none, 0, 0, 0, 0, 0, 0, rfl⟩
  have hf_932 : ∀ c, (c ≠ 70 ∧ c < n) → en_932 c = en c := fun c hc => Eq.trans (show en_932 c = en_931 c from by rw [hen_932, va_up_ne _ _ (by omega)]) (hf_931 c hc)
  refine lv_aload_n hx hb dX0_prepareRows_39 rfl (lv_at hl 0 rfl) ?_
  refine lv_sipush (v := 4096) hx hb dX0_prepareRows_40 (by decide) ?_
  rw [show (4096 : Int32) = nI 4096 from rfl]
  refine hq_newa (atype := .int) (ty := .int) hx hb (hts _ tw_121) rfl hK hh hA 0 rfl (N' := 4096) (a0 := (4096, .inl (fun _ => 0))) (fun _ => rfl) (by decide) (by decide) (by decide) (Nat.le_of_ble_eq_true rfl) (Nat.le_of_ble_eq_true rfl) dX0_prepareRows_43 (fun q_933 H ad_933 en_933 had_933 hen_933 hh => ?_)
  have hda_933 : ∀ i, i < (n + 2) → ad_933 i = ad_931 i := fun i hi => by rw [had_933, va_up_ne _ _ (by omega)]
  have hue_933 : ∀ i, i < (n + 2) → en_933 i = en_932 i := fun i hi => by rw [hen_933, va_up_ne _ _ (by omega)]
  have hh : Hp D A A s.heap H _ (List.range (n + 3)) ad_933 en_933 := hh
  refine W.eq (g2 := F0 m 45 ls [.ref q_933, .ref (ad_933 70)]) (by rw [hda_933 70 (by omega)]) ?_
  have hl : lv_has ls 1 [(0, .ref (ad_933 70))] := by rw [hda_933 70 (by omega)]; exact hl
  have es928_933 : en_933 1 = .inr (7, [.ref (ad_933 2), .ref (ad_933 3), .ref (ad_933 10), .ref (ad_933 11), .int (nI cnt), .int (nI d), .int (nI mm)]) := by rw [hue_933 1 (by omega), hda_933 2 (by omega), hda_933 3 (by omega), hda_933 10 (by omega), hda_933 11 (by omega)]; exact es928_932
  have en1_933 : en_933 n = .inl (cy 1, 18000, .inr (.inl (fun _ => 0))) := by rw [hue_933 n (by omega)]; exact en1_932
  have en2_933 : en_933 (n + 1) = .inl (cy 0, 2000, .inl (fun _ => 0)) := by rw [hue_933 (n + 1) (by omega)]; exact en2_932
  have e70_933 : en_933 70 = .inr (0, [.ref (ad_933 1), .ref (ad_933 71), .ref (ad_933 72), .ref (ad_933 73), .ref (ad_933 n), .ref (ad_933 (n + 1)), .null, .int 0, .int 0, .int 0, .int 0, .int 0, .int 0]) := by rw [hue_933 70 (by omega), hda_933 1 (by omega), hda_933 71 (by omega), hda_933 72 (by omega), hda_933 73 (by omega), hda_933 n (by omega), hda_933 (n + 1) (by omega)]; exact e70_932
  have b1_933 : en 1 = .inr (7, [.ref (ad_933 2), .ref (ad_933 3), .ref (ad_933 10), .ref (ad_933 11), .int (nI cnt), .int (nI d), .int (nI mm)]) := by rw [hda_933 2 (by omega), hda_933 3 (by omega), hda_933 10 (by omega), hda_933 11 (by omega)]; exact b1_931
  have hI_933 : SX cy (List.range (n + 3)) ad_933 en_933 := SX_grow hI_932 (fun c h => List.mem_range.mpr (by omega)) (fun i h => hda_933 i (by omega)) (fun i h => hue_933 i (by omega))
  have hf_933 : ∀ c, (c ≠ 70 ∧ c < n) → en_933 c = en c := fun c hc => (hue_933 c (by omega)).trans (hf_932 c hc)
  have en3_933 : en_933 (n + 2) = .inl (cy 0, 4096, .inl (fun _ => 0)) := by rw [hen_933]; exact va_up_self _ _ _
  refine W.eq (g2 := F0 m 45 ls [.ref (ad_933 (n + 2)), .ref (ad_933 70)]) (by rw [show ad_933 (n + 2) = q_933 from by rw [had_933]; exact va_up_self _ _ _]) ?_
  refine W.widen (k := 3) (n := 24096) (by omega) (by omega) ?_
  refine hp_put hx hb hts ix0 tyX0 tyX0_ok nmX0 hown hK hh (q := 70) rfl (List.mem_range.mpr (by omega)) e70_933 rfl 6 (by decide) (hts _ tw_153) (fun _ h9 => h9) rfl (ty := (.array .int)) (by decide +kernel) rfl rfl (Nat.le_of_ble_eq_true rfl) dX0_prepareRows_45 (fun H locs en_934 hen_934 hh => ?_)
  have es928_934 : en_934 1 = .inr (7, [.ref (ad_933 2), .ref (ad_933 3), .ref (ad_933 10), .ref (ad_933 11), .int (nI cnt), .int (nI d), .int (nI mm)]) := by rw [hen_934, va_up_ne _ _ (by decide)]; exact es928_933
  have en1_934 : en_934 n = .inl (cy 1, 18000, .inr (.inl (fun _ => 0))) := by rw [hen_934, va_up_ne _ _ (by omega)]; exact en1_933
  have en2_934 : en_934 (n + 1) = .inl (cy 0, 2000, .inl (fun _ => 0)) := by rw [hen_934, va_up_ne _ _ (by omega)]; exact en2_933
  have en3_934 : en_934 (n + 2) = .inl (cy 0, 4096, .inl (fun _ => 0)) := by rw [hen_934, va_up_ne _ _ (by omega)]; exact en3_933
  have e70_934 : en_934 70 = .inr (0, [.ref (ad_933 1), .ref (ad_933 71), .ref (ad_933 72), .ref (ad_933 73), .ref (ad_933 n), .ref (ad_933 (n + 1)), .ref (ad_933 (n + 2)), .int 0, .int 0, .int 0, .int 0, .int 0, .int 0]) := by rw [hen_934]; exact va_up_self _ _ _
  have hI_934 : SX cy (List.range (n + 3)) ad_933 en_934 := by rw [hen_934]; exact up_C hI_933 ⟨(some (ad_933 n)), (some (ad_933 (n + 1))), (some (ad_933 (n + 2))), 0, 0, 0, 0, 0, 0, rfl⟩
  have hf_934 : ∀ c, (c ≠ 70 ∧ c < n) → en_934 c = en c := fun c hc => Eq.trans (show en_934 c = en_933 c from by rw [hen_934, va_up_ne _ _ (by omega)]) (hf_933 c hc)
  refine lv_aload_n hx hb dX0_prepareRows_48 rfl (lv_at hl 0 rfl) ?_
  refine hp_get hx hb hts ix0 hown hK hh (q := 70) rfl (List.mem_range.mpr (by omega)) e70_934 rfl 6 (by decide) (hts _ tw_153) (fun _ h9 => h9) rfl dX0_prepareRows_49 ?_
  refine lv_iconst (v := 0) hx hb dX0_prepareRows_52 (by decide) ?_
  refine hp_callMv (va_runS (As := [.ref (ad_933 (n + 2)), .int 0]) (rest := []) ⟨hx, hb, hml, hown, hts⟩ (c_J7_fill_53178 l D cy _ (List.range (n + 3)) ad_933 en_934 (n + 2) 4096 (List.mem_range.mpr (by omega)) (by decide) (fun _ => 0) 0 en3_934) (kw_J7_fill_53178 hts tw_590 ⟨by decide, by decide⟩) (preS_of hh hK) rfl rfl hl.1 rfl (lv_room (Nat.le_of_ble_eq_true rfl)) dX0_prepareRows_53 ⟨Nat.le_of_ble_eq_true rfl, Nat.le_of_ble_eq_true rfl⟩) hh hA (fun H locs en_935 hw_935 hh => ?_)
  obtain ⟨f_935, hen_935, hf9_935⟩ := hw_935
  have es928_935 : en_935 1 = .inr (7, [.ref (ad_933 2), .ref (ad_933 3), .ref (ad_933 10), .ref (ad_933 11), .int (nI cnt), .int (nI d), .int (nI mm)]) := by rw [hen_935, va_up_ne _ _ (by omega)]; exact es928_934
  have en1_935 : en_935 n = .inl (cy 1, 18000, .inr (.inl (fun _ => 0))) := by rw [hen_935, va_up_ne _ _ (by omega)]; exact en1_934
  have en2_935 : en_935 (n + 1) = .inl (cy 0, 2000, .inl (fun _ => 0)) := by rw [hen_935, va_up_ne _ _ (by omega)]; exact en2_934
  have e70_935 : en_935 70 = .inr (0, [.ref (ad_933 1), .ref (ad_933 71), .ref (ad_933 72), .ref (ad_933 73), .ref (ad_933 n), .ref (ad_933 (n + 1)), .ref (ad_933 (n + 2)), .int 0, .int 0, .int 0, .int 0, .int 0, .int 0]) := by rw [hen_935, va_up_ne _ _ (by omega)]; exact e70_934
  have en3_935 : en_935 (n + 2) = .inl (cy 0, 4096, .inl f_935) := by rw [hen_935]; exact va_up_self _ _ _
  have hI_935 : SX cy (List.range (n + 3)) ad_933 en_935 := SX_pt hI_934 (fun c => c = (n + 2)) (fun c hc => by rw [hen_935, va_up_ne _ _ hc]) (fun c hc h9 => absurd h9 (by omega))
  have hf_935 : ∀ c, (c ≠ 70 ∧ c < n) → en_935 c = en c := fun c hc => Eq.trans (show en_935 c = en_934 c from by rw [hen_935, va_up_ne _ _ (by omega)]) (hf_934 c hc)
  refine lv_aload_n hx hb dX0_prepareRows_56 rfl (lv_at hl 0 rfl) ?_
  refine lv_aload_n hx hb dX0_prepareRows_57 rfl (lv_at hl 0 rfl) ?_
  refine hp_get hx hb hts ix0 hown hK hh (q := 70) rfl (List.mem_range.mpr (by omega)) e70_935 rfl 0 (by decide) (hts _ tw_147) (fun _ h9 => h9) rfl dX0_prepareRows_58 ?_
  refine hp_callRi (va_runV (As := []) (rest := [.ref (ad_933 70)]) ⟨hx, hb, hml, hown, hts⟩ (c_X8_cellCount l D cy _ (List.range (n + 3)) ad_933 en_935 (List.mem_range.mpr (by omega)) cnt d mm hcnt hd2 hd3 hmm  es928_935) (kw_X8_cellCount hts tw_591 ⟨by decide, by decide⟩) (preV_of hh hK (List.mem_range.mpr (by omega)) es928_935 rfl) rfl rfl hl.1 rfl (lv_room (Nat.le_of_ble_eq_true rfl)) dX0_prepareRows_61 ⟨Nat.le_of_ble_eq_true rfl, Nat.le_of_ble_eq_true rfl⟩) hh hA (fun r_936 H locs hw_936 hh => ?_)
  obtain rfl : r_936 = nI (d * d) := hw_936
  refine hp_put hx hb hts ix0 tyX0 tyX0_ok nmX0 hown hK hh (q := 70) rfl (List.mem_range.mpr (by omega)) e70_935 rfl 8 (by decide) (hts _ tw_155) (fun _ h9 => h9) rfl (ty := .int) (by decide +kernel) rfl rfl (Nat.le_of_ble_eq_true rfl) dX0_prepareRows_64 (fun H locs en_937 hen_937 hh => ?_)
  have es928_937 : en_937 1 = .inr (7, [.ref (ad_933 2), .ref (ad_933 3), .ref (ad_933 10), .ref (ad_933 11), .int (nI cnt), .int (nI d), .int (nI mm)]) := by rw [hen_937, va_up_ne _ _ (by decide)]; exact es928_935
  have en1_937 : en_937 n = .inl (cy 1, 18000, .inr (.inl (fun _ => 0))) := by rw [hen_937, va_up_ne _ _ (by omega)]; exact en1_935
  have en2_937 : en_937 (n + 1) = .inl (cy 0, 2000, .inl (fun _ => 0)) := by rw [hen_937, va_up_ne _ _ (by omega)]; exact en2_935
  have en3_937 : en_937 (n + 2) = .inl (cy 0, 4096, .inl f_935) := by rw [hen_937, va_up_ne _ _ (by omega)]; exact en3_935
  have e70_937 : en_937 70 = .inr (0, [.ref (ad_933 1), .ref (ad_933 71), .ref (ad_933 72), .ref (ad_933 73), .ref (ad_933 n), .ref (ad_933 (n + 1)), .ref (ad_933 (n + 2)), .int 0, .int (nI (d * d)), .int 0, .int 0, .int 0, .int 0]) := by rw [hen_937]; exact va_up_self _ _ _
  have hI_937 : SX cy (List.range (n + 3)) ad_933 en_937 := by rw [hen_937]; exact up_C hI_935 ⟨(some (ad_933 n)), (some (ad_933 (n + 1))), (some (ad_933 (n + 2))), 0, (nI (d * d)), 0, 0, 0, 0, rfl⟩
  have hf_937 : ∀ c, (c ≠ 70 ∧ c < n) → en_937 c = en c := fun c hc => Eq.trans (show en_937 c = en_935 c from by rw [hen_937, va_up_ne _ _ (by omega)]) (hf_935 c hc)
  refine lv_aload_n hx hb dX0_prepareRows_67 rfl (lv_at hl 0 rfl) ?_
  refine lv_iconst (v := 0) hx hb dX0_prepareRows_68 (by decide) ?_
  refine hp_put hx hb hts ix0 tyX0 tyX0_ok nmX0 hown hK hh (q := 70) rfl (List.mem_range.mpr (by omega)) e70_937 rfl 9 (by decide) (hts _ tw_156) (fun _ h9 => h9) rfl (ty := .int) (by decide +kernel) rfl rfl (Nat.le_of_ble_eq_true rfl) dX0_prepareRows_69 (fun H locs en_938 hen_938 hh => ?_)
  have hid_938 : en_938 = en_937 := hen_938.trans (va_up_id e70_937)
  rw [hid_938] at hh
  have hfin : CL9 n (n + 1) (n + 2) (dC en * dC en) en_937 [] := CL_0 (by rw [hd9]; exact hdd) (by rw [e70_937, hd9]; rfl) (by rw [e70_937]; rfl) (fun i hi => by rw [en3_937]; exact hf9_935 i hi)
  exact hv_vret hx hb hr hlocks hh (⟨(fun i hi => by dsimp only; rw [hda_933 i (by omega), hda_931 i (by omega), hda_929 i (by omega)]), hf_937, rfl, n, n + 1, n + 2, Nat.le_refl _, ⟨hI_937, ⟨(List.mem_range.mpr (by omega)), (List.mem_range.mpr (by omega)), (List.mem_range.mpr (by omega)), by omega, by omega, by omega⟩, ⟨0, d * d, 0, 0, 0, 0, e70_937, by omega, by omega, by omega, by omega⟩, ⟨_, en1_937⟩, ⟨_, en2_937⟩, ⟨_, en3_937, fun i hi => ⟨0, by decide, hf9_935 i hi⟩⟩⟩, hfin⟩) dX0_prepareRows_72
theorem kw_X0_prepareRowsU {R : Room} {s : State} {args : Array Value} {own : String} {idx : Nat} (hts : ∀ w ∈ TB, w.before args s = true) (hl : Cond.methodLink own idx yX0_prepareRows ∈ TB) (hR : 1 + 1 ≤ R.frames ∧ 8 + (1 + 11) + 40 * 1 ≤ R.locals) : CallW R s args own RX0 idx yX0_prepareRows cX0_prepareRows 1 none (Cond.code yX0_prepareRows cX0_prepareRows 1 none :: TB) (rmC 1 3 24096) 3 24096 0 := cwV 0 hts (TB_V hl tw_588 ts_14 tw_5 tw_589) rfl rfl rfl (by decide +kernel) hR
