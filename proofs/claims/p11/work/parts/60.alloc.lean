set_option maxHeartbeats 8000000 in
set_option maxRecDepth 100000 in
/-- prepareRows, the arrays not made -/
theorem c_X0_prepareRowsU (l : Launch) (D : va_G) (cy : Nat → ClassId) (sz : Nat) (ad : Nat → Nat) (en : Nat → va_E) (n : Nat) (hn : 115 ≤ n) (hI : SX cy (List.range n) ad en)  (e70 : en 70 = .inr (0, [.ref (ad 1), .ref (ad 71), .ref (ad 72), .ref (ad 73), .null, .null, .null, .int 0, .int 0, .int 0, .int 0, .int 0, .int 0])) : Met l yX0_prepareRows (Cond.code yX0_prepareRows cX0_prepareRows 1 none :: TB) (rmC 1 3 24096) (va_Pc [.ref (ad 70)] (PreC D cy n ad en sz)) (va_Qv (S := Nat × (Nat → Nat) × (Nat → va_E)) (fun u => (∀ i, i < n → u.2.1 i = ad i) ∧ (∀ i, (i ≠ 70 ∧ i < n) → u.2.2 i = en i) ∧ u.1 = n + 3 ∧ ∃ ka kb kc, n ≤ ka ∧ SC cy (List.range (n + 3)) u.2.1 ka kb kc u.2.2) (PostV D (Af (List.range n) ad sz)) (Af (List.range n) ad sz)) 3 24096 (Af (List.range n) ad sz) := by
  refine Met.ofW (cc := cX0_prepareRows) (maxL := 1) (ret := none) (by decide) rfl ?_
  intro p e s m args below meth c s₁ B hml hv
  obtain ⟨rfl, ⟨hsz, hP, hK, hD0⟩, hX⟩ := hv
  have hx := B.exec
  have hb := B.bytes
  have hr := B.returns
  have hts : ∀ w ∈ TB, w.before _ s = true := fun w h => atoms_spec (ws := _ :: TB) B.pre w (List.mem_cons_of_mem _ h)
  have hown : s.vm.findClass RX0 = some m.cls := findClass_of_methodNamed B.named
  have hlocks := B.notSynchronized
  have hh : Hp D (Af (List.range n) ad sz) (Af (List.range n) ad sz) s.heap s.heap [] (List.range n) ad en := ⟨hP, Af_self hD0, va_S.rf⟩
  have hA : ∀ q : Nat, s.heap.size ≤ q → (Af (List.range n) ad sz) q := fun q h => Or.inr (by rw [hsz] at h; exact h)
  generalize (Af (List.range n) ad sz) = A at hh hA ⊢
  have hl := lv_entry ([.ref (ad 70)]) (n := 1) (Nat.le_of_ble_eq_true rfl)
  rw [lg_entry_eq]
  generalize (lg_sl ([.ref (ad 70)]) ++ List.replicate (1 - (lg_sl ([.ref (ad 70)])).length) Slot.unset).toArray = ls at hl ⊢
  have hl : lv_has ls 1 [(0, .ref (ad 70))] := hl
  have hf0 : ∀ c, (c ≠ 70 ∧ c < n) → en c = en c := fun _ _ => rfl
  obtain ⟨cnt, d, mm, es920, hcnt, hd2, hd3, hmm⟩ := get_T hI
  have hdd : d * d ≤ 9 := Nat.mul_le_mul hd3 hd3
  refine lv_aload_n hx hb dX0_prepareRows_0 rfl (lv_at hl 0 rfl) ?_
  refine hp_get hx hb hts ix0 hown hK hh (q := 70) rfl (List.mem_range.mpr (by omega)) e70 rfl 4 (by decide) (hts _ tw_151) (fun _ h9 => h9) rfl dX0_prepareRows_1 ?_
  refine lv_ifnullN (tgt := 21) hx hb dX0_prepareRows_4 (by decide) ?_
  refine lv_aload_n hx hb dX0_prepareRows_21 rfl (lv_at hl 0 rfl) ?_
  refine lv_sipush (v := 18000) hx hb dX0_prepareRows_22 (by decide) ?_
  rw [show (18000 : Int32) = nI 18000 from rfl]
  refine hq_newa (atype := .long) (ty := .long) hx hb (hts _ tw_61) rfl hK hh hA 1 rfl (N' := 18000) (a0 := (18000, .inr (.inl (fun _ => 0)))) (fun _ => rfl) (by decide) (by decide) (by decide) (Nat.le_of_ble_eq_true rfl) (Nat.le_of_ble_eq_true rfl) dX0_prepareRows_25 (fun q_921 H ad_921 en_921 had_921 hen_921 hh => ?_)
  have hda_921 : ∀ i, i < n → ad_921 i = ad i := fun i hi => by rw [had_921, va_up_ne _ _ (by omega)]
  have hue_921 : ∀ i, i < n → en_921 i = en i := fun i hi => by rw [hen_921, va_up_ne _ _ (by omega)]
  have hh : Hp D A A s.heap H _ (List.range (n + 1)) ad_921 en_921 := hh
  refine W.eq (g2 := F0 m 27 ls [.ref q_921, .ref (ad_921 70)]) (by rw [hda_921 70 (by omega)]) ?_
  have hl : lv_has ls 1 [(0, .ref (ad_921 70))] := by rw [hda_921 70 (by omega)]; exact hl
  have e70_921 : en_921 70 = .inr (0, [.ref (ad_921 1), .ref (ad_921 71), .ref (ad_921 72), .ref (ad_921 73), .null, .null, .null, .int 0, .int 0, .int 0, .int 0, .int 0, .int 0]) := by rw [hue_921 70 (by omega), hda_921 1 (by omega), hda_921 71 (by omega), hda_921 72 (by omega), hda_921 73 (by omega)]; exact e70
  have es920_921 : en_921 1 = .inr (7, [.ref (ad_921 2), .ref (ad_921 3), .ref (ad_921 10), .ref (ad_921 11), .int (nI cnt), .int (nI d), .int (nI mm)]) := by rw [hue_921 1 (by omega), hda_921 2 (by omega), hda_921 3 (by omega), hda_921 10 (by omega), hda_921 11 (by omega)]; exact es920
  have b1_921 : en 1 = .inr (7, [.ref (ad_921 2), .ref (ad_921 3), .ref (ad_921 10), .ref (ad_921 11), .int (nI cnt), .int (nI d), .int (nI mm)]) := by rw [hda_921 2 (by omega), hda_921 3 (by omega), hda_921 10 (by omega), hda_921 11 (by omega)]; exact es920
  have hI_921 : SX cy (List.range (n + 1)) ad_921 en_921 := SX_grow hI (fun c h => List.mem_range.mpr (by omega)) (fun i h => hda_921 i (by omega)) (fun i h => hue_921 i (by omega))
  have hf_921 : ∀ c, (c ≠ 70 ∧ c < n) → en_921 c = en c := fun c hc => (hue_921 c (by omega)).trans (hf0 c hc)
  have en1_921 : en_921 n = .inl (cy 1, 18000, .inr (.inl (fun _ => 0))) := by rw [hen_921]; exact va_up_self _ _ _
  refine W.eq (g2 := F0 m 27 ls [.ref (ad_921 n), .ref (ad_921 70)]) (by rw [show ad_921 n = q_921 from by rw [had_921]; exact va_up_self _ _ _]) ?_
  refine W.widen (k := 1) (n := 18000) (by omega) (by omega) ?_
  refine hp_put hx hb hts ix0 tyX0 tyX0_ok nmX0 hown hK hh (q := 70) rfl (List.mem_range.mpr (by omega)) e70_921 rfl 4 (by decide) (hts _ tw_151) (fun _ h9 => h9) rfl (ty := (.array .long)) (by decide +kernel) rfl rfl (Nat.le_of_ble_eq_true rfl) dX0_prepareRows_27 (fun H locs en_922 hen_922 hh => ?_)
  have es920_922 : en_922 1 = .inr (7, [.ref (ad_921 2), .ref (ad_921 3), .ref (ad_921 10), .ref (ad_921 11), .int (nI cnt), .int (nI d), .int (nI mm)]) := by rw [hen_922, va_up_ne _ _ (by decide)]; exact es920_921
  have en1_922 : en_922 n = .inl (cy 1, 18000, .inr (.inl (fun _ => 0))) := by rw [hen_922, va_up_ne _ _ (by omega)]; exact en1_921
  have e70_922 : en_922 70 = .inr (0, [.ref (ad_921 1), .ref (ad_921 71), .ref (ad_921 72), .ref (ad_921 73), .ref (ad_921 n), .null, .null, .int 0, .int 0, .int 0, .int 0, .int 0, .int 0]) := by rw [hen_922]; exact va_up_self _ _ _
  have hI_922 : SX cy (List.range (n + 1)) ad_921 en_922 := by rw [hen_922]; exact up_C hI_921 ⟨(some (ad_921 n)), none, none, 0, 0, 0, 0, 0, 0, rfl⟩
  have hf_922 : ∀ c, (c ≠ 70 ∧ c < n) → en_922 c = en c := fun c hc => Eq.trans (show en_922 c = en_921 c from by rw [hen_922, va_up_ne _ _ (by omega)]) (hf_921 c hc)
  refine lv_aload_n hx hb dX0_prepareRows_30 rfl (lv_at hl 0 rfl) ?_
  refine lv_sipush (v := 2000) hx hb dX0_prepareRows_31 (by decide) ?_
  rw [show (2000 : Int32) = nI 2000 from rfl]
  refine hq_newa (atype := .int) (ty := .int) hx hb (hts _ tw_121) rfl hK hh hA 0 rfl (N' := 2000) (a0 := (2000, .inl (fun _ => 0))) (fun _ => rfl) (by decide) (by decide) (by decide) (Nat.le_of_ble_eq_true rfl) (Nat.le_of_ble_eq_true rfl) dX0_prepareRows_34 (fun q_923 H ad_923 en_923 had_923 hen_923 hh => ?_)
  have hda_923 : ∀ i, i < (n + 1) → ad_923 i = ad_921 i := fun i hi => by rw [had_923, va_up_ne _ _ (by omega)]
  have hue_923 : ∀ i, i < (n + 1) → en_923 i = en_922 i := fun i hi => by rw [hen_923, va_up_ne _ _ (by omega)]
  have hh : Hp D A A s.heap H _ (List.range (n + 2)) ad_923 en_923 := hh
  refine W.eq (g2 := F0 m 36 ls [.ref q_923, .ref (ad_923 70)]) (by rw [hda_923 70 (by omega)]) ?_
  have hl : lv_has ls 1 [(0, .ref (ad_923 70))] := by rw [hda_923 70 (by omega)]; exact hl
  have es920_923 : en_923 1 = .inr (7, [.ref (ad_923 2), .ref (ad_923 3), .ref (ad_923 10), .ref (ad_923 11), .int (nI cnt), .int (nI d), .int (nI mm)]) := by rw [hue_923 1 (by omega), hda_923 2 (by omega), hda_923 3 (by omega), hda_923 10 (by omega), hda_923 11 (by omega)]; exact es920_922
  have en1_923 : en_923 n = .inl (cy 1, 18000, .inr (.inl (fun _ => 0))) := by rw [hue_923 n (by omega)]; exact en1_922
  have e70_923 : en_923 70 = .inr (0, [.ref (ad_923 1), .ref (ad_923 71), .ref (ad_923 72), .ref (ad_923 73), .ref (ad_923 n), .null, .null, .int 0, .int 0, .int 0, .int 0, .int 0, .int 0]) := by rw [hue_923 70 (by omega), hda_923 1 (by omega), hda_923 71 (by omega), hda_923 72 (by omega), hda_923 73 (by omega), hda_923 n (by omega)]; exact e70_922
  have b1_923 : en 1 = .inr (7, [.ref (ad_923 2), .ref (ad_923 3), .ref (ad_923 10), .ref (ad_923 11), .int (nI cnt), .int (nI d), .int (nI mm)]) := by rw [hda_923 2 (by omega), hda_923 3 (by omega), hda_923 10 (by omega), hda_923 11 (by omega)]; exact b1_921
  have hI_923 : SX cy (List.range (n + 2)) ad_923 en_923 := SX_grow hI_922 (fun c h => List.mem_range.mpr (by omega)) (fun i h => hda_923 i (by omega)) (fun i h => hue_923 i (by omega))
  have hf_923 : ∀ c, (c ≠ 70 ∧ c < n) → en_923 c = en c := fun c hc => (hue_923 c (by omega)).trans (hf_922 c hc)
  have en2_923 : en_923 (n + 1) = .inl (cy 0, 2000, .inl (fun _ => 0)) := by rw [hen_923]; exact va_up_self _ _ _
  refine W.eq (g2 := F0 m 36 ls [.ref (ad_923 (n + 1)), .ref (ad_923 70)]) (by rw [show ad_923 (n + 1) = q_923 from by rw [had_923]; exact va_up_self _ _ _]) ?_
  refine W.widen (k := 2) (n := 20000) (by omega) (by omega) ?_
  refine hp_put hx hb hts ix0 tyX0 tyX0_ok nmX0 hown hK hh (q := 70) rfl (List.mem_range.mpr (by omega)) e70_923 rfl 5 (by decide) (hts _ tw_152) (fun _ h9 => h9) rfl (ty := (.array .int)) (by decide +kernel) rfl rfl (Nat.le_of_ble_eq_true rfl) dX0_prepareRows_36 (fun H locs en_924 hen_924 hh => ?_)
  have es920_924 : en_924 1 = .inr (7, [.ref (ad_923 2), .ref (ad_923 3), .ref (ad_923 10), .ref (ad_923 11), .int (nI cnt), .int (nI d), .int (nI mm)]) := by rw [hen_924, va_up_ne _ _ (by decide)]; exact es920_923
  have en1_924 : en_924 n = .inl (cy 1, 18000, .inr (.inl (fun _ => 0))) := by rw [hen_924, va_up_ne _ _ (by omega)]; exact en1_923
  have en2_924 : en_924 (n + 1) = .inl (cy 0, 2000, .inl (fun _ => 0)) := by rw [hen_924, va_up_ne _ _ (by omega)]; exact en2_923
  have e70_924 : en_924 70 = .inr (0, [.ref (ad_923 1), .ref (ad_923 71), .ref (ad_923 72), .ref (ad_923 73), .ref (ad_923 n), .ref (ad_923 (n + 1)), .null, .int 0, .int 0, .int 0, .int 0, .int 0, .int 0]) := by rw [hen_924]; exact va_up_self _ _ _
  have hI_924 : SX cy (List.range (n + 2)) ad_923 en_924 := by rw [hen_924]; exact up_C hI_923 ⟨(some (ad_923 n)), (some (ad_923 (n + 1))), none, 0, 0, 0, 0, 0, 0, rfl⟩
  have hf_924 : ∀ c, (c ≠ 70 ∧ c < n) → en_924 c = en c := fun c hc => Eq.trans (show en_924 c = en_923 c from by rw [hen_924, va_up_ne _ _ (by omega)]) (hf_923 c hc)
  refine lv_aload_n hx hb dX0_prepareRows_39 rfl (lv_at hl 0 rfl) ?_
  refine lv_sipush (v := 4096) hx hb dX0_prepareRows_40 (by decide) ?_
  rw [show (4096 : Int32) = nI 4096 from rfl]
  refine hq_newa (atype := .int) (ty := .int) hx hb (hts _ tw_121) rfl hK hh hA 0 rfl (N' := 4096) (a0 := (4096, .inl (fun _ => 0))) (fun _ => rfl) (by decide) (by decide) (by decide) (Nat.le_of_ble_eq_true rfl) (Nat.le_of_ble_eq_true rfl) dX0_prepareRows_43 (fun q_925 H ad_925 en_925 had_925 hen_925 hh => ?_)
  have hda_925 : ∀ i, i < (n + 2) → ad_925 i = ad_923 i := fun i hi => by rw [had_925, va_up_ne _ _ (by omega)]
  have hue_925 : ∀ i, i < (n + 2) → en_925 i = en_924 i := fun i hi => by rw [hen_925, va_up_ne _ _ (by omega)]
  have hh : Hp D A A s.heap H _ (List.range (n + 3)) ad_925 en_925 := hh
  refine W.eq (g2 := F0 m 45 ls [.ref q_925, .ref (ad_925 70)]) (by rw [hda_925 70 (by omega)]) ?_
  have hl : lv_has ls 1 [(0, .ref (ad_925 70))] := by rw [hda_925 70 (by omega)]; exact hl
  have es920_925 : en_925 1 = .inr (7, [.ref (ad_925 2), .ref (ad_925 3), .ref (ad_925 10), .ref (ad_925 11), .int (nI cnt), .int (nI d), .int (nI mm)]) := by rw [hue_925 1 (by omega), hda_925 2 (by omega), hda_925 3 (by omega), hda_925 10 (by omega), hda_925 11 (by omega)]; exact es920_924
  have en1_925 : en_925 n = .inl (cy 1, 18000, .inr (.inl (fun _ => 0))) := by rw [hue_925 n (by omega)]; exact en1_924
  have en2_925 : en_925 (n + 1) = .inl (cy 0, 2000, .inl (fun _ => 0)) := by rw [hue_925 (n + 1) (by omega)]; exact en2_924
  have e70_925 : en_925 70 = .inr (0, [.ref (ad_925 1), .ref (ad_925 71), .ref (ad_925 72), .ref (ad_925 73), .ref (ad_925 n), .ref (ad_925 (n + 1)), .null, .int 0, .int 0, .int 0, .int 0, .int 0, .int 0]) := by rw [hue_925 70 (by omega), hda_925 1 (by omega), hda_925 71 (by omega), hda_925 72 (by omega), hda_925 73 (by omega), hda_925 n (by omega), hda_925 (n + 1) (by omega)]; exact e70_924
  have b1_925 : en 1 = .inr (7, [.ref (ad_925 2), .ref (ad_925 3), .ref (ad_925 10), .ref (ad_925 11), .int (nI cnt), .int (nI d), .int (nI mm)]) := by rw [hda_925 2 (by omega), hda_925 3 (by omega), hda_925 10 (by omega), hda_925 11 (by omega)]; exact b1_923
  have hI_925 : SX cy (List.range (n + 3)) ad_925 en_925 := SX_grow hI_924 (fun c h => List.mem_range.mpr (by omega)) (fun i h => hda_925 i (by omega)) (fun i h => hue_925 i (by omega))
  have hf_925 : ∀ c, (c ≠ 70 ∧ c < n) → en_925 c = en c := fun c hc => (hue_925 c (by omega)).trans (hf_924 c hc)
  have en3_925 : en_925 (n + 2) = .inl (cy 0, 4096, .inl (fun _ => 0)) := by rw [hen_925]; exact va_up_self _ _ _
  refine W.eq (g2 := F0 m 45 ls [.ref (ad_925 (n + 2)), .ref (ad_925 70)]) (by rw [show ad_925 (n + 2) = q_925 from by rw [had_925]; exact va_up_self _ _ _]) ?_
  refine W.widen (k := 3) (n := 24096) (by omega) (by omega) ?_
  refine hp_put hx hb hts ix0 tyX0 tyX0_ok nmX0 hown hK hh (q := 70) rfl (List.mem_range.mpr (by omega)) e70_925 rfl 6 (by decide) (hts _ tw_153) (fun _ h9 => h9) rfl (ty := (.array .int)) (by decide +kernel) rfl rfl (Nat.le_of_ble_eq_true rfl) dX0_prepareRows_45 (fun H locs en_926 hen_926 hh => ?_)
  have es920_926 : en_926 1 = .inr (7, [.ref (ad_925 2), .ref (ad_925 3), .ref (ad_925 10), .ref (ad_925 11), .int (nI cnt), .int (nI d), .int (nI mm)]) := by rw [hen_926, va_up_ne _ _ (by decide)]; exact es920_925
  have en1_926 : en_926 n = .inl (cy 1, 18000, .inr (.inl (fun _ => 0))) := by rw [hen_926, va_up_ne _ _ (by omega)]; exact en1_925
  have en2_926 : en_926 (n + 1) = .inl (cy 0, 2000, .inl (fun _ => 0)) := by rw [hen_926, va_up_ne _ _ (by omega)]; exact en2_925
  have en3_926 : en_926 (n + 2) = .inl (cy 0, 4096, .inl (fun _ => 0)) := by rw [hen_926, va_up_ne _ _ (by omega)]; exact en3_925
  have e70_926 : en_926 70 = .inr (0, [.ref (ad_925 1), .ref (ad_925 71), .ref (ad_925 72), .ref (ad_925 73), .ref (ad_925 n), .ref (ad_925 (n + 1)), .ref (ad_925 (n + 2)), .int 0, .int 0, .int 0, .int 0, .int 0, .int 0]) := by rw [hen_926]; exact va_up_self _ _ _
  have hI_926 : SX cy (List.range (n + 3)) ad_925 en_926 := by rw [hen_926]; exact up_C hI_925 ⟨(some (ad_925 n)), (some (ad_925 (n + 1))), (some (ad_925 (n + 2))), 0, 0, 0, 0, 0, 0, rfl⟩
  have hf_926 : ∀ c, (c ≠ 70 ∧ c < n) → en_926 c = en c := fun c hc => Eq.trans (show en_926 c = en_925 c from by rw [hen_926, va_up_ne _ _ (by omega)]) (hf_925 c hc)
  refine lv_aload_n hx hb dX0_prepareRows_48 rfl (lv_at hl 0 rfl) ?_
  refine hp_get hx hb hts ix0 hown hK hh (q := 70) rfl (List.mem_range.mpr (by omega)) e70_926 rfl 6 (by decide) (hts _ tw_153) (fun _ h9 => h9) rfl dX0_prepareRows_49 ?_
  refine lv_iconst (v := 0) hx hb dX0_prepareRows_52 (by decide) ?_
  refine hp_callMv (va_runS (As := [.ref (ad_925 (n + 2)), .int 0]) (rest := []) ⟨hx, hb, hml, hown, hts⟩ (c_J7_fill_53178 l D cy _ (List.range (n + 3)) ad_925 en_926 (n + 2) 4096 (List.mem_range.mpr (by omega)) (by decide) (fun _ => 0) 0 en3_926) (kw_J7_fill_53178 hts tw_590 ⟨by decide, by decide⟩) (preS_of hh hK) rfl rfl hl.1 rfl (lv_room (Nat.le_of_ble_eq_true rfl)) dX0_prepareRows_53 ⟨Nat.le_of_ble_eq_true rfl, Nat.le_of_ble_eq_true rfl⟩) hh hA (fun H locs en_927 hw_927 hh => ?_)
  obtain ⟨f_927, hen_927, hf9_927⟩ := hw_927
  have es920_927 : en_927 1 = .inr (7, [.ref (ad_925 2), .ref (ad_925 3), .ref (ad_925 10), .ref (ad_925 11), .int (nI cnt), .int (nI d), .int (nI mm)]) := by rw [hen_927, va_up_ne _ _ (by omega)]; exact es920_926
  have en1_927 : en_927 n = .inl (cy 1, 18000, .inr (.inl (fun _ => 0))) := by rw [hen_927, va_up_ne _ _ (by omega)]; exact en1_926
  have en2_927 : en_927 (n + 1) = .inl (cy 0, 2000, .inl (fun _ => 0)) := by rw [hen_927, va_up_ne _ _ (by omega)]; exact en2_926
  have e70_927 : en_927 70 = .inr (0, [.ref (ad_925 1), .ref (ad_925 71), .ref (ad_925 72), .ref (ad_925 73), .ref (ad_925 n), .ref (ad_925 (n + 1)), .ref (ad_925 (n + 2)), .int 0, .int 0, .int 0, .int 0, .int 0, .int 0]) := by rw [hen_927, va_up_ne _ _ (by omega)]; exact e70_926
  have en3_927 : en_927 (n + 2) = .inl (cy 0, 4096, .inl f_927) := by rw [hen_927]; exact va_up_self _ _ _
  have hI_927 : SX cy (List.range (n + 3)) ad_925 en_927 := SX_pt hI_926 (fun c => c = (n + 2)) (fun c hc => by rw [hen_927, va_up_ne _ _ hc]) (fun c hc h9 => absurd h9 (by omega))
  have hf_927 : ∀ c, (c ≠ 70 ∧ c < n) → en_927 c = en c := fun c hc => Eq.trans (show en_927 c = en_926 c from by rw [hen_927, va_up_ne _ _ (by omega)]) (hf_926 c hc)
  refine lv_aload_n hx hb dX0_prepareRows_56 rfl (lv_at hl 0 rfl) ?_
  refine lv_aload_n hx hb dX0_prepareRows_57 rfl (lv_at hl 0 rfl) ?_
  refine hp_get hx hb hts ix0 hown hK hh (q := 70) rfl (List.mem_range.mpr (by omega)) e70_927 rfl 0 (by decide) (hts _ tw_147) (fun _ h9 => h9) rfl dX0_prepareRows_58 ?_
  refine hp_callRi (va_runV (As := []) (rest := [.ref (ad_925 70)]) ⟨hx, hb, hml, hown, hts⟩ (c_X8_cellCount l D cy _ (List.range (n + 3)) ad_925 en_927 (List.mem_range.mpr (by omega)) cnt d mm hcnt hd2 hd3 hmm  es920_927) (kw_X8_cellCount hts tw_591 ⟨by decide, by decide⟩) (preV_of hh hK (List.mem_range.mpr (by omega)) es920_927 rfl) rfl rfl hl.1 rfl (lv_room (Nat.le_of_ble_eq_true rfl)) dX0_prepareRows_61 ⟨Nat.le_of_ble_eq_true rfl, Nat.le_of_ble_eq_true rfl⟩) hh hA (fun r_928 H locs hw_928 hh => ?_)
  obtain rfl : r_928 = nI (d * d) := hw_928
  refine hp_put hx hb hts ix0 tyX0 tyX0_ok nmX0 hown hK hh (q := 70) rfl (List.mem_range.mpr (by omega)) e70_927 rfl 8 (by decide) (hts _ tw_155) (fun _ h9 => h9) rfl (ty := .int) (by decide +kernel) rfl rfl (Nat.le_of_ble_eq_true rfl) dX0_prepareRows_64 (fun H locs en_929 hen_929 hh => ?_)
  have es920_929 : en_929 1 = .inr (7, [.ref (ad_925 2), .ref (ad_925 3), .ref (ad_925 10), .ref (ad_925 11), .int (nI cnt), .int (nI d), .int (nI mm)]) := by rw [hen_929, va_up_ne _ _ (by decide)]; exact es920_927
  have en1_929 : en_929 n = .inl (cy 1, 18000, .inr (.inl (fun _ => 0))) := by rw [hen_929, va_up_ne _ _ (by omega)]; exact en1_927
  have en2_929 : en_929 (n + 1) = .inl (cy 0, 2000, .inl (fun _ => 0)) := by rw [hen_929, va_up_ne _ _ (by omega)]; exact en2_927
  have en3_929 : en_929 (n + 2) = .inl (cy 0, 4096, .inl f_927) := by rw [hen_929, va_up_ne _ _ (by omega)]; exact en3_927
  have e70_929 : en_929 70 = .inr (0, [.ref (ad_925 1), .ref (ad_925 71), .ref (ad_925 72), .ref (ad_925 73), .ref (ad_925 n), .ref (ad_925 (n + 1)), .ref (ad_925 (n + 2)), .int 0, .int (nI (d * d)), .int 0, .int 0, .int 0, .int 0]) := by rw [hen_929]; exact va_up_self _ _ _
  have hI_929 : SX cy (List.range (n + 3)) ad_925 en_929 := by rw [hen_929]; exact up_C hI_927 ⟨(some (ad_925 n)), (some (ad_925 (n + 1))), (some (ad_925 (n + 2))), 0, (nI (d * d)), 0, 0, 0, 0, rfl⟩
  have hf_929 : ∀ c, (c ≠ 70 ∧ c < n) → en_929 c = en c := fun c hc => Eq.trans (show en_929 c = en_927 c from by rw [hen_929, va_up_ne _ _ (by omega)]) (hf_927 c hc)
  refine lv_aload_n hx hb dX0_prepareRows_67 rfl (lv_at hl 0 rfl) ?_
  refine lv_iconst (v := 0) hx hb dX0_prepareRows_68 (by decide) ?_
  refine hp_put hx hb hts ix0 tyX0 tyX0_ok nmX0 hown hK hh (q := 70) rfl (List.mem_range.mpr (by omega)) e70_929 rfl 9 (by decide) (hts _ tw_156) (fun _ h9 => h9) rfl (ty := .int) (by decide +kernel) rfl rfl (Nat.le_of_ble_eq_true rfl) dX0_prepareRows_69 (fun H locs en_930 hen_930 hh => ?_)
  have hid_930 : en_930 = en_929 := hen_930.trans (va_up_id e70_929)
  rw [hid_930] at hh
  exact hv_vret hx hb hr hlocks hh (⟨(fun i hi => by dsimp only; rw [hda_925 i (by omega), hda_923 i (by omega), hda_921 i (by omega)]), hf_929, rfl, n, n + 1, n + 2, Nat.le_refl _, hI_929, ⟨(List.mem_range.mpr (by omega)), (List.mem_range.mpr (by omega)), (List.mem_range.mpr (by omega)), by omega, by omega, by omega⟩, ⟨0, d * d, 0, 0, 0, 0, e70_929, by omega, by omega, by omega, by omega⟩, ⟨_, en1_929⟩, ⟨_, en2_929⟩, ⟨_, en3_929, fun i hi => ⟨0, by decide, hf9_927 i hi⟩⟩⟩) dX0_prepareRows_72
theorem kw_X0_prepareRowsU {R : Room} {s : State} {args : Array Value} {own : String} {idx : Nat} (hts : ∀ w ∈ TB, w.before args s = true) (hl : Cond.methodLink own idx yX0_prepareRows ∈ TB) (hR : 1 + 1 ≤ R.frames ∧ 8 + (1 + 11) + 40 * 1 ≤ R.locals) : CallW R s args own RX0 idx yX0_prepareRows cX0_prepareRows 1 none (Cond.code yX0_prepareRows cX0_prepareRows 1 none :: TB) (rmC 1 3 24096) 3 24096 0 := cwV 0 hts (TB_V hl tw_588 ts_14 tw_5 tw_589) rfl rfl rfl (by decide +kernel) hR
