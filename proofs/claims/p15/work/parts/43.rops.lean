set_option maxHeartbeats 4000000 in
set_option maxRecDepth 100000 in
/-- begin -/
theorem c_X12_begin (l : Launch) (D : va_G) (cy : Nat → ClassId) (sz : Nat) (cs : List Nat) (ad : Nat → Nat) (en : Nat → va_E) (hI : RX cy cs ad en) (d0 m0 : Int32)   : Met l yX12_begin (Cond.code yX12_begin cX12_begin 4 (some .int) :: TB) (rmN 1) (va_Pc [.ref (ad 0), .int d0, .int m0] (Pre D cy cs ad en sz)) (va_Qi (S := Nat → va_E) (fun r en1 => RX cy cs ad en1 ∧ (∀ c, (c ≠ 0 ∧ c ≠ 2) → en1 c = en c) ∧ r = spBegin d0 m0 ∧ ((r = -2 ∧ en1 = en) ∨ (r = 1 ∧ (rdI (en1 0) 1 = rdI (en 0) 1 ∧ rdI (en1 0) 2 = d0 ∧ rdI (en1 0) 3 = m0 ∧ rdI (en1 0) 4 = nI 0 ∧ rdI (en1 0) 25 = -9 ∧ rdI (en1 0) 30 = nI 0) ∧ ∀ i, i < 36 → rdF (en1 2) i = 0))) (PostM D cs ad) (Af cs ad sz)) 0 0 (Af cs ad sz) := by
  refine Met.ofW (cc := cX12_begin) (maxL := 4) (ret := (some .int)) (by decide) rfl ?_
  intro p e s m args below meth c s₁ B hml hv
  obtain ⟨rfl, hsz, hP, hK, hD0⟩ := hv
  have hx := B.exec
  have hb := B.bytes
  have hr := B.returns
  have hts : ∀ w ∈ TB, w.before _ s = true := fun w h => atoms_spec (ws := _ :: TB) B.pre w (List.mem_cons_of_mem _ h)
  have hown : s.vm.findClass RX12 = some m.cls := findClass_of_methodNamed B.named
  have hlocks := B.notSynchronized
  have hh : Hp D (Af cs ad sz) (Af cs ad sz) s.heap s.heap [] cs ad en := ⟨hP, Af_self hD0, va_S.rf⟩
  have hA : ∀ q : Nat, s.heap.size ≤ q → Af cs ad sz q := fun q h => Or.inr (by rw [hsz] at h; exact h)
  have hl := lv_entry ([.ref (ad 0), .int d0, .int m0]) (n := 4) (Nat.le_of_ble_eq_true rfl)
  rw [lg_entry_eq]
  generalize (lg_sl ([.ref (ad 0), .int d0, .int m0]) ++ List.replicate (4 - (lg_sl ([.ref (ad 0), .int d0, .int m0])).length) Slot.unset).toArray = ls at hl ⊢
  have hl : lv_has ls 4 [(0, .ref (ad 0)), (1, .int d0), (2, .int m0)] := hl
  have hf0 : ∀ c, (c ≠ 0 ∧ c ≠ 2) → en c = en c := fun _ _ => rfl
  obtain ⟨fa, hi, wd, mo, tb, dp, many, grt, lst, nou, rm, rb, pr, wo, es1005, hwd2, hwd3, hmo, htb, hwo⟩ := getr_M hI
  refine lv_iload_n hx hb dX12_begin_0 rfl (lv_at hl 1 rfl) ?_
  refine lv_i2l hx hb dX12_begin_1 rfl ?_
  refine lv_ldc2 hx hb hown (hts _ tw_983) dX12_begin_2 ?_
  refine lv_ldc2 hx hb hown (hts _ tw_984) dX12_begin_5 ?_
  refine hp_callRi (va_runS (As := [.long d0.toInt64, .long 2, .long 3]) (rest := []) ⟨hx, hb, hml, hown, hts⟩ (c_X12_within l D cy _ cs ad en d0.toInt64 2 3) (kw_X12_within hts tw_985 ⟨by decide, by decide⟩) (preS_of hh hK) rfl rfl hl.1 rfl (lv_room (Nat.le_of_ble_eq_true rfl)) dX12_begin_8 ⟨Nat.le_of_ble_eq_true rfl, Nat.le_of_ble_eq_true rfl⟩) hh hA (fun r_1006 H locs hw_1006 hh => ?_)
  rcases Decidable.em (wi d0 2 3) with hp_1006 | hp_1006
  · obtain rfl : r_1006 = 1 := Eq.trans hw_1006 (if_pos ((wj_32 (by decide) (by decide)).mpr hp_1006))
    obtain ⟨N_1006, rfl, hA_1006, hB_1006⟩ := wi_natB hp_1006 2 3 (by decide) (by decide)
    refine lv_if_eq (tgt := 32) hx hb dX12_begin_11 (by decide) (fun c_0 => absurd c_0 (by decide)) (fun _ => ?_)
    refine lv_iload_n hx hb dX12_begin_14 rfl (lv_at hl 2 rfl) ?_
    refine lv_if_eq (tgt := 35) hx hb dX12_begin_15 (by decide) (fun c_1007 => ?_) (fun c_1007 => ?_)
    · subst c_1007
      refine lv_aload_n hx hb dX12_begin_35 rfl (lv_at hl 0 rfl) ?_
      refine lv_iload_n hx hb dX12_begin_36 rfl (lv_at hl 1 rfl) ?_
      refine hp_put hx hb hts ix12 tyX12 tyX12_ok nmX12 hown hK hh (q := 0) rfl (hI.1 _ (by decide)) es1005 rfl 2 (by decide) (hts _ tw_881) (fun _ h9 => h9) rfl (ty := .int) (by decide +kernel) rfl rfl (Nat.le_of_ble_eq_true rfl) dX12_begin_37 (fun H locs en_1008 hen_1008 hh => ?_)
      have es1005_1008 : en_1008 0 = .inr (11, [.int fa, .int hi, .int (nI N_1006), .int (nI mo), .int (nI tb), .ref (ad 1), .ref (ad 2), .ref (ad 3), .ref (ad 4), .ref (ad 5), .ref (ad 6), .ref (ad 7), .ref (ad 8), .ref (ad 9), .int dp, .long many, .long grt, .long lst, .long nou, .ref (ad 10), .ref (ad 11), .ref (ad 12), .int rm, .long rb, .ref (ad 13), .int pr, .ref (ad 14), .ref (ad 15), .ref (ad 16), .ref (ad 17), .int (nI wo), .ref (ad 18), .ref (ad 19)]) := by rw [hen_1008]; exact va_up_self _ _ _
      have hI_1008 : RX cy cs ad en_1008 := by rw [hen_1008]; exact upr_M hI ⟨fa, hi, N_1006, mo, tb, dp, many, grt, lst, nou, rm, rb, pr, wo, rfl, (by omega), (by omega), hmo, htb, hwo⟩
      have hf_1008 : ∀ c, (c ≠ 0 ∧ c ≠ 2) → en_1008 c = en c := fun c hc => Eq.trans (show en_1008 c = en c from by rw [hen_1008, va_up_ne _ _ (by omega)]) (hf0 c hc)
      refine lv_aload_n hx hb dX12_begin_40 rfl (lv_at hl 0 rfl) ?_
      refine lv_iload_n hx hb dX12_begin_41 rfl (lv_at hl 2 rfl) ?_
      refine hp_put hx hb hts ix12 tyX12 tyX12_ok nmX12 hown hK hh (q := 0) rfl (hI.1 _ (by decide)) es1005_1008 rfl 3 (by decide) (hts _ tw_882) (fun _ h9 => h9) rfl (ty := .int) (by decide +kernel) rfl rfl (Nat.le_of_ble_eq_true rfl) dX12_begin_42 (fun H locs en_1009 hen_1009 hh => ?_)
      have es1005_1009 : en_1009 0 = .inr (11, [.int fa, .int hi, .int (nI N_1006), .int 0, .int (nI tb), .ref (ad 1), .ref (ad 2), .ref (ad 3), .ref (ad 4), .ref (ad 5), .ref (ad 6), .ref (ad 7), .ref (ad 8), .ref (ad 9), .int dp, .long many, .long grt, .long lst, .long nou, .ref (ad 10), .ref (ad 11), .ref (ad 12), .int rm, .long rb, .ref (ad 13), .int pr, .ref (ad 14), .ref (ad 15), .ref (ad 16), .ref (ad 17), .int (nI wo), .ref (ad 18), .ref (ad 19)]) := by rw [hen_1009]; exact va_up_self _ _ _
      have hI_1009 : RX cy cs ad en_1009 := by rw [hen_1009]; exact upr_M hI_1008 ⟨fa, hi, N_1006, 0, tb, dp, many, grt, lst, nou, rm, rb, pr, wo, rfl, (by omega), (by omega), (by omega), htb, hwo⟩
      have hf_1009 : ∀ c, (c ≠ 0 ∧ c ≠ 2) → en_1009 c = en c := fun c hc => Eq.trans (show en_1009 c = en_1008 c from by rw [hen_1009, va_up_ne _ _ (by omega)]) (hf_1008 c hc)
      refine lv_aload_n hx hb dX12_begin_45 rfl (lv_at hl 0 rfl) ?_
      refine lv_iconst (v := 0) hx hb dX12_begin_46 (by decide) ?_
      refine hp_put hx hb hts ix12 tyX12 tyX12_ok nmX12 hown hK hh (q := 0) rfl (hI.1 _ (by decide)) es1005_1009 rfl 4 (by decide) (hts _ tw_883) (fun _ h9 => h9) rfl (ty := .int) (by decide +kernel) rfl rfl (Nat.le_of_ble_eq_true rfl) dX12_begin_47 (fun H locs en_1010 hen_1010 hh => ?_)
      have es1005_1010 : en_1010 0 = .inr (11, [.int fa, .int hi, .int (nI N_1006), .int 0, .int 0, .ref (ad 1), .ref (ad 2), .ref (ad 3), .ref (ad 4), .ref (ad 5), .ref (ad 6), .ref (ad 7), .ref (ad 8), .ref (ad 9), .int dp, .long many, .long grt, .long lst, .long nou, .ref (ad 10), .ref (ad 11), .ref (ad 12), .int rm, .long rb, .ref (ad 13), .int pr, .ref (ad 14), .ref (ad 15), .ref (ad 16), .ref (ad 17), .int (nI wo), .ref (ad 18), .ref (ad 19)]) := by rw [hen_1010]; exact va_up_self _ _ _
      have hI_1010 : RX cy cs ad en_1010 := by rw [hen_1010]; exact upr_M hI_1009 ⟨fa, hi, N_1006, 0, 0, dp, many, grt, lst, nou, rm, rb, pr, wo, rfl, (by omega), (by omega), (by omega), (by omega), hwo⟩
      have hf_1010 : ∀ c, (c ≠ 0 ∧ c ≠ 2) → en_1010 c = en c := fun c hc => Eq.trans (show en_1010 c = en_1009 c from by rw [hen_1010, va_up_ne _ _ (by omega)]) (hf_1009 c hc)
      refine lv_aload_n hx hb dX12_begin_50 rfl (lv_at hl 0 rfl) ?_
      refine lv_iconst (v := 0) hx hb dX12_begin_51 (by decide) ?_
      refine hp_put hx hb hts ix12 tyX12 tyX12_ok nmX12 hown hK hh (q := 0) rfl (hI.1 _ (by decide)) es1005_1010 rfl 30 (by decide) (hts _ tw_909) (fun _ h9 => h9) rfl (ty := .int) (by decide +kernel) rfl rfl (Nat.le_of_ble_eq_true rfl) dX12_begin_52 (fun H locs en_1011 hen_1011 hh => ?_)
      have es1005_1011 : en_1011 0 = .inr (11, [.int fa, .int hi, .int (nI N_1006), .int 0, .int 0, .ref (ad 1), .ref (ad 2), .ref (ad 3), .ref (ad 4), .ref (ad 5), .ref (ad 6), .ref (ad 7), .ref (ad 8), .ref (ad 9), .int dp, .long many, .long grt, .long lst, .long nou, .ref (ad 10), .ref (ad 11), .ref (ad 12), .int rm, .long rb, .ref (ad 13), .int pr, .ref (ad 14), .ref (ad 15), .ref (ad 16), .ref (ad 17), .int 0, .ref (ad 18), .ref (ad 19)]) := by rw [hen_1011]; exact va_up_self _ _ _
      have hI_1011 : RX cy cs ad en_1011 := by rw [hen_1011]; exact upr_M hI_1010 ⟨fa, hi, N_1006, 0, 0, dp, many, grt, lst, nou, rm, rb, pr, 0, rfl, (by omega), (by omega), (by omega), (by omega), (by omega)⟩
      have hf_1011 : ∀ c, (c ≠ 0 ∧ c ≠ 2) → en_1011 c = en c := fun c hc => Eq.trans (show en_1011 c = en_1010 c from by rw [hen_1011, va_up_ne _ _ (by omega)]) (hf_1010 c hc)
      refine lv_aload_n hx hb dX12_begin_55 rfl (lv_at hl 0 rfl) ?_
      refine lv_bipush (v := (-9)) hx hb dX12_begin_56 (by decide) ?_
      refine hp_put hx hb hts ix12 tyX12 tyX12_ok nmX12 hown hK hh (q := 0) rfl (hI.1 _ (by decide)) es1005_1011 rfl 25 (by decide) (hts _ tw_904) (fun _ h9 => h9) rfl (ty := .int) (by decide +kernel) rfl rfl (Nat.le_of_ble_eq_true rfl) dX12_begin_58 (fun H locs en_1012 hen_1012 hh => ?_)
      have es1005_1012 : en_1012 0 = .inr (11, [.int fa, .int hi, .int (nI N_1006), .int 0, .int 0, .ref (ad 1), .ref (ad 2), .ref (ad 3), .ref (ad 4), .ref (ad 5), .ref (ad 6), .ref (ad 7), .ref (ad 8), .ref (ad 9), .int dp, .long many, .long grt, .long lst, .long nou, .ref (ad 10), .ref (ad 11), .ref (ad 12), .int rm, .long rb, .ref (ad 13), .int (-9), .ref (ad 14), .ref (ad 15), .ref (ad 16), .ref (ad 17), .int 0, .ref (ad 18), .ref (ad 19)]) := by rw [hen_1012]; exact va_up_self _ _ _
      have hI_1012 : RX cy cs ad en_1012 := by rw [hen_1012]; exact upr_M hI_1011 ⟨fa, hi, N_1006, 0, 0, dp, many, grt, lst, nou, rm, rb, (-9), 0, rfl, (by omega), (by omega), (by omega), (by omega), (by omega)⟩
      have hf_1012 : ∀ c, (c ≠ 0 ∧ c ≠ 2) → en_1012 c = en c := fun c hc => Eq.trans (show en_1012 c = en_1011 c from by rw [hen_1012, va_up_ne _ _ (by omega)]) (hf_1011 c hc)
      refine lv_iconst (v := 0) hx hb dX12_begin_61 (by decide) ?_
      refine lv_istore_n (lv' := [(3, .int 0), (0, .ref (ad 0)), (1, .int (nI N_1006)), (2, .int 0)]) hx hb dX12_begin_62 rfl hl (by decide) rfl (fun ls hl => ?_)
      have loop_1013 : ∀ (fu j1013 : Nat)  (en_1013 : Nat → va_E) (ls : Array Slot) (H : Heap) (locs : List Loc), 0 ≤ j1013 → j1013 ≤ 36 → 36 < j1013 + fu → RX cy cs ad en_1013 → (∀ c, (c ≠ 0 ∧ c ≠ 2) → en_1013 c = en c) → (∀ i, i < j1013 → rdF (en_1013 2) i = 0) → (rdI (en_1013 0) 1 = rdI (en 0) 1 ∧ rdI (en_1013 0) 2 = (nI N_1006) ∧ rdI (en_1013 0) 3 = 0 ∧ rdI (en_1013 0) 4 = nI 0 ∧ rdI (en_1013 0) 25 = -9 ∧ rdI (en_1013 0) 30 = nI 0) → lv_has ls 4 [(3, .int (nI j1013)), (0, .ref (ad 0)), (1, .int (nI N_1006)), (2, .int 0)] → Hp D (Af cs ad sz) (Af cs ad sz) s.heap H locs cs ad en_1013 → W p l e (headSpec (Cond.code yX12_begin cX12_begin 4 (some .int) :: TB) (rmN 1)).room s m ([.ref (ad 0), .int (nI N_1006), .int 0] : List Value).toArray below meth c H locs 0 0 (MQ below (va_Qi (S := Nat → va_E) (fun r en1 => RX cy cs ad en1 ∧ (∀ c, (c ≠ 0 ∧ c ≠ 2) → en1 c = en c) ∧ r = spBegin (nI N_1006) 0 ∧ ((r = -2 ∧ en1 = en) ∨ (r = 1 ∧ (rdI (en1 0) 1 = rdI (en 0) 1 ∧ rdI (en1 0) 2 = (nI N_1006) ∧ rdI (en1 0) 3 = 0 ∧ rdI (en1 0) 4 = nI 0 ∧ rdI (en1 0) 25 = -9 ∧ rdI (en1 0) 30 = nI 0) ∧ ∀ i, i < 36 → rdF (en1 2) i = 0))) (PostM D cs ad) (Af cs ad sz)) ([.ref (ad 0), .int (nI N_1006), .int 0] : List Value).toArray s 0 0 (Af cs ad sz)) (F0 m 63 ls []) := by
        intro fu
        induction fu with
        | zero => intro j1013  en_1013 ls H locs h0 h1 h2; exact absurd h2 (by omega)
        | succ fu ih_1013 =>
          intro j1013  en_1013 ls H locs hj0_1013 hj_1013 hfu_1013 hI_1013 hf_1013 i0_1013 i1_1013 hl hh
          refine lv_iload_n hx hb dX12_begin_63 rfl (lv_at hl 0 rfl) ?_
          refine lv_bipush (v := 36) hx hb dX12_begin_64 (by decide) ?_
          refine lv_icmp_ge (tgt := 82) hx hb dX12_begin_66 (by decide) (fun c_1014 => ?_) (fun c_1014 => ?_)
          · have n_1014 : 36 ≤ j1013 := n_le (a := 36) (b := j1013) c_1014 (by decide) (by omega)
            refine lv_iconst (v := 1) hx hb dX12_begin_82 (by decide) ?_
            exact hp_iretM hx hb hr rfl hlocks hh (⟨hI_1013, hf_1013, (by unfold spBegin; rw [if_pos ⟨hp_1006, Or.inl rfl⟩]), Or.inr ⟨rfl, i1_1013, fun i hi => i0_1013 i (by omega)⟩⟩) dX12_begin_83
          · have n_1014 : j1013 < 36 := n_nle (a := 36) (b := j1013) c_1014 (by decide) (by omega)
            refine lv_aload_n hx hb dX12_begin_69 rfl (lv_at hl 1 rfl) ?_
            obtain ⟨fa_1015, hi_1015, wd_1015, mo_1015, tb_1015, dp_1015, many_1015, grt_1015, lst_1015, nou_1015, rm_1015, rb_1015, pr_1015, wo_1015, es1015, p0_1015, p1_1015, p2_1015, p3_1015, p4_1015⟩ := getr_M hI_1013
            refine hp_get hx hb hts ix12 hown hK hh (q := 0) rfl (hI.1 _ (by decide)) es1015 rfl 6 (by decide) (hts _ tw_885) (fun _ h9 => h9) rfl dX12_begin_70 ?_
            refine lv_iload_n hx hb dX12_begin_73 rfl (lv_at hl 0 rfl) ?_
            refine lv_iconst (v := 0) hx hb dX12_begin_74 (by decide) ?_
            obtain ⟨f_1016, es1016, p0_1016⟩ := getr_mn hI_1013
            refine hp_zast hx hb hK hh (q := 2) rfl (hI.1 _ (by decide)) es1016 (vp_in_nI (n := j1013) (by omega) (by decide)) dX12_begin_75 (fun H locs en_1017 hen_1017 hh => ?_)
            rw [nI_clamp (n := j1013) (by omega)] at hen_1017
            have es1015_1017 : en_1017 0 = .inr (11, [.int fa_1015, .int hi_1015, .int (nI wd_1015), .int (nI mo_1015), .int (nI tb_1015), .ref (ad 1), .ref (ad 2), .ref (ad 3), .ref (ad 4), .ref (ad 5), .ref (ad 6), .ref (ad 7), .ref (ad 8), .ref (ad 9), .int dp_1015, .long many_1015, .long grt_1015, .long lst_1015, .long nou_1015, .ref (ad 10), .ref (ad 11), .ref (ad 12), .int rm_1015, .long rb_1015, .ref (ad 13), .int pr_1015, .ref (ad 14), .ref (ad 15), .ref (ad 16), .ref (ad 17), .int (nI wo_1015), .ref (ad 18), .ref (ad 19)]) := by rw [hen_1017, va_up_ne _ _ (by decide)]; exact es1015
            have es1016_1017 : en_1017 2 = .inl (cy 2, 36, .inl (upd f_1016 j1013 (vp_nar .boolean 0))) := by rw [hen_1017]; exact va_up_self _ _ _
            have hI_1017 : RX cy cs ad en_1017 := by rw [hen_1017]; exact upr_mn hI_1013 ⟨(upd f_1016 j1013 (vp_nar .boolean 0)), rfl, (bits_upd p0_1016 (Or.inl rfl))⟩
            have hf_1017 : ∀ c, (c ≠ 0 ∧ c ≠ 2) → en_1017 c = en c := fun c hc => Eq.trans (show en_1017 c = en_1013 c from by rw [hen_1017, va_up_ne _ _ (by omega)]) (hf_1013 c hc)
            refine lv_iinc (v := (nI (j1013 + 1))) (lv' := [(3, .int (nI (j1013 + 1))), (0, .ref (ad 0)), (1, .int (nI N_1006)), (2, .int 0)]) hx hb dX12_begin_76 hl (k := 0) rfl (nI_1 _) (by decide) rfl (fun ls hl => ?_)
            refine lv_goto (tgt := 63) hx hb dX12_begin_79 (by decide) ?_
            exact ih_1013 ((j1013 + 1))  en_1017 ls H locs (by omega) (by omega) (by omega) hI_1017 hf_1017 (fun i hi => by rw [es1016_1017]; exact z_upd hi vp_bit0 (fun h9 => (show f_1016 i = rdF (en_1013 2) i from by rw [es1016]; rfl).trans (i0_1013 i h9))) (by rw [show en_1017 0 = en_1013 0 from by rw [hen_1017, va_up_ne _ _ (by decide)]]; exact i1_1013) (lv_sub hl [0, 1, 2, 3] rfl) hh
      exact loop_1013 (36 + 1) 0  en_1012 ls _ _ (Nat.le_refl _) (by omega) (by omega) hI_1012 hf_1012 (fun i h => absurd h (Nat.not_lt_zero i)) (⟨by rw [es1005_1012, es1005]; rfl, by rw [es1005_1012]; rfl, by rw [es1005_1012]; rfl, by rw [es1005_1012]; rfl, by rw [es1005_1012]; rfl, by rw [es1005_1012]; rfl⟩) (lv_sub hl [0, 1, 2, 3] rfl) hh
    · refine lv_iload_n hx hb dX12_begin_18 rfl (lv_at hl 2 rfl) ?_
      refine lv_i2l hx hb dX12_begin_19 rfl ?_
      refine lv_ldc2 hx hb hown (hts _ tw_983) dX12_begin_20 ?_
      refine lv_ldc2 hx hb hown (hts _ tw_988) dX12_begin_23 ?_
      refine hp_callRi (va_runS (As := [.long m0.toInt64, .long 2, .long 97]) (rest := []) ⟨hx, hb, hml, hown, hts⟩ (c_X12_within l D cy _ cs ad en m0.toInt64 2 97) (kw_X12_within hts tw_985 ⟨by decide, by decide⟩) (preS_of hh hK) rfl rfl hl.1 rfl (lv_room (Nat.le_of_ble_eq_true rfl)) dX12_begin_26 ⟨Nat.le_of_ble_eq_true rfl, Nat.le_of_ble_eq_true rfl⟩) hh hA (fun r_1018 H locs hw_1018 hh => ?_)
      rcases Decidable.em (wi m0 2 97) with hp_1018 | hp_1018
      · obtain rfl : r_1018 = 1 := Eq.trans hw_1018 (if_pos ((wj_32 (by decide) (by decide)).mpr hp_1018))
        obtain ⟨N_1018, rfl, hA_1018, hB_1018⟩ := wi_natB hp_1018 2 97 (by decide) (by decide)
        refine lv_if_ne (tgt := 35) hx hb dX12_begin_29 (by decide) (fun _ => ?_) (fun c_0 => absurd c_0 (by decide))
        refine lv_aload_n hx hb dX12_begin_35 rfl (lv_at hl 0 rfl) ?_
        refine lv_iload_n hx hb dX12_begin_36 rfl (lv_at hl 1 rfl) ?_
        refine hp_put hx hb hts ix12 tyX12 tyX12_ok nmX12 hown hK hh (q := 0) rfl (hI.1 _ (by decide)) es1005 rfl 2 (by decide) (hts _ tw_881) (fun _ h9 => h9) rfl (ty := .int) (by decide +kernel) rfl rfl (Nat.le_of_ble_eq_true rfl) dX12_begin_37 (fun H locs en_1019 hen_1019 hh => ?_)
        have es1005_1019 : en_1019 0 = .inr (11, [.int fa, .int hi, .int (nI N_1006), .int (nI mo), .int (nI tb), .ref (ad 1), .ref (ad 2), .ref (ad 3), .ref (ad 4), .ref (ad 5), .ref (ad 6), .ref (ad 7), .ref (ad 8), .ref (ad 9), .int dp, .long many, .long grt, .long lst, .long nou, .ref (ad 10), .ref (ad 11), .ref (ad 12), .int rm, .long rb, .ref (ad 13), .int pr, .ref (ad 14), .ref (ad 15), .ref (ad 16), .ref (ad 17), .int (nI wo), .ref (ad 18), .ref (ad 19)]) := by rw [hen_1019]; exact va_up_self _ _ _
        have hI_1019 : RX cy cs ad en_1019 := by rw [hen_1019]; exact upr_M hI ⟨fa, hi, N_1006, mo, tb, dp, many, grt, lst, nou, rm, rb, pr, wo, rfl, (by omega), (by omega), hmo, htb, hwo⟩
        have hf_1019 : ∀ c, (c ≠ 0 ∧ c ≠ 2) → en_1019 c = en c := fun c hc => Eq.trans (show en_1019 c = en c from by rw [hen_1019, va_up_ne _ _ (by omega)]) (hf0 c hc)
        refine lv_aload_n hx hb dX12_begin_40 rfl (lv_at hl 0 rfl) ?_
        refine lv_iload_n hx hb dX12_begin_41 rfl (lv_at hl 2 rfl) ?_
        refine hp_put hx hb hts ix12 tyX12 tyX12_ok nmX12 hown hK hh (q := 0) rfl (hI.1 _ (by decide)) es1005_1019 rfl 3 (by decide) (hts _ tw_882) (fun _ h9 => h9) rfl (ty := .int) (by decide +kernel) rfl rfl (Nat.le_of_ble_eq_true rfl) dX12_begin_42 (fun H locs en_1020 hen_1020 hh => ?_)
        have es1005_1020 : en_1020 0 = .inr (11, [.int fa, .int hi, .int (nI N_1006), .int (nI N_1018), .int (nI tb), .ref (ad 1), .ref (ad 2), .ref (ad 3), .ref (ad 4), .ref (ad 5), .ref (ad 6), .ref (ad 7), .ref (ad 8), .ref (ad 9), .int dp, .long many, .long grt, .long lst, .long nou, .ref (ad 10), .ref (ad 11), .ref (ad 12), .int rm, .long rb, .ref (ad 13), .int pr, .ref (ad 14), .ref (ad 15), .ref (ad 16), .ref (ad 17), .int (nI wo), .ref (ad 18), .ref (ad 19)]) := by rw [hen_1020]; exact va_up_self _ _ _
        have hI_1020 : RX cy cs ad en_1020 := by rw [hen_1020]; exact upr_M hI_1019 ⟨fa, hi, N_1006, N_1018, tb, dp, many, grt, lst, nou, rm, rb, pr, wo, rfl, (by omega), (by omega), (by omega), htb, hwo⟩
        have hf_1020 : ∀ c, (c ≠ 0 ∧ c ≠ 2) → en_1020 c = en c := fun c hc => Eq.trans (show en_1020 c = en_1019 c from by rw [hen_1020, va_up_ne _ _ (by omega)]) (hf_1019 c hc)
        refine lv_aload_n hx hb dX12_begin_45 rfl (lv_at hl 0 rfl) ?_
        refine lv_iconst (v := 0) hx hb dX12_begin_46 (by decide) ?_
        refine hp_put hx hb hts ix12 tyX12 tyX12_ok nmX12 hown hK hh (q := 0) rfl (hI.1 _ (by decide)) es1005_1020 rfl 4 (by decide) (hts _ tw_883) (fun _ h9 => h9) rfl (ty := .int) (by decide +kernel) rfl rfl (Nat.le_of_ble_eq_true rfl) dX12_begin_47 (fun H locs en_1021 hen_1021 hh => ?_)
        have es1005_1021 : en_1021 0 = .inr (11, [.int fa, .int hi, .int (nI N_1006), .int (nI N_1018), .int 0, .ref (ad 1), .ref (ad 2), .ref (ad 3), .ref (ad 4), .ref (ad 5), .ref (ad 6), .ref (ad 7), .ref (ad 8), .ref (ad 9), .int dp, .long many, .long grt, .long lst, .long nou, .ref (ad 10), .ref (ad 11), .ref (ad 12), .int rm, .long rb, .ref (ad 13), .int pr, .ref (ad 14), .ref (ad 15), .ref (ad 16), .ref (ad 17), .int (nI wo), .ref (ad 18), .ref (ad 19)]) := by rw [hen_1021]; exact va_up_self _ _ _
        have hI_1021 : RX cy cs ad en_1021 := by rw [hen_1021]; exact upr_M hI_1020 ⟨fa, hi, N_1006, N_1018, 0, dp, many, grt, lst, nou, rm, rb, pr, wo, rfl, (by omega), (by omega), (by omega), (by omega), hwo⟩
        have hf_1021 : ∀ c, (c ≠ 0 ∧ c ≠ 2) → en_1021 c = en c := fun c hc => Eq.trans (show en_1021 c = en_1020 c from by rw [hen_1021, va_up_ne _ _ (by omega)]) (hf_1020 c hc)
        refine lv_aload_n hx hb dX12_begin_50 rfl (lv_at hl 0 rfl) ?_
        refine lv_iconst (v := 0) hx hb dX12_begin_51 (by decide) ?_
        refine hp_put hx hb hts ix12 tyX12 tyX12_ok nmX12 hown hK hh (q := 0) rfl (hI.1 _ (by decide)) es1005_1021 rfl 30 (by decide) (hts _ tw_909) (fun _ h9 => h9) rfl (ty := .int) (by decide +kernel) rfl rfl (Nat.le_of_ble_eq_true rfl) dX12_begin_52 (fun H locs en_1022 hen_1022 hh => ?_)
        have es1005_1022 : en_1022 0 = .inr (11, [.int fa, .int hi, .int (nI N_1006), .int (nI N_1018), .int 0, .ref (ad 1), .ref (ad 2), .ref (ad 3), .ref (ad 4), .ref (ad 5), .ref (ad 6), .ref (ad 7), .ref (ad 8), .ref (ad 9), .int dp, .long many, .long grt, .long lst, .long nou, .ref (ad 10), .ref (ad 11), .ref (ad 12), .int rm, .long rb, .ref (ad 13), .int pr, .ref (ad 14), .ref (ad 15), .ref (ad 16), .ref (ad 17), .int 0, .ref (ad 18), .ref (ad 19)]) := by rw [hen_1022]; exact va_up_self _ _ _
        have hI_1022 : RX cy cs ad en_1022 := by rw [hen_1022]; exact upr_M hI_1021 ⟨fa, hi, N_1006, N_1018, 0, dp, many, grt, lst, nou, rm, rb, pr, 0, rfl, (by omega), (by omega), (by omega), (by omega), (by omega)⟩
        have hf_1022 : ∀ c, (c ≠ 0 ∧ c ≠ 2) → en_1022 c = en c := fun c hc => Eq.trans (show en_1022 c = en_1021 c from by rw [hen_1022, va_up_ne _ _ (by omega)]) (hf_1021 c hc)
        refine lv_aload_n hx hb dX12_begin_55 rfl (lv_at hl 0 rfl) ?_
        refine lv_bipush (v := (-9)) hx hb dX12_begin_56 (by decide) ?_
        refine hp_put hx hb hts ix12 tyX12 tyX12_ok nmX12 hown hK hh (q := 0) rfl (hI.1 _ (by decide)) es1005_1022 rfl 25 (by decide) (hts _ tw_904) (fun _ h9 => h9) rfl (ty := .int) (by decide +kernel) rfl rfl (Nat.le_of_ble_eq_true rfl) dX12_begin_58 (fun H locs en_1023 hen_1023 hh => ?_)
        have es1005_1023 : en_1023 0 = .inr (11, [.int fa, .int hi, .int (nI N_1006), .int (nI N_1018), .int 0, .ref (ad 1), .ref (ad 2), .ref (ad 3), .ref (ad 4), .ref (ad 5), .ref (ad 6), .ref (ad 7), .ref (ad 8), .ref (ad 9), .int dp, .long many, .long grt, .long lst, .long nou, .ref (ad 10), .ref (ad 11), .ref (ad 12), .int rm, .long rb, .ref (ad 13), .int (-9), .ref (ad 14), .ref (ad 15), .ref (ad 16), .ref (ad 17), .int 0, .ref (ad 18), .ref (ad 19)]) := by rw [hen_1023]; exact va_up_self _ _ _
        have hI_1023 : RX cy cs ad en_1023 := by rw [hen_1023]; exact upr_M hI_1022 ⟨fa, hi, N_1006, N_1018, 0, dp, many, grt, lst, nou, rm, rb, (-9), 0, rfl, (by omega), (by omega), (by omega), (by omega), (by omega)⟩
        have hf_1023 : ∀ c, (c ≠ 0 ∧ c ≠ 2) → en_1023 c = en c := fun c hc => Eq.trans (show en_1023 c = en_1022 c from by rw [hen_1023, va_up_ne _ _ (by omega)]) (hf_1022 c hc)
        refine lv_iconst (v := 0) hx hb dX12_begin_61 (by decide) ?_
        refine lv_istore_n (lv' := [(3, .int 0), (0, .ref (ad 0)), (1, .int (nI N_1006)), (2, .int (nI N_1018))]) hx hb dX12_begin_62 rfl hl (by decide) rfl (fun ls hl => ?_)
        have loop_1024 : ∀ (fu j1024 : Nat)  (en_1024 : Nat → va_E) (ls : Array Slot) (H : Heap) (locs : List Loc), 0 ≤ j1024 → j1024 ≤ 36 → 36 < j1024 + fu → RX cy cs ad en_1024 → (∀ c, (c ≠ 0 ∧ c ≠ 2) → en_1024 c = en c) → (∀ i, i < j1024 → rdF (en_1024 2) i = 0) → (rdI (en_1024 0) 1 = rdI (en 0) 1 ∧ rdI (en_1024 0) 2 = (nI N_1006) ∧ rdI (en_1024 0) 3 = (nI N_1018) ∧ rdI (en_1024 0) 4 = nI 0 ∧ rdI (en_1024 0) 25 = -9 ∧ rdI (en_1024 0) 30 = nI 0) → lv_has ls 4 [(3, .int (nI j1024)), (0, .ref (ad 0)), (1, .int (nI N_1006)), (2, .int (nI N_1018))] → Hp D (Af cs ad sz) (Af cs ad sz) s.heap H locs cs ad en_1024 → W p l e (headSpec (Cond.code yX12_begin cX12_begin 4 (some .int) :: TB) (rmN 1)).room s m ([.ref (ad 0), .int (nI N_1006), .int (nI N_1018)] : List Value).toArray below meth c H locs 0 0 (MQ below (va_Qi (S := Nat → va_E) (fun r en1 => RX cy cs ad en1 ∧ (∀ c, (c ≠ 0 ∧ c ≠ 2) → en1 c = en c) ∧ r = spBegin (nI N_1006) (nI N_1018) ∧ ((r = -2 ∧ en1 = en) ∨ (r = 1 ∧ (rdI (en1 0) 1 = rdI (en 0) 1 ∧ rdI (en1 0) 2 = (nI N_1006) ∧ rdI (en1 0) 3 = (nI N_1018) ∧ rdI (en1 0) 4 = nI 0 ∧ rdI (en1 0) 25 = -9 ∧ rdI (en1 0) 30 = nI 0) ∧ ∀ i, i < 36 → rdF (en1 2) i = 0))) (PostM D cs ad) (Af cs ad sz)) ([.ref (ad 0), .int (nI N_1006), .int (nI N_1018)] : List Value).toArray s 0 0 (Af cs ad sz)) (F0 m 63 ls []) := by
          intro fu
          induction fu with
          | zero => intro j1024  en_1024 ls H locs h0 h1 h2; exact absurd h2 (by omega)
          | succ fu ih_1024 =>
            intro j1024  en_1024 ls H locs hj0_1024 hj_1024 hfu_1024 hI_1024 hf_1024 i0_1024 i1_1024 hl hh
            refine lv_iload_n hx hb dX12_begin_63 rfl (lv_at hl 0 rfl) ?_
            refine lv_bipush (v := 36) hx hb dX12_begin_64 (by decide) ?_
            refine lv_icmp_ge (tgt := 82) hx hb dX12_begin_66 (by decide) (fun c_1025 => ?_) (fun c_1025 => ?_)
            · have n_1025 : 36 ≤ j1024 := n_le (a := 36) (b := j1024) c_1025 (by decide) (by omega)
              refine lv_iconst (v := 1) hx hb dX12_begin_82 (by decide) ?_
              exact hp_iretM hx hb hr rfl hlocks hh (⟨hI_1024, hf_1024, (by unfold spBegin; rw [if_pos ⟨hp_1006, Or.inr hp_1018⟩]), Or.inr ⟨rfl, i1_1024, fun i hi => i0_1024 i (by omega)⟩⟩) dX12_begin_83
            · have n_1025 : j1024 < 36 := n_nle (a := 36) (b := j1024) c_1025 (by decide) (by omega)
              refine lv_aload_n hx hb dX12_begin_69 rfl (lv_at hl 1 rfl) ?_
              obtain ⟨fa_1026, hi_1026, wd_1026, mo_1026, tb_1026, dp_1026, many_1026, grt_1026, lst_1026, nou_1026, rm_1026, rb_1026, pr_1026, wo_1026, es1026, p0_1026, p1_1026, p2_1026, p3_1026, p4_1026⟩ := getr_M hI_1024
              refine hp_get hx hb hts ix12 hown hK hh (q := 0) rfl (hI.1 _ (by decide)) es1026 rfl 6 (by decide) (hts _ tw_885) (fun _ h9 => h9) rfl dX12_begin_70 ?_
              refine lv_iload_n hx hb dX12_begin_73 rfl (lv_at hl 0 rfl) ?_
              refine lv_iconst (v := 0) hx hb dX12_begin_74 (by decide) ?_
              obtain ⟨f_1027, es1027, p0_1027⟩ := getr_mn hI_1024
              refine hp_zast hx hb hK hh (q := 2) rfl (hI.1 _ (by decide)) es1027 (vp_in_nI (n := j1024) (by omega) (by decide)) dX12_begin_75 (fun H locs en_1028 hen_1028 hh => ?_)
              rw [nI_clamp (n := j1024) (by omega)] at hen_1028
              have es1026_1028 : en_1028 0 = .inr (11, [.int fa_1026, .int hi_1026, .int (nI wd_1026), .int (nI mo_1026), .int (nI tb_1026), .ref (ad 1), .ref (ad 2), .ref (ad 3), .ref (ad 4), .ref (ad 5), .ref (ad 6), .ref (ad 7), .ref (ad 8), .ref (ad 9), .int dp_1026, .long many_1026, .long grt_1026, .long lst_1026, .long nou_1026, .ref (ad 10), .ref (ad 11), .ref (ad 12), .int rm_1026, .long rb_1026, .ref (ad 13), .int pr_1026, .ref (ad 14), .ref (ad 15), .ref (ad 16), .ref (ad 17), .int (nI wo_1026), .ref (ad 18), .ref (ad 19)]) := by rw [hen_1028, va_up_ne _ _ (by decide)]; exact es1026
              have es1027_1028 : en_1028 2 = .inl (cy 2, 36, .inl (upd f_1027 j1024 (vp_nar .boolean 0))) := by rw [hen_1028]; exact va_up_self _ _ _
              have hI_1028 : RX cy cs ad en_1028 := by rw [hen_1028]; exact upr_mn hI_1024 ⟨(upd f_1027 j1024 (vp_nar .boolean 0)), rfl, (bits_upd p0_1027 (Or.inl rfl))⟩
              have hf_1028 : ∀ c, (c ≠ 0 ∧ c ≠ 2) → en_1028 c = en c := fun c hc => Eq.trans (show en_1028 c = en_1024 c from by rw [hen_1028, va_up_ne _ _ (by omega)]) (hf_1024 c hc)
              refine lv_iinc (v := (nI (j1024 + 1))) (lv' := [(3, .int (nI (j1024 + 1))), (0, .ref (ad 0)), (1, .int (nI N_1006)), (2, .int (nI N_1018))]) hx hb dX12_begin_76 hl (k := 0) rfl (nI_1 _) (by decide) rfl (fun ls hl => ?_)
              refine lv_goto (tgt := 63) hx hb dX12_begin_79 (by decide) ?_
              exact ih_1024 ((j1024 + 1))  en_1028 ls H locs (by omega) (by omega) (by omega) hI_1028 hf_1028 (fun i hi => by rw [es1027_1028]; exact z_upd hi vp_bit0 (fun h9 => (show f_1027 i = rdF (en_1024 2) i from by rw [es1027]; rfl).trans (i0_1024 i h9))) (by rw [show en_1028 0 = en_1024 0 from by rw [hen_1028, va_up_ne _ _ (by decide)]]; exact i1_1024) (lv_sub hl [0, 1, 2, 3] rfl) hh
        exact loop_1024 (36 + 1) 0  en_1023 ls _ _ (Nat.le_refl _) (by omega) (by omega) hI_1023 hf_1023 (fun i h => absurd h (Nat.not_lt_zero i)) (⟨by rw [es1005_1023, es1005]; rfl, by rw [es1005_1023]; rfl, by rw [es1005_1023]; rfl, by rw [es1005_1023]; rfl, by rw [es1005_1023]; rfl, by rw [es1005_1023]; rfl⟩) (lv_sub hl [0, 1, 2, 3] rfl) hh
      · obtain rfl : r_1018 = 0 := Eq.trans hw_1018 (if_neg (fun q => hp_1018 ((wj_32 (by decide) (by decide)).mp q)))
        refine lv_if_ne (tgt := 35) hx hb dX12_begin_29 (by decide) (fun c_0 => absurd c_0 (by decide)) (fun _ => ?_)
        refine lv_bipush (v := (-2)) hx hb dX12_begin_32 (by decide) ?_
        exact hp_iretM hx hb hr rfl hlocks hh (⟨hI, hf0, (by unfold spBegin; rw [if_neg (fun q => q.2.elim c_1007 hp_1018)]), Or.inl ⟨rfl, rfl⟩⟩) dX12_begin_34
  · obtain rfl : r_1006 = 0 := Eq.trans hw_1006 (if_neg (fun q => hp_1006 ((wj_32 (by decide) (by decide)).mp q)))
    refine lv_if_eq (tgt := 32) hx hb dX12_begin_11 (by decide) (fun _ => ?_) (fun c_0 => absurd c_0 (by decide))
    refine lv_bipush (v := (-2)) hx hb dX12_begin_32 (by decide) ?_
    exact hp_iretM hx hb hr rfl hlocks hh (⟨hI, hf0, (by unfold spBegin; rw [if_neg (fun q => hp_1006 q.1)]), Or.inl ⟨rfl, rfl⟩⟩) dX12_begin_34
theorem kw_X12_begin {R : Room} {s : State} {args : Array Value} {own : String} {idx : Nat} (hts : ∀ w ∈ TB, w.before args s = true) (hl : Cond.methodLink own idx yX12_begin ∈ TB) (hR : 1 + 1 ≤ R.frames ∧ 8 + (4 + 11) + 40 * 1 ≤ R.locals) : CallW R s args own RX12 idx yX12_begin cX12_begin 4 (some .int) (Cond.code yX12_begin cX12_begin 4 (some .int) :: TB) (rmN 1) 0 0 2 := cwV 2 hts (TB_V hl tw_980 tw_981 tw_9 tw_982) rfl rfl rfl (by decide +kernel) hR
set_option maxHeartbeats 4000000 in
set_option maxRecDepth 100000 in
/-- against -/
theorem c_X12_against (l : Launch) (D : va_G) (cy : Nat → ClassId) (sz : Nat) (cs : List Nat) (ad : Nat → Nat) (en : Nat → va_E) (hI : RX cy cs ad en) (k9 la9 : Int32)   : Met l yX12_against (Cond.code yX12_against cX12_against 3 (some .int) :: TB) (rmN 1) (va_Pc [.ref (ad 0), .int k9, .int la9] (Pre D cy cs ad en sz)) (va_Qi (S := Nat → va_E) (fun r en1 => RX cy cs ad en1 ∧ (∀ c, (c ≠ 0) → en1 c = en c) ∧ r = agF (rdF (en 3) k9.toNatClampNeg) k9 la9 ∧ (r = 0 → en1 = en) ∧ KP en en1) (PostM D cs ad) (Af cs ad sz)) 0 0 (Af cs ad sz) := by
  refine Met.ofW (cc := cX12_against) (maxL := 3) (ret := (some .int)) (by decide) rfl ?_
  intro p e s m args below meth c s₁ B hml hv
  obtain ⟨rfl, hsz, hP, hK, hD0⟩ := hv
  have hx := B.exec
  have hb := B.bytes
  have hr := B.returns
  have hts : ∀ w ∈ TB, w.before _ s = true := fun w h => atoms_spec (ws := _ :: TB) B.pre w (List.mem_cons_of_mem _ h)
  have hown : s.vm.findClass RX12 = some m.cls := findClass_of_methodNamed B.named
  have hlocks := B.notSynchronized
  have hh : Hp D (Af cs ad sz) (Af cs ad sz) s.heap s.heap [] cs ad en := ⟨hP, Af_self hD0, va_S.rf⟩
  have hA : ∀ q : Nat, s.heap.size ≤ q → Af cs ad sz q := fun q h => Or.inr (by rw [hsz] at h; exact h)
  have hl := lv_entry ([.ref (ad 0), .int k9, .int la9]) (n := 3) (Nat.le_of_ble_eq_true rfl)
  rw [lg_entry_eq]
  generalize (lg_sl ([.ref (ad 0), .int k9, .int la9]) ++ List.replicate (3 - (lg_sl ([.ref (ad 0), .int k9, .int la9])).length) Slot.unset).toArray = ls at hl ⊢
  have hl : lv_has ls 3 [(0, .ref (ad 0)), (1, .int k9), (2, .int la9)] := hl
  have hf0 : ∀ c, (c ≠ 0) → en c = en c := fun _ _ => rfl
  obtain ⟨fa, hi, wd, mo, tb, dp, many, grt, lst, nou, rm, rb, pr, wo, es1029, hwd2, hwd3, hmo, htb, hwo⟩ := getr_M hI
  obtain ⟨f_1030, es1030⟩ := getr_la hI
  refine lv_iload_n hx hb dX12_against_0 rfl (lv_at hl 1 rfl) ?_
  refine lv_i2l hx hb dX12_against_1 rfl ?_
  refine lv_lconst (v := 0) hx hb dX12_against_2 (by decide) ?_
  refine lv_ldc2 hx hb hown (hts _ tw_984) dX12_against_3 ?_
  refine hp_callRi (va_runS (As := [.long k9.toInt64, .long 0, .long 3]) (rest := []) ⟨hx, hb, hml, hown, hts⟩ (c_X12_within l D cy _ cs ad en k9.toInt64 0 3) (kw_X12_within hts tw_985 ⟨by decide, by decide⟩) (preS_of hh hK) rfl rfl hl.1 rfl (lv_room (Nat.le_of_ble_eq_true rfl)) dX12_against_6 ⟨Nat.le_of_ble_eq_true rfl, Nat.le_of_ble_eq_true rfl⟩) hh hA (fun r_1031 H locs hw_1031 hh => ?_)
  rcases Decidable.em (wi k9 0 3) with hp_1031 | hp_1031
  · obtain rfl : r_1031 = 1 := Eq.trans hw_1031 (if_pos ((wj_32 (by decide) (by decide)).mpr hp_1031))
    obtain ⟨N_1031, rfl, hA_1031, hB_1031⟩ := wi_natB hp_1031 0 3 (by decide) (by decide)
    refine lv_if_ne (tgt := 14) hx hb dX12_against_9 (by decide) (fun _ => ?_) (fun c_0 => absurd c_0 (by decide))
    refine lv_iload_n hx hb dX12_against_14 rfl (lv_at hl 2 rfl) ?_
    refine lv_i2l hx hb dX12_against_15 rfl ?_
    refine lv_lconst (v := 0) hx hb dX12_against_16 (by decide) ?_
    refine lv_ldc2 hx hb hown (hts _ tw_983) dX12_against_17 ?_
    refine hp_callRi (va_runS (As := [.long la9.toInt64, .long 0, .long 2]) (rest := []) ⟨hx, hb, hml, hown, hts⟩ (c_X12_within l D cy _ cs ad en la9.toInt64 0 2) (kw_X12_within hts tw_985 ⟨by decide, by decide⟩) (preS_of hh hK) rfl rfl hl.1 rfl (lv_room (Nat.le_of_ble_eq_true rfl)) dX12_against_20 ⟨Nat.le_of_ble_eq_true rfl, Nat.le_of_ble_eq_true rfl⟩) hh hA (fun r_1032 H locs hw_1032 hh => ?_)
    rcases Decidable.em (wi la9 0 2) with hp_1032 | hp_1032
    · obtain rfl : r_1032 = 1 := Eq.trans hw_1032 (if_pos ((wj_32 (by decide) (by decide)).mpr hp_1032))
      obtain ⟨N_1032, rfl, hA_1032, hB_1032⟩ := wi_natB hp_1032 0 2 (by decide) (by decide)
      refine lv_if_ne (tgt := 29) hx hb dX12_against_23 (by decide) (fun _ => ?_) (fun c_0 => absurd c_0 (by decide))
      refine lv_aload_n hx hb dX12_against_29 rfl (lv_at hl 0 rfl) ?_
      refine hp_get hx hb hts ix12 hown hK hh (q := 0) rfl (hI.1 _ (by decide)) es1029 rfl 7 (by decide) (hts _ tw_886) (fun _ h9 => h9) rfl dX12_against_30 ?_
      refine lv_iload_n hx hb dX12_against_33 rfl (lv_at hl 1 rfl) ?_
      refine hp_iald hx hb hK hh (q := 3) rfl (hI.1 _ (by decide)) es1030 (vp_in_nI (n := N_1031) (by omega) (by decide)) dX12_against_34 ?_
      rw [nI_clamp (n := N_1031) (by omega)]
      refine lv_bipush (v := (-9)) hx hb dX12_against_35 (by decide) ?_
      refine lv_icmp_eq (tgt := 56) hx hb dX12_against_37 (by decide) (fun c_1033 => ?_) (fun c_1033 => ?_)
      · refine lv_aload_n hx hb dX12_against_56 rfl (lv_at hl 0 rfl) ?_
        refine hp_get hx hb hts ix12 hown hK hh (q := 0) rfl (hI.1 _ (by decide)) es1029 rfl 7 (by decide) (hts _ tw_886) (fun _ h9 => h9) rfl dX12_against_57 ?_
        refine lv_iload_n hx hb dX12_against_60 rfl (lv_at hl 1 rfl) ?_
        refine hp_iald hx hb hK hh (q := 3) rfl (hI.1 _ (by decide)) es1030 (vp_in_nI (n := N_1031) (by omega) (by decide)) dX12_against_61 ?_
        rw [nI_clamp (n := N_1031) (by omega)]
        refine lv_bipush (v := (-9)) hx hb dX12_against_62 (by decide) ?_
        refine lv_icmp_ne (tgt := 75) hx hb dX12_against_64 (by decide) (fun c_0 => absurd (c_1033) c_0) (fun _ => ?_)
        refine lv_aload_n hx hb dX12_against_67 rfl (lv_at hl 0 rfl) ?_
        refine lv_iconst (v := 1) hx hb dX12_against_68 (by decide) ?_
        refine hp_callMi (va_runV (As := [.int 1]) (rest := []) ⟨hx, hb, hml, hown, hts⟩ (c_X12_fails l D cy _ cs ad en (hI.1 _ (by decide)) fa hi wd mo tb dp many grt lst nou rm rb pr wo 1 es1029) (kw_X12_fails hts tw_997 ⟨by decide, by decide⟩) (preV_of hh hK (hI.1 _ (by decide)) es1029 rfl) rfl rfl hl.1 rfl (lv_room (Nat.le_of_ble_eq_true rfl)) dX12_against_69 ⟨Nat.le_of_ble_eq_true rfl, Nat.le_of_ble_eq_true rfl⟩) hh hA (fun r_1034 H locs en_1034 hw_1034 hh => ?_)
        obtain ⟨hr_1034, hen_1034⟩ := hw_1034
        have es1030_1034 : en_1034 3 = .inl (cy 0, 4, .inl f_1030) := by rw [hen_1034, va_up_ne _ _ (by decide)]; exact es1030
        have es1029_1034 : en_1034 0 = .inr (11, [.int 1, .int hi, .int (nI wd), .int (nI mo), .int (nI tb), .ref (ad 1), .ref (ad 2), .ref (ad 3), .ref (ad 4), .ref (ad 5), .ref (ad 6), .ref (ad 7), .ref (ad 8), .ref (ad 9), .int dp, .long many, .long grt, .long lst, .long nou, .ref (ad 10), .ref (ad 11), .ref (ad 12), .int rm, .long rb, .ref (ad 13), .int pr, .ref (ad 14), .ref (ad 15), .ref (ad 16), .ref (ad 17), .int (nI wo), .ref (ad 18), .ref (ad 19)]) := by rw [hen_1034]; exact va_up_self _ _ _
        have hI_1034 : RX cy cs ad en_1034 := by rw [hen_1034]; exact upr_M hI ⟨1, hi, wd, mo, tb, dp, many, grt, lst, nou, rm, rb, pr, wo, rfl, hwd2, hwd3, hmo, htb, hwo⟩
        have hf_1034 : ∀ c, (c ≠ 0) → en_1034 c = en c := fun c hc => Eq.trans (show en_1034 c = en c from by rw [hen_1034, va_up_ne _ _ (by omega)]) (hf0 c hc)
        have hkp_1034 : KP en en_1034 := KP_fv (KP_rf en) es1029 es1029_1034 hi (nI wd) (nI mo) (nI tb) pr (nI wo) rfl rfl rfl rfl rfl rfl rfl rfl rfl rfl rfl rfl
        obtain rfl : r_1034 = (-11) := hr_1034.trans (by decide)
        refine lv_goto (tgt := 76) hx hb dX12_against_72 (by decide) ?_
        exact hp_iretM hx hb hr rfl hlocks hh (⟨hI_1034, hf_1034, (by (try rw [nI_clamp (n := N_1031) (by omega)]); rw [show rdF (en 3) = f_1030 from by rw [es1030]; rfl]; unfold agF; rw [if_pos hp_1031, if_pos hp_1032, if_neg (fun q => q.1 c_1033), if_pos c_1033]), (fun q => absurd q (by decide)), hkp_1034⟩) dX12_against_76
      · refine lv_aload_n hx hb dX12_against_40 rfl (lv_at hl 0 rfl) ?_
        refine hp_get hx hb hts ix12 hown hK hh (q := 0) rfl (hI.1 _ (by decide)) es1029 rfl 7 (by decide) (hts _ tw_886) (fun _ h9 => h9) rfl dX12_against_41 ?_
        refine lv_iload_n hx hb dX12_against_44 rfl (lv_at hl 1 rfl) ?_
        refine hp_iald hx hb hK hh (q := 3) rfl (hI.1 _ (by decide)) es1030 (vp_in_nI (n := N_1031) (by omega) (by decide)) dX12_against_45 ?_
        rw [nI_clamp (n := N_1031) (by omega)]
        refine lv_iload_n hx hb dX12_against_46 rfl (lv_at hl 2 rfl) ?_
        refine lv_icmp_eq (tgt := 56) hx hb dX12_against_47 (by decide) (fun c_1035 => ?_) (fun c_1035 => ?_)
        · refine lv_aload_n hx hb dX12_against_56 rfl (lv_at hl 0 rfl) ?_
          refine hp_get hx hb hts ix12 hown hK hh (q := 0) rfl (hI.1 _ (by decide)) es1029 rfl 7 (by decide) (hts _ tw_886) (fun _ h9 => h9) rfl dX12_against_57 ?_
          refine lv_iload_n hx hb dX12_against_60 rfl (lv_at hl 1 rfl) ?_
          refine hp_iald hx hb hK hh (q := 3) rfl (hI.1 _ (by decide)) es1030 (vp_in_nI (n := N_1031) (by omega) (by decide)) dX12_against_61 ?_
          rw [nI_clamp (n := N_1031) (by omega)]
          refine lv_bipush (v := (-9)) hx hb dX12_against_62 (by decide) ?_
          refine lv_icmp_ne (tgt := 75) hx hb dX12_against_64 (by decide) (fun _ => ?_) (fun c_0 => absurd c_0 (c_1033))
          refine lv_iconst (v := 0) hx hb dX12_against_75 (by decide) ?_
          exact hp_iretM hx hb hr rfl hlocks hh (⟨hI, hf0, (by (try rw [nI_clamp (n := N_1031) (by omega)]); rw [show rdF (en 3) = f_1030 from by rw [es1030]; rfl]; unfold agF; rw [if_pos hp_1031, if_pos hp_1032, if_neg (fun q => q.2 c_1035), if_neg c_1033]), (fun _ => rfl), (KP_rf en)⟩) dX12_against_76
        · refine lv_aload_n hx hb dX12_against_50 rfl (lv_at hl 0 rfl) ?_
          refine lv_iconst (v := 2) hx hb dX12_against_51 (by decide) ?_
          refine hp_callMi (va_runV (As := [.int 2]) (rest := []) ⟨hx, hb, hml, hown, hts⟩ (c_X12_fails l D cy _ cs ad en (hI.1 _ (by decide)) fa hi wd mo tb dp many grt lst nou rm rb pr wo 2 es1029) (kw_X12_fails hts tw_997 ⟨by decide, by decide⟩) (preV_of hh hK (hI.1 _ (by decide)) es1029 rfl) rfl rfl hl.1 rfl (lv_room (Nat.le_of_ble_eq_true rfl)) dX12_against_52 ⟨Nat.le_of_ble_eq_true rfl, Nat.le_of_ble_eq_true rfl⟩) hh hA (fun r_1036 H locs en_1036 hw_1036 hh => ?_)
          obtain ⟨hr_1036, hen_1036⟩ := hw_1036
          have es1030_1036 : en_1036 3 = .inl (cy 0, 4, .inl f_1030) := by rw [hen_1036, va_up_ne _ _ (by decide)]; exact es1030
          have es1029_1036 : en_1036 0 = .inr (11, [.int 2, .int hi, .int (nI wd), .int (nI mo), .int (nI tb), .ref (ad 1), .ref (ad 2), .ref (ad 3), .ref (ad 4), .ref (ad 5), .ref (ad 6), .ref (ad 7), .ref (ad 8), .ref (ad 9), .int dp, .long many, .long grt, .long lst, .long nou, .ref (ad 10), .ref (ad 11), .ref (ad 12), .int rm, .long rb, .ref (ad 13), .int pr, .ref (ad 14), .ref (ad 15), .ref (ad 16), .ref (ad 17), .int (nI wo), .ref (ad 18), .ref (ad 19)]) := by rw [hen_1036]; exact va_up_self _ _ _
          have hI_1036 : RX cy cs ad en_1036 := by rw [hen_1036]; exact upr_M hI ⟨2, hi, wd, mo, tb, dp, many, grt, lst, nou, rm, rb, pr, wo, rfl, hwd2, hwd3, hmo, htb, hwo⟩
          have hf_1036 : ∀ c, (c ≠ 0) → en_1036 c = en c := fun c hc => Eq.trans (show en_1036 c = en c from by rw [hen_1036, va_up_ne _ _ (by omega)]) (hf0 c hc)
          have hkp_1036 : KP en en_1036 := KP_fv (KP_rf en) es1029 es1029_1036 hi (nI wd) (nI mo) (nI tb) pr (nI wo) rfl rfl rfl rfl rfl rfl rfl rfl rfl rfl rfl rfl
          obtain rfl : r_1036 = (-12) := hr_1036.trans (by decide)
          exact hp_iretM hx hb hr rfl hlocks hh (⟨hI_1036, hf_1036, (by (try rw [nI_clamp (n := N_1031) (by omega)]); rw [show rdF (en 3) = f_1030 from by rw [es1030]; rfl]; unfold agF; rw [if_pos hp_1031, if_pos hp_1032, if_pos ⟨c_1033, c_1035⟩]), (fun q => absurd q (by decide)), hkp_1036⟩) dX12_against_55
    · obtain rfl : r_1032 = 0 := Eq.trans hw_1032 (if_neg (fun q => hp_1032 ((wj_32 (by decide) (by decide)).mp q)))
      refine lv_if_ne (tgt := 29) hx hb dX12_against_23 (by decide) (fun c_0 => absurd c_0 (by decide)) (fun _ => ?_)
      refine lv_bipush (v := (-2)) hx hb dX12_against_26 (by decide) ?_
      exact hp_iretM hx hb hr rfl hlocks hh (⟨hI, hf0, (by unfold agF; rw [if_pos hp_1031, if_neg hp_1032]), (fun q => absurd q (by decide)), (KP_rf en)⟩) dX12_against_28
  · obtain rfl : r_1031 = 0 := Eq.trans hw_1031 (if_neg (fun q => hp_1031 ((wj_32 (by decide) (by decide)).mp q)))
    refine lv_if_ne (tgt := 14) hx hb dX12_against_9 (by decide) (fun c_0 => absurd c_0 (by decide)) (fun _ => ?_)
    refine lv_iconst (v := (-1)) hx hb dX12_against_12 (by decide) ?_
    exact hp_iretM hx hb hr rfl hlocks hh (⟨hI, hf0, (by unfold agF; rw [if_neg hp_1031]), (fun q => absurd q (by decide)), (KP_rf en)⟩) dX12_against_13
theorem kw_X12_against {R : Room} {s : State} {args : Array Value} {own : String} {idx : Nat} (hts : ∀ w ∈ TB, w.before args s = true) (hl : Cond.methodLink own idx yX12_against ∈ TB) (hR : 1 + 1 ≤ R.frames ∧ 8 + (3 + 11) + 40 * 1 ≤ R.locals) : CallW R s args own RX12 idx yX12_against cX12_against 3 (some .int) (Cond.code yX12_against cX12_against 3 (some .int) :: TB) (rmN 1) 0 0 2 := cwV 2 hts (TB_V hl tw_995 ts_31 tw_9 tw_996) rfl rfl rfl (by decide +kernel) hR
set_option maxHeartbeats 4000000 in
set_option maxRecDepth 100000 in
/-- table -/
theorem c_X12_table (l : Launch) (D : va_G) (cy : Nat → ClassId) (sz : Nat) (cs : List Nat) (ad : Nat → Nat) (en : Nat → va_E) (hI : RX cy cs ad en) (k9 la9 i9 : Int32)   : Met l yX12_table (Cond.code yX12_table cX12_table 6 (some .int) :: TB) (rmN 2) (va_Pc [.ref (ad 0), .int k9, .int la9, .int i9] (Pre D cy cs ad en sz)) (va_Qi (S := Nat → va_E) (fun r en1 => RX cy cs ad en1 ∧ (∀ c, (c ≠ 0 ∧ c ≠ 1) → en1 c = en c) ∧ RTB k9 la9 i9 r en en1) (PostM D cs ad) (Af cs ad sz)) 0 0 (Af cs ad sz) := by
  refine Met.ofW (cc := cX12_table) (maxL := 6) (ret := (some .int)) (by decide) rfl ?_
  intro p e s m args below meth c s₁ B hml hv
  obtain ⟨rfl, hsz, hP, hK, hD0⟩ := hv
  have hx := B.exec
  have hb := B.bytes
  have hr := B.returns
  have hts : ∀ w ∈ TB, w.before _ s = true := fun w h => atoms_spec (ws := _ :: TB) B.pre w (List.mem_cons_of_mem _ h)
  have hown : s.vm.findClass RX12 = some m.cls := findClass_of_methodNamed B.named
  have hlocks := B.notSynchronized
  have hh : Hp D (Af cs ad sz) (Af cs ad sz) s.heap s.heap [] cs ad en := ⟨hP, Af_self hD0, va_S.rf⟩
  have hA : ∀ q : Nat, s.heap.size ≤ q → Af cs ad sz q := fun q h => Or.inr (by rw [hsz] at h; exact h)
  have hl := lv_entry ([.ref (ad 0), .int k9, .int la9, .int i9]) (n := 6) (Nat.le_of_ble_eq_true rfl)
  rw [lg_entry_eq]
  generalize (lg_sl ([.ref (ad 0), .int k9, .int la9, .int i9]) ++ List.replicate (6 - (lg_sl ([.ref (ad 0), .int k9, .int la9, .int i9])).length) Slot.unset).toArray = ls at hl ⊢
  have hl : lv_has ls 6 [(0, .ref (ad 0)), (1, .int k9), (2, .int la9), (3, .int i9)] := hl
  have hf0 : ∀ c, (c ≠ 0 ∧ c ≠ 1) → en c = en c := fun _ _ => rfl
  obtain ⟨fa, hi, wd, mo, tb, dp, many, grt, lst, nou, rm, rb, pr, wo, es1037, hwd2, hwd3, hmo, htb, hwo⟩ := getr_M hI
  obtain ⟨f_1038, es1038⟩ := getr_la hI
  obtain ⟨f_1039, es1039, p0_1039⟩ := getr_sl hI
  obtain ⟨f_1040, es1040⟩ := getr_ce hI
  have hww : wd * wd ≤ 9 := mww (by omega)
  refine lv_aload_n hx hb dX12_table_0 rfl (lv_at hl 0 rfl) ?_
  refine lv_iconst (v := 0) hx hb dX12_table_1 (by decide) ?_
  refine hp_put hx hb hts ix12 tyX12 tyX12_ok nmX12 hown hK hh (q := 0) rfl (hI.1 _ (by decide)) es1037 rfl 0 (by decide) (hts _ tw_879) (fun _ h9 => h9) rfl (ty := .int) (by decide +kernel) rfl rfl (Nat.le_of_ble_eq_true rfl) dX12_table_2 (fun H locs en_1041 hen_1041 hh => ?_)
  have es1038_1041 : en_1041 3 = .inl (cy 0, 4, .inl f_1038) := by rw [hen_1041, va_up_ne _ _ (by decide)]; exact es1038
  have es1039_1041 : en_1041 4 = .inl (cy 0, 4, .inl f_1039) := by rw [hen_1041, va_up_ne _ _ (by decide)]; exact es1039
  have es1040_1041 : en_1041 5 = .inl (cy 0, 160, .inl f_1040) := by rw [hen_1041, va_up_ne _ _ (by decide)]; exact es1040
  have es1037_1041 : en_1041 0 = .inr (11, [.int 0, .int hi, .int (nI wd), .int (nI mo), .int (nI tb), .ref (ad 1), .ref (ad 2), .ref (ad 3), .ref (ad 4), .ref (ad 5), .ref (ad 6), .ref (ad 7), .ref (ad 8), .ref (ad 9), .int dp, .long many, .long grt, .long lst, .long nou, .ref (ad 10), .ref (ad 11), .ref (ad 12), .int rm, .long rb, .ref (ad 13), .int pr, .ref (ad 14), .ref (ad 15), .ref (ad 16), .ref (ad 17), .int (nI wo), .ref (ad 18), .ref (ad 19)]) := by rw [hen_1041]; exact va_up_self _ _ _
  have hI_1041 : RX cy cs ad en_1041 := by rw [hen_1041]; exact upr_M hI ⟨0, hi, wd, mo, tb, dp, many, grt, lst, nou, rm, rb, pr, wo, rfl, hwd2, hwd3, hmo, htb, hwo⟩
  have hf_1041 : ∀ c, (c ≠ 0 ∧ c ≠ 1) → en_1041 c = en c := fun c hc => Eq.trans (show en_1041 c = en c from by rw [hen_1041, va_up_ne _ _ (by omega)]) (hf0 c hc)
  have hkc1_1041 : en_1041 1 = en 1 := (show en_1041 1 = en 1 from by rw [hen_1041, va_up_ne _ _ (by decide)]).trans rfl
  have hkp_1041 : KP en en_1041 := KP_fv (KP_rf en) es1037 es1037_1041 hi (nI wd) (nI mo) (nI tb) pr (nI wo) rfl rfl rfl rfl rfl rfl rfl rfl rfl rfl rfl rfl
  refine lv_aload_n hx hb dX12_table_5 rfl (lv_at hl 0 rfl) ?_
  refine lv_iload_n hx hb dX12_table_6 rfl (lv_at hl 1 rfl) ?_
  refine lv_iload_n hx hb dX12_table_7 rfl (lv_at hl 2 rfl) ?_
  refine hp_callMi (va_runV (As := [.int k9, .int la9]) (rest := []) ⟨hx, hb, hml, hown, hts⟩ (c_X12_against l D cy _ cs ad en_1041 hI_1041 k9 la9 ) (kw_X12_against hts tw_993 ⟨by decide, by decide⟩) (preV_of hh hK (hI.1 _ (by decide)) es1037_1041 rfl) rfl rfl hl.1 rfl (lv_room (Nat.le_of_ble_eq_true rfl)) dX12_table_8 ⟨Nat.le_of_ble_eq_true rfl, Nat.le_of_ble_eq_true rfl⟩) hh hA (fun r_1042 H locs en_1042 hw_1042 hh => ?_)
  obtain ⟨hI_1042, hu_1042, hr_1042, h0_1042, hkq_1042⟩ := hw_1042
  rcases Decidable.em (r_1042 = 0) with hz_1042 | hz_1042
  · have he_1042 : en_1042 = en_1041 := h0_1042 hz_1042
    rw [he_1042] at hh
    have hag_1042 := agF_0 (hr_1042.symm.trans hz_1042)
    rw [hz_1042]
    refine lv_istore (lv' := [(4, .int 0), (0, .ref (ad 0)), (1, .int k9), (2, .int la9), (3, .int i9)]) hx hb dX12_table_11 hl (by decide) rfl (fun ls hl => ?_)
    refine lv_iload hx hb dX12_table_13 (lv_at hl 0 rfl) ?_
    refine lv_if_eq (tgt := 21) hx hb dX12_table_15 (by decide) (fun _ => ?_) (fun c_0 => absurd c_0 (by decide))
    have hag0 : agF (rdF (en 3) k9.toNatClampNeg) k9 la9 = 0 := by have h9 := hr_1042.symm.trans hz_1042; rw [show en_1041 3 = en 3 from hf_1041 3 (by omega)] at h9; exact h9
    obtain ⟨K9, rfl, -, hK9⟩ := wi_natB hag_1042.1 0 3 (by decide) (by decide)
    refine lv_iload_n hx hb dX12_table_21 rfl (lv_at hl 4 rfl) ?_
    refine lv_if_lt (tgt := 45) hx hb dX12_table_22 (by decide) (fun c_1043 => ?_) (fun c_1043 => ?_)
    · refine lv_aload_n hx hb dX12_table_45 rfl (lv_at hl 1 rfl) ?_
      refine lv_iconst (v := 3) hx hb dX12_table_46 (by decide) ?_
      refine hp_callMi (va_runV (As := [.int 3]) (rest := []) ⟨hx, hb, hml, hown, hts⟩ (c_X12_fails l D cy _ cs ad en_1041 (hI.1 _ (by decide)) 0 hi wd mo tb dp many grt lst nou rm rb pr wo 3 es1037_1041) (kw_X12_fails hts tw_997 ⟨by decide, by decide⟩) (preV_of hh hK (hI.1 _ (by decide)) es1037_1041 rfl) rfl rfl hl.1 rfl (lv_room (Nat.le_of_ble_eq_true rfl)) dX12_table_47 ⟨Nat.le_of_ble_eq_true rfl, Nat.le_of_ble_eq_true rfl⟩) hh hA (fun r_1044 H locs en_1044 hw_1044 hh => ?_)
      obtain ⟨hr_1044, hen_1044⟩ := hw_1044
      have es1038_1044 : en_1044 3 = .inl (cy 0, 4, .inl f_1038) := by rw [hen_1044, va_up_ne _ _ (by decide)]; exact es1038_1041
      have es1039_1044 : en_1044 4 = .inl (cy 0, 4, .inl f_1039) := by rw [hen_1044, va_up_ne _ _ (by decide)]; exact es1039_1041
      have es1040_1044 : en_1044 5 = .inl (cy 0, 160, .inl f_1040) := by rw [hen_1044, va_up_ne _ _ (by decide)]; exact es1040_1041
      have es1037_1044 : en_1044 0 = .inr (11, [.int 3, .int hi, .int (nI wd), .int (nI mo), .int (nI tb), .ref (ad 1), .ref (ad 2), .ref (ad 3), .ref (ad 4), .ref (ad 5), .ref (ad 6), .ref (ad 7), .ref (ad 8), .ref (ad 9), .int dp, .long many, .long grt, .long lst, .long nou, .ref (ad 10), .ref (ad 11), .ref (ad 12), .int rm, .long rb, .ref (ad 13), .int pr, .ref (ad 14), .ref (ad 15), .ref (ad 16), .ref (ad 17), .int (nI wo), .ref (ad 18), .ref (ad 19)]) := by rw [hen_1044]; exact va_up_self _ _ _
      have hI_1044 : RX cy cs ad en_1044 := by rw [hen_1044]; exact upr_M hI_1041 ⟨3, hi, wd, mo, tb, dp, many, grt, lst, nou, rm, rb, pr, wo, rfl, hwd2, hwd3, hmo, htb, hwo⟩
      have hf_1044 : ∀ c, (c ≠ 0 ∧ c ≠ 1) → en_1044 c = en c := fun c hc => Eq.trans (show en_1044 c = en_1041 c from by rw [hen_1044, va_up_ne _ _ (by omega)]) (hf_1041 c hc)
      have hkc1_1044 : en_1044 1 = en 1 := (show en_1044 1 = en_1041 1 from by rw [hen_1044, va_up_ne _ _ (by decide)]).trans hkc1_1041
      have hkp_1044 : KP en en_1044 := KP_fv hkp_1041 es1037_1041 es1037_1044 hi (nI wd) (nI mo) (nI tb) pr (nI wo) rfl rfl rfl rfl rfl rfl rfl rfl rfl rfl rfl rfl
      obtain rfl : r_1044 = (-13) := hr_1044.trans (by decide)
      exact hp_iretM hx hb hr rfl hlocks hh (⟨hI_1044, hf_1044, ⟨wd, tb, hwd2, hwd3, htb, (by rw [es1037]; rfl), (by rw [es1037]; rfl), Or.inr ⟨hag0, K9, rfl, by omega, Or.inl ⟨ns_lt c_1043, rfl, hkp_1044, hkc1_1044⟩⟩⟩⟩) dX12_table_50
    · refine lv_iload_n hx hb dX12_table_25 rfl (lv_at hl 4 rfl) ?_
      refine lv_aload_n hx hb dX12_table_26 rfl (lv_at hl 1 rfl) ?_
      refine hp_get hx hb hts ix12 hown hK hh (q := 0) rfl (hI.1 _ (by decide)) es1037_1041 rfl 8 (by decide) (hts _ tw_887) (fun _ h9 => h9) rfl dX12_table_27 ?_
      refine lv_iload_n hx hb dX12_table_30 rfl (lv_at hl 2 rfl) ?_
      refine hp_iald hx hb hK hh (q := 4) rfl (hI.1 _ (by decide)) es1039_1041 (vp_in_nI (n := K9) (by omega) (by decide)) dX12_table_31 ?_
      rw [nI_clamp (n := K9) (by omega)]
      obtain ⟨v_1045, hv_1045, hfv_1045⟩ := p0_1039 K9 (by omega)
      rw [hfv_1045]
      refine lv_aload_n hx hb dX12_table_32 rfl (lv_at hl 1 rfl) ?_
      refine hp_get hx hb hts ix12 hown hK hh (q := 0) rfl (hI.1 _ (by decide)) es1037_1041 rfl 2 (by decide) (hts _ tw_881) (fun _ h9 => h9) rfl dX12_table_33 ?_
      refine lv_aload_n hx hb dX12_table_36 rfl (lv_at hl 1 rfl) ?_
      refine hp_get hx hb hts ix12 hown hK hh (q := 0) rfl (hI.1 _ (by decide)) es1037_1041 rfl 2 (by decide) (hts _ tw_881) (fun _ h9 => h9) rfl dX12_table_37 ?_
      refine lv_imul hx hb dX12_table_40 ?_
      rw [pk_mul wd wd]
      have hw2_1046 : wd * wd ≤ 9 := mww (by omega)
      refine lv_isub hx hb dX12_table_41 ?_
      refine lv_icmp_le (tgt := 51) hx hb dX12_table_42 (by decide) (fun c_1047 => ?_) (fun c_1047 => ?_)
      · obtain ⟨I9, rfl, hI9⟩ := le_sub_nat c_1043 c_1047 (by omega) (by omega)
        refine lv_iconst (v := 0) hx hb dX12_table_51 (by decide) ?_
        refine lv_istore (lv' := [(5, .int 0), (4, .int 0), (0, .ref (ad 0)), (1, .int (nI K9)), (2, .int la9), (3, .int (nI I9))]) hx hb dX12_table_52 hl (by decide) rfl (fun ls hl => ?_)
        have loop_1048 : ∀ (fu j1048 : Nat)   (ls : Array Slot) (H : Heap) (locs : List Loc), 0 ≤ j1048 → j1048 ≤ (wd * wd) → (wd * wd) < j1048 + fu →  (∀ x, x < j1048 → wi (f_1040 (((40 * K9) + I9) + x)) (-9) 9) → lv_has ls 6 [(5, .int (nI j1048)), (4, .int 0), (0, .ref (ad 0)), (1, .int (nI K9)), (2, .int la9), (3, .int (nI I9))] → Hp D (Af cs ad sz) (Af cs ad sz) s.heap H locs cs ad en_1041 → W p l e (headSpec (Cond.code yX12_table cX12_table 6 (some .int) :: TB) (rmN 2)).room s m ([.ref (ad 0), .int (nI K9), .int la9, .int (nI I9)] : List Value).toArray below meth c H locs 0 0 (MQ below (va_Qi (S := Nat → va_E) (fun r en1 => RX cy cs ad en1 ∧ (∀ c, (c ≠ 0 ∧ c ≠ 1) → en1 c = en c) ∧ RTB (nI K9) la9 (nI I9) r en en1) (PostM D cs ad) (Af cs ad sz)) ([.ref (ad 0), .int (nI K9), .int la9, .int (nI I9)] : List Value).toArray s 0 0 (Af cs ad sz)) (F0 m 54 ls []) := by
          intro fu
          induction fu with
          | zero => intro j1048  ls H locs h0 h1 h2; exact absurd h2 (by omega)
          | succ fu ih_1048 =>
            intro j1048  ls H locs hj0_1048 hj_1048 hfu_1048 i0_1048 hl hh
            refine lv_iload hx hb dX12_table_54 (lv_at hl 0 rfl) ?_
            refine lv_aload_n hx hb dX12_table_56 rfl (lv_at hl 2 rfl) ?_
            refine hp_get hx hb hts ix12 hown hK hh (q := 0) rfl (hI.1 _ (by decide)) es1037_1041 rfl 2 (by decide) (hts _ tw_881) (fun _ h9 => h9) rfl dX12_table_57 ?_
            refine lv_aload_n hx hb dX12_table_60 rfl (lv_at hl 2 rfl) ?_
            refine hp_get hx hb hts ix12 hown hK hh (q := 0) rfl (hI.1 _ (by decide)) es1037_1041 rfl 2 (by decide) (hts _ tw_881) (fun _ h9 => h9) rfl dX12_table_61 ?_
            refine lv_imul hx hb dX12_table_64 ?_
            rw [pk_mul wd wd]
            have hw2_1049 : wd * wd ≤ 9 := mww (by omega)
            refine lv_icmp_ge (tgt := 104) hx hb dX12_table_65 (by decide) (fun c_1050 => ?_) (fun c_1050 => ?_)
            · have n_1050 : (wd * wd) ≤ j1048 := n_le (a := (wd * wd)) (b := j1048) c_1050 (by omega) (by omega)
              have hok9 : okR en K9 I9 (wd * wd) := fun x hx => by rw [show rdF (en 5) = f_1040 from by rw [es1040]; rfl]; exact i0_1048 x (by omega)
              refine lv_aload_n hx hb dX12_table_104 rfl (lv_at hl 2 rfl) ?_
              refine hp_get hx hb hts ix12 hown hK hh (q := 0) rfl (hI.1 _ (by decide)) es1037_1041 rfl 4 (by decide) (hts _ tw_883) (fun _ h9 => h9) rfl dX12_table_105 ?_
              refine lv_bipush (v := 6) hx hb dX12_table_108 (by decide) ?_
              refine lv_icmp_ne (tgt := 116) hx hb dX12_table_110 (by decide) (fun c_1051 => ?_) (fun c_1051 => ?_)
              · have n_1051 : tb ≠ 6 := n_neq (a := tb) (b := 6) c_1051 (by omega) (by decide)
                refine lv_iconst (v := 0) hx hb dX12_table_116 (by decide) ?_
                refine lv_istore (lv' := [(5, .int 0), (4, .int 0), (0, .ref (ad 0)), (1, .int (nI K9)), (2, .int la9), (3, .int (nI I9))]) hx hb dX12_table_117 hl (by decide) rfl (fun ls hl => ?_)
                have loop_1052 : ∀ (fu j1052 : Nat)  (en_1052 : Nat → va_E) (ls : Array Slot) (H : Heap) (locs : List Loc), 0 ≤ j1052 → j1052 ≤ (wd * wd) → (wd * wd) < j1052 + fu → RX cy cs ad en_1052 → (∀ c, (c ≠ 0 ∧ c ≠ 1) → en_1052 c = en c) → (∀ x, rdF (en_1052 1) x = if 9 * tb ≤ x ∧ x < 9 * tb + j1052 then rdF (en 5) (40 * K9 + I9 + (x - 9 * tb)) else rdF (en 1) x) → (KP en en_1052) → lv_has ls 6 [(5, .int (nI j1052)), (4, .int 0), (0, .ref (ad 0)), (1, .int (nI K9)), (2, .int la9), (3, .int (nI I9))] → Hp D (Af cs ad sz) (Af cs ad sz) s.heap H locs cs ad en_1052 → W p l e (headSpec (Cond.code yX12_table cX12_table 6 (some .int) :: TB) (rmN 2)).room s m ([.ref (ad 0), .int (nI K9), .int la9, .int (nI I9)] : List Value).toArray below meth c H locs 0 0 (MQ below (va_Qi (S := Nat → va_E) (fun r en1 => RX cy cs ad en1 ∧ (∀ c, (c ≠ 0 ∧ c ≠ 1) → en1 c = en c) ∧ RTB (nI K9) la9 (nI I9) r en en1) (PostM D cs ad) (Af cs ad sz)) ([.ref (ad 0), .int (nI K9), .int la9, .int (nI I9)] : List Value).toArray s 0 0 (Af cs ad sz)) (F0 m 119 ls []) := by
                  intro fu
                  induction fu with
                  | zero => intro j1052  en_1052 ls H locs h0 h1 h2; exact absurd h2 (by omega)
                  | succ fu ih_1052 =>
                    intro j1052  en_1052 ls H locs hj0_1052 hj_1052 hfu_1052 hI_1052 hf_1052 i0_1052 i1_1052 hl hh
                    refine lv_iload hx hb dX12_table_119 (lv_at hl 0 rfl) ?_
                    refine lv_aload_n hx hb dX12_table_121 rfl (lv_at hl 2 rfl) ?_
                    obtain ⟨fa_1053, hi_1053, wd_1053, mo_1053, tb_1053, dp_1053, many_1053, grt_1053, lst_1053, nou_1053, rm_1053, rb_1053, pr_1053, wo_1053, es1053, p0_1053, p1_1053, p2_1053, p3_1053, p4_1053⟩ := getr_M hI_1052
                    have hq2_1054 : wd_1053 = wd := n_eq ((show nI wd_1053 = rdI (en_1052 0) 2 from by rw [es1053]; rfl).trans (i1_1052.2.1.trans (show rdI (en 0) 2 = nI wd from by rw [es1037]; rfl))) (by omega) (by omega)
                    have hq3_1054 : mo_1053 = mo := n_eq ((show nI mo_1053 = rdI (en_1052 0) 3 from by rw [es1053]; rfl).trans (i1_1052.2.2.1.trans (show rdI (en 0) 3 = nI mo from by rw [es1037]; rfl))) (by omega) (by omega)
                    have hq4_1054 : tb_1053 = tb := n_eq ((show nI tb_1053 = rdI (en_1052 0) 4 from by rw [es1053]; rfl).trans (i1_1052.2.2.2.1.trans (show rdI (en 0) 4 = nI tb from by rw [es1037]; rfl))) (by omega) (by omega)
                    have hq30_1054 : wo_1053 = wo := n_eq ((show nI wo_1053 = rdI (en_1052 0) 30 from by rw [es1053]; rfl).trans (i1_1052.2.2.2.2.2.trans (show rdI (en 0) 30 = nI wo from by rw [es1037]; rfl))) (by omega) (by omega)
                    rw [hq2_1054, hq3_1054, hq4_1054, hq30_1054] at es1053
                    refine hp_get hx hb hts ix12 hown hK hh (q := 0) rfl (hI.1 _ (by decide)) es1053 rfl 2 (by decide) (hts _ tw_881) (fun _ h9 => h9) rfl dX12_table_122 ?_
                    refine lv_aload_n hx hb dX12_table_125 rfl (lv_at hl 2 rfl) ?_
                    refine hp_get hx hb hts ix12 hown hK hh (q := 0) rfl (hI.1 _ (by decide)) es1053 rfl 2 (by decide) (hts _ tw_881) (fun _ h9 => h9) rfl dX12_table_126 ?_
                    refine lv_imul hx hb dX12_table_129 ?_
                    rw [pk_mul wd wd]
                    have hw2_1055 : wd * wd ≤ 9 := mww (by omega)
                    refine lv_icmp_ge (tgt := 168) hx hb dX12_table_130 (by decide) (fun c_1056 => ?_) (fun c_1056 => ?_)
                    · have n_1056 : (wd * wd) ≤ j1052 := n_le (a := (wd * wd)) (b := j1052) c_1056 (by omega) (by omega)
                      refine lv_aload_n hx hb dX12_table_168 rfl (lv_at hl 2 rfl) ?_
                      refine lv_bipush (v := (-9)) hx hb dX12_table_169 (by decide) ?_
                      refine hp_put hx hb hts ix12 tyX12 tyX12_ok nmX12 hown hK hh (q := 0) rfl (hI.1 _ (by decide)) es1053 rfl 25 (by decide) (hts _ tw_904) (fun _ h9 => h9) rfl (ty := .int) (by decide +kernel) rfl rfl (Nat.le_of_ble_eq_true rfl) dX12_table_171 (fun H locs en_1057 hen_1057 hh => ?_)
                      have es1053_1057 : en_1057 0 = .inr (11, [.int fa_1053, .int hi_1053, .int (nI wd), .int (nI mo), .int (nI tb), .ref (ad 1), .ref (ad 2), .ref (ad 3), .ref (ad 4), .ref (ad 5), .ref (ad 6), .ref (ad 7), .ref (ad 8), .ref (ad 9), .int dp_1053, .long many_1053, .long grt_1053, .long lst_1053, .long nou_1053, .ref (ad 10), .ref (ad 11), .ref (ad 12), .int rm_1053, .long rb_1053, .ref (ad 13), .int (-9), .ref (ad 14), .ref (ad 15), .ref (ad 16), .ref (ad 17), .int (nI wo), .ref (ad 18), .ref (ad 19)]) := by rw [hen_1057]; exact va_up_self _ _ _
                      have hI_1057 : RX cy cs ad en_1057 := by rw [hen_1057]; exact upr_M hI_1052 ⟨fa_1053, hi_1053, wd, mo, tb, dp_1053, many_1053, grt_1053, lst_1053, nou_1053, rm_1053, rb_1053, (-9), wo, rfl, hwd2, hwd3, hmo, htb, hwo⟩
                      have hf_1057 : ∀ c, (c ≠ 0 ∧ c ≠ 1) → en_1057 c = en c := fun c hc => Eq.trans (show en_1057 c = en_1052 c from by rw [hen_1057, va_up_ne _ _ (by omega)]) (hf_1052 c hc)
                      refine lv_aload_n hx hb dX12_table_174 rfl (lv_at hl 2 rfl) ?_
                      refine lv_dup hx hb dX12_table_175 rfl ?_
                      refine hp_get hx hb hts ix12 hown hK hh (q := 0) rfl (hI.1 _ (by decide)) es1053_1057 rfl 4 (by decide) (hts _ tw_883) (fun _ h9 => h9) rfl dX12_table_176 ?_
                      refine lv_iconst (v := 1) hx hb dX12_table_179 (by decide) ?_
                      refine lv_iadd hx hb dX12_table_180 ?_
                      rw [show (1 : Int32) = nI 1 from rfl, nI_add tb 1]
                      refine hp_put hx hb hts ix12 tyX12 tyX12_ok nmX12 hown hK hh (q := 0) rfl (hI.1 _ (by decide)) es1053_1057 rfl 4 (by decide) (hts _ tw_883) (fun _ h9 => h9) rfl (ty := .int) (by decide +kernel) rfl rfl (Nat.le_of_ble_eq_true rfl) dX12_table_181 (fun H locs en_1058 hen_1058 hh => ?_)
                      have es1053_1058 : en_1058 0 = .inr (11, [.int fa_1053, .int hi_1053, .int (nI wd), .int (nI mo), .int (nI (tb + 1)), .ref (ad 1), .ref (ad 2), .ref (ad 3), .ref (ad 4), .ref (ad 5), .ref (ad 6), .ref (ad 7), .ref (ad 8), .ref (ad 9), .int dp_1053, .long many_1053, .long grt_1053, .long lst_1053, .long nou_1053, .ref (ad 10), .ref (ad 11), .ref (ad 12), .int rm_1053, .long rb_1053, .ref (ad 13), .int (-9), .ref (ad 14), .ref (ad 15), .ref (ad 16), .ref (ad 17), .int (nI wo), .ref (ad 18), .ref (ad 19)]) := by rw [hen_1058]; exact va_up_self _ _ _
                      have hI_1058 : RX cy cs ad en_1058 := by rw [hen_1058]; exact upr_M hI_1057 ⟨fa_1053, hi_1053, wd, mo, (tb + 1), dp_1053, many_1053, grt_1053, lst_1053, nou_1053, rm_1053, rb_1053, (-9), wo, rfl, hwd2, hwd3, hmo, (by omega), hwo⟩
                      have hf_1058 : ∀ c, (c ≠ 0 ∧ c ≠ 1) → en_1058 c = en c := fun c hc => Eq.trans (show en_1058 c = en_1057 c from by rw [hen_1058, va_up_ne _ _ (by omega)]) (hf_1057 c hc)
                      refine lv_aload_n hx hb dX12_table_184 rfl (lv_at hl 2 rfl) ?_
                      refine hp_get hx hb hts ix12 hown hK hh (q := 0) rfl (hI.1 _ (by decide)) es1053_1058 rfl 4 (by decide) (hts _ tw_883) (fun _ h9 => h9) rfl dX12_table_185 ?_
                      refine lv_iconst (v := 1) hx hb dX12_table_188 (by decide) ?_
                      refine lv_isub hx hb dX12_table_189 ?_
                      rw [show (1 : Int32) = nI 1 from rfl, pk_sub (a := (tb + 1)) (b := 1) (by omega)]
                      exact hp_iretM hx hb hr rfl hlocks hh (⟨hI_1058, hf_1058, ⟨wd, tb, hwd2, hwd3, htb, (by rw [es1037]; rfl), (by rw [es1037]; rfl), Or.inr ⟨hag0, K9, rfl, by omega, Or.inr ⟨I9, rfl, by rw [show rdF (en 4) K9 = nI v_1045 from by rw [show rdF (en 4) = f_1039 from by rw [es1039]; rfl]; exact hfv_1045, nI_toInt (by omega)]; omega, by omega, Or.inr (Or.inr ⟨hok9, by omega, congrArg nI (by omega), (Eq.trans (show rdI (en_1058 0) 1 = rdI (en_1052 0) 1 from by rw [es1053_1058, es1053]; rfl) i1_1052.1), (Eq.trans (show rdI (en_1058 0) 2 = rdI (en_1052 0) 2 from by rw [es1053_1058, es1053]; rfl) i1_1052.2.1), (Eq.trans (show rdI (en_1058 0) 3 = rdI (en_1052 0) 3 from by rw [es1053_1058, es1053]; rfl) i1_1052.2.2.1), (by rw [es1053_1058]; exact congrArg nI (by omega)), (by rw [es1053_1058]; rfl), (Eq.trans (show rdI (en_1058 0) 30 = rdI (en_1052 0) 30 from by rw [es1053_1058, es1053]; rfl) i1_1052.2.2.2.2.2), fun x => by rw [show en_1058 1 = en_1052 1 from by rw [hen_1058, va_up_ne _ _ (by decide), hen_1057, va_up_ne _ _ (by decide)]]; have e9 : j1052 = wd * wd := (by omega); rw [e9] at i0_1052; exact i0_1052 x⟩)⟩⟩⟩⟩) dX12_table_190
                    · have n_1056 : j1052 < (wd * wd) := n_nle (a := (wd * wd)) (b := j1052) c_1056 (by omega) (by omega)
                      refine lv_aload_n hx hb dX12_table_133 rfl (lv_at hl 2 rfl) ?_
                      refine hp_get hx hb hts ix12 hown hK hh (q := 0) rfl (hI.1 _ (by decide)) es1053 rfl 5 (by decide) (hts _ tw_884) (fun _ h9 => h9) rfl dX12_table_134 ?_
                      refine lv_bipush (v := 9) hx hb dX12_table_137 (by decide) ?_
                      refine lv_aload_n hx hb dX12_table_139 rfl (lv_at hl 2 rfl) ?_
                      refine hp_get hx hb hts ix12 hown hK hh (q := 0) rfl (hI.1 _ (by decide)) es1053 rfl 4 (by decide) (hts _ tw_883) (fun _ h9 => h9) rfl dX12_table_140 ?_
                      refine lv_imul hx hb dX12_table_143 ?_
                      rw [show (9 : Int32) = nI 9 from rfl, pk_mul 9 tb]
                      refine lv_iload hx hb dX12_table_144 (lv_at hl 0 rfl) ?_
                      refine lv_iadd hx hb dX12_table_146 ?_
                      rw [nI_add (9 * tb) j1052]
                      refine lv_aload_n hx hb dX12_table_147 rfl (lv_at hl 2 rfl) ?_
                      refine hp_get hx hb hts ix12 hown hK hh (q := 0) rfl (hI.1 _ (by decide)) es1053 rfl 9 (by decide) (hts _ tw_888) (fun _ h9 => h9) rfl dX12_table_148 ?_
                      refine lv_bipush (v := 40) hx hb dX12_table_151 (by decide) ?_
                      refine lv_iload_n hx hb dX12_table_153 rfl (lv_at hl 3 rfl) ?_
                      refine lv_imul hx hb dX12_table_154 ?_
                      rw [show (40 : Int32) = nI 40 from rfl, pk_mul 40 K9]
                      refine lv_iload_n hx hb dX12_table_155 rfl (lv_at hl 5 rfl) ?_
                      refine lv_iadd hx hb dX12_table_156 ?_
                      rw [nI_add (40 * K9) I9]
                      refine lv_iload hx hb dX12_table_157 (lv_at hl 0 rfl) ?_
                      refine lv_iadd hx hb dX12_table_159 ?_
                      rw [nI_add ((40 * K9) + I9) j1052]
                      have es1040_1059 : en_1052 5 = .inl (cy 0, 160, .inl f_1040) := (hf_1052 5 (by omega)).trans es1040
                      refine hp_iald hx hb hK hh (q := 5) rfl (hI.1 _ (by decide)) es1040_1059 (vp_in_nI (n := (((40 * K9) + I9) + j1052)) (by omega) (by decide)) dX12_table_160 ?_
                      rw [nI_clamp (n := (((40 * K9) + I9) + j1052)) (by omega)]
                      obtain ⟨f_1060, es1060⟩ := getr_E hI_1052
                      refine hp_iast hx hb hK hh (q := 1) rfl (hI.1 _ (by decide)) es1060 (vp_in_nI (n := ((9 * tb) + j1052)) (by omega) (by decide)) dX12_table_161 (fun H locs en_1061 hen_1061 hh => ?_)
                      rw [nI_clamp (n := ((9 * tb) + j1052)) (by omega)] at hen_1061
                      have es1053_1061 : en_1061 0 = .inr (11, [.int fa_1053, .int hi_1053, .int (nI wd), .int (nI mo), .int (nI tb), .ref (ad 1), .ref (ad 2), .ref (ad 3), .ref (ad 4), .ref (ad 5), .ref (ad 6), .ref (ad 7), .ref (ad 8), .ref (ad 9), .int dp_1053, .long many_1053, .long grt_1053, .long lst_1053, .long nou_1053, .ref (ad 10), .ref (ad 11), .ref (ad 12), .int rm_1053, .long rb_1053, .ref (ad 13), .int pr_1053, .ref (ad 14), .ref (ad 15), .ref (ad 16), .ref (ad 17), .int (nI wo), .ref (ad 18), .ref (ad 19)]) := by rw [hen_1061, va_up_ne _ _ (by decide)]; exact es1053
                      have es1040_1061 : en_1061 5 = .inl (cy 0, 160, .inl f_1040) := by rw [hen_1061, va_up_ne _ _ (by decide)]; exact es1040_1059
                      have es1060_1061 : en_1061 1 = .inl (cy 0, 54, .inl (upd f_1060 ((9 * tb) + j1052) (f_1040 (((40 * K9) + I9) + j1052)))) := by rw [hen_1061]; exact va_up_self _ _ _
                      have hI_1061 : RX cy cs ad en_1061 := by rw [hen_1061]; exact upr_E hI_1052 ⟨(upd f_1060 ((9 * tb) + j1052) (f_1040 (((40 * K9) + I9) + j1052))), rfl⟩
                      have hf_1061 : ∀ c, (c ≠ 0 ∧ c ≠ 1) → en_1061 c = en c := fun c hc => Eq.trans (show en_1061 c = en_1052 c from by rw [hen_1061, va_up_ne _ _ (by omega)]) (hf_1052 c hc)
                      have hkp_1061 : KP en en_1061 := KP_same i1_1052 (show en_1061 0 = en_1052 0 from by rw [hen_1061, va_up_ne _ _ (by decide)])
                      refine lv_iinc (v := (nI (j1052 + 1))) (lv' := [(5, .int (nI (j1052 + 1))), (4, .int 0), (0, .ref (ad 0)), (1, .int (nI K9)), (2, .int la9), (3, .int (nI I9))]) hx hb dX12_table_162 hl (k := 0) rfl (nI_1 _) (by decide) rfl (fun ls hl => ?_)
                      refine lv_goto (tgt := 119) hx hb dX12_table_165 (by decide) ?_
                      exact ih_1052 ((j1052 + 1))  en_1061 ls H locs (by omega) (by omega) (by omega) hI_1061 hf_1061 (fun x => by rw [es1060_1061]; have h9 := tb_upd (a := 9 * tb) (b := 40 * K9 + I9) (j := j1052) (c := rdF (en 5)) (fun x => (show f_1060 x = rdF (en_1052 1) x from by rw [es1060]; rfl).trans (i0_1052 x)) x; rw [show rdF (en 5) (40 * K9 + I9 + j1052) = f_1040 (40 * K9 + I9 + j1052) from by rw [es1040]; rfl] at h9; exact h9) (hkp_1061) (lv_sub hl [0, 1, 2, 3, 4, 5] rfl) hh
                exact loop_1052 ((wd * wd) + 1) 0  en_1041 ls _ _ (Nat.le_refl _) (by omega) (by omega) hI_1041 hf_1041 (fun x => by rw [hkc1_1041, if_neg (by omega)]) (hkp_1041) (lv_sub hl [0, 1, 2, 3, 4, 5] rfl) hh
              · have n_1051 : tb = 6 := n_eq (a := tb) (b := 6) c_1051 (by omega) (by decide)
                refine lv_bipush (v := (-4)) hx hb dX12_table_113 (by decide) ?_
                exact hp_iretM hx hb hr rfl hlocks hh (⟨hI_1041, hf_1041, ⟨wd, tb, hwd2, hwd3, htb, (by rw [es1037]; rfl), (by rw [es1037]; rfl), Or.inr ⟨hag0, K9, rfl, by omega, Or.inr ⟨I9, rfl, by rw [show rdF (en 4) K9 = nI v_1045 from by rw [show rdF (en 4) = f_1039 from by rw [es1039]; rfl]; exact hfv_1045, nI_toInt (by omega)]; omega, by omega, Or.inr (Or.inl ⟨hok9, by omega, rfl, hkp_1041, hkc1_1041⟩)⟩⟩⟩⟩) dX12_table_115
            · have n_1050 : j1048 < (wd * wd) := n_nle (a := (wd * wd)) (b := j1048) c_1050 (by omega) (by omega)
              refine lv_aload_n hx hb dX12_table_68 rfl (lv_at hl 2 rfl) ?_
              refine hp_get hx hb hts ix12 hown hK hh (q := 0) rfl (hI.1 _ (by decide)) es1037_1041 rfl 9 (by decide) (hts _ tw_888) (fun _ h9 => h9) rfl dX12_table_69 ?_
              refine lv_bipush (v := 40) hx hb dX12_table_72 (by decide) ?_
              refine lv_iload_n hx hb dX12_table_74 rfl (lv_at hl 3 rfl) ?_
              refine lv_imul hx hb dX12_table_75 ?_
              rw [show (40 : Int32) = nI 40 from rfl, pk_mul 40 K9]
              refine lv_iload_n hx hb dX12_table_76 rfl (lv_at hl 5 rfl) ?_
              refine lv_iadd hx hb dX12_table_77 ?_
              rw [nI_add (40 * K9) I9]
              refine lv_iload hx hb dX12_table_78 (lv_at hl 0 rfl) ?_
              refine lv_iadd hx hb dX12_table_80 ?_
              rw [nI_add ((40 * K9) + I9) j1048]
              refine hp_iald hx hb hK hh (q := 5) rfl (hI.1 _ (by decide)) es1040_1041 (vp_in_nI (n := (((40 * K9) + I9) + j1048)) (by omega) (by decide)) dX12_table_81 ?_
              rw [nI_clamp (n := (((40 * K9) + I9) + j1048)) (by omega)]
              refine lv_i2l hx hb dX12_table_82 rfl ?_
              refine lv_ldc2 hx hb hown (hts _ tw_1001) dX12_table_83 ?_
              refine lv_ldc2 hx hb hown (hts _ tw_1002) dX12_table_86 ?_
              refine hp_callRi (va_runS (As := [.long ((f_1040 (((40 * K9) + I9) + j1048)).toInt64), .long (-9), .long 9]) (rest := []) ⟨hx, hb, hml, hown, hts⟩ (c_X12_within l D cy _ cs ad en_1041 ((f_1040 (((40 * K9) + I9) + j1048)).toInt64) (-9) 9) (kw_X12_within hts tw_985 ⟨by decide, by decide⟩) (preS_of hh hK) rfl rfl hl.1 rfl (lv_room (Nat.le_of_ble_eq_true rfl)) dX12_table_89 ⟨Nat.le_of_ble_eq_true rfl, Nat.le_of_ble_eq_true rfl⟩) hh hA (fun r_1062 H locs hw_1062 hh => ?_)
              rcases Decidable.em (wi (f_1040 (((40 * K9) + I9) + j1048)) (-9) 9) with hp_1062 | hp_1062
              · obtain rfl : r_1062 = 1 := Eq.trans hw_1062 (if_pos ((wj_32 (by decide) (by decide)).mpr hp_1062))
                refine lv_if_ne (tgt := 98) hx hb dX12_table_92 (by decide) (fun _ => ?_) (fun c_0 => absurd c_0 (by decide))
                refine lv_iinc (v := (nI (j1048 + 1))) (lv' := [(5, .int (nI (j1048 + 1))), (4, .int 0), (0, .ref (ad 0)), (1, .int (nI K9)), (2, .int la9), (3, .int (nI I9))]) hx hb dX12_table_98 hl (k := 0) rfl (nI_1 _) (by decide) rfl (fun ls hl => ?_)
                refine lv_goto (tgt := 54) hx hb dX12_table_101 (by decide) ?_
                exact ih_1048 ((j1048 + 1))  ls H locs (by omega) (by omega) (by omega) (fun x hx => (Nat.lt_or_ge x j1048).elim (fun h => i0_1048 x h) (fun h => by have e : x = j1048 := (by omega); rw [e]; exact hp_1062)) (lv_sub hl [0, 1, 2, 3, 4, 5] rfl) hh
              · obtain rfl : r_1062 = 0 := Eq.trans hw_1062 (if_neg (fun q => hp_1062 ((wj_32 (by decide) (by decide)).mp q)))
                refine lv_if_ne (tgt := 98) hx hb dX12_table_92 (by decide) (fun c_0 => absurd c_0 (by decide)) (fun _ => ?_)
                refine lv_bipush (v := (-2)) hx hb dX12_table_95 (by decide) ?_
                exact hp_iretM hx hb hr rfl hlocks hh (⟨hI_1041, hf_1041, ⟨wd, tb, hwd2, hwd3, htb, (by rw [es1037]; rfl), (by rw [es1037]; rfl), Or.inr ⟨hag0, K9, rfl, by omega, Or.inr ⟨I9, rfl, by rw [show rdF (en 4) K9 = nI v_1045 from by rw [show rdF (en 4) = f_1039 from by rw [es1039]; rfl]; exact hfv_1045, nI_toInt (by omega)]; omega, by omega, Or.inl ⟨fun q => hp_1062 (by have h9 := q j1048 (by omega); rw [show rdF (en 5) = f_1040 from by rw [es1040]; rfl] at h9; exact h9), rfl, hkp_1041, hkc1_1041⟩⟩⟩⟩⟩) dX12_table_97
        exact loop_1048 ((wd * wd) + 1) 0  ls _ _ (Nat.le_refl _) (by omega) (by omega) (fun x h => absurd h (Nat.not_lt_zero x)) (lv_sub hl [0, 1, 2, 3, 4, 5] rfl) hh
      · refine lv_aload_n hx hb dX12_table_45 rfl (lv_at hl 1 rfl) ?_
        refine lv_iconst (v := 3) hx hb dX12_table_46 (by decide) ?_
        refine hp_callMi (va_runV (As := [.int 3]) (rest := []) ⟨hx, hb, hml, hown, hts⟩ (c_X12_fails l D cy _ cs ad en_1041 (hI.1 _ (by decide)) 0 hi wd mo tb dp many grt lst nou rm rb pr wo 3 es1037_1041) (kw_X12_fails hts tw_997 ⟨by decide, by decide⟩) (preV_of hh hK (hI.1 _ (by decide)) es1037_1041 rfl) rfl rfl hl.1 rfl (lv_room (Nat.le_of_ble_eq_true rfl)) dX12_table_47 ⟨Nat.le_of_ble_eq_true rfl, Nat.le_of_ble_eq_true rfl⟩) hh hA (fun r_1063 H locs en_1063 hw_1063 hh => ?_)
        obtain ⟨hr_1063, hen_1063⟩ := hw_1063
        have es1038_1063 : en_1063 3 = .inl (cy 0, 4, .inl f_1038) := by rw [hen_1063, va_up_ne _ _ (by decide)]; exact es1038_1041
        have es1039_1063 : en_1063 4 = .inl (cy 0, 4, .inl f_1039) := by rw [hen_1063, va_up_ne _ _ (by decide)]; exact es1039_1041
        have es1040_1063 : en_1063 5 = .inl (cy 0, 160, .inl f_1040) := by rw [hen_1063, va_up_ne _ _ (by decide)]; exact es1040_1041
        have es1037_1063 : en_1063 0 = .inr (11, [.int 3, .int hi, .int (nI wd), .int (nI mo), .int (nI tb), .ref (ad 1), .ref (ad 2), .ref (ad 3), .ref (ad 4), .ref (ad 5), .ref (ad 6), .ref (ad 7), .ref (ad 8), .ref (ad 9), .int dp, .long many, .long grt, .long lst, .long nou, .ref (ad 10), .ref (ad 11), .ref (ad 12), .int rm, .long rb, .ref (ad 13), .int pr, .ref (ad 14), .ref (ad 15), .ref (ad 16), .ref (ad 17), .int (nI wo), .ref (ad 18), .ref (ad 19)]) := by rw [hen_1063]; exact va_up_self _ _ _
        have hI_1063 : RX cy cs ad en_1063 := by rw [hen_1063]; exact upr_M hI_1041 ⟨3, hi, wd, mo, tb, dp, many, grt, lst, nou, rm, rb, pr, wo, rfl, hwd2, hwd3, hmo, htb, hwo⟩
        have hf_1063 : ∀ c, (c ≠ 0 ∧ c ≠ 1) → en_1063 c = en c := fun c hc => Eq.trans (show en_1063 c = en_1041 c from by rw [hen_1063, va_up_ne _ _ (by omega)]) (hf_1041 c hc)
        have hkc1_1063 : en_1063 1 = en 1 := (show en_1063 1 = en_1041 1 from by rw [hen_1063, va_up_ne _ _ (by decide)]).trans hkc1_1041
        have hkp_1063 : KP en en_1063 := KP_fv hkp_1041 es1037_1041 es1037_1063 hi (nI wd) (nI mo) (nI tb) pr (nI wo) rfl rfl rfl rfl rfl rfl rfl rfl rfl rfl rfl rfl
        obtain rfl : r_1063 = (-13) := hr_1063.trans (by decide)
        exact hp_iretM hx hb hr rfl hlocks hh (⟨hI_1063, hf_1063, ⟨wd, tb, hwd2, hwd3, htb, (by rw [es1037]; rfl), (by rw [es1037]; rfl), Or.inr ⟨hag0, K9, rfl, by omega, Or.inl ⟨by rw [show rdF (en 4) K9 = nI v_1045 from by rw [show rdF (en 4) = f_1039 from by rw [es1039]; rfl]; exact hfv_1045]; exact ns_gt c_1047 (by omega) (by omega), rfl, hkp_1063, hkc1_1063⟩⟩⟩⟩) dX12_table_50
  · have hI_1042a := hI_1042
    have hf_1042 : ∀ c, (c ≠ 0 ∧ c ≠ 1) → en_1042 c = en c := fun c hc => (hu_1042 c (by omega)).trans (hf_1041 c hc)
    have hkp_1042 : KP en en_1042 := KP_tr hkp_1041 hkq_1042
    have hkc1_1042 : en_1042 1 = en 1 := (hu_1042 1 (by omega)).trans hkc1_1041
    refine lv_istore (lv' := [(4, .int r_1042), (0, .ref (ad 0)), (1, .int k9), (2, .int la9), (3, .int i9)]) hx hb dX12_table_11 hl (by decide) rfl (fun ls hl => ?_)
    refine lv_iload hx hb dX12_table_13 (lv_at hl 0 rfl) ?_
    refine lv_if_eq (tgt := 21) hx hb dX12_table_15 (by decide) (fun c_0 => absurd c_0 (hz_1042)) (fun _ => ?_)
    refine lv_iload hx hb dX12_table_18 (lv_at hl 0 rfl) ?_
    have hag9 : r_1042 = agF (rdF (en 3) k9.toNatClampNeg) k9 la9 := by rw [hr_1042, show en_1041 3 = en 3 from hf_1041 3 (by omega)]
    exact hp_iretM hx hb hr rfl hlocks hh (⟨hI_1042, hf_1042, ⟨wd, tb, hwd2, hwd3, htb, (by rw [es1037]; rfl), (by rw [es1037]; rfl), Or.inl ⟨fun q => hz_1042 (hag9.trans q), hag9, hkp_1042, hkc1_1042⟩⟩⟩) dX12_table_20
theorem kw_X12_table {R : Room} {s : State} {args : Array Value} {own : String} {idx : Nat} (hts : ∀ w ∈ TB, w.before args s = true) (hl : Cond.methodLink own idx yX12_table ∈ TB) (hR : 2 + 1 ≤ R.frames ∧ 8 + (6 + 11) + 40 * 2 ≤ R.locals) : CallW R s args own RX12 idx yX12_table cX12_table 6 (some .int) (Cond.code yX12_table cX12_table 6 (some .int) :: TB) (rmN 2) 0 0 3 := cwV 3 hts (TB_V hl tw_990 tw_991 tw_9 tw_992) rfl rfl rfl (by decide +kernel) hR
set_option maxHeartbeats 4000000 in
set_option maxRecDepth 100000 in
/-- entry -/
theorem c_X12_entry (l : Launch) (D : va_G) (cy : Nat → ClassId) (sz : Nat) (cs : List Nat) (ad : Nat → Nat) (en : Nat → va_E) (hI : RX cy cs ad en) (t a b : Int32)   : Met l yX12_entry (Cond.code yX12_entry cX12_entry 4 (some .long) :: TB) (rmN 2) (va_Pc [.ref (ad 0), .int t, .int a, .int b] (Pre D cy cs ad en sz)) (va_Ql (S := Unit) (fun r _ => XEN (fun x y => rdF (en 1) (9 * x + y)) t a b (rdI (en 0) 4) (rdI (en 0) 2) r) (fun _ _ => True) (Nf sz)) 0 0 (Nf sz) := by
  refine Met.ofW (cc := cX12_entry) (maxL := 4) (ret := (some .long)) (by decide) rfl ?_
  intro p e s m args below meth c s₁ B hml hv
  obtain ⟨rfl, hsz, hP, hK, hD0⟩ := hv
  have hx := B.exec
  have hb := B.bytes
  have hr := B.returns
  have hts : ∀ w ∈ TB, w.before _ s = true := fun w h => atoms_spec (ws := _ :: TB) B.pre w (List.mem_cons_of_mem _ h)
  have hown : s.vm.findClass RX12 = some m.cls := findClass_of_methodNamed B.named
  have hlocks := B.notSynchronized
  have hh : Hp D (Nf sz) (fun _ => True) s.heap s.heap [] cs ad en := ⟨hP, hD0, va_S.rf⟩
  have hA : ∀ q : Nat, s.heap.size ≤ q → Nf sz q := fun q h => by rw [hsz] at h; exact h
  have hl := lv_entry ([.ref (ad 0), .int t, .int a, .int b]) (n := 4) (Nat.le_of_ble_eq_true rfl)
  rw [lg_entry_eq]
  generalize (lg_sl ([.ref (ad 0), .int t, .int a, .int b]) ++ List.replicate (4 - (lg_sl ([.ref (ad 0), .int t, .int a, .int b])).length) Slot.unset).toArray = ls at hl ⊢
  have hl : lv_has ls 4 [(0, .ref (ad 0)), (1, .int t), (2, .int a), (3, .int b)] := hl
  obtain ⟨fa, hi, wd, mo, tb, dp, many, grt, lst, nou, rm, rb, pr, wo, es1064, hwd2, hwd3, hmo, htb, hwo⟩ := getr_M hI
  obtain ⟨f_1065, es1065⟩ := getr_E hI
  refine lv_aload_n hx hb dX12_entry_0 rfl (lv_at hl 0 rfl) ?_
  refine lv_iload_n hx hb dX12_entry_1 rfl (lv_at hl 1 rfl) ?_
  refine hp_callRi (va_runV (As := [.int t]) (rest := []) ⟨hx, hb, hml, hown, hts⟩ (c_X12_isTable l D cy _ cs ad en hI t ) (kw_X12_isTable hts tw_1007 ⟨by decide, by decide⟩) (preV_of hh hK (hI.1 _ (by decide)) es1064 rfl) rfl rfl hl.1 rfl (lv_room (Nat.le_of_ble_eq_true rfl)) dX12_entry_2 ⟨Nat.le_of_ble_eq_true rfl, Nat.le_of_ble_eq_true rfl⟩) hh hA (fun r_1066 H locs hw_1066 hh => ?_)
  rw [show rdI (en 0) 4 = (nI tb) from by rw [es1064]; rfl, nI_toInt (n := tb) (by omega)] at hw_1066
  rcases Decidable.em (0 ≤ t.toInt ∧ t.toInt < (tb : Int)) with hp_1066 | hp_1066
  · obtain rfl : r_1066 = 1 := Eq.trans hw_1066 (if_pos hp_1066)
    obtain ⟨T_1066, rfl, hT_1066⟩ := has_nat hp_1066
    refine lv_if_eq (tgt := 39) hx hb dX12_entry_5 (by decide) (fun c_0 => absurd c_0 (by decide)) (fun _ => ?_)
    refine lv_aload_n hx hb dX12_entry_8 rfl (lv_at hl 0 rfl) ?_
    refine lv_iload_n hx hb dX12_entry_9 rfl (lv_at hl 2 rfl) ?_
    refine lv_iload_n hx hb dX12_entry_10 rfl (lv_at hl 3 rfl) ?_
    refine hp_callRi (va_runV (As := [.int a, .int b]) (rest := []) ⟨hx, hb, hml, hown, hts⟩ (c_X12_isPlace l D cy _ cs ad en hI a b ) (kw_X12_isPlace hts tw_1011 ⟨by decide, by decide⟩) (preV_of hh hK (hI.1 _ (by decide)) es1064 rfl) rfl rfl hl.1 rfl (lv_room (Nat.le_of_ble_eq_true rfl)) dX12_entry_11 ⟨Nat.le_of_ble_eq_true rfl, Nat.le_of_ble_eq_true rfl⟩) hh hA (fun r_1067 H locs hw_1067 hh => ?_)
    rw [show (rdI (en 0) 2).toInt = (wd : Int) from by rw [es1064]; exact nI_toInt (by omega)] at hw_1067
    rcases Decidable.em ((0 ≤ a.toInt ∧ a.toInt < (wd : Int)) ∧ 0 ≤ b.toInt ∧ b.toInt < (wd : Int)) with hp_1067 | hp_1067
    · obtain rfl : r_1067 = 1 := Eq.trans hw_1067 (if_pos hp_1067)
      obtain ⟨A_1067, rfl, hA_1067⟩ := has_nat hp_1067.1
      obtain ⟨B_1067, rfl, hB_1067⟩ := has_nat hp_1067.2
      refine lv_if_eq (tgt := 39) hx hb dX12_entry_14 (by decide) (fun c_0 => absurd c_0 (by decide)) (fun _ => ?_)
      refine lv_aload_n hx hb dX12_entry_17 rfl (lv_at hl 0 rfl) ?_
      refine hp_get hx hb hts ix12 hown hK hh (q := 0) rfl (hI.1 _ (by decide)) es1064 rfl 5 (by decide) (hts _ tw_884) (fun _ h9 => h9) rfl dX12_entry_18 ?_
      refine lv_bipush (v := 9) hx hb dX12_entry_21 (by decide) ?_
      refine lv_iload_n hx hb dX12_entry_23 rfl (lv_at hl 1 rfl) ?_
      refine lv_imul hx hb dX12_entry_24 ?_
      rw [show (9 : Int32) = nI 9 from rfl, pk_mul 9 T_1066]
      refine lv_aload_n hx hb dX12_entry_25 rfl (lv_at hl 0 rfl) ?_
      refine hp_get hx hb hts ix12 hown hK hh (q := 0) rfl (hI.1 _ (by decide)) es1064 rfl 2 (by decide) (hts _ tw_881) (fun _ h9 => h9) rfl dX12_entry_26 ?_
      refine lv_iload_n hx hb dX12_entry_29 rfl (lv_at hl 2 rfl) ?_
      refine lv_imul hx hb dX12_entry_30 ?_
      rw [pk_mul wd A_1067]
      refine lv_iadd hx hb dX12_entry_31 ?_
      rw [nI_add (9 * T_1066) (wd * A_1067)]
      refine lv_iload_n hx hb dX12_entry_32 rfl (lv_at hl 3 rfl) ?_
      refine lv_iadd hx hb dX12_entry_33 ?_
      rw [nI_add ((9 * T_1066) + (wd * A_1067)) B_1067]
      have hi_1068 : wd * A_1067 + B_1067 < 9 := mdr (by omega) (by omega) (by omega)
      refine hp_iald hx hb hK hh (q := 1) rfl (hI.1 _ (by decide)) es1065 (vp_in_nI (n := (((9 * T_1066) + (wd * A_1067)) + B_1067)) (by omega) (by decide)) dX12_entry_34 ?_
      rw [nI_clamp (n := (((9 * T_1066) + (wd * A_1067)) + B_1067)) (by omega)]
      refine lv_i2l hx hb dX12_entry_35 rfl ?_
      refine lv_goto (tgt := 42) hx hb dX12_entry_36 (by decide) ?_
      have hc4 : (rdI (en 0) 4).toInt = (tb : Int) := by rw [es1064]; exact nI_toInt (by omega)
      have hc2 : (rdI (en 0) 2).toInt = (wd : Int) := by rw [es1064]; exact nI_toInt (by omega)
      exact hp_lretR hx hb hr hlocks hsz hh (Or.inl ⟨⟨⟨hp_1066.1, by have := hp_1066.2; omega⟩, ⟨hp_1067.1.1, by have := hp_1067.1.2; omega⟩, ⟨hp_1067.2.1, by have := hp_1067.2.2; omega⟩⟩, (by rw [show rdI (en 0) 2 = nI wd from by rw [es1064]; rfl, nI_clamp (n := T_1066) (by omega), nI_clamp (n := A_1067) (by omega), nI_clamp (n := B_1067) (by omega), nI_clamp (n := wd) (by omega), show rdF (en 1) = f_1065 from by rw [es1065]; rfl, Nat.mul_comm A_1067 wd, Nat.add_assoc])⟩) dX12_entry_42
    · obtain rfl : r_1067 = 0 := Eq.trans hw_1067 (if_neg hp_1067)
      refine lv_if_eq (tgt := 39) hx hb dX12_entry_14 (by decide) (fun _ => ?_) (fun c_0 => absurd c_0 (by decide))
      refine lv_ldc2 hx hb hown (hts _ tw_1015) dX12_entry_39 ?_
      have hc4 : (rdI (en 0) 4).toInt = (tb : Int) := by rw [es1064]; exact nI_toInt (by omega)
      have hc2 : (rdI (en 0) 2).toInt = (wd : Int) := by rw [es1064]; exact nI_toInt (by omega)
      exact hp_lretR hx hb hr hlocks hsz hh (Or.inr ⟨fun q => hp_1067 ⟨⟨q.2.1.1, by have := q.2.1.2; omega⟩, ⟨q.2.2.1, by have := q.2.2.2; omega⟩⟩, rfl⟩) dX12_entry_42
  · obtain rfl : r_1066 = 0 := Eq.trans hw_1066 (if_neg hp_1066)
    refine lv_if_eq (tgt := 39) hx hb dX12_entry_5 (by decide) (fun _ => ?_) (fun c_0 => absurd c_0 (by decide))
    refine lv_ldc2 hx hb hown (hts _ tw_1015) dX12_entry_39 ?_
    have hc4 : (rdI (en 0) 4).toInt = (tb : Int) := by rw [es1064]; exact nI_toInt (by omega)
    have hc2 : (rdI (en 0) 2).toInt = (wd : Int) := by rw [es1064]; exact nI_toInt (by omega)
    exact hp_lretR hx hb hr hlocks hsz hh (Or.inr ⟨fun q => hp_1066 ⟨q.1.1, by have := q.1.2; omega⟩, rfl⟩) dX12_entry_42
theorem kw_X12_entry {R : Room} {s : State} {args : Array Value} {own : String} {idx : Nat} (hts : ∀ w ∈ TB, w.before args s = true) (hl : Cond.methodLink own idx yX12_entry ∈ TB) (hR : 2 + 1 ≤ R.frames ∧ 8 + (4 + 11) + 40 * 2 ≤ R.locals) : CallW R s args own RX12 idx yX12_entry cX12_entry 4 (some .long) (Cond.code yX12_entry cX12_entry 4 (some .long) :: TB) (rmN 2) 0 0 3 := cwV 3 hts (TB_V hl tw_1004 tw_1005 tw_9 tw_1006) rfl rfl rfl (by decide +kernel) hR
set_option maxHeartbeats 4000000 in
set_option maxRecDepth 100000 in
/-- may -/
theorem c_X12_may (l : Launch) (D : va_G) (cy : Nat → ClassId) (sz : Nat) (cs : List Nat) (ad : Nat → Nat) (en : Nat → va_E) (hI : RX cy cs ad en) (a b z : Int32) (hz : z = 0 ∨ z = 1)   : Met l yX12_may (Cond.code yX12_may cX12_may 5 (some .int) :: TB) (rmN 1) (va_Pc [.ref (ad 0), .int a, .int b, .int z] (Pre D cy cs ad en sz)) (va_Qi (S := Nat → va_E) (fun r en1 => RX cy cs ad en1 ∧ (∀ c, (c ≠ 2) → en1 c = en c) ∧ RMA a b z r en en1) (PostM D cs ad) (Af cs ad sz)) 0 0 (Af cs ad sz) := by
  refine Met.ofW (cc := cX12_may) (maxL := 5) (ret := (some .int)) (by decide) rfl ?_
  intro p e s m args below meth c s₁ B hml hv
  obtain ⟨rfl, hsz, hP, hK, hD0⟩ := hv
  have hx := B.exec
  have hb := B.bytes
  have hr := B.returns
  have hts : ∀ w ∈ TB, w.before _ s = true := fun w h => atoms_spec (ws := _ :: TB) B.pre w (List.mem_cons_of_mem _ h)
  have hown : s.vm.findClass RX12 = some m.cls := findClass_of_methodNamed B.named
  have hlocks := B.notSynchronized
  have hh : Hp D (Af cs ad sz) (Af cs ad sz) s.heap s.heap [] cs ad en := ⟨hP, Af_self hD0, va_S.rf⟩
  have hA : ∀ q : Nat, s.heap.size ≤ q → Af cs ad sz q := fun q h => Or.inr (by rw [hsz] at h; exact h)
  have hl := lv_entry ([.ref (ad 0), .int a, .int b, .int z]) (n := 5) (Nat.le_of_ble_eq_true rfl)
  rw [lg_entry_eq]
  generalize (lg_sl ([.ref (ad 0), .int a, .int b, .int z]) ++ List.replicate (5 - (lg_sl ([.ref (ad 0), .int a, .int b, .int z])).length) Slot.unset).toArray = ls at hl ⊢
  have hl : lv_has ls 5 [(0, .ref (ad 0)), (1, .int a), (2, .int b), (3, .int z)] := hl
  have hf0 : ∀ c, (c ≠ 2) → en c = en c := fun _ _ => rfl
  obtain ⟨fa, hi, wd, mo, tb, dp, many, grt, lst, nou, rm, rb, pr, wo, es1069, hwd2, hwd3, hmo, htb, hwo⟩ := getr_M hI
  obtain ⟨f_1070, es1070, p0_1070⟩ := getr_mn hI
  refine lv_aload_n hx hb dX12_may_0 rfl (lv_at hl 0 rfl) ?_
  refine lv_iload_n hx hb dX12_may_1 rfl (lv_at hl 1 rfl) ?_
  refine hp_callRi (va_runV (As := [.int a]) (rest := []) ⟨hx, hb, hml, hown, hts⟩ (c_X12_isTable l D cy _ cs ad en hI a ) (kw_X12_isTable hts tw_1007 ⟨by decide, by decide⟩) (preV_of hh hK (hI.1 _ (by decide)) es1069 rfl) rfl rfl hl.1 rfl (lv_room (Nat.le_of_ble_eq_true rfl)) dX12_may_2 ⟨Nat.le_of_ble_eq_true rfl, Nat.le_of_ble_eq_true rfl⟩) hh hA (fun r_1071 H locs hw_1071 hh => ?_)
  rw [show rdI (en 0) 4 = (nI tb) from by rw [es1069]; rfl, nI_toInt (n := tb) (by omega)] at hw_1071
  rcases Decidable.em (0 ≤ a.toInt ∧ a.toInt < (tb : Int)) with hp_1071 | hp_1071
  · obtain rfl : r_1071 = 1 := Eq.trans hw_1071 (if_pos hp_1071)
    obtain ⟨T_1071, rfl, hT_1071⟩ := has_nat hp_1071
    refine lv_if_eq (tgt := 16) hx hb dX12_may_5 (by decide) (fun c_0 => absurd c_0 (by decide)) (fun _ => ?_)
    refine lv_aload_n hx hb dX12_may_8 rfl (lv_at hl 0 rfl) ?_
    refine lv_iload_n hx hb dX12_may_9 rfl (lv_at hl 2 rfl) ?_
    refine hp_callRi (va_runV (As := [.int b]) (rest := []) ⟨hx, hb, hml, hown, hts⟩ (c_X12_isTable l D cy _ cs ad en hI b ) (kw_X12_isTable hts tw_1007 ⟨by decide, by decide⟩) (preV_of hh hK (hI.1 _ (by decide)) es1069 rfl) rfl rfl hl.1 rfl (lv_room (Nat.le_of_ble_eq_true rfl)) dX12_may_10 ⟨Nat.le_of_ble_eq_true rfl, Nat.le_of_ble_eq_true rfl⟩) hh hA (fun r_1072 H locs hw_1072 hh => ?_)
    rw [show rdI (en 0) 4 = (nI tb) from by rw [es1069]; rfl, nI_toInt (n := tb) (by omega)] at hw_1072
    rcases Decidable.em (0 ≤ b.toInt ∧ b.toInt < (tb : Int)) with hp_1072 | hp_1072
    · obtain rfl : r_1072 = 1 := Eq.trans hw_1072 (if_pos hp_1072)
      obtain ⟨T_1072, rfl, hT_1072⟩ := has_nat hp_1072
      refine lv_if_ne (tgt := 18) hx hb dX12_may_13 (by decide) (fun _ => ?_) (fun c_0 => absurd c_0 (by decide))
      refine lv_aload_n hx hb dX12_may_18 rfl (lv_at hl 0 rfl) ?_
      refine hp_get hx hb hts ix12 hown hK hh (q := 0) rfl (hI.1 _ (by decide)) es1069 rfl 6 (by decide) (hts _ tw_885) (fun _ h9 => h9) rfl dX12_may_19 ?_
      refine lv_bipush (v := 6) hx hb dX12_may_22 (by decide) ?_
      refine lv_iload_n hx hb dX12_may_24 rfl (lv_at hl 1 rfl) ?_
      refine lv_imul hx hb dX12_may_25 ?_
      rw [show (6 : Int32) = nI 6 from rfl, pk_mul 6 T_1071]
      refine lv_iload_n hx hb dX12_may_26 rfl (lv_at hl 2 rfl) ?_
      refine lv_iadd hx hb dX12_may_27 ?_
      rw [nI_add (6 * T_1071) T_1072]
      refine hp_zald hx hb hK hh (q := 2) rfl (hI.1 _ (by decide)) es1070 (vp_in_nI (n := ((6 * T_1071) + T_1072)) (by omega) (by decide)) dX12_may_28 ?_
      rw [nI_clamp (n := ((6 * T_1071) + T_1072)) (by omega)]
      refine lv_iload_n hx hb dX12_may_29 rfl (lv_at hl 3 rfl) ?_
      refine lv_icmp_ne (tgt := 37) hx hb dX12_may_30 (by decide) (fun c_1073 => ?_) (fun c_1073 => ?_)
      · refine lv_iconst (v := 0) hx hb dX12_may_37 (by decide) ?_
        refine lv_istore (lv' := [(4, .int 0), (0, .ref (ad 0)), (1, .int (nI T_1071)), (2, .int (nI T_1072)), (3, .int z)]) hx hb dX12_may_38 hl (by decide) rfl (fun ls hl => ?_)
        refine lv_aload_n hx hb dX12_may_40 rfl (lv_at hl 1 rfl) ?_
        refine hp_get hx hb hts ix12 hown hK hh (q := 0) rfl (hI.1 _ (by decide)) es1069 rfl 6 (by decide) (hts _ tw_885) (fun _ h9 => h9) rfl dX12_may_41 ?_
        refine lv_bipush (v := 6) hx hb dX12_may_44 (by decide) ?_
        refine lv_iload_n hx hb dX12_may_46 rfl (lv_at hl 2 rfl) ?_
        refine lv_imul hx hb dX12_may_47 ?_
        rw [show (6 : Int32) = nI 6 from rfl, pk_mul 6 T_1071]
        refine lv_iload_n hx hb dX12_may_48 rfl (lv_at hl 3 rfl) ?_
        refine lv_iadd hx hb dX12_may_49 ?_
        rw [nI_add (6 * T_1071) T_1072]
        refine lv_iload_n hx hb dX12_may_50 rfl (lv_at hl 4 rfl) ?_
        refine lv_if_ne (tgt := 58) hx hb dX12_may_51 (by decide) (fun c_1074 => ?_) (fun c_1074 => ?_)
        · refine lv_iconst (v := 0) hx hb dX12_may_58 (by decide) ?_
          refine hp_zast hx hb hK hh (q := 2) rfl (hI.1 _ (by decide)) es1070 (vp_in_nI (n := ((6 * T_1071) + T_1072)) (by omega) (by decide)) dX12_may_59 (fun H locs en_1075 hen_1075 hh => ?_)
          rw [nI_clamp (n := ((6 * T_1071) + T_1072)) (by omega)] at hen_1075
          have es1069_1075 : en_1075 0 = .inr (11, [.int fa, .int hi, .int (nI wd), .int (nI mo), .int (nI tb), .ref (ad 1), .ref (ad 2), .ref (ad 3), .ref (ad 4), .ref (ad 5), .ref (ad 6), .ref (ad 7), .ref (ad 8), .ref (ad 9), .int dp, .long many, .long grt, .long lst, .long nou, .ref (ad 10), .ref (ad 11), .ref (ad 12), .int rm, .long rb, .ref (ad 13), .int pr, .ref (ad 14), .ref (ad 15), .ref (ad 16), .ref (ad 17), .int (nI wo), .ref (ad 18), .ref (ad 19)]) := by rw [hen_1075, va_up_ne _ _ (by decide)]; exact es1069
          have es1070_1075 : en_1075 2 = .inl (cy 2, 36, .inl (upd f_1070 ((6 * T_1071) + T_1072) (vp_nar .boolean 0))) := by rw [hen_1075]; exact va_up_self _ _ _
          have hI_1075 : RX cy cs ad en_1075 := by rw [hen_1075]; exact upr_mn hI ⟨(upd f_1070 ((6 * T_1071) + T_1072) (vp_nar .boolean 0)), rfl, (bits_upd p0_1070 (Or.inl rfl))⟩
          have hf_1075 : ∀ c, (c ≠ 2) → en_1075 c = en c := fun c hc => Eq.trans (show en_1075 c = en c from by rw [hen_1075, va_up_ne _ _ (by omega)]) (hf0 c hc)
          refine lv_iload hx hb dX12_may_60 (lv_at hl 0 rfl) ?_
          have hc4 : (rdI (en 0) 4).toInt = (tb : Int) := by rw [es1069]; exact nI_toInt (by omega)
          exact hp_iretM hx hb hr rfl hlocks hh (⟨hI_1075, hf_1075, Or.inr ⟨T_1071, T_1072, rfl, rfl, by omega, by omega, ⟨hp_1071.1, by have := hp_1071.2; omega⟩, ⟨hp_1072.1, by have := hp_1072.2; omega⟩, Or.inr ⟨fun q => c_1073 ((show rdF (en 2) (6 * T_1071 + T_1072) = f_1070 (6 * T_1071 + T_1072) from by rw [es1070]; rfl).symm.trans q), rfl⟩, Or.inr ⟨c_1074, (by rw [es1070_1075, es1070]; rfl)⟩⟩⟩) dX12_may_62
        · refine lv_iconst (v := 1) hx hb dX12_may_54 (by decide) ?_
          refine lv_goto (tgt := 59) hx hb dX12_may_55 (by decide) ?_
          refine hp_zast hx hb hK hh (q := 2) rfl (hI.1 _ (by decide)) es1070 (vp_in_nI (n := ((6 * T_1071) + T_1072)) (by omega) (by decide)) dX12_may_59 (fun H locs en_1076 hen_1076 hh => ?_)
          rw [nI_clamp (n := ((6 * T_1071) + T_1072)) (by omega)] at hen_1076
          have es1069_1076 : en_1076 0 = .inr (11, [.int fa, .int hi, .int (nI wd), .int (nI mo), .int (nI tb), .ref (ad 1), .ref (ad 2), .ref (ad 3), .ref (ad 4), .ref (ad 5), .ref (ad 6), .ref (ad 7), .ref (ad 8), .ref (ad 9), .int dp, .long many, .long grt, .long lst, .long nou, .ref (ad 10), .ref (ad 11), .ref (ad 12), .int rm, .long rb, .ref (ad 13), .int pr, .ref (ad 14), .ref (ad 15), .ref (ad 16), .ref (ad 17), .int (nI wo), .ref (ad 18), .ref (ad 19)]) := by rw [hen_1076, va_up_ne _ _ (by decide)]; exact es1069
          have es1070_1076 : en_1076 2 = .inl (cy 2, 36, .inl (upd f_1070 ((6 * T_1071) + T_1072) (vp_nar .boolean 1))) := by rw [hen_1076]; exact va_up_self _ _ _
          have hI_1076 : RX cy cs ad en_1076 := by rw [hen_1076]; exact upr_mn hI ⟨(upd f_1070 ((6 * T_1071) + T_1072) (vp_nar .boolean 1)), rfl, (bits_upd p0_1070 (Or.inr rfl))⟩
          have hf_1076 : ∀ c, (c ≠ 2) → en_1076 c = en c := fun c hc => Eq.trans (show en_1076 c = en c from by rw [hen_1076, va_up_ne _ _ (by omega)]) (hf0 c hc)
          refine lv_iload hx hb dX12_may_60 (lv_at hl 0 rfl) ?_
          have hc4 : (rdI (en 0) 4).toInt = (tb : Int) := by rw [es1069]; exact nI_toInt (by omega)
          exact hp_iretM hx hb hr rfl hlocks hh (⟨hI_1076, hf_1076, Or.inr ⟨T_1071, T_1072, rfl, rfl, by omega, by omega, ⟨hp_1071.1, by have := hp_1071.2; omega⟩, ⟨hp_1072.1, by have := hp_1072.2; omega⟩, Or.inr ⟨fun q => c_1073 ((show rdF (en 2) (6 * T_1071 + T_1072) = f_1070 (6 * T_1071 + T_1072) from by rw [es1070]; rfl).symm.trans q), rfl⟩, Or.inl ⟨c_1074, (by rw [es1070_1076, es1070]; rfl)⟩⟩⟩) dX12_may_62
      · refine lv_iconst (v := 1) hx hb dX12_may_33 (by decide) ?_
        refine lv_goto (tgt := 38) hx hb dX12_may_34 (by decide) ?_
        refine lv_istore (lv' := [(4, .int 1), (0, .ref (ad 0)), (1, .int (nI T_1071)), (2, .int (nI T_1072)), (3, .int z)]) hx hb dX12_may_38 hl (by decide) rfl (fun ls hl => ?_)
        refine lv_aload_n hx hb dX12_may_40 rfl (lv_at hl 1 rfl) ?_
        refine hp_get hx hb hts ix12 hown hK hh (q := 0) rfl (hI.1 _ (by decide)) es1069 rfl 6 (by decide) (hts _ tw_885) (fun _ h9 => h9) rfl dX12_may_41 ?_
        refine lv_bipush (v := 6) hx hb dX12_may_44 (by decide) ?_
        refine lv_iload_n hx hb dX12_may_46 rfl (lv_at hl 2 rfl) ?_
        refine lv_imul hx hb dX12_may_47 ?_
        rw [show (6 : Int32) = nI 6 from rfl, pk_mul 6 T_1071]
        refine lv_iload_n hx hb dX12_may_48 rfl (lv_at hl 3 rfl) ?_
        refine lv_iadd hx hb dX12_may_49 ?_
        rw [nI_add (6 * T_1071) T_1072]
        refine lv_iload_n hx hb dX12_may_50 rfl (lv_at hl 4 rfl) ?_
        refine lv_if_ne (tgt := 58) hx hb dX12_may_51 (by decide) (fun c_1077 => ?_) (fun c_1077 => ?_)
        · refine lv_iconst (v := 0) hx hb dX12_may_58 (by decide) ?_
          refine hp_zast hx hb hK hh (q := 2) rfl (hI.1 _ (by decide)) es1070 (vp_in_nI (n := ((6 * T_1071) + T_1072)) (by omega) (by decide)) dX12_may_59 (fun H locs en_1078 hen_1078 hh => ?_)
          rw [nI_clamp (n := ((6 * T_1071) + T_1072)) (by omega)] at hen_1078
          have es1069_1078 : en_1078 0 = .inr (11, [.int fa, .int hi, .int (nI wd), .int (nI mo), .int (nI tb), .ref (ad 1), .ref (ad 2), .ref (ad 3), .ref (ad 4), .ref (ad 5), .ref (ad 6), .ref (ad 7), .ref (ad 8), .ref (ad 9), .int dp, .long many, .long grt, .long lst, .long nou, .ref (ad 10), .ref (ad 11), .ref (ad 12), .int rm, .long rb, .ref (ad 13), .int pr, .ref (ad 14), .ref (ad 15), .ref (ad 16), .ref (ad 17), .int (nI wo), .ref (ad 18), .ref (ad 19)]) := by rw [hen_1078, va_up_ne _ _ (by decide)]; exact es1069
          have es1070_1078 : en_1078 2 = .inl (cy 2, 36, .inl (upd f_1070 ((6 * T_1071) + T_1072) (vp_nar .boolean 0))) := by rw [hen_1078]; exact va_up_self _ _ _
          have hI_1078 : RX cy cs ad en_1078 := by rw [hen_1078]; exact upr_mn hI ⟨(upd f_1070 ((6 * T_1071) + T_1072) (vp_nar .boolean 0)), rfl, (bits_upd p0_1070 (Or.inl rfl))⟩
          have hf_1078 : ∀ c, (c ≠ 2) → en_1078 c = en c := fun c hc => Eq.trans (show en_1078 c = en c from by rw [hen_1078, va_up_ne _ _ (by omega)]) (hf0 c hc)
          refine lv_iload hx hb dX12_may_60 (lv_at hl 0 rfl) ?_
          have hc4 : (rdI (en 0) 4).toInt = (tb : Int) := by rw [es1069]; exact nI_toInt (by omega)
          exact hp_iretM hx hb hr rfl hlocks hh (⟨hI_1078, hf_1078, Or.inr ⟨T_1071, T_1072, rfl, rfl, by omega, by omega, ⟨hp_1071.1, by have := hp_1071.2; omega⟩, ⟨hp_1072.1, by have := hp_1072.2; omega⟩, Or.inl ⟨(show rdF (en 2) (6 * T_1071 + T_1072) = f_1070 (6 * T_1071 + T_1072) from by rw [es1070]; rfl).trans c_1073, rfl⟩, Or.inr ⟨c_1077, (by rw [es1070_1078, es1070]; rfl)⟩⟩⟩) dX12_may_62
        · refine lv_iconst (v := 1) hx hb dX12_may_54 (by decide) ?_
          refine lv_goto (tgt := 59) hx hb dX12_may_55 (by decide) ?_
          refine hp_zast hx hb hK hh (q := 2) rfl (hI.1 _ (by decide)) es1070 (vp_in_nI (n := ((6 * T_1071) + T_1072)) (by omega) (by decide)) dX12_may_59 (fun H locs en_1079 hen_1079 hh => ?_)
          rw [nI_clamp (n := ((6 * T_1071) + T_1072)) (by omega)] at hen_1079
          have es1069_1079 : en_1079 0 = .inr (11, [.int fa, .int hi, .int (nI wd), .int (nI mo), .int (nI tb), .ref (ad 1), .ref (ad 2), .ref (ad 3), .ref (ad 4), .ref (ad 5), .ref (ad 6), .ref (ad 7), .ref (ad 8), .ref (ad 9), .int dp, .long many, .long grt, .long lst, .long nou, .ref (ad 10), .ref (ad 11), .ref (ad 12), .int rm, .long rb, .ref (ad 13), .int pr, .ref (ad 14), .ref (ad 15), .ref (ad 16), .ref (ad 17), .int (nI wo), .ref (ad 18), .ref (ad 19)]) := by rw [hen_1079, va_up_ne _ _ (by decide)]; exact es1069
          have es1070_1079 : en_1079 2 = .inl (cy 2, 36, .inl (upd f_1070 ((6 * T_1071) + T_1072) (vp_nar .boolean 1))) := by rw [hen_1079]; exact va_up_self _ _ _
          have hI_1079 : RX cy cs ad en_1079 := by rw [hen_1079]; exact upr_mn hI ⟨(upd f_1070 ((6 * T_1071) + T_1072) (vp_nar .boolean 1)), rfl, (bits_upd p0_1070 (Or.inr rfl))⟩
          have hf_1079 : ∀ c, (c ≠ 2) → en_1079 c = en c := fun c hc => Eq.trans (show en_1079 c = en c from by rw [hen_1079, va_up_ne _ _ (by omega)]) (hf0 c hc)
          refine lv_iload hx hb dX12_may_60 (lv_at hl 0 rfl) ?_
          have hc4 : (rdI (en 0) 4).toInt = (tb : Int) := by rw [es1069]; exact nI_toInt (by omega)
          exact hp_iretM hx hb hr rfl hlocks hh (⟨hI_1079, hf_1079, Or.inr ⟨T_1071, T_1072, rfl, rfl, by omega, by omega, ⟨hp_1071.1, by have := hp_1071.2; omega⟩, ⟨hp_1072.1, by have := hp_1072.2; omega⟩, Or.inl ⟨(show rdF (en 2) (6 * T_1071 + T_1072) = f_1070 (6 * T_1071 + T_1072) from by rw [es1070]; rfl).trans c_1073, rfl⟩, Or.inl ⟨c_1077, (by rw [es1070_1079, es1070]; rfl)⟩⟩⟩) dX12_may_62
    · obtain rfl : r_1072 = 0 := Eq.trans hw_1072 (if_neg hp_1072)
      refine lv_if_ne (tgt := 18) hx hb dX12_may_13 (by decide) (fun c_0 => absurd c_0 (by decide)) (fun _ => ?_)
      refine lv_iconst (v := (-1)) hx hb dX12_may_16 (by decide) ?_
      have hc4 : (rdI (en 0) 4).toInt = (tb : Int) := by rw [es1069]; exact nI_toInt (by omega)
      exact hp_iretM hx hb hr rfl hlocks hh (⟨hI, hf0, Or.inl ⟨fun q => hp_1072 ⟨q.2.1, by have := q.2.2; omega⟩, rfl, rfl⟩⟩) dX12_may_17
  · obtain rfl : r_1071 = 0 := Eq.trans hw_1071 (if_neg hp_1071)
    refine lv_if_eq (tgt := 16) hx hb dX12_may_5 (by decide) (fun _ => ?_) (fun c_0 => absurd c_0 (by decide))
    refine lv_iconst (v := (-1)) hx hb dX12_may_16 (by decide) ?_
    have hc4 : (rdI (en 0) 4).toInt = (tb : Int) := by rw [es1069]; exact nI_toInt (by omega)
    exact hp_iretM hx hb hr rfl hlocks hh (⟨hI, hf0, Or.inl ⟨fun q => hp_1071 ⟨q.1.1, by have := q.1.2; omega⟩, rfl, rfl⟩⟩) dX12_may_17
theorem kw_X12_may {R : Room} {s : State} {args : Array Value} {own : String} {idx : Nat} (hts : ∀ w ∈ TB, w.before args s = true) (hl : Cond.methodLink own idx yX12_may ∈ TB) (hR : 1 + 1 ≤ R.frames ∧ 8 + (5 + 11) + 40 * 1 ≤ R.locals) : CallW R s args own RX12 idx yX12_may cX12_may 5 (some .int) (Cond.code yX12_may cX12_may 5 (some .int) :: TB) (rmN 1) 0 0 3 := cwV 3 hts (TB_V hl tw_1017 tw_1018 tw_9 tw_1019) rfl rfl rfl (by decide +kernel) hR
set_option maxHeartbeats 4000000 in
set_option maxRecDepth 100000 in
/-- isSpent -/
theorem c_X12_isSpent (l : Launch) (D : va_G) (cy : Nat → ClassId) (sz : Nat) (cs : List Nat) (ad : Nat → Nat) (en : Nat → va_E) (hI : RX cy cs ad en) (n : Nat) (hn : n ≤ 8)   : Met l yX12_isSpent (Cond.code yX12_isSpent cX12_isSpent 5 (some .boolean) :: TB) (rmN 1) (va_Pc [.ref (ad 0), .int (nI n)] (Pre D cy cs ad en sz)) (va_Qi (S := Nat → va_E) (fun r en1 => RX cy cs ad en1 ∧ (∀ c, (c ≠ 8 ∧ c ≠ 9) → en1 c = en c) ∧ (r = 0 ∨ r = 1)) (PostM D cs ad) (Af cs ad sz)) 0 0 (Af cs ad sz) := by
  refine Met.ofW (cc := cX12_isSpent) (maxL := 5) (ret := (some .boolean)) (by decide) rfl ?_
  intro p e s m args below meth c s₁ B hml hv
  obtain ⟨rfl, hsz, hP, hK, hD0⟩ := hv
  have hx := B.exec
  have hb := B.bytes
  have hr := B.returns
  have hts : ∀ w ∈ TB, w.before _ s = true := fun w h => atoms_spec (ws := _ :: TB) B.pre w (List.mem_cons_of_mem _ h)
  have hown : s.vm.findClass RX12 = some m.cls := findClass_of_methodNamed B.named
  have hlocks := B.notSynchronized
  have hh : Hp D (Af cs ad sz) (Af cs ad sz) s.heap s.heap [] cs ad en := ⟨hP, Af_self hD0, va_S.rf⟩
  have hA : ∀ q : Nat, s.heap.size ≤ q → Af cs ad sz q := fun q h => Or.inr (by rw [hsz] at h; exact h)
  have hl := lv_entry ([.ref (ad 0), .int (nI n)]) (n := 5) (Nat.le_of_ble_eq_true rfl)
  rw [lg_entry_eq]
  generalize (lg_sl ([.ref (ad 0), .int (nI n)]) ++ List.replicate (5 - (lg_sl ([.ref (ad 0), .int (nI n)])).length) Slot.unset).toArray = ls at hl ⊢
  have hl : lv_has ls 5 [(0, .ref (ad 0)), (1, .int (nI n))] := hl
  have hf0 : ∀ c, (c ≠ 8 ∧ c ≠ 9) → en c = en c := fun _ _ => rfl
  obtain ⟨fa, hi, wd, mo, tb, dp, many, grt, lst, nou, rm, rb, pr, wo, es1080, hwd2, hwd3, hmo, htb, hwo⟩ := getr_M hI
  refine lv_iconst (v := 0) hx hb dX12_isSpent_0 (by decide) ?_
  refine lv_istore_n (lv' := [(2, .int 0), (0, .ref (ad 0)), (1, .int (nI n))]) hx hb dX12_isSpent_1 rfl hl (by decide) rfl (fun ls hl => ?_)
  have loop_1081 : ∀ (fu j1081 : Nat)  (en_1081 : Nat → va_E) (ls : Array Slot) (H : Heap) (locs : List Loc), 0 ≤ j1081 → j1081 ≤ 6 → 6 < j1081 + fu → RX cy cs ad en_1081 → (∀ c, (c ≠ 8 ∧ c ≠ 9) → en_1081 c = en c) →  lv_has ls 5 [(2, .int (nI j1081)), (0, .ref (ad 0)), (1, .int (nI n))] → Hp D (Af cs ad sz) (Af cs ad sz) s.heap H locs cs ad en_1081 → W p l e (headSpec (Cond.code yX12_isSpent cX12_isSpent 5 (some .boolean) :: TB) (rmN 1)).room s m ([.ref (ad 0), .int (nI n)] : List Value).toArray below meth c H locs 0 0 (MQ below (va_Qi (S := Nat → va_E) (fun r en1 => RX cy cs ad en1 ∧ (∀ c, (c ≠ 8 ∧ c ≠ 9) → en1 c = en c) ∧ (r = 0 ∨ r = 1)) (PostM D cs ad) (Af cs ad sz)) ([.ref (ad 0), .int (nI n)] : List Value).toArray s 0 0 (Af cs ad sz)) (F0 m 2 ls []) := by
    intro fu
    induction fu with
    | zero => intro j1081  en_1081 ls H locs h0 h1 h2; exact absurd h2 (by omega)
    | succ fu ih_1081 =>
      intro j1081  en_1081 ls H locs hj0_1081 hj_1081 hfu_1081 hI_1081 hf_1081  hl hh
      refine lv_iload_n hx hb dX12_isSpent_2 rfl (lv_at hl 0 rfl) ?_
      refine lv_aload_n hx hb dX12_isSpent_3 rfl (lv_at hl 1 rfl) ?_
      have es1080_1082 : en_1081 0 = .inr (11, [.int fa, .int hi, .int (nI wd), .int (nI mo), .int (nI tb), .ref (ad 1), .ref (ad 2), .ref (ad 3), .ref (ad 4), .ref (ad 5), .ref (ad 6), .ref (ad 7), .ref (ad 8), .ref (ad 9), .int dp, .long many, .long grt, .long lst, .long nou, .ref (ad 10), .ref (ad 11), .ref (ad 12), .int rm, .long rb, .ref (ad 13), .int pr, .ref (ad 14), .ref (ad 15), .ref (ad 16), .ref (ad 17), .int (nI wo), .ref (ad 18), .ref (ad 19)]) := (hf_1081 0 (by omega)).trans es1080
      refine hp_get hx hb hts ix12 hown hK hh (q := 0) rfl (hI.1 _ (by decide)) es1080_1082 rfl 4 (by decide) (hts _ tw_883) (fun _ h9 => h9) rfl dX12_isSpent_4 ?_
      refine lv_icmp_ge (tgt := 23) hx hb dX12_isSpent_7 (by decide) (fun c_1083 => ?_) (fun c_1083 => ?_)
      · have n_1083 : tb ≤ j1081 := n_le (a := tb) (b := j1081) c_1083 (by omega) (by omega)
        refine lv_iconst (v := 1) hx hb dX12_isSpent_23 (by decide) ?_
        refine lv_istore_n (lv' := [(2, .int 1), (0, .ref (ad 0)), (1, .int (nI n))]) hx hb dX12_isSpent_24 rfl hl (by decide) rfl (fun ls hl => ?_)
        have loop_1084 : ∀ (fu j1084 : Nat)  (en_1084 : Nat → va_E) (ls : Array Slot) (H : Heap) (locs : List Loc), 1 ≤ j1084 → j1084 ≤ 8 → 8 < j1084 + fu → RX cy cs ad en_1084 → (∀ c, (c ≠ 8 ∧ c ≠ 9) → en_1084 c = en c) →  lv_has ls 5 [(2, .int (nI j1084)), (0, .ref (ad 0)), (1, .int (nI n))] → Hp D (Af cs ad sz) (Af cs ad sz) s.heap H locs cs ad en_1084 → W p l e (headSpec (Cond.code yX12_isSpent cX12_isSpent 5 (some .boolean) :: TB) (rmN 1)).room s m ([.ref (ad 0), .int (nI n)] : List Value).toArray below meth c H locs 0 0 (MQ below (va_Qi (S := Nat → va_E) (fun r en1 => RX cy cs ad en1 ∧ (∀ c, (c ≠ 8 ∧ c ≠ 9) → en1 c = en c) ∧ (r = 0 ∨ r = 1)) (PostM D cs ad) (Af cs ad sz)) ([.ref (ad 0), .int (nI n)] : List Value).toArray s 0 0 (Af cs ad sz)) (F0 m 25 ls []) := by
          intro fu
          induction fu with
          | zero => intro j1084  en_1084 ls H locs h0 h1 h2; exact absurd h2 (by omega)
          | succ fu ih_1084 =>
            intro j1084  en_1084 ls H locs hj0_1084 hj_1084 hfu_1084 hI_1084 hf_1084  hl hh
            refine lv_iload_n hx hb dX12_isSpent_25 rfl (lv_at hl 0 rfl) ?_
            refine lv_iload_n hx hb dX12_isSpent_26 rfl (lv_at hl 2 rfl) ?_
            refine lv_icmp_ge (tgt := 135) hx hb dX12_isSpent_27 (by decide) (fun c_1085 => ?_) (fun c_1085 => ?_)
            · have n_1085 : n ≤ j1084 := n_le (a := n) (b := j1084) c_1085 (by omega) (by omega)
              refine lv_lconst (v := 0) hx hb dX12_isSpent_135 (by decide) ?_
              refine lv_lstore_n (lv' := [(2, .long 0), (0, .ref (ad 0)), (1, .int (nI n))]) hx hb dX12_isSpent_136 rfl hl (by decide) rfl (fun ls hl => ?_)
              refine lv_iconst (v := 0) hx hb dX12_isSpent_137 (by decide) ?_
              refine lv_istore (lv' := [(4, .int 0), (2, .long 0), (0, .ref (ad 0)), (1, .int (nI n))]) hx hb dX12_isSpent_138 hl (by decide) rfl (fun ls hl => ?_)
              have loop_1086 : ∀ (fu j1086 : Nat) (al1086 : Int64) (en_1086 : Nat → va_E) (ls : Array Slot) (H : Heap) (locs : List Loc), 0 ≤ j1086 → j1086 ≤ 6 → 6 < j1086 + fu → RX cy cs ad en_1086 → (∀ c, (c ≠ 8 ∧ c ≠ 9) → en_1086 c = en c) →  lv_has ls 5 [(4, .int (nI j1086)), (2, .long al1086), (0, .ref (ad 0)), (1, .int (nI n))] → Hp D (Af cs ad sz) (Af cs ad sz) s.heap H locs cs ad en_1086 → W p l e (headSpec (Cond.code yX12_isSpent cX12_isSpent 5 (some .boolean) :: TB) (rmN 1)).room s m ([.ref (ad 0), .int (nI n)] : List Value).toArray below meth c H locs 0 0 (MQ below (va_Qi (S := Nat → va_E) (fun r en1 => RX cy cs ad en1 ∧ (∀ c, (c ≠ 8 ∧ c ≠ 9) → en1 c = en c) ∧ (r = 0 ∨ r = 1)) (PostM D cs ad) (Af cs ad sz)) ([.ref (ad 0), .int (nI n)] : List Value).toArray s 0 0 (Af cs ad sz)) (F0 m 140 ls []) := by
                intro fu
                induction fu with
                | zero => intro j1086 al1086 en_1086 ls H locs h0 h1 h2; exact absurd h2 (by omega)
                | succ fu ih_1086 =>
                  intro j1086 al1086 en_1086 ls H locs hj0_1086 hj_1086 hfu_1086 hI_1086 hf_1086  hl hh
                  refine lv_iload hx hb dX12_isSpent_140 (lv_at hl 0 rfl) ?_
                  refine lv_aload_n hx hb dX12_isSpent_142 rfl (lv_at hl 2 rfl) ?_
                  have es1080_1087 : en_1086 0 = .inr (11, [.int fa, .int hi, .int (nI wd), .int (nI mo), .int (nI tb), .ref (ad 1), .ref (ad 2), .ref (ad 3), .ref (ad 4), .ref (ad 5), .ref (ad 6), .ref (ad 7), .ref (ad 8), .ref (ad 9), .int dp, .long many, .long grt, .long lst, .long nou, .ref (ad 10), .ref (ad 11), .ref (ad 12), .int rm, .long rb, .ref (ad 13), .int pr, .ref (ad 14), .ref (ad 15), .ref (ad 16), .ref (ad 17), .int (nI wo), .ref (ad 18), .ref (ad 19)]) := (hf_1086 0 (by omega)).trans es1080
                  refine hp_get hx hb hts ix12 hown hK hh (q := 0) rfl (hI.1 _ (by decide)) es1080_1087 rfl 4 (by decide) (hts _ tw_883) (fun _ h9 => h9) rfl dX12_isSpent_143 ?_
                  refine lv_icmp_ge (tgt := 165) hx hb dX12_isSpent_146 (by decide) (fun c_1088 => ?_) (fun c_1088 => ?_)
                  · have n_1088 : tb ≤ j1086 := n_le (a := tb) (b := j1086) c_1088 (by omega) (by omega)
                    refine lv_lload_n hx hb dX12_isSpent_165 rfl (lv_at hl 1 rfl) ?_
                    refine lv_ldc2 hx hb hown (hts _ tw_1033) dX12_isSpent_166 ?_
                    refine W.lcmp hx hb dX12_isSpent_169 ?_
                    refine lv_if_le (tgt := 177) hx hb dX12_isSpent_170 (by decide) (fun c_1089 => ?_) (fun c_1089 => ?_)
                    · refine lv_iconst (v := 0) hx hb dX12_isSpent_177 (by decide) ?_
                      exact hp_iretM hx hb hr rfl hlocks hh (⟨hI_1086, hf_1086, Or.inl rfl⟩) dX12_isSpent_178
                    · refine lv_iconst (v := 1) hx hb dX12_isSpent_173 (by decide) ?_
                      refine lv_goto (tgt := 178) hx hb dX12_isSpent_174 (by decide) ?_
                      exact hp_iretM hx hb hr rfl hlocks hh (⟨hI_1086, hf_1086, Or.inr rfl⟩) dX12_isSpent_178
                  · have n_1088 : j1086 < tb := n_nle (a := tb) (b := j1086) c_1088 (by omega) (by omega)
                    refine lv_lload_n hx hb dX12_isSpent_149 rfl (lv_at hl 1 rfl) ?_
                    refine lv_aload_n hx hb dX12_isSpent_150 rfl (lv_at hl 2 rfl) ?_
                    refine hp_get hx hb hts ix12 hown hK hh (q := 0) rfl (hI.1 _ (by decide)) es1080_1087 rfl 12 (by decide) (hts _ tw_891) (fun _ h9 => h9) rfl dX12_isSpent_151 ?_
                    refine lv_iload hx hb dX12_isSpent_154 (lv_at hl 0 rfl) ?_
                    obtain ⟨f_1090, es1090⟩ := getr_wy hI_1086
                    refine hp_lald hx hb hK hh (q := 8) rfl (hI.1 _ (by decide)) es1090 (vp_in_nI (n := j1086) (by omega) (by decide)) dX12_isSpent_156 ?_
                    rw [nI_clamp (n := j1086) (by omega)]
                    refine lv_ladd hx hb dX12_isSpent_157 ?_
                    refine lv_lstore_n (lv' := [(2, .long (al1086 + (f_1090 j1086))), (4, .int (nI j1086)), (0, .ref (ad 0)), (1, .int (nI n))]) hx hb dX12_isSpent_158 rfl hl (by decide) rfl (fun ls hl => ?_)
                    refine lv_iinc (v := (nI (j1086 + 1))) (lv' := [(4, .int (nI (j1086 + 1))), (2, .long (al1086 + (f_1090 j1086))), (0, .ref (ad 0)), (1, .int (nI n))]) hx hb dX12_isSpent_159 hl (k := 1) rfl (nI_1 _) (by decide) rfl (fun ls hl => ?_)
                    refine lv_goto (tgt := 140) hx hb dX12_isSpent_162 (by decide) ?_
                    exact ih_1086 ((j1086 + 1)) (al1086 + (f_1090 j1086)) en_1086 ls H locs (by omega) (by omega) (by omega) hI_1086 hf_1086  (lv_sub hl [0, 1, 2, 3] rfl) hh
              exact loop_1086 (6 + 1) 0 0 en_1084 ls _ _ (Nat.le_refl _) (by omega) (by omega) hI_1084 hf_1084  (lv_sub hl [0, 1, 2, 3] rfl) hh
            · have n_1085 : j1084 < n := n_nle (a := n) (b := j1084) c_1085 (by omega) (by omega)
              refine lv_iconst (v := 0) hx hb dX12_isSpent_30 (by decide) ?_
              refine lv_istore_n (lv' := [(3, .int 0), (2, .int (nI j1084)), (0, .ref (ad 0)), (1, .int (nI n))]) hx hb dX12_isSpent_31 rfl hl (by decide) rfl (fun ls hl => ?_)
              have loop_1091 : ∀ (fu j1091 : Nat)  (en_1091 : Nat → va_E) (ls : Array Slot) (H : Heap) (locs : List Loc), 0 ≤ j1091 → j1091 ≤ 6 → 6 < j1091 + fu → RX cy cs ad en_1091 → (∀ c, (c ≠ 8 ∧ c ≠ 9) → en_1091 c = en c) →  lv_has ls 5 [(3, .int (nI j1091)), (2, .int (nI j1084)), (0, .ref (ad 0)), (1, .int (nI n))] → Hp D (Af cs ad sz) (Af cs ad sz) s.heap H locs cs ad en_1091 → W p l e (headSpec (Cond.code yX12_isSpent cX12_isSpent 5 (some .boolean) :: TB) (rmN 1)).room s m ([.ref (ad 0), .int (nI n)] : List Value).toArray below meth c H locs 0 0 (MQ below (va_Qi (S := Nat → va_E) (fun r en1 => RX cy cs ad en1 ∧ (∀ c, (c ≠ 8 ∧ c ≠ 9) → en1 c = en c) ∧ (r = 0 ∨ r = 1)) (PostM D cs ad) (Af cs ad sz)) ([.ref (ad 0), .int (nI n)] : List Value).toArray s 0 0 (Af cs ad sz)) (F0 m 32 ls []) := by
                intro fu
                induction fu with
                | zero => intro j1091  en_1091 ls H locs h0 h1 h2; exact absurd h2 (by omega)
                | succ fu ih_1091 =>
                  intro j1091  en_1091 ls H locs hj0_1091 hj_1091 hfu_1091 hI_1091 hf_1091  hl hh
                  refine lv_iload_n hx hb dX12_isSpent_32 rfl (lv_at hl 0 rfl) ?_
                  refine lv_aload_n hx hb dX12_isSpent_33 rfl (lv_at hl 2 rfl) ?_
                  have es1080_1092 : en_1091 0 = .inr (11, [.int fa, .int hi, .int (nI wd), .int (nI mo), .int (nI tb), .ref (ad 1), .ref (ad 2), .ref (ad 3), .ref (ad 4), .ref (ad 5), .ref (ad 6), .ref (ad 7), .ref (ad 8), .ref (ad 9), .int dp, .long many, .long grt, .long lst, .long nou, .ref (ad 10), .ref (ad 11), .ref (ad 12), .int rm, .long rb, .ref (ad 13), .int pr, .ref (ad 14), .ref (ad 15), .ref (ad 16), .ref (ad 17), .int (nI wo), .ref (ad 18), .ref (ad 19)]) := (hf_1091 0 (by omega)).trans es1080
                  refine hp_get hx hb hts ix12 hown hK hh (q := 0) rfl (hI.1 _ (by decide)) es1080_1092 rfl 4 (by decide) (hts _ tw_883) (fun _ h9 => h9) rfl dX12_isSpent_34 ?_
                  refine lv_icmp_ge (tgt := 101) hx hb dX12_isSpent_37 (by decide) (fun c_1093 => ?_) (fun c_1093 => ?_)
                  · have n_1093 : tb ≤ j1091 := n_le (a := tb) (b := j1091) c_1093 (by omega) (by omega)
                    refine lv_iconst (v := 0) hx hb dX12_isSpent_101 (by decide) ?_
                    refine lv_istore_n (lv' := [(3, .int 0), (2, .int (nI j1084)), (0, .ref (ad 0)), (1, .int (nI n))]) hx hb dX12_isSpent_102 rfl hl (by decide) rfl (fun ls hl => ?_)
                    have loop_1094 : ∀ (fu j1094 : Nat)  (en_1094 : Nat → va_E) (ls : Array Slot) (H : Heap) (locs : List Loc), 0 ≤ j1094 → j1094 ≤ 6 → 6 < j1094 + fu → RX cy cs ad en_1094 → (∀ c, (c ≠ 8 ∧ c ≠ 9) → en_1094 c = en c) →  lv_has ls 5 [(3, .int (nI j1094)), (2, .int (nI j1084)), (0, .ref (ad 0)), (1, .int (nI n))] → Hp D (Af cs ad sz) (Af cs ad sz) s.heap H locs cs ad en_1094 → W p l e (headSpec (Cond.code yX12_isSpent cX12_isSpent 5 (some .boolean) :: TB) (rmN 1)).room s m ([.ref (ad 0), .int (nI n)] : List Value).toArray below meth c H locs 0 0 (MQ below (va_Qi (S := Nat → va_E) (fun r en1 => RX cy cs ad en1 ∧ (∀ c, (c ≠ 8 ∧ c ≠ 9) → en1 c = en c) ∧ (r = 0 ∨ r = 1)) (PostM D cs ad) (Af cs ad sz)) ([.ref (ad 0), .int (nI n)] : List Value).toArray s 0 0 (Af cs ad sz)) (F0 m 103 ls []) := by
                      intro fu
                      induction fu with
                      | zero => intro j1094  en_1094 ls H locs h0 h1 h2; exact absurd h2 (by omega)
                      | succ fu ih_1094 =>
                        intro j1094  en_1094 ls H locs hj0_1094 hj_1094 hfu_1094 hI_1094 hf_1094  hl hh
                        refine lv_iload_n hx hb dX12_isSpent_103 rfl (lv_at hl 0 rfl) ?_
                        refine lv_aload_n hx hb dX12_isSpent_104 rfl (lv_at hl 2 rfl) ?_
                        have es1080_1095 : en_1094 0 = .inr (11, [.int fa, .int hi, .int (nI wd), .int (nI mo), .int (nI tb), .ref (ad 1), .ref (ad 2), .ref (ad 3), .ref (ad 4), .ref (ad 5), .ref (ad 6), .ref (ad 7), .ref (ad 8), .ref (ad 9), .int dp, .long many, .long grt, .long lst, .long nou, .ref (ad 10), .ref (ad 11), .ref (ad 12), .int rm, .long rb, .ref (ad 13), .int pr, .ref (ad 14), .ref (ad 15), .ref (ad 16), .ref (ad 17), .int (nI wo), .ref (ad 18), .ref (ad 19)]) := (hf_1094 0 (by omega)).trans es1080
                        refine hp_get hx hb hts ix12 hown hK hh (q := 0) rfl (hI.1 _ (by decide)) es1080_1095 rfl 4 (by decide) (hts _ tw_883) (fun _ h9 => h9) rfl dX12_isSpent_105 ?_
                        refine lv_icmp_ge (tgt := 129) hx hb dX12_isSpent_108 (by decide) (fun c_1096 => ?_) (fun c_1096 => ?_)
                        · have n_1096 : tb ≤ j1094 := n_le (a := tb) (b := j1094) c_1096 (by omega) (by omega)
                          refine lv_iinc (v := (nI (j1084 + 1))) (lv' := [(2, .int (nI (j1084 + 1))), (3, .int (nI j1094)), (0, .ref (ad 0)), (1, .int (nI n))]) hx hb dX12_isSpent_129 hl (k := 1) rfl (nI_1 _) (by decide) rfl (fun ls hl => ?_)
                          refine lv_goto (tgt := 25) hx hb dX12_isSpent_132 (by decide) ?_
                          exact ih_1084 ((j1084 + 1))  en_1094 ls H locs (by omega) (by omega) (by omega) hI_1094 hf_1094  (lv_sub hl [0, 2, 3] rfl) hh
                        · have n_1096 : j1094 < tb := n_nle (a := tb) (b := j1094) c_1096 (by omega) (by omega)
                          refine lv_aload_n hx hb dX12_isSpent_111 rfl (lv_at hl 2 rfl) ?_
                          refine hp_get hx hb hts ix12 hown hK hh (q := 0) rfl (hI.1 _ (by decide)) es1080_1095 rfl 12 (by decide) (hts _ tw_891) (fun _ h9 => h9) rfl dX12_isSpent_112 ?_
                          refine lv_iload_n hx hb dX12_isSpent_115 rfl (lv_at hl 0 rfl) ?_
                          refine lv_aload_n hx hb dX12_isSpent_116 rfl (lv_at hl 2 rfl) ?_
                          refine hp_get hx hb hts ix12 hown hK hh (q := 0) rfl (hI.1 _ (by decide)) es1080_1095 rfl 13 (by decide) (hts _ tw_892) (fun _ h9 => h9) rfl dX12_isSpent_117 ?_
                          refine lv_iload_n hx hb dX12_isSpent_120 rfl (lv_at hl 0 rfl) ?_
                          obtain ⟨f_1097, es1097⟩ := getr_mw hI_1094
                          refine hp_lald hx hb hK hh (q := 9) rfl (hI.1 _ (by decide)) es1097 (vp_in_nI (n := j1094) (by omega) (by decide)) dX12_isSpent_121 ?_
                          rw [nI_clamp (n := j1094) (by omega)]
                          obtain ⟨f_1098, es1098⟩ := getr_wy hI_1094
                          refine hp_last hx hb hK hh (q := 8) rfl (hI.1 _ (by decide)) es1098 (vp_in_nI (n := j1094) (by omega) (by decide)) dX12_isSpent_122 (fun H locs en_1099 hen_1099 hh => ?_)
                          rw [nI_clamp (n := j1094) (by omega)] at hen_1099
                          have es1080_1099 : en_1099 0 = .inr (11, [.int fa, .int hi, .int (nI wd), .int (nI mo), .int (nI tb), .ref (ad 1), .ref (ad 2), .ref (ad 3), .ref (ad 4), .ref (ad 5), .ref (ad 6), .ref (ad 7), .ref (ad 8), .ref (ad 9), .int dp, .long many, .long grt, .long lst, .long nou, .ref (ad 10), .ref (ad 11), .ref (ad 12), .int rm, .long rb, .ref (ad 13), .int pr, .ref (ad 14), .ref (ad 15), .ref (ad 16), .ref (ad 17), .int (nI wo), .ref (ad 18), .ref (ad 19)]) := by rw [hen_1099, va_up_ne _ _ (by decide)]; exact es1080_1095
                          have es1097_1099 : en_1099 9 = .inl (cy 1, 6, .inr (.inl f_1097)) := by rw [hen_1099, va_up_ne _ _ (by decide)]; exact es1097
                          have es1098_1099 : en_1099 8 = .inl (cy 1, 6, .inr (.inl (vp_updL f_1098 j1094 (f_1097 j1094)))) := by rw [hen_1099]; exact va_up_self _ _ _
                          have hI_1099 : RX cy cs ad en_1099 := by rw [hen_1099]; exact upr_wy hI_1094 ⟨(vp_updL f_1098 j1094 (f_1097 j1094)), rfl⟩
                          have hf_1099 : ∀ c, (c ≠ 8 ∧ c ≠ 9) → en_1099 c = en c := fun c hc => Eq.trans (show en_1099 c = en_1094 c from by rw [hen_1099, va_up_ne _ _ (by omega)]) (hf_1094 c hc)
                          refine lv_iinc (v := (nI (j1094 + 1))) (lv' := [(3, .int (nI (j1094 + 1))), (2, .int (nI j1084)), (0, .ref (ad 0)), (1, .int (nI n))]) hx hb dX12_isSpent_123 hl (k := 0) rfl (nI_1 _) (by decide) rfl (fun ls hl => ?_)
                          refine lv_goto (tgt := 103) hx hb dX12_isSpent_126 (by decide) ?_
                          exact ih_1094 ((j1094 + 1))  en_1099 ls H locs (by omega) (by omega) (by omega) hI_1099 hf_1099  (lv_sub hl [0, 1, 2, 3] rfl) hh
                    exact loop_1094 (6 + 1) 0  en_1091 ls _ _ (Nat.le_refl _) (by omega) (by omega) hI_1091 hf_1091  (lv_sub hl [0, 1, 2, 3] rfl) hh
                  · have n_1093 : j1091 < tb := n_nle (a := tb) (b := j1091) c_1093 (by omega) (by omega)
                    refine lv_aload_n hx hb dX12_isSpent_40 rfl (lv_at hl 2 rfl) ?_
                    refine hp_get hx hb hts ix12 hown hK hh (q := 0) rfl (hI.1 _ (by decide)) es1080_1092 rfl 13 (by decide) (hts _ tw_892) (fun _ h9 => h9) rfl dX12_isSpent_41 ?_
                    refine lv_iload_n hx hb dX12_isSpent_44 rfl (lv_at hl 0 rfl) ?_
                    refine lv_lconst (v := 0) hx hb dX12_isSpent_45 (by decide) ?_
                    obtain ⟨f_1100, es1100⟩ := getr_mw hI_1091
                    refine hp_last hx hb hK hh (q := 9) rfl (hI.1 _ (by decide)) es1100 (vp_in_nI (n := j1091) (by omega) (by decide)) dX12_isSpent_46 (fun H locs en_1101 hen_1101 hh => ?_)
                    rw [nI_clamp (n := j1091) (by omega)] at hen_1101
                    have es1080_1101 : en_1101 0 = .inr (11, [.int fa, .int hi, .int (nI wd), .int (nI mo), .int (nI tb), .ref (ad 1), .ref (ad 2), .ref (ad 3), .ref (ad 4), .ref (ad 5), .ref (ad 6), .ref (ad 7), .ref (ad 8), .ref (ad 9), .int dp, .long many, .long grt, .long lst, .long nou, .ref (ad 10), .ref (ad 11), .ref (ad 12), .int rm, .long rb, .ref (ad 13), .int pr, .ref (ad 14), .ref (ad 15), .ref (ad 16), .ref (ad 17), .int (nI wo), .ref (ad 18), .ref (ad 19)]) := by rw [hen_1101, va_up_ne _ _ (by decide)]; exact es1080_1092
                    have es1100_1101 : en_1101 9 = .inl (cy 1, 6, .inr (.inl (vp_updL f_1100 j1091 0))) := by rw [hen_1101]; exact va_up_self _ _ _
                    have hI_1101 : RX cy cs ad en_1101 := by rw [hen_1101]; exact upr_mw hI_1091 ⟨(vp_updL f_1100 j1091 0), rfl⟩
                    have hf_1101 : ∀ c, (c ≠ 8 ∧ c ≠ 9) → en_1101 c = en c := fun c hc => Eq.trans (show en_1101 c = en_1091 c from by rw [hen_1101, va_up_ne _ _ (by omega)]) (hf_1091 c hc)
                    refine lv_iconst (v := 0) hx hb dX12_isSpent_47 (by decide) ?_
                    refine lv_istore (lv' := [(4, .int 0), (3, .int (nI j1091)), (2, .int (nI j1084)), (0, .ref (ad 0)), (1, .int (nI n))]) hx hb dX12_isSpent_48 hl (by decide) rfl (fun ls hl => ?_)
                    have loop_1102 : ∀ (fu j1102 : Nat)  (en_1102 : Nat → va_E) (ls : Array Slot) (H : Heap) (locs : List Loc), 0 ≤ j1102 → j1102 ≤ 6 → 6 < j1102 + fu → RX cy cs ad en_1102 → (∀ c, (c ≠ 8 ∧ c ≠ 9) → en_1102 c = en c) →  lv_has ls 5 [(4, .int (nI j1102)), (3, .int (nI j1091)), (2, .int (nI j1084)), (0, .ref (ad 0)), (1, .int (nI n))] → Hp D (Af cs ad sz) (Af cs ad sz) s.heap H locs cs ad en_1102 → W p l e (headSpec (Cond.code yX12_isSpent cX12_isSpent 5 (some .boolean) :: TB) (rmN 1)).room s m ([.ref (ad 0), .int (nI n)] : List Value).toArray below meth c H locs 0 0 (MQ below (va_Qi (S := Nat → va_E) (fun r en1 => RX cy cs ad en1 ∧ (∀ c, (c ≠ 8 ∧ c ≠ 9) → en1 c = en c) ∧ (r = 0 ∨ r = 1)) (PostM D cs ad) (Af cs ad sz)) ([.ref (ad 0), .int (nI n)] : List Value).toArray s 0 0 (Af cs ad sz)) (F0 m 50 ls []) := by
                      intro fu
                      induction fu with
                      | zero => intro j1102  en_1102 ls H locs h0 h1 h2; exact absurd h2 (by omega)
                      | succ fu ih_1102 =>
                        intro j1102  en_1102 ls H locs hj0_1102 hj_1102 hfu_1102 hI_1102 hf_1102  hl hh
                        refine lv_iload hx hb dX12_isSpent_50 (lv_at hl 0 rfl) ?_
                        refine lv_aload_n hx hb dX12_isSpent_52 rfl (lv_at hl 3 rfl) ?_
                        have es1080_1103 : en_1102 0 = .inr (11, [.int fa, .int hi, .int (nI wd), .int (nI mo), .int (nI tb), .ref (ad 1), .ref (ad 2), .ref (ad 3), .ref (ad 4), .ref (ad 5), .ref (ad 6), .ref (ad 7), .ref (ad 8), .ref (ad 9), .int dp, .long many, .long grt, .long lst, .long nou, .ref (ad 10), .ref (ad 11), .ref (ad 12), .int rm, .long rb, .ref (ad 13), .int pr, .ref (ad 14), .ref (ad 15), .ref (ad 16), .ref (ad 17), .int (nI wo), .ref (ad 18), .ref (ad 19)]) := (hf_1102 0 (by omega)).trans es1080
                        refine hp_get hx hb hts ix12 hown hK hh (q := 0) rfl (hI.1 _ (by decide)) es1080_1103 rfl 4 (by decide) (hts _ tw_883) (fun _ h9 => h9) rfl dX12_isSpent_53 ?_
                        refine lv_icmp_ge (tgt := 95) hx hb dX12_isSpent_56 (by decide) (fun c_1104 => ?_) (fun c_1104 => ?_)
                        · have n_1104 : tb ≤ j1102 := n_le (a := tb) (b := j1102) c_1104 (by omega) (by omega)
                          refine lv_iinc (v := (nI (j1091 + 1))) (lv' := [(3, .int (nI (j1091 + 1))), (4, .int (nI j1102)), (2, .int (nI j1084)), (0, .ref (ad 0)), (1, .int (nI n))]) hx hb dX12_isSpent_95 hl (k := 1) rfl (nI_1 _) (by decide) rfl (fun ls hl => ?_)
                          refine lv_goto (tgt := 32) hx hb dX12_isSpent_98 (by decide) ?_
                          exact ih_1091 ((j1091 + 1))  en_1102 ls H locs (by omega) (by omega) (by omega) hI_1102 hf_1102  (lv_sub hl [0, 2, 3, 4] rfl) hh
                        · have n_1104 : j1102 < tb := n_nle (a := tb) (b := j1102) c_1104 (by omega) (by omega)
                          refine lv_aload_n hx hb dX12_isSpent_59 rfl (lv_at hl 3 rfl) ?_
                          refine hp_get hx hb hts ix12 hown hK hh (q := 0) rfl (hI.1 _ (by decide)) es1080_1103 rfl 13 (by decide) (hts _ tw_892) (fun _ h9 => h9) rfl dX12_isSpent_60 ?_
                          refine lv_iload_n hx hb dX12_isSpent_63 rfl (lv_at hl 1 rfl) ?_
                          refine lv_dup2_11 hx hb dX12_isSpent_64 rfl rfl ?_
                          obtain ⟨f_1105, es1105⟩ := getr_mw hI_1102
                          refine hp_lald hx hb hK hh (q := 9) rfl (hI.1 _ (by decide)) es1105 (vp_in_nI (n := j1091) (by omega) (by decide)) dX12_isSpent_65 ?_
                          rw [nI_clamp (n := j1091) (by omega)]
                          refine lv_aload_n hx hb dX12_isSpent_66 rfl (lv_at hl 3 rfl) ?_
                          refine lv_iload hx hb dX12_isSpent_67 (lv_at hl 0 rfl) ?_
                          refine lv_iload_n hx hb dX12_isSpent_69 rfl (lv_at hl 1 rfl) ?_
                          refine hp_callRi (va_runV (As := [.int (nI j1102), .int (nI j1091)]) (rest := [.long (f_1105 j1091), .int (nI j1091), .ref (ad 9)]) ⟨hx, hb, hml, hown, hts⟩ (c_X12_mayFollow l D cy _ cs ad en_1102 hI_1102 j1102 j1091 (by omega) (by omega)) (kw_X12_mayFollow hts tw_1029 ⟨by decide, by decide⟩) (preV_of hh hK (hI.1 _ (by decide)) es1080_1103 rfl) rfl rfl hl.1 rfl (lv_room (Nat.le_of_ble_eq_true rfl)) dX12_isSpent_70 ⟨Nat.le_of_ble_eq_true rfl, Nat.le_of_ble_eq_true rfl⟩) hh hA (fun r_1106 H locs hw_1106 hh => ?_)
                          rcases Decidable.em (rdF (en_1102 2) (6 * j1102 + j1091) = 0) with hp_1106 | hp_1106
                          · obtain rfl : r_1106 = 1 := Eq.trans hw_1106 (if_pos hp_1106)
                            refine lv_if_eq (tgt := 86) hx hb dX12_isSpent_73 (by decide) (fun c_0 => absurd c_0 (by decide)) (fun _ => ?_)
                            refine lv_aload_n hx hb dX12_isSpent_76 rfl (lv_at hl 3 rfl) ?_
                            refine hp_get hx hb hts ix12 hown hK hh (q := 0) rfl (hI.1 _ (by decide)) es1080_1103 rfl 12 (by decide) (hts _ tw_891) (fun _ h9 => h9) rfl dX12_isSpent_77 ?_
                            refine lv_iload hx hb dX12_isSpent_80 (lv_at hl 0 rfl) ?_
                            obtain ⟨f_1107, es1107⟩ := getr_wy hI_1102
                            refine hp_lald hx hb hK hh (q := 8) rfl (hI.1 _ (by decide)) es1107 (vp_in_nI (n := j1102) (by omega) (by decide)) dX12_isSpent_82 ?_
                            rw [nI_clamp (n := j1102) (by omega)]
                            refine lv_goto (tgt := 87) hx hb dX12_isSpent_83 (by decide) ?_
                            refine lv_ladd hx hb dX12_isSpent_87 ?_
                            refine hp_last hx hb hK hh (q := 9) rfl (hI.1 _ (by decide)) es1105 (vp_in_nI (n := j1091) (by omega) (by decide)) dX12_isSpent_88 (fun H locs en_1108 hen_1108 hh => ?_)
                            rw [nI_clamp (n := j1091) (by omega)] at hen_1108
                            have es1080_1108 : en_1108 0 = .inr (11, [.int fa, .int hi, .int (nI wd), .int (nI mo), .int (nI tb), .ref (ad 1), .ref (ad 2), .ref (ad 3), .ref (ad 4), .ref (ad 5), .ref (ad 6), .ref (ad 7), .ref (ad 8), .ref (ad 9), .int dp, .long many, .long grt, .long lst, .long nou, .ref (ad 10), .ref (ad 11), .ref (ad 12), .int rm, .long rb, .ref (ad 13), .int pr, .ref (ad 14), .ref (ad 15), .ref (ad 16), .ref (ad 17), .int (nI wo), .ref (ad 18), .ref (ad 19)]) := by rw [hen_1108, va_up_ne _ _ (by decide)]; exact es1080_1103
                            have es1107_1108 : en_1108 8 = .inl (cy 1, 6, .inr (.inl f_1107)) := by rw [hen_1108, va_up_ne _ _ (by decide)]; exact es1107
                            have es1105_1108 : en_1108 9 = .inl (cy 1, 6, .inr (.inl (vp_updL f_1105 j1091 ((f_1105 j1091) + (f_1107 j1102))))) := by rw [hen_1108]; exact va_up_self _ _ _
                            have hI_1108 : RX cy cs ad en_1108 := by rw [hen_1108]; exact upr_mw hI_1102 ⟨(vp_updL f_1105 j1091 ((f_1105 j1091) + (f_1107 j1102))), rfl⟩
                            have hf_1108 : ∀ c, (c ≠ 8 ∧ c ≠ 9) → en_1108 c = en c := fun c hc => Eq.trans (show en_1108 c = en_1102 c from by rw [hen_1108, va_up_ne _ _ (by omega)]) (hf_1102 c hc)
                            refine lv_iinc (v := (nI (j1102 + 1))) (lv' := [(4, .int (nI (j1102 + 1))), (3, .int (nI j1091)), (2, .int (nI j1084)), (0, .ref (ad 0)), (1, .int (nI n))]) hx hb dX12_isSpent_89 hl (k := 0) rfl (nI_1 _) (by decide) rfl (fun ls hl => ?_)
                            refine lv_goto (tgt := 50) hx hb dX12_isSpent_92 (by decide) ?_
                            exact ih_1102 ((j1102 + 1))  en_1108 ls H locs (by omega) (by omega) (by omega) hI_1108 hf_1108  (lv_sub hl [0, 1, 2, 3, 4] rfl) hh
                          · obtain rfl : r_1106 = 0 := Eq.trans hw_1106 (if_neg hp_1106)
                            refine lv_if_eq (tgt := 86) hx hb dX12_isSpent_73 (by decide) (fun _ => ?_) (fun c_0 => absurd c_0 (by decide))
                            refine lv_lconst (v := 0) hx hb dX12_isSpent_86 (by decide) ?_
                            refine lv_ladd hx hb dX12_isSpent_87 ?_
                            refine hp_last hx hb hK hh (q := 9) rfl (hI.1 _ (by decide)) es1105 (vp_in_nI (n := j1091) (by omega) (by decide)) dX12_isSpent_88 (fun H locs en_1109 hen_1109 hh => ?_)
                            rw [nI_clamp (n := j1091) (by omega)] at hen_1109
                            have es1080_1109 : en_1109 0 = .inr (11, [.int fa, .int hi, .int (nI wd), .int (nI mo), .int (nI tb), .ref (ad 1), .ref (ad 2), .ref (ad 3), .ref (ad 4), .ref (ad 5), .ref (ad 6), .ref (ad 7), .ref (ad 8), .ref (ad 9), .int dp, .long many, .long grt, .long lst, .long nou, .ref (ad 10), .ref (ad 11), .ref (ad 12), .int rm, .long rb, .ref (ad 13), .int pr, .ref (ad 14), .ref (ad 15), .ref (ad 16), .ref (ad 17), .int (nI wo), .ref (ad 18), .ref (ad 19)]) := by rw [hen_1109, va_up_ne _ _ (by decide)]; exact es1080_1103
                            have es1105_1109 : en_1109 9 = .inl (cy 1, 6, .inr (.inl (vp_updL f_1105 j1091 ((f_1105 j1091) + 0)))) := by rw [hen_1109]; exact va_up_self _ _ _
                            have hI_1109 : RX cy cs ad en_1109 := by rw [hen_1109]; exact upr_mw hI_1102 ⟨(vp_updL f_1105 j1091 ((f_1105 j1091) + 0)), rfl⟩
                            have hf_1109 : ∀ c, (c ≠ 8 ∧ c ≠ 9) → en_1109 c = en c := fun c hc => Eq.trans (show en_1109 c = en_1102 c from by rw [hen_1109, va_up_ne _ _ (by omega)]) (hf_1102 c hc)
                            refine lv_iinc (v := (nI (j1102 + 1))) (lv' := [(4, .int (nI (j1102 + 1))), (3, .int (nI j1091)), (2, .int (nI j1084)), (0, .ref (ad 0)), (1, .int (nI n))]) hx hb dX12_isSpent_89 hl (k := 0) rfl (nI_1 _) (by decide) rfl (fun ls hl => ?_)
                            refine lv_goto (tgt := 50) hx hb dX12_isSpent_92 (by decide) ?_
                            exact ih_1102 ((j1102 + 1))  en_1109 ls H locs (by omega) (by omega) (by omega) hI_1109 hf_1109  (lv_sub hl [0, 1, 2, 3, 4] rfl) hh
                    exact loop_1102 (6 + 1) 0  en_1101 ls _ _ (Nat.le_refl _) (by omega) (by omega) hI_1101 hf_1101  (lv_sub hl [0, 1, 2, 3, 4] rfl) hh
              exact loop_1091 (6 + 1) 0  en_1084 ls _ _ (Nat.le_refl _) (by omega) (by omega) hI_1084 hf_1084  (lv_sub hl [0, 1, 2, 3] rfl) hh
        exact loop_1084 (8 + 1) 1  en_1081 ls _ _ (Nat.le_refl _) (by omega) (by omega) hI_1081 hf_1081  (lv_sub hl [0, 1, 2] rfl) hh
      · have n_1083 : j1081 < tb := n_nle (a := tb) (b := j1081) c_1083 (by omega) (by omega)
        refine lv_aload_n hx hb dX12_isSpent_10 rfl (lv_at hl 1 rfl) ?_
        refine hp_get hx hb hts ix12 hown hK hh (q := 0) rfl (hI.1 _ (by decide)) es1080_1082 rfl 12 (by decide) (hts _ tw_891) (fun _ h9 => h9) rfl dX12_isSpent_11 ?_
        refine lv_iload_n hx hb dX12_isSpent_14 rfl (lv_at hl 0 rfl) ?_
        refine lv_lconst (v := 1) hx hb dX12_isSpent_15 (by decide) ?_
        obtain ⟨f_1110, es1110⟩ := getr_wy hI_1081
        refine hp_last hx hb hK hh (q := 8) rfl (hI.1 _ (by decide)) es1110 (vp_in_nI (n := j1081) (by omega) (by decide)) dX12_isSpent_16 (fun H locs en_1111 hen_1111 hh => ?_)
        rw [nI_clamp (n := j1081) (by omega)] at hen_1111
        have es1080_1111 : en_1111 0 = .inr (11, [.int fa, .int hi, .int (nI wd), .int (nI mo), .int (nI tb), .ref (ad 1), .ref (ad 2), .ref (ad 3), .ref (ad 4), .ref (ad 5), .ref (ad 6), .ref (ad 7), .ref (ad 8), .ref (ad 9), .int dp, .long many, .long grt, .long lst, .long nou, .ref (ad 10), .ref (ad 11), .ref (ad 12), .int rm, .long rb, .ref (ad 13), .int pr, .ref (ad 14), .ref (ad 15), .ref (ad 16), .ref (ad 17), .int (nI wo), .ref (ad 18), .ref (ad 19)]) := by rw [hen_1111, va_up_ne _ _ (by decide)]; exact es1080_1082
        have es1110_1111 : en_1111 8 = .inl (cy 1, 6, .inr (.inl (vp_updL f_1110 j1081 1))) := by rw [hen_1111]; exact va_up_self _ _ _
        have hI_1111 : RX cy cs ad en_1111 := by rw [hen_1111]; exact upr_wy hI_1081 ⟨(vp_updL f_1110 j1081 1), rfl⟩
        have hf_1111 : ∀ c, (c ≠ 8 ∧ c ≠ 9) → en_1111 c = en c := fun c hc => Eq.trans (show en_1111 c = en_1081 c from by rw [hen_1111, va_up_ne _ _ (by omega)]) (hf_1081 c hc)
        refine lv_iinc (v := (nI (j1081 + 1))) (lv' := [(2, .int (nI (j1081 + 1))), (0, .ref (ad 0)), (1, .int (nI n))]) hx hb dX12_isSpent_17 hl (k := 0) rfl (nI_1 _) (by decide) rfl (fun ls hl => ?_)
        refine lv_goto (tgt := 2) hx hb dX12_isSpent_20 (by decide) ?_
        exact ih_1081 ((j1081 + 1))  en_1111 ls H locs (by omega) (by omega) (by omega) hI_1111 hf_1111  (lv_sub hl [0, 1, 2] rfl) hh
  exact loop_1081 (6 + 1) 0  en ls _ _ (Nat.le_refl _) (by omega) (by omega) hI hf0  (lv_sub hl [0, 1, 2] rfl) hh
theorem kw_X12_isSpent {R : Room} {s : State} {args : Array Value} {own : String} {idx : Nat} (hts : ∀ w ∈ TB, w.before args s = true) (hl : Cond.methodLink own idx yX12_isSpent ∈ TB) (hR : 1 + 1 ≤ R.frames ∧ 8 + (5 + 11) + 40 * 1 ≤ R.locals) : CallW R s args own RX12 idx yX12_isSpent cX12_isSpent 5 (some .boolean) (Cond.code yX12_isSpent cX12_isSpent 5 (some .boolean) :: TB) (rmN 1) 0 0 1 := cwV 1 hts (TB_V hl tw_1027 ts_35 tw_9 tw_1028) rfl rfl rfl (by decide +kernel) hR
