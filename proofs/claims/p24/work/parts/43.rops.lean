set_option maxHeartbeats 4000000 in
set_option maxRecDepth 100000 in
/-- begin -/
theorem c_X12_begin (l : Launch) (D : va_G) (cy : Nat → ClassId) (sz : Nat) (cs : List Nat) (ad : Nat → Nat) (en : Nat → va_E) (hI : RX cy cs ad en) (d0 m0 : Int32)   : Met l yX12_begin (Cond.code yX12_begin cX12_begin 4 (some .int) :: TB) (rmN 1) (va_Pc [.ref (ad 0), .int d0, .int m0] (Pre D cy cs ad en sz)) (va_Qi (S := Nat → va_E) (fun r en1 => RX cy cs ad en1 ∧ (∀ c, (c ≠ 0 ∧ c ≠ 2) → en1 c = en c) ∧ r = spBegin d0 m0 ∧ (en1 = en ∨ ((rdI (en1 0) 1 = rdI (en 0) 1 ∧ rdI (en1 0) 2 = d0 ∧ rdI (en1 0) 3 = m0 ∧ rdI (en1 0) 4 = nI 0 ∧ rdI (en1 0) 25 = -9 ∧ rdI (en1 0) 30 = nI 0) ∧ ∀ i, i < 36 → rdF (en1 2) i = 0))) (PostM D cs ad) (Af cs ad sz)) 0 0 (Af cs ad sz) := by
  refine Met.ofW (cc := cX12_begin) (maxL := 4) (ret := (some .int)) (by decide) rfl ?_
  intro p e s m args below meth c s₁ B hml hv
  obtain ⟨rfl, hsz, hP, hK, hD0⟩ := hv
  have hx := B.exec
  have hb := B.bytes
  have hr := B.returns
  have hts : ∀ w ∈ TB, w.before _ s = true := fun w h => atoms_spec (ws := _ :: TB) B.pre w (List.mem_cons_of_mem _ h)
  have hown : s.vm.findClass RX12 = some m.cls := findClass_of_methodNamed B.named
  have hlocks := B.notSynchronized
  have hh : Hp D (Af cs ad sz) (Af cs ad sz) s.heap s.heap [] cs ad en := ⟨hP, Af_self hD0, va_S.rf⟩
  have hA : ∀ q : Nat, s.heap.size ≤ q → Af cs ad sz q := fun q h => Or.inr (by rw [hsz] at h; exact h)
  have hl := lv_entry ([.ref (ad 0), .int d0, .int m0]) (n := 4) (Nat.le_of_ble_eq_true rfl)
  rw [lg_entry_eq]
  generalize (lg_sl ([.ref (ad 0), .int d0, .int m0]) ++ List.replicate (4 - (lg_sl ([.ref (ad 0), .int d0, .int m0])).length) Slot.unset).toArray = ls at hl ⊢
  have hl : lv_has ls 4 [(0, .ref (ad 0)), (1, .int d0), (2, .int m0)] := hl
  have hf0 : ∀ c, (c ≠ 0 ∧ c ≠ 2) → en c = en c := fun _ _ => rfl
  obtain ⟨fa, hi, wd, mo, tb, dp, many, grt, lst, nou, rm, rb, pr, wo, es1006, hwd2, hwd3, hmo, htb, hwo⟩ := getr_M hI
  refine lv_iload_n hx hb dX12_begin_0 rfl (lv_at hl 1 rfl) ?_
  refine lv_i2l hx hb dX12_begin_1 rfl ?_
  refine lv_ldc2 hx hb hown (hts _ tw_983) dX12_begin_2 ?_
  refine lv_ldc2 hx hb hown (hts _ tw_984) dX12_begin_5 ?_
  refine hp_callRi (va_runS (As := [.long d0.toInt64, .long 2, .long 3]) (rest := []) ⟨hx, hb, hml, hown, hts⟩ (c_X12_within l D cy _ cs ad en d0.toInt64 2 3) (kw_X12_within hts tw_985 ⟨by decide, by decide⟩) (preS_of hh hK) rfl rfl hl.1 rfl (lv_room (Nat.le_of_ble_eq_true rfl)) dX12_begin_8 ⟨Nat.le_of_ble_eq_true rfl, Nat.le_of_ble_eq_true rfl⟩) hh hA (fun r_1007 H locs hw_1007 hh => ?_)
  rcases Decidable.em (wi d0 2 3) with hp_1007 | hp_1007
  · obtain rfl : r_1007 = 1 := Eq.trans hw_1007 (if_pos ((wj_32 (by decide) (by decide)).mpr hp_1007))
    obtain ⟨N_1007, rfl, hA_1007, hB_1007⟩ := wi_natB hp_1007 2 3 (by decide) (by decide)
    refine lv_if_eq (tgt := 32) hx hb dX12_begin_11 (by decide) (fun c_0 => absurd c_0 (by decide)) (fun _ => ?_)
    refine lv_iload_n hx hb dX12_begin_14 rfl (lv_at hl 2 rfl) ?_
    refine lv_if_eq (tgt := 35) hx hb dX12_begin_15 (by decide) (fun c_1008 => ?_) (fun c_1008 => ?_)
    · subst c_1008
      refine lv_aload_n hx hb dX12_begin_35 rfl (lv_at hl 0 rfl) ?_
      refine lv_iload_n hx hb dX12_begin_36 rfl (lv_at hl 1 rfl) ?_
      refine hp_put hx hb hts ix12 tyX12 tyX12_ok nmX12 hown hK hh (q := 0) rfl (hI.1 _ (by decide)) es1006 rfl 2 (by decide) (hts _ tw_881) (fun _ h9 => h9) rfl (ty := .int) (by decide +kernel) rfl rfl (Nat.le_of_ble_eq_true rfl) dX12_begin_37 (fun H locs en_1009 hen_1009 hh => ?_)
      have es1006_1009 : en_1009 0 = .inr (11, [.int fa, .int hi, .int (nI N_1007), .int (nI mo), .int (nI tb), .ref (ad 1), .ref (ad 2), .ref (ad 3), .ref (ad 4), .ref (ad 5), .ref (ad 6), .ref (ad 7), .ref (ad 8), .ref (ad 9), .int dp, .long many, .long grt, .long lst, .long nou, .ref (ad 10), .ref (ad 11), .ref (ad 12), .int rm, .long rb, .ref (ad 13), .int pr, .ref (ad 14), .ref (ad 15), .ref (ad 16), .ref (ad 17), .int (nI wo), .ref (ad 18), .ref (ad 19)]) := by rw [hen_1009]; exact va_up_self _ _ _
      have hI_1009 : RX cy cs ad en_1009 := by rw [hen_1009]; exact upr_M hI ⟨fa, hi, N_1007, mo, tb, dp, many, grt, lst, nou, rm, rb, pr, wo, rfl, (by omega), (by omega), hmo, htb, hwo⟩
      have hf_1009 : ∀ c, (c ≠ 0 ∧ c ≠ 2) → en_1009 c = en c := fun c hc => Eq.trans (show en_1009 c = en c from by rw [hen_1009, va_up_ne _ _ (by omega)]) (hf0 c hc)
      refine lv_aload_n hx hb dX12_begin_40 rfl (lv_at hl 0 rfl) ?_
      refine lv_iload_n hx hb dX12_begin_41 rfl (lv_at hl 2 rfl) ?_
      refine hp_put hx hb hts ix12 tyX12 tyX12_ok nmX12 hown hK hh (q := 0) rfl (hI.1 _ (by decide)) es1006_1009 rfl 3 (by decide) (hts _ tw_882) (fun _ h9 => h9) rfl (ty := .int) (by decide +kernel) rfl rfl (Nat.le_of_ble_eq_true rfl) dX12_begin_42 (fun H locs en_1010 hen_1010 hh => ?_)
      have es1006_1010 : en_1010 0 = .inr (11, [.int fa, .int hi, .int (nI N_1007), .int 0, .int (nI tb), .ref (ad 1), .ref (ad 2), .ref (ad 3), .ref (ad 4), .ref (ad 5), .ref (ad 6), .ref (ad 7), .ref (ad 8), .ref (ad 9), .int dp, .long many, .long grt, .long lst, .long nou, .ref (ad 10), .ref (ad 11), .ref (ad 12), .int rm, .long rb, .ref (ad 13), .int pr, .ref (ad 14), .ref (ad 15), .ref (ad 16), .ref (ad 17), .int (nI wo), .ref (ad 18), .ref (ad 19)]) := by rw [hen_1010]; exact va_up_self _ _ _
      have hI_1010 : RX cy cs ad en_1010 := by rw [hen_1010]; exact upr_M hI_1009 ⟨fa, hi, N_1007, 0, tb, dp, many, grt, lst, nou, rm, rb, pr, wo, rfl, (by omega), (by omega), (by omega), htb, hwo⟩
      have hf_1010 : ∀ c, (c ≠ 0 ∧ c ≠ 2) → en_1010 c = en c := fun c hc => Eq.trans (show en_1010 c = en_1009 c from by rw [hen_1010, va_up_ne _ _ (by omega)]) (hf_1009 c hc)
      refine lv_aload_n hx hb dX12_begin_45 rfl (lv_at hl 0 rfl) ?_
      refine lv_iconst (v := 0) hx hb dX12_begin_46 (by decide) ?_
      refine hp_put hx hb hts ix12 tyX12 tyX12_ok nmX12 hown hK hh (q := 0) rfl (hI.1 _ (by decide)) es1006_1010 rfl 4 (by decide) (hts _ tw_883) (fun _ h9 => h9) rfl (ty := .int) (by decide +kernel) rfl rfl (Nat.le_of_ble_eq_true rfl) dX12_begin_47 (fun H locs en_1011 hen_1011 hh => ?_)
      have es1006_1011 : en_1011 0 = .inr (11, [.int fa, .int hi, .int (nI N_1007), .int 0, .int 0, .ref (ad 1), .ref (ad 2), .ref (ad 3), .ref (ad 4), .ref (ad 5), .ref (ad 6), .ref (ad 7), .ref (ad 8), .ref (ad 9), .int dp, .long many, .long grt, .long lst, .long nou, .ref (ad 10), .ref (ad 11), .ref (ad 12), .int rm, .long rb, .ref (ad 13), .int pr, .ref (ad 14), .ref (ad 15), .ref (ad 16), .ref (ad 17), .int (nI wo), .ref (ad 18), .ref (ad 19)]) := by rw [hen_1011]; exact va_up_self _ _ _
      have hI_1011 : RX cy cs ad en_1011 := by rw [hen_1011]; exact upr_M hI_1010 ⟨fa, hi, N_1007, 0, 0, dp, many, grt, lst, nou, rm, rb, pr, wo, rfl, (by omega), (by omega), (by omega), (by omega), hwo⟩
      have hf_1011 : ∀ c, (c ≠ 0 ∧ c ≠ 2) → en_1011 c = en c := fun c hc => Eq.trans (show en_1011 c = en_1010 c from by rw [hen_1011, va_up_ne _ _ (by omega)]) (hf_1010 c hc)
      refine lv_aload_n hx hb dX12_begin_50 rfl (lv_at hl 0 rfl) ?_
      refine lv_iconst (v := 0) hx hb dX12_begin_51 (by decide) ?_
      refine hp_put hx hb hts ix12 tyX12 tyX12_ok nmX12 hown hK hh (q := 0) rfl (hI.1 _ (by decide)) es1006_1011 rfl 30 (by decide) (hts _ tw_909) (fun _ h9 => h9) rfl (ty := .int) (by decide +kernel) rfl rfl (Nat.le_of_ble_eq_true rfl) dX12_begin_52 (fun H locs en_1012 hen_1012 hh => ?_)
      have es1006_1012 : en_1012 0 = .inr (11, [.int fa, .int hi, .int (nI N_1007), .int 0, .int 0, .ref (ad 1), .ref (ad 2), .ref (ad 3), .ref (ad 4), .ref (ad 5), .ref (ad 6), .ref (ad 7), .ref (ad 8), .ref (ad 9), .int dp, .long many, .long grt, .long lst, .long nou, .ref (ad 10), .ref (ad 11), .ref (ad 12), .int rm, .long rb, .ref (ad 13), .int pr, .ref (ad 14), .ref (ad 15), .ref (ad 16), .ref (ad 17), .int 0, .ref (ad 18), .ref (ad 19)]) := by rw [hen_1012]; exact va_up_self _ _ _
      have hI_1012 : RX cy cs ad en_1012 := by rw [hen_1012]; exact upr_M hI_1011 ⟨fa, hi, N_1007, 0, 0, dp, many, grt, lst, nou, rm, rb, pr, 0, rfl, (by omega), (by omega), (by omega), (by omega), (by omega)⟩
      have hf_1012 : ∀ c, (c ≠ 0 ∧ c ≠ 2) → en_1012 c = en c := fun c hc => Eq.trans (show en_1012 c = en_1011 c from by rw [hen_1012, va_up_ne _ _ (by omega)]) (hf_1011 c hc)
      refine lv_aload_n hx hb dX12_begin_55 rfl (lv_at hl 0 rfl) ?_
      refine lv_bipush (v := (-9)) hx hb dX12_begin_56 (by decide) ?_
      refine hp_put hx hb hts ix12 tyX12 tyX12_ok nmX12 hown hK hh (q := 0) rfl (hI.1 _ (by decide)) es1006_1012 rfl 25 (by decide) (hts _ tw_904) (fun _ h9 => h9) rfl (ty := .int) (by decide +kernel) rfl rfl (Nat.le_of_ble_eq_true rfl) dX12_begin_58 (fun H locs en_1013 hen_1013 hh => ?_)
      have es1006_1013 : en_1013 0 = .inr (11, [.int fa, .int hi, .int (nI N_1007), .int 0, .int 0, .ref (ad 1), .ref (ad 2), .ref (ad 3), .ref (ad 4), .ref (ad 5), .ref (ad 6), .ref (ad 7), .ref (ad 8), .ref (ad 9), .int dp, .long many, .long grt, .long lst, .long nou, .ref (ad 10), .ref (ad 11), .ref (ad 12), .int rm, .long rb, .ref (ad 13), .int (-9), .ref (ad 14), .ref (ad 15), .ref (ad 16), .ref (ad 17), .int 0, .ref (ad 18), .ref (ad 19)]) := by rw [hen_1013]; exact va_up_self _ _ _
      have hI_1013 : RX cy cs ad en_1013 := by rw [hen_1013]; exact upr_M hI_1012 ⟨fa, hi, N_1007, 0, 0, dp, many, grt, lst, nou, rm, rb, (-9), 0, rfl, (by omega), (by omega), (by omega), (by omega), (by omega)⟩
      have hf_1013 : ∀ c, (c ≠ 0 ∧ c ≠ 2) → en_1013 c = en c := fun c hc => Eq.trans (show en_1013 c = en_1012 c from by rw [hen_1013, va_up_ne _ _ (by omega)]) (hf_1012 c hc)
      refine lv_iconst (v := 0) hx hb dX12_begin_61 (by decide) ?_
      refine lv_istore_n (lv' := [(3, .int 0), (0, .ref (ad 0)), (1, .int (nI N_1007)), (2, .int 0)]) hx hb dX12_begin_62 rfl hl (by decide) rfl (fun ls hl => ?_)
      have loop_1014 : ∀ (fu j1014 : Nat)  (en_1014 : Nat → va_E) (ls : Array Slot) (H : Heap) (locs : List Loc), 0 ≤ j1014 → j1014 ≤ 36 → 36 < j1014 + fu → RX cy cs ad en_1014 → (∀ c, (c ≠ 0 ∧ c ≠ 2) → en_1014 c = en c) → (∀ i, i < j1014 → rdF (en_1014 2) i = 0) → (rdI (en_1014 0) 1 = rdI (en 0) 1 ∧ rdI (en_1014 0) 2 = (nI N_1007) ∧ rdI (en_1014 0) 3 = 0 ∧ rdI (en_1014 0) 4 = nI 0 ∧ rdI (en_1014 0) 25 = -9 ∧ rdI (en_1014 0) 30 = nI 0) → lv_has ls 4 [(3, .int (nI j1014)), (0, .ref (ad 0)), (1, .int (nI N_1007)), (2, .int 0)] → Hp D (Af cs ad sz) (Af cs ad sz) s.heap H locs cs ad en_1014 → W p l e (headSpec (Cond.code yX12_begin cX12_begin 4 (some .int) :: TB) (rmN 1)).room s m ([.ref (ad 0), .int (nI N_1007), .int 0] : List Value).toArray below meth c H locs 0 0 (MQ below (va_Qi (S := Nat → va_E) (fun r en1 => RX cy cs ad en1 ∧ (∀ c, (c ≠ 0 ∧ c ≠ 2) → en1 c = en c) ∧ r = spBegin (nI N_1007) 0 ∧ (en1 = en ∨ ((rdI (en1 0) 1 = rdI (en 0) 1 ∧ rdI (en1 0) 2 = (nI N_1007) ∧ rdI (en1 0) 3 = 0 ∧ rdI (en1 0) 4 = nI 0 ∧ rdI (en1 0) 25 = -9 ∧ rdI (en1 0) 30 = nI 0) ∧ ∀ i, i < 36 → rdF (en1 2) i = 0))) (PostM D cs ad) (Af cs ad sz)) ([.ref (ad 0), .int (nI N_1007), .int 0] : List Value).toArray s 0 0 (Af cs ad sz)) (F0 m 63 ls []) := by
        intro fu
        induction fu with
        | zero => intro j1014  en_1014 ls H locs h0 h1 h2; exact absurd h2 (by omega)
        | succ fu ih_1014 =>
          intro j1014  en_1014 ls H locs hj0_1014 hj_1014 hfu_1014 hI_1014 hf_1014 i0_1014 i1_1014 hl hh
          refine lv_iload_n hx hb dX12_begin_63 rfl (lv_at hl 0 rfl) ?_
          refine lv_bipush (v := 36) hx hb dX12_begin_64 (by decide) ?_
          refine lv_icmp_ge (tgt := 82) hx hb dX12_begin_66 (by decide) (fun c_1015 => ?_) (fun c_1015 => ?_)
          · have n_1015 : 36 ≤ j1014 := n_le (a := 36) (b := j1014) c_1015 (by decide) (by omega)
            refine lv_iconst (v := 1) hx hb dX12_begin_82 (by decide) ?_
            exact hp_iretM hx hb hr rfl hlocks hh (⟨hI_1014, hf_1014, (by unfold spBegin; rw [if_pos ⟨hp_1007, Or.inl rfl⟩]), Or.inr ⟨i1_1014, fun i hi => i0_1014 i (by omega)⟩⟩) dX12_begin_83
          · have n_1015 : j1014 < 36 := n_nle (a := 36) (b := j1014) c_1015 (by decide) (by omega)
            refine lv_aload_n hx hb dX12_begin_69 rfl (lv_at hl 1 rfl) ?_
            obtain ⟨fa_1016, hi_1016, wd_1016, mo_1016, tb_1016, dp_1016, many_1016, grt_1016, lst_1016, nou_1016, rm_1016, rb_1016, pr_1016, wo_1016, es1016, p0_1016, p1_1016, p2_1016, p3_1016, p4_1016⟩ := getr_M hI_1014
            refine hp_get hx hb hts ix12 hown hK hh (q := 0) rfl (hI.1 _ (by decide)) es1016 rfl 6 (by decide) (hts _ tw_885) (fun _ h9 => h9) rfl dX12_begin_70 ?_
            refine lv_iload_n hx hb dX12_begin_73 rfl (lv_at hl 0 rfl) ?_
            refine lv_iconst (v := 0) hx hb dX12_begin_74 (by decide) ?_
            obtain ⟨f_1017, es1017, p0_1017⟩ := getr_mn hI_1014
            refine hp_zast hx hb hK hh (q := 2) rfl (hI.1 _ (by decide)) es1017 (vp_in_nI (n := j1014) (by omega) (by decide)) dX12_begin_75 (fun H locs en_1018 hen_1018 hh => ?_)
            rw [nI_clamp (n := j1014) (by omega)] at hen_1018
            have es1016_1018 : en_1018 0 = .inr (11, [.int fa_1016, .int hi_1016, .int (nI wd_1016), .int (nI mo_1016), .int (nI tb_1016), .ref (ad 1), .ref (ad 2), .ref (ad 3), .ref (ad 4), .ref (ad 5), .ref (ad 6), .ref (ad 7), .ref (ad 8), .ref (ad 9), .int dp_1016, .long many_1016, .long grt_1016, .long lst_1016, .long nou_1016, .ref (ad 10), .ref (ad 11), .ref (ad 12), .int rm_1016, .long rb_1016, .ref (ad 13), .int pr_1016, .ref (ad 14), .ref (ad 15), .ref (ad 16), .ref (ad 17), .int (nI wo_1016), .ref (ad 18), .ref (ad 19)]) := by rw [hen_1018, va_up_ne _ _ (by decide)]; exact es1016
            have es1017_1018 : en_1018 2 = .inl (cy 2, 36, .inl (upd f_1017 j1014 (vp_nar .boolean 0))) := by rw [hen_1018]; exact va_up_self _ _ _
            have hI_1018 : RX cy cs ad en_1018 := by rw [hen_1018]; exact upr_mn hI_1014 ⟨(upd f_1017 j1014 (vp_nar .boolean 0)), rfl, (bits_upd p0_1017 (Or.inl rfl))⟩
            have hf_1018 : ∀ c, (c ≠ 0 ∧ c ≠ 2) → en_1018 c = en c := fun c hc => Eq.trans (show en_1018 c = en_1014 c from by rw [hen_1018, va_up_ne _ _ (by omega)]) (hf_1014 c hc)
            refine lv_iinc (v := (nI (j1014 + 1))) (lv' := [(3, .int (nI (j1014 + 1))), (0, .ref (ad 0)), (1, .int (nI N_1007)), (2, .int 0)]) hx hb dX12_begin_76 hl (k := 0) rfl (nI_1 _) (by decide) rfl (fun ls hl => ?_)
            refine lv_goto (tgt := 63) hx hb dX12_begin_79 (by decide) ?_
            exact ih_1014 ((j1014 + 1))  en_1018 ls H locs (by omega) (by omega) (by omega) hI_1018 hf_1018 (fun i hi => by rw [es1017_1018]; exact z_upd hi vp_bit0 (fun h9 => (show f_1017 i = rdF (en_1014 2) i from by rw [es1017]; rfl).trans (i0_1014 i h9))) (by rw [show en_1018 0 = en_1014 0 from by rw [hen_1018, va_up_ne _ _ (by decide)]]; exact i1_1014) (lv_sub hl [0, 1, 2, 3] rfl) hh
      exact loop_1014 (36 + 1) 0  en_1013 ls _ _ (Nat.le_refl _) (by omega) (by omega) hI_1013 hf_1013 (fun i h => absurd h (Nat.not_lt_zero i)) (⟨by rw [es1006_1013, es1006]; rfl, by rw [es1006_1013]; rfl, by rw [es1006_1013]; rfl, by rw [es1006_1013]; rfl, by rw [es1006_1013]; rfl, by rw [es1006_1013]; rfl⟩) (lv_sub hl [0, 1, 2, 3] rfl) hh
    · refine lv_iload_n hx hb dX12_begin_18 rfl (lv_at hl 2 rfl) ?_
      refine lv_i2l hx hb dX12_begin_19 rfl ?_
      refine lv_ldc2 hx hb hown (hts _ tw_983) dX12_begin_20 ?_
      refine lv_ldc2 hx hb hown (hts _ tw_988) dX12_begin_23 ?_
      refine hp_callRi (va_runS (As := [.long m0.toInt64, .long 2, .long 97]) (rest := []) ⟨hx, hb, hml, hown, hts⟩ (c_X12_within l D cy _ cs ad en m0.toInt64 2 97) (kw_X12_within hts tw_985 ⟨by decide, by decide⟩) (preS_of hh hK) rfl rfl hl.1 rfl (lv_room (Nat.le_of_ble_eq_true rfl)) dX12_begin_26 ⟨Nat.le_of_ble_eq_true rfl, Nat.le_of_ble_eq_true rfl⟩) hh hA (fun r_1019 H locs hw_1019 hh => ?_)
      rcases Decidable.em (wi m0 2 97) with hp_1019 | hp_1019
      · obtain rfl : r_1019 = 1 := Eq.trans hw_1019 (if_pos ((wj_32 (by decide) (by decide)).mpr hp_1019))
        obtain ⟨N_1019, rfl, hA_1019, hB_1019⟩ := wi_natB hp_1019 2 97 (by decide) (by decide)
        refine lv_if_ne (tgt := 35) hx hb dX12_begin_29 (by decide) (fun _ => ?_) (fun c_0 => absurd c_0 (by decide))
        refine lv_aload_n hx hb dX12_begin_35 rfl (lv_at hl 0 rfl) ?_
        refine lv_iload_n hx hb dX12_begin_36 rfl (lv_at hl 1 rfl) ?_
        refine hp_put hx hb hts ix12 tyX12 tyX12_ok nmX12 hown hK hh (q := 0) rfl (hI.1 _ (by decide)) es1006 rfl 2 (by decide) (hts _ tw_881) (fun _ h9 => h9) rfl (ty := .int) (by decide +kernel) rfl rfl (Nat.le_of_ble_eq_true rfl) dX12_begin_37 (fun H locs en_1020 hen_1020 hh => ?_)
        have es1006_1020 : en_1020 0 = .inr (11, [.int fa, .int hi, .int (nI N_1007), .int (nI mo), .int (nI tb), .ref (ad 1), .ref (ad 2), .ref (ad 3), .ref (ad 4), .ref (ad 5), .ref (ad 6), .ref (ad 7), .ref (ad 8), .ref (ad 9), .int dp, .long many, .long grt, .long lst, .long nou, .ref (ad 10), .ref (ad 11), .ref (ad 12), .int rm, .long rb, .ref (ad 13), .int pr, .ref (ad 14), .ref (ad 15), .ref (ad 16), .ref (ad 17), .int (nI wo), .ref (ad 18), .ref (ad 19)]) := by rw [hen_1020]; exact va_up_self _ _ _
        have hI_1020 : RX cy cs ad en_1020 := by rw [hen_1020]; exact upr_M hI ⟨fa, hi, N_1007, mo, tb, dp, many, grt, lst, nou, rm, rb, pr, wo, rfl, (by omega), (by omega), hmo, htb, hwo⟩
        have hf_1020 : ∀ c, (c ≠ 0 ∧ c ≠ 2) → en_1020 c = en c := fun c hc => Eq.trans (show en_1020 c = en c from by rw [hen_1020, va_up_ne _ _ (by omega)]) (hf0 c hc)
        refine lv_aload_n hx hb dX12_begin_40 rfl (lv_at hl 0 rfl) ?_
        refine lv_iload_n hx hb dX12_begin_41 rfl (lv_at hl 2 rfl) ?_
        refine hp_put hx hb hts ix12 tyX12 tyX12_ok nmX12 hown hK hh (q := 0) rfl (hI.1 _ (by decide)) es1006_1020 rfl 3 (by decide) (hts _ tw_882) (fun _ h9 => h9) rfl (ty := .int) (by decide +kernel) rfl rfl (Nat.le_of_ble_eq_true rfl) dX12_begin_42 (fun H locs en_1021 hen_1021 hh => ?_)
        have es1006_1021 : en_1021 0 = .inr (11, [.int fa, .int hi, .int (nI N_1007), .int (nI N_1019), .int (nI tb), .ref (ad 1), .ref (ad 2), .ref (ad 3), .ref (ad 4), .ref (ad 5), .ref (ad 6), .ref (ad 7), .ref (ad 8), .ref (ad 9), .int dp, .long many, .long grt, .long lst, .long nou, .ref (ad 10), .ref (ad 11), .ref (ad 12), .int rm, .long rb, .ref (ad 13), .int pr, .ref (ad 14), .ref (ad 15), .ref (ad 16), .ref (ad 17), .int (nI wo), .ref (ad 18), .ref (ad 19)]) := by rw [hen_1021]; exact va_up_self _ _ _
        have hI_1021 : RX cy cs ad en_1021 := by rw [hen_1021]; exact upr_M hI_1020 ⟨fa, hi, N_1007, N_1019, tb, dp, many, grt, lst, nou, rm, rb, pr, wo, rfl, (by omega), (by omega), (by omega), htb, hwo⟩
        have hf_1021 : ∀ c, (c ≠ 0 ∧ c ≠ 2) → en_1021 c = en c := fun c hc => Eq.trans (show en_1021 c = en_1020 c from by rw [hen_1021, va_up_ne _ _ (by omega)]) (hf_1020 c hc)
        refine lv_aload_n hx hb dX12_begin_45 rfl (lv_at hl 0 rfl) ?_
        refine lv_iconst (v := 0) hx hb dX12_begin_46 (by decide) ?_
        refine hp_put hx hb hts ix12 tyX12 tyX12_ok nmX12 hown hK hh (q := 0) rfl (hI.1 _ (by decide)) es1006_1021 rfl 4 (by decide) (hts _ tw_883) (fun _ h9 => h9) rfl (ty := .int) (by decide +kernel) rfl rfl (Nat.le_of_ble_eq_true rfl) dX12_begin_47 (fun H locs en_1022 hen_1022 hh => ?_)
        have es1006_1022 : en_1022 0 = .inr (11, [.int fa, .int hi, .int (nI N_1007), .int (nI N_1019), .int 0, .ref (ad 1), .ref (ad 2), .ref (ad 3), .ref (ad 4), .ref (ad 5), .ref (ad 6), .ref (ad 7), .ref (ad 8), .ref (ad 9), .int dp, .long many, .long grt, .long lst, .long nou, .ref (ad 10), .ref (ad 11), .ref (ad 12), .int rm, .long rb, .ref (ad 13), .int pr, .ref (ad 14), .ref (ad 15), .ref (ad 16), .ref (ad 17), .int (nI wo), .ref (ad 18), .ref (ad 19)]) := by rw [hen_1022]; exact va_up_self _ _ _
        have hI_1022 : RX cy cs ad en_1022 := by rw [hen_1022]; exact upr_M hI_1021 ⟨fa, hi, N_1007, N_1019, 0, dp, many, grt, lst, nou, rm, rb, pr, wo, rfl, (by omega), (by omega), (by omega), (by omega), hwo⟩
        have hf_1022 : ∀ c, (c ≠ 0 ∧ c ≠ 2) → en_1022 c = en c := fun c hc => Eq.trans (show en_1022 c = en_1021 c from by rw [hen_1022, va_up_ne _ _ (by omega)]) (hf_1021 c hc)
        refine lv_aload_n hx hb dX12_begin_50 rfl (lv_at hl 0 rfl) ?_
        refine lv_iconst (v := 0) hx hb dX12_begin_51 (by decide) ?_
        refine hp_put hx hb hts ix12 tyX12 tyX12_ok nmX12 hown hK hh (q := 0) rfl (hI.1 _ (by decide)) es1006_1022 rfl 30 (by decide) (hts _ tw_909) (fun _ h9 => h9) rfl (ty := .int) (by decide +kernel) rfl rfl (Nat.le_of_ble_eq_true rfl) dX12_begin_52 (fun H locs en_1023 hen_1023 hh => ?_)
        have es1006_1023 : en_1023 0 = .inr (11, [.int fa, .int hi, .int (nI N_1007), .int (nI N_1019), .int 0, .ref (ad 1), .ref (ad 2), .ref (ad 3), .ref (ad 4), .ref (ad 5), .ref (ad 6), .ref (ad 7), .ref (ad 8), .ref (ad 9), .int dp, .long many, .long grt, .long lst, .long nou, .ref (ad 10), .ref (ad 11), .ref (ad 12), .int rm, .long rb, .ref (ad 13), .int pr, .ref (ad 14), .ref (ad 15), .ref (ad 16), .ref (ad 17), .int 0, .ref (ad 18), .ref (ad 19)]) := by rw [hen_1023]; exact va_up_self _ _ _
        have hI_1023 : RX cy cs ad en_1023 := by rw [hen_1023]; exact upr_M hI_1022 ⟨fa, hi, N_1007, N_1019, 0, dp, many, grt, lst, nou, rm, rb, pr, 0, rfl, (by omega), (by omega), (by omega), (by omega), (by omega)⟩
        have hf_1023 : ∀ c, (c ≠ 0 ∧ c ≠ 2) → en_1023 c = en c := fun c hc => Eq.trans (show en_1023 c = en_1022 c from by rw [hen_1023, va_up_ne _ _ (by omega)]) (hf_1022 c hc)
        refine lv_aload_n hx hb dX12_begin_55 rfl (lv_at hl 0 rfl) ?_
        refine lv_bipush (v := (-9)) hx hb dX12_begin_56 (by decide) ?_
        refine hp_put hx hb hts ix12 tyX12 tyX12_ok nmX12 hown hK hh (q := 0) rfl (hI.1 _ (by decide)) es1006_1023 rfl 25 (by decide) (hts _ tw_904) (fun _ h9 => h9) rfl (ty := .int) (by decide +kernel) rfl rfl (Nat.le_of_ble_eq_true rfl) dX12_begin_58 (fun H locs en_1024 hen_1024 hh => ?_)
        have es1006_1024 : en_1024 0 = .inr (11, [.int fa, .int hi, .int (nI N_1007), .int (nI N_1019), .int 0, .ref (ad 1), .ref (ad 2), .ref (ad 3), .ref (ad 4), .ref (ad 5), .ref (ad 6), .ref (ad 7), .ref (ad 8), .ref (ad 9), .int dp, .long many, .long grt, .long lst, .long nou, .ref (ad 10), .ref (ad 11), .ref (ad 12), .int rm, .long rb, .ref (ad 13), .int (-9), .ref (ad 14), .ref (ad 15), .ref (ad 16), .ref (ad 17), .int 0, .ref (ad 18), .ref (ad 19)]) := by rw [hen_1024]; exact va_up_self _ _ _
        have hI_1024 : RX cy cs ad en_1024 := by rw [hen_1024]; exact upr_M hI_1023 ⟨fa, hi, N_1007, N_1019, 0, dp, many, grt, lst, nou, rm, rb, (-9), 0, rfl, (by omega), (by omega), (by omega), (by omega), (by omega)⟩
        have hf_1024 : ∀ c, (c ≠ 0 ∧ c ≠ 2) → en_1024 c = en c := fun c hc => Eq.trans (show en_1024 c = en_1023 c from by rw [hen_1024, va_up_ne _ _ (by omega)]) (hf_1023 c hc)
        refine lv_iconst (v := 0) hx hb dX12_begin_61 (by decide) ?_
        refine lv_istore_n (lv' := [(3, .int 0), (0, .ref (ad 0)), (1, .int (nI N_1007)), (2, .int (nI N_1019))]) hx hb dX12_begin_62 rfl hl (by decide) rfl (fun ls hl => ?_)
        have loop_1025 : ∀ (fu j1025 : Nat)  (en_1025 : Nat → va_E) (ls : Array Slot) (H : Heap) (locs : List Loc), 0 ≤ j1025 → j1025 ≤ 36 → 36 < j1025 + fu → RX cy cs ad en_1025 → (∀ c, (c ≠ 0 ∧ c ≠ 2) → en_1025 c = en c) → (∀ i, i < j1025 → rdF (en_1025 2) i = 0) → (rdI (en_1025 0) 1 = rdI (en 0) 1 ∧ rdI (en_1025 0) 2 = (nI N_1007) ∧ rdI (en_1025 0) 3 = (nI N_1019) ∧ rdI (en_1025 0) 4 = nI 0 ∧ rdI (en_1025 0) 25 = -9 ∧ rdI (en_1025 0) 30 = nI 0) → lv_has ls 4 [(3, .int (nI j1025)), (0, .ref (ad 0)), (1, .int (nI N_1007)), (2, .int (nI N_1019))] → Hp D (Af cs ad sz) (Af cs ad sz) s.heap H locs cs ad en_1025 → W p l e (headSpec (Cond.code yX12_begin cX12_begin 4 (some .int) :: TB) (rmN 1)).room s m ([.ref (ad 0), .int (nI N_1007), .int (nI N_1019)] : List Value).toArray below meth c H locs 0 0 (MQ below (va_Qi (S := Nat → va_E) (fun r en1 => RX cy cs ad en1 ∧ (∀ c, (c ≠ 0 ∧ c ≠ 2) → en1 c = en c) ∧ r = spBegin (nI N_1007) (nI N_1019) ∧ (en1 = en ∨ ((rdI (en1 0) 1 = rdI (en 0) 1 ∧ rdI (en1 0) 2 = (nI N_1007) ∧ rdI (en1 0) 3 = (nI N_1019) ∧ rdI (en1 0) 4 = nI 0 ∧ rdI (en1 0) 25 = -9 ∧ rdI (en1 0) 30 = nI 0) ∧ ∀ i, i < 36 → rdF (en1 2) i = 0))) (PostM D cs ad) (Af cs ad sz)) ([.ref (ad 0), .int (nI N_1007), .int (nI N_1019)] : List Value).toArray s 0 0 (Af cs ad sz)) (F0 m 63 ls []) := by
          intro fu
          induction fu with
          | zero => intro j1025  en_1025 ls H locs h0 h1 h2; exact absurd h2 (by omega)
          | succ fu ih_1025 =>
            intro j1025  en_1025 ls H locs hj0_1025 hj_1025 hfu_1025 hI_1025 hf_1025 i0_1025 i1_1025 hl hh
            refine lv_iload_n hx hb dX12_begin_63 rfl (lv_at hl 0 rfl) ?_
            refine lv_bipush (v := 36) hx hb dX12_begin_64 (by decide) ?_
            refine lv_icmp_ge (tgt := 82) hx hb dX12_begin_66 (by decide) (fun c_1026 => ?_) (fun c_1026 => ?_)
            · have n_1026 : 36 ≤ j1025 := n_le (a := 36) (b := j1025) c_1026 (by decide) (by omega)
              refine lv_iconst (v := 1) hx hb dX12_begin_82 (by decide) ?_
              exact hp_iretM hx hb hr rfl hlocks hh (⟨hI_1025, hf_1025, (by unfold spBegin; rw [if_pos ⟨hp_1007, Or.inr hp_1019⟩]), Or.inr ⟨i1_1025, fun i hi => i0_1025 i (by omega)⟩⟩) dX12_begin_83
            · have n_1026 : j1025 < 36 := n_nle (a := 36) (b := j1025) c_1026 (by decide) (by omega)
              refine lv_aload_n hx hb dX12_begin_69 rfl (lv_at hl 1 rfl) ?_
              obtain ⟨fa_1027, hi_1027, wd_1027, mo_1027, tb_1027, dp_1027, many_1027, grt_1027, lst_1027, nou_1027, rm_1027, rb_1027, pr_1027, wo_1027, es1027, p0_1027, p1_1027, p2_1027, p3_1027, p4_1027⟩ := getr_M hI_1025
              refine hp_get hx hb hts ix12 hown hK hh (q := 0) rfl (hI.1 _ (by decide)) es1027 rfl 6 (by decide) (hts _ tw_885) (fun _ h9 => h9) rfl dX12_begin_70 ?_
              refine lv_iload_n hx hb dX12_begin_73 rfl (lv_at hl 0 rfl) ?_
              refine lv_iconst (v := 0) hx hb dX12_begin_74 (by decide) ?_
              obtain ⟨f_1028, es1028, p0_1028⟩ := getr_mn hI_1025
              refine hp_zast hx hb hK hh (q := 2) rfl (hI.1 _ (by decide)) es1028 (vp_in_nI (n := j1025) (by omega) (by decide)) dX12_begin_75 (fun H locs en_1029 hen_1029 hh => ?_)
              rw [nI_clamp (n := j1025) (by omega)] at hen_1029
              have es1027_1029 : en_1029 0 = .inr (11, [.int fa_1027, .int hi_1027, .int (nI wd_1027), .int (nI mo_1027), .int (nI tb_1027), .ref (ad 1), .ref (ad 2), .ref (ad 3), .ref (ad 4), .ref (ad 5), .ref (ad 6), .ref (ad 7), .ref (ad 8), .ref (ad 9), .int dp_1027, .long many_1027, .long grt_1027, .long lst_1027, .long nou_1027, .ref (ad 10), .ref (ad 11), .ref (ad 12), .int rm_1027, .long rb_1027, .ref (ad 13), .int pr_1027, .ref (ad 14), .ref (ad 15), .ref (ad 16), .ref (ad 17), .int (nI wo_1027), .ref (ad 18), .ref (ad 19)]) := by rw [hen_1029, va_up_ne _ _ (by decide)]; exact es1027
              have es1028_1029 : en_1029 2 = .inl (cy 2, 36, .inl (upd f_1028 j1025 (vp_nar .boolean 0))) := by rw [hen_1029]; exact va_up_self _ _ _
              have hI_1029 : RX cy cs ad en_1029 := by rw [hen_1029]; exact upr_mn hI_1025 ⟨(upd f_1028 j1025 (vp_nar .boolean 0)), rfl, (bits_upd p0_1028 (Or.inl rfl))⟩
              have hf_1029 : ∀ c, (c ≠ 0 ∧ c ≠ 2) → en_1029 c = en c := fun c hc => Eq.trans (show en_1029 c = en_1025 c from by rw [hen_1029, va_up_ne _ _ (by omega)]) (hf_1025 c hc)
              refine lv_iinc (v := (nI (j1025 + 1))) (lv' := [(3, .int (nI (j1025 + 1))), (0, .ref (ad 0)), (1, .int (nI N_1007)), (2, .int (nI N_1019))]) hx hb dX12_begin_76 hl (k := 0) rfl (nI_1 _) (by decide) rfl (fun ls hl => ?_)
              refine lv_goto (tgt := 63) hx hb dX12_begin_79 (by decide) ?_
              exact ih_1025 ((j1025 + 1))  en_1029 ls H locs (by omega) (by omega) (by omega) hI_1029 hf_1029 (fun i hi => by rw [es1028_1029]; exact z_upd hi vp_bit0 (fun h9 => (show f_1028 i = rdF (en_1025 2) i from by rw [es1028]; rfl).trans (i0_1025 i h9))) (by rw [show en_1029 0 = en_1025 0 from by rw [hen_1029, va_up_ne _ _ (by decide)]]; exact i1_1025) (lv_sub hl [0, 1, 2, 3] rfl) hh
        exact loop_1025 (36 + 1) 0  en_1024 ls _ _ (Nat.le_refl _) (by omega) (by omega) hI_1024 hf_1024 (fun i h => absurd h (Nat.not_lt_zero i)) (⟨by rw [es1006_1024, es1006]; rfl, by rw [es1006_1024]; rfl, by rw [es1006_1024]; rfl, by rw [es1006_1024]; rfl, by rw [es1006_1024]; rfl, by rw [es1006_1024]; rfl⟩) (lv_sub hl [0, 1, 2, 3] rfl) hh
      · obtain rfl : r_1019 = 0 := Eq.trans hw_1019 (if_neg (fun q => hp_1019 ((wj_32 (by decide) (by decide)).mp q)))
        refine lv_if_ne (tgt := 35) hx hb dX12_begin_29 (by decide) (fun c_0 => absurd c_0 (by decide)) (fun _ => ?_)
        refine lv_bipush (v := (-2)) hx hb dX12_begin_32 (by decide) ?_
        exact hp_iretM hx hb hr rfl hlocks hh (⟨hI, hf0, (by unfold spBegin; rw [if_neg (fun q => q.2.elim c_1008 hp_1019)]), Or.inl rfl⟩) dX12_begin_34
  · obtain rfl : r_1007 = 0 := Eq.trans hw_1007 (if_neg (fun q => hp_1007 ((wj_32 (by decide) (by decide)).mp q)))
    refine lv_if_eq (tgt := 32) hx hb dX12_begin_11 (by decide) (fun _ => ?_) (fun c_0 => absurd c_0 (by decide))
    refine lv_bipush (v := (-2)) hx hb dX12_begin_32 (by decide) ?_
    exact hp_iretM hx hb hr rfl hlocks hh (⟨hI, hf0, (by unfold spBegin; rw [if_neg (fun q => hp_1007 q.1)]), Or.inl rfl⟩) dX12_begin_34
theorem kw_X12_begin {R : Room} {s : State} {args : Array Value} {own : String} {idx : Nat} (hts : ∀ w ∈ TB, w.before args s = true) (hl : Cond.methodLink own idx yX12_begin ∈ TB) (hR : 1 + 1 ≤ R.frames ∧ 8 + (4 + 11) + 40 * 1 ≤ R.locals) : CallW R s args own RX12 idx yX12_begin cX12_begin 4 (some .int) (Cond.code yX12_begin cX12_begin 4 (some .int) :: TB) (rmN 1) 0 0 2 := cwV 2 hts (TB_V hl tw_980 tw_981 tw_9 tw_982) rfl rfl rfl (by decide +kernel) hR
set_option maxHeartbeats 4000000 in
set_option maxRecDepth 100000 in
/-- against -/
theorem c_X12_against (l : Launch) (D : va_G) (cy : Nat → ClassId) (sz : Nat) (cs : List Nat) (ad : Nat → Nat) (en : Nat → va_E) (hI : RX cy cs ad en) (k9 la9 : Int32)   : Met l yX12_against (Cond.code yX12_against cX12_against 3 (some .int) :: TB) (rmN 1) (va_Pc [.ref (ad 0), .int k9, .int la9] (Pre D cy cs ad en sz)) (va_Qi (S := Nat → va_E) (fun r en1 => RX cy cs ad en1 ∧ (∀ c, (c ≠ 0) → en1 c = en c) ∧ r = agF (rdF (en 3) k9.toNatClampNeg) k9 la9 ∧ (r = 0 → en1 = en) ∧ KP en en1) (PostM D cs ad) (Af cs ad sz)) 0 0 (Af cs ad sz) := by
  refine Met.ofW (cc := cX12_against) (maxL := 3) (ret := (some .int)) (by decide) rfl ?_
  intro p e s m args below meth c s₁ B hml hv
  obtain ⟨rfl, hsz, hP, hK, hD0⟩ := hv
  have hx := B.exec
  have hb := B.bytes
  have hr := B.returns
  have hts : ∀ w ∈ TB, w.before _ s = true := fun w h => atoms_spec (ws := _ :: TB) B.pre w (List.mem_cons_of_mem _ h)
  have hown : s.vm.findClass RX12 = some m.cls := findClass_of_methodNamed B.named
  have hlocks := B.notSynchronized
  have hh : Hp D (Af cs ad sz) (Af cs ad sz) s.heap s.heap [] cs ad en := ⟨hP, Af_self hD0, va_S.rf⟩
  have hA : ∀ q : Nat, s.heap.size ≤ q → Af cs ad sz q := fun q h => Or.inr (by rw [hsz] at h; exact h)
  have hl := lv_entry ([.ref (ad 0), .int k9, .int la9]) (n := 3) (Nat.le_of_ble_eq_true rfl)
  rw [lg_entry_eq]
  generalize (lg_sl ([.ref (ad 0), .int k9, .int la9]) ++ List.replicate (3 - (lg_sl ([.ref (ad 0), .int k9, .int la9])).length) Slot.unset).toArray = ls at hl ⊢
  have hl : lv_has ls 3 [(0, .ref (ad 0)), (1, .int k9), (2, .int la9)] := hl
  have hf0 : ∀ c, (c ≠ 0) → en c = en c := fun _ _ => rfl
  obtain ⟨fa, hi, wd, mo, tb, dp, many, grt, lst, nou, rm, rb, pr, wo, es1030, hwd2, hwd3, hmo, htb, hwo⟩ := getr_M hI
  obtain ⟨f_1031, es1031⟩ := getr_la hI
  refine lv_iload_n hx hb dX12_against_0 rfl (lv_at hl 1 rfl) ?_
  refine lv_i2l hx hb dX12_against_1 rfl ?_
  refine lv_lconst (v := 0) hx hb dX12_against_2 (by decide) ?_
  refine lv_ldc2 hx hb hown (hts _ tw_984) dX12_against_3 ?_
  refine hp_callRi (va_runS (As := [.long k9.toInt64, .long 0, .long 3]) (rest := []) ⟨hx, hb, hml, hown, hts⟩ (c_X12_within l D cy _ cs ad en k9.toInt64 0 3) (kw_X12_within hts tw_985 ⟨by decide, by decide⟩) (preS_of hh hK) rfl rfl hl.1 rfl (lv_room (Nat.le_of_ble_eq_true rfl)) dX12_against_6 ⟨Nat.le_of_ble_eq_true rfl, Nat.le_of_ble_eq_true rfl⟩) hh hA (fun r_1032 H locs hw_1032 hh => ?_)
  rcases Decidable.em (wi k9 0 3) with hp_1032 | hp_1032
  · obtain rfl : r_1032 = 1 := Eq.trans hw_1032 (if_pos ((wj_32 (by decide) (by decide)).mpr hp_1032))
    obtain ⟨N_1032, rfl, hA_1032, hB_1032⟩ := wi_natB hp_1032 0 3 (by decide) (by decide)
    refine lv_if_ne (tgt := 14) hx hb dX12_against_9 (by decide) (fun _ => ?_) (fun c_0 => absurd c_0 (by decide))
    refine lv_iload_n hx hb dX12_against_14 rfl (lv_at hl 2 rfl) ?_
    refine lv_i2l hx hb dX12_against_15 rfl ?_
    refine lv_lconst (v := 0) hx hb dX12_against_16 (by decide) ?_
    refine lv_ldc2 hx hb hown (hts _ tw_983) dX12_against_17 ?_
    refine hp_callRi (va_runS (As := [.long la9.toInt64, .long 0, .long 2]) (rest := []) ⟨hx, hb, hml, hown, hts⟩ (c_X12_within l D cy _ cs ad en la9.toInt64 0 2) (kw_X12_within hts tw_985 ⟨by decide, by decide⟩) (preS_of hh hK) rfl rfl hl.1 rfl (lv_room (Nat.le_of_ble_eq_true rfl)) dX12_against_20 ⟨Nat.le_of_ble_eq_true rfl, Nat.le_of_ble_eq_true rfl⟩) hh hA (fun r_1033 H locs hw_1033 hh => ?_)
    rcases Decidable.em (wi la9 0 2) with hp_1033 | hp_1033
    · obtain rfl : r_1033 = 1 := Eq.trans hw_1033 (if_pos ((wj_32 (by decide) (by decide)).mpr hp_1033))
      obtain ⟨N_1033, rfl, hA_1033, hB_1033⟩ := wi_natB hp_1033 0 2 (by decide) (by decide)
      refine lv_if_ne (tgt := 29) hx hb dX12_against_23 (by decide) (fun _ => ?_) (fun c_0 => absurd c_0 (by decide))
      refine lv_aload_n hx hb dX12_against_29 rfl (lv_at hl 0 rfl) ?_
      refine hp_get hx hb hts ix12 hown hK hh (q := 0) rfl (hI.1 _ (by decide)) es1030 rfl 7 (by decide) (hts _ tw_886) (fun _ h9 => h9) rfl dX12_against_30 ?_
      refine lv_iload_n hx hb dX12_against_33 rfl (lv_at hl 1 rfl) ?_
      refine hp_iald hx hb hK hh (q := 3) rfl (hI.1 _ (by decide)) es1031 (vp_in_nI (n := N_1032) (by omega) (by decide)) dX12_against_34 ?_
      rw [nI_clamp (n := N_1032) (by omega)]
      refine lv_bipush (v := (-9)) hx hb dX12_against_35 (by decide) ?_
      refine lv_icmp_eq (tgt := 56) hx hb dX12_against_37 (by decide) (fun c_1034 => ?_) (fun c_1034 => ?_)
      · refine lv_aload_n hx hb dX12_against_56 rfl (lv_at hl 0 rfl) ?_
        refine hp_get hx hb hts ix12 hown hK hh (q := 0) rfl (hI.1 _ (by decide)) es1030 rfl 7 (by decide) (hts _ tw_886) (fun _ h9 => h9) rfl dX12_against_57 ?_
        refine lv_iload_n hx hb dX12_against_60 rfl (lv_at hl 1 rfl) ?_
        refine hp_iald hx hb hK hh (q := 3) rfl (hI.1 _ (by decide)) es1031 (vp_in_nI (n := N_1032) (by omega) (by decide)) dX12_against_61 ?_
        rw [nI_clamp (n := N_1032) (by omega)]
        refine lv_bipush (v := (-9)) hx hb dX12_against_62 (by decide) ?_
        refine lv_icmp_ne (tgt := 75) hx hb dX12_against_64 (by decide) (fun c_0 => absurd (c_1034) c_0) (fun _ => ?_)
        refine lv_aload_n hx hb dX12_against_67 rfl (lv_at hl 0 rfl) ?_
        refine lv_iconst (v := 1) hx hb dX12_against_68 (by decide) ?_
        refine hp_callMi (va_runV (As := [.int 1]) (rest := []) ⟨hx, hb, hml, hown, hts⟩ (c_X12_fails l D cy _ cs ad en (hI.1 _ (by decide)) fa hi wd mo tb dp many grt lst nou rm rb pr wo 1 es1030) (kw_X12_fails hts tw_997 ⟨by decide, by decide⟩) (preV_of hh hK (hI.1 _ (by decide)) es1030 rfl) rfl rfl hl.1 rfl (lv_room (Nat.le_of_ble_eq_true rfl)) dX12_against_69 ⟨Nat.le_of_ble_eq_true rfl, Nat.le_of_ble_eq_true rfl⟩) hh hA (fun r_1035 H locs en_1035 hw_1035 hh => ?_)
        obtain ⟨hr_1035, hen_1035⟩ := hw_1035
        have es1031_1035 : en_1035 3 = .inl (cy 0, 4, .inl f_1031) := by rw [hen_1035, va_up_ne _ _ (by decide)]; exact es1031
        have es1030_1035 : en_1035 0 = .inr (11, [.int 1, .int hi, .int (nI wd), .int (nI mo), .int (nI tb), .ref (ad 1), .ref (ad 2), .ref (ad 3), .ref (ad 4), .ref (ad 5), .ref (ad 6), .ref (ad 7), .ref (ad 8), .ref (ad 9), .int dp, .long many, .long grt, .long lst, .long nou, .ref (ad 10), .ref (ad 11), .ref (ad 12), .int rm, .long rb, .ref (ad 13), .int pr, .ref (ad 14), .ref (ad 15), .ref (ad 16), .ref (ad 17), .int (nI wo), .ref (ad 18), .ref (ad 19)]) := by rw [hen_1035]; exact va_up_self _ _ _
        have hI_1035 : RX cy cs ad en_1035 := by rw [hen_1035]; exact upr_M hI ⟨1, hi, wd, mo, tb, dp, many, grt, lst, nou, rm, rb, pr, wo, rfl, hwd2, hwd3, hmo, htb, hwo⟩
        have hf_1035 : ∀ c, (c ≠ 0) → en_1035 c = en c := fun c hc => Eq.trans (show en_1035 c = en c from by rw [hen_1035, va_up_ne _ _ (by omega)]) (hf0 c hc)
        have hkp_1035 : KP en en_1035 := KP_fv (KP_rf en) es1030 es1030_1035 hi (nI wd) (nI mo) (nI tb) pr (nI wo) rfl rfl rfl rfl rfl rfl rfl rfl rfl rfl rfl rfl
        obtain rfl : r_1035 = (-11) := hr_1035.trans (by decide)
        refine lv_goto (tgt := 76) hx hb dX12_against_72 (by decide) ?_
        exact hp_iretM hx hb hr rfl hlocks hh (⟨hI_1035, hf_1035, (by (try rw [nI_clamp (n := N_1032) (by omega)]); rw [show rdF (en 3) = f_1031 from by rw [es1031]; rfl]; unfold agF; rw [if_pos hp_1032, if_pos hp_1033, if_neg (fun q => q.1 c_1034), if_pos c_1034]), (fun q => absurd q (by decide)), hkp_1035⟩) dX12_against_76
      · refine lv_aload_n hx hb dX12_against_40 rfl (lv_at hl 0 rfl) ?_
        refine hp_get hx hb hts ix12 hown hK hh (q := 0) rfl (hI.1 _ (by decide)) es1030 rfl 7 (by decide) (hts _ tw_886) (fun _ h9 => h9) rfl dX12_against_41 ?_
        refine lv_iload_n hx hb dX12_against_44 rfl (lv_at hl 1 rfl) ?_
        refine hp_iald hx hb hK hh (q := 3) rfl (hI.1 _ (by decide)) es1031 (vp_in_nI (n := N_1032) (by omega) (by decide)) dX12_against_45 ?_
        rw [nI_clamp (n := N_1032) (by omega)]
        refine lv_iload_n hx hb dX12_against_46 rfl (lv_at hl 2 rfl) ?_
        refine lv_icmp_eq (tgt := 56) hx hb dX12_against_47 (by decide) (fun c_1036 => ?_) (fun c_1036 => ?_)
        · refine lv_aload_n hx hb dX12_against_56 rfl (lv_at hl 0 rfl) ?_
          refine hp_get hx hb hts ix12 hown hK hh (q := 0) rfl (hI.1 _ (by decide)) es1030 rfl 7 (by decide) (hts _ tw_886) (fun _ h9 => h9) rfl dX12_against_57 ?_
          refine lv_iload_n hx hb dX12_against_60 rfl (lv_at hl 1 rfl) ?_
          refine hp_iald hx hb hK hh (q := 3) rfl (hI.1 _ (by decide)) es1031 (vp_in_nI (n := N_1032) (by omega) (by decide)) dX12_against_61 ?_
          rw [nI_clamp (n := N_1032) (by omega)]
          refine lv_bipush (v := (-9)) hx hb dX12_against_62 (by decide) ?_
          refine lv_icmp_ne (tgt := 75) hx hb dX12_against_64 (by decide) (fun _ => ?_) (fun c_0 => absurd c_0 (c_1034))
          refine lv_iconst (v := 0) hx hb dX12_against_75 (by decide) ?_
          exact hp_iretM hx hb hr rfl hlocks hh (⟨hI, hf0, (by (try rw [nI_clamp (n := N_1032) (by omega)]); rw [show rdF (en 3) = f_1031 from by rw [es1031]; rfl]; unfold agF; rw [if_pos hp_1032, if_pos hp_1033, if_neg (fun q => q.2 c_1036), if_neg c_1034]), (fun _ => rfl), (KP_rf en)⟩) dX12_against_76
        · refine lv_aload_n hx hb dX12_against_50 rfl (lv_at hl 0 rfl) ?_
          refine lv_iconst (v := 2) hx hb dX12_against_51 (by decide) ?_
          refine hp_callMi (va_runV (As := [.int 2]) (rest := []) ⟨hx, hb, hml, hown, hts⟩ (c_X12_fails l D cy _ cs ad en (hI.1 _ (by decide)) fa hi wd mo tb dp many grt lst nou rm rb pr wo 2 es1030) (kw_X12_fails hts tw_997 ⟨by decide, by decide⟩) (preV_of hh hK (hI.1 _ (by decide)) es1030 rfl) rfl rfl hl.1 rfl (lv_room (Nat.le_of_ble_eq_true rfl)) dX12_against_52 ⟨Nat.le_of_ble_eq_true rfl, Nat.le_of_ble_eq_true rfl⟩) hh hA (fun r_1037 H locs en_1037 hw_1037 hh => ?_)
          obtain ⟨hr_1037, hen_1037⟩ := hw_1037
          have es1031_1037 : en_1037 3 = .inl (cy 0, 4, .inl f_1031) := by rw [hen_1037, va_up_ne _ _ (by decide)]; exact es1031
          have es1030_1037 : en_1037 0 = .inr (11, [.int 2, .int hi, .int (nI wd), .int (nI mo), .int (nI tb), .ref (ad 1), .ref (ad 2), .ref (ad 3), .ref (ad 4), .ref (ad 5), .ref (ad 6), .ref (ad 7), .ref (ad 8), .ref (ad 9), .int dp, .long many, .long grt, .long lst, .long nou, .ref (ad 10), .ref (ad 11), .ref (ad 12), .int rm, .long rb, .ref (ad 13), .int pr, .ref (ad 14), .ref (ad 15), .ref (ad 16), .ref (ad 17), .int (nI wo), .ref (ad 18), .ref (ad 19)]) := by rw [hen_1037]; exact va_up_self _ _ _
          have hI_1037 : RX cy cs ad en_1037 := by rw [hen_1037]; exact upr_M hI ⟨2, hi, wd, mo, tb, dp, many, grt, lst, nou, rm, rb, pr, wo, rfl, hwd2, hwd3, hmo, htb, hwo⟩
          have hf_1037 : ∀ c, (c ≠ 0) → en_1037 c = en c := fun c hc => Eq.trans (show en_1037 c = en c from by rw [hen_1037, va_up_ne _ _ (by omega)]) (hf0 c hc)
          have hkp_1037 : KP en en_1037 := KP_fv (KP_rf en) es1030 es1030_1037 hi (nI wd) (nI mo) (nI tb) pr (nI wo) rfl rfl rfl rfl rfl rfl rfl rfl rfl rfl rfl rfl
          obtain rfl : r_1037 = (-12) := hr_1037.trans (by decide)
          exact hp_iretM hx hb hr rfl hlocks hh (⟨hI_1037, hf_1037, (by (try rw [nI_clamp (n := N_1032) (by omega)]); rw [show rdF (en 3) = f_1031 from by rw [es1031]; rfl]; unfold agF; rw [if_pos hp_1032, if_pos hp_1033, if_pos ⟨c_1034, c_1036⟩]), (fun q => absurd q (by decide)), hkp_1037⟩) dX12_against_55
    · obtain rfl : r_1033 = 0 := Eq.trans hw_1033 (if_neg (fun q => hp_1033 ((wj_32 (by decide) (by decide)).mp q)))
      refine lv_if_ne (tgt := 29) hx hb dX12_against_23 (by decide) (fun c_0 => absurd c_0 (by decide)) (fun _ => ?_)
      refine lv_bipush (v := (-2)) hx hb dX12_against_26 (by decide) ?_
      exact hp_iretM hx hb hr rfl hlocks hh (⟨hI, hf0, (by unfold agF; rw [if_pos hp_1032, if_neg hp_1033]), (fun q => absurd q (by decide)), (KP_rf en)⟩) dX12_against_28
  · obtain rfl : r_1032 = 0 := Eq.trans hw_1032 (if_neg (fun q => hp_1032 ((wj_32 (by decide) (by decide)).mp q)))
    refine lv_if_ne (tgt := 14) hx hb dX12_against_9 (by decide) (fun c_0 => absurd c_0 (by decide)) (fun _ => ?_)
    refine lv_iconst (v := (-1)) hx hb dX12_against_12 (by decide) ?_
    exact hp_iretM hx hb hr rfl hlocks hh (⟨hI, hf0, (by unfold agF; rw [if_neg hp_1032]), (fun q => absurd q (by decide)), (KP_rf en)⟩) dX12_against_13
theorem kw_X12_against {R : Room} {s : State} {args : Array Value} {own : String} {idx : Nat} (hts : ∀ w ∈ TB, w.before args s = true) (hl : Cond.methodLink own idx yX12_against ∈ TB) (hR : 1 + 1 ≤ R.frames ∧ 8 + (3 + 11) + 40 * 1 ≤ R.locals) : CallW R s args own RX12 idx yX12_against cX12_against 3 (some .int) (Cond.code yX12_against cX12_against 3 (some .int) :: TB) (rmN 1) 0 0 2 := cwV 2 hts (TB_V hl tw_995 ts_31 tw_9 tw_996) rfl rfl rfl (by decide +kernel) hR
set_option maxHeartbeats 4000000 in
set_option maxRecDepth 100000 in
/-- table -/
theorem c_X12_table (l : Launch) (D : va_G) (cy : Nat → ClassId) (sz : Nat) (cs : List Nat) (ad : Nat → Nat) (en : Nat → va_E) (hI : RX cy cs ad en) (k9 la9 i9 : Int32)   : Met l yX12_table (Cond.code yX12_table cX12_table 6 (some .int) :: TB) (rmN 2) (va_Pc [.ref (ad 0), .int k9, .int la9, .int i9] (Pre D cy cs ad en sz)) (va_Qi (S := Nat → va_E) (fun r en1 => RX cy cs ad en1 ∧ (∀ c, (c ≠ 0 ∧ c ≠ 1) → en1 c = en c) ∧ (KP en en1 ∨ (∃ t, t < 6 ∧ r = nI t ∧ rdI (en 0) 4 = nI t ∧ rdI (en1 0) 1 = rdI (en 0) 1 ∧ rdI (en1 0) 2 = rdI (en 0) 2 ∧ rdI (en1 0) 3 = rdI (en 0) 3 ∧ rdI (en1 0) 4 = nI (t + 1) ∧ rdI (en1 0) 25 = -9 ∧ rdI (en1 0) 30 = rdI (en 0) 30))) (PostM D cs ad) (Af cs ad sz)) 0 0 (Af cs ad sz) := by
  refine Met.ofW (cc := cX12_table) (maxL := 6) (ret := (some .int)) (by decide) rfl ?_
  intro p e s m args below meth c s₁ B hml hv
  obtain ⟨rfl, hsz, hP, hK, hD0⟩ := hv
  have hx := B.exec
  have hb := B.bytes
  have hr := B.returns
  have hts : ∀ w ∈ TB, w.before _ s = true := fun w h => atoms_spec (ws := _ :: TB) B.pre w (List.mem_cons_of_mem _ h)
  have hown : s.vm.findClass RX12 = some m.cls := findClass_of_methodNamed B.named
  have hlocks := B.notSynchronized
  have hh : Hp D (Af cs ad sz) (Af cs ad sz) s.heap s.heap [] cs ad en := ⟨hP, Af_self hD0, va_S.rf⟩
  have hA : ∀ q : Nat, s.heap.size ≤ q → Af cs ad sz q := fun q h => Or.inr (by rw [hsz] at h; exact h)
  have hl := lv_entry ([.ref (ad 0), .int k9, .int la9, .int i9]) (n := 6) (Nat.le_of_ble_eq_true rfl)
  rw [lg_entry_eq]
  generalize (lg_sl ([.ref (ad 0), .int k9, .int la9, .int i9]) ++ List.replicate (6 - (lg_sl ([.ref (ad 0), .int k9, .int la9, .int i9])).length) Slot.unset).toArray = ls at hl ⊢
  have hl : lv_has ls 6 [(0, .ref (ad 0)), (1, .int k9), (2, .int la9), (3, .int i9)] := hl
  have hf0 : ∀ c, (c ≠ 0 ∧ c ≠ 1) → en c = en c := fun _ _ => rfl
  obtain ⟨fa, hi, wd, mo, tb, dp, many, grt, lst, nou, rm, rb, pr, wo, es1038, hwd2, hwd3, hmo, htb, hwo⟩ := getr_M hI
  obtain ⟨f_1039, es1039, p0_1039⟩ := getr_sl hI
  obtain ⟨f_1040, es1040⟩ := getr_ce hI
  refine lv_aload_n hx hb dX12_table_0 rfl (lv_at hl 0 rfl) ?_
  refine lv_iconst (v := 0) hx hb dX12_table_1 (by decide) ?_
  refine hp_put hx hb hts ix12 tyX12 tyX12_ok nmX12 hown hK hh (q := 0) rfl (hI.1 _ (by decide)) es1038 rfl 0 (by decide) (hts _ tw_879) (fun _ h9 => h9) rfl (ty := .int) (by decide +kernel) rfl rfl (Nat.le_of_ble_eq_true rfl) dX12_table_2 (fun H locs en_1041 hen_1041 hh => ?_)
  have es1039_1041 : en_1041 4 = .inl (cy 0, 4, .inl f_1039) := by rw [hen_1041, va_up_ne _ _ (by decide)]; exact es1039
  have es1040_1041 : en_1041 5 = .inl (cy 0, 160, .inl f_1040) := by rw [hen_1041, va_up_ne _ _ (by decide)]; exact es1040
  have es1038_1041 : en_1041 0 = .inr (11, [.int 0, .int hi, .int (nI wd), .int (nI mo), .int (nI tb), .ref (ad 1), .ref (ad 2), .ref (ad 3), .ref (ad 4), .ref (ad 5), .ref (ad 6), .ref (ad 7), .ref (ad 8), .ref (ad 9), .int dp, .long many, .long grt, .long lst, .long nou, .ref (ad 10), .ref (ad 11), .ref (ad 12), .int rm, .long rb, .ref (ad 13), .int pr, .ref (ad 14), .ref (ad 15), .ref (ad 16), .ref (ad 17), .int (nI wo), .ref (ad 18), .ref (ad 19)]) := by rw [hen_1041]; exact va_up_self _ _ _
  have hI_1041 : RX cy cs ad en_1041 := by rw [hen_1041]; exact upr_M hI ⟨0, hi, wd, mo, tb, dp, many, grt, lst, nou, rm, rb, pr, wo, rfl, hwd2, hwd3, hmo, htb, hwo⟩
  have hf_1041 : ∀ c, (c ≠ 0 ∧ c ≠ 1) → en_1041 c = en c := fun c hc => Eq.trans (show en_1041 c = en c from by rw [hen_1041, va_up_ne _ _ (by omega)]) (hf0 c hc)
  have hkp_1041 : KP en en_1041 := KP_fv (KP_rf en) es1038 es1038_1041 hi (nI wd) (nI mo) (nI tb) pr (nI wo) rfl rfl rfl rfl rfl rfl rfl rfl rfl rfl rfl rfl
  refine lv_aload_n hx hb dX12_table_5 rfl (lv_at hl 0 rfl) ?_
  refine lv_iload_n hx hb dX12_table_6 rfl (lv_at hl 1 rfl) ?_
  refine lv_iload_n hx hb dX12_table_7 rfl (lv_at hl 2 rfl) ?_
  refine hp_callMi (va_runV (As := [.int k9, .int la9]) (rest := []) ⟨hx, hb, hml, hown, hts⟩ (c_X12_against l D cy _ cs ad en_1041 hI_1041 k9 la9 ) (kw_X12_against hts tw_993 ⟨by decide, by decide⟩) (preV_of hh hK (hI.1 _ (by decide)) es1038_1041 rfl) rfl rfl hl.1 rfl (lv_room (Nat.le_of_ble_eq_true rfl)) dX12_table_8 ⟨Nat.le_of_ble_eq_true rfl, Nat.le_of_ble_eq_true rfl⟩) hh hA (fun r_1042 H locs en_1042 hw_1042 hh => ?_)
  obtain ⟨hI_1042, hu_1042, hr_1042, h0_1042, hkq_1042⟩ := hw_1042
  rcases Decidable.em (r_1042 = 0) with hz_1042 | hz_1042
  · have he_1042 : en_1042 = en_1041 := h0_1042 hz_1042
    rw [he_1042] at hh
    have hag_1042 := agF_0 (hr_1042.symm.trans hz_1042)
    rw [hz_1042]
    refine lv_istore (lv' := [(4, .int 0), (0, .ref (ad 0)), (1, .int k9), (2, .int la9), (3, .int i9)]) hx hb dX12_table_11 hl (by decide) rfl (fun ls hl => ?_)
    refine lv_iload hx hb dX12_table_13 (lv_at hl 0 rfl) ?_
    refine lv_if_eq (tgt := 21) hx hb dX12_table_15 (by decide) (fun _ => ?_) (fun c_0 => absurd c_0 (by decide))
    obtain ⟨K9, rfl, -, hK9⟩ := wi_natB hag_1042.1 0 3 (by decide) (by decide)
    refine lv_iload_n hx hb dX12_table_21 rfl (lv_at hl 4 rfl) ?_
    refine lv_if_lt (tgt := 45) hx hb dX12_table_22 (by decide) (fun c_1043 => ?_) (fun c_1043 => ?_)
    · refine lv_aload_n hx hb dX12_table_45 rfl (lv_at hl 1 rfl) ?_
      refine lv_iconst (v := 3) hx hb dX12_table_46 (by decide) ?_
      refine hp_callMi (va_runV (As := [.int 3]) (rest := []) ⟨hx, hb, hml, hown, hts⟩ (c_X12_fails l D cy _ cs ad en_1041 (hI.1 _ (by decide)) 0 hi wd mo tb dp many grt lst nou rm rb pr wo 3 es1038_1041) (kw_X12_fails hts tw_997 ⟨by decide, by decide⟩) (preV_of hh hK (hI.1 _ (by decide)) es1038_1041 rfl) rfl rfl hl.1 rfl (lv_room (Nat.le_of_ble_eq_true rfl)) dX12_table_47 ⟨Nat.le_of_ble_eq_true rfl, Nat.le_of_ble_eq_true rfl⟩) hh hA (fun r_1044 H locs en_1044 hw_1044 hh => ?_)
      obtain ⟨hr_1044, hen_1044⟩ := hw_1044
      have es1039_1044 : en_1044 4 = .inl (cy 0, 4, .inl f_1039) := by rw [hen_1044, va_up_ne _ _ (by decide)]; exact es1039_1041
      have es1040_1044 : en_1044 5 = .inl (cy 0, 160, .inl f_1040) := by rw [hen_1044, va_up_ne _ _ (by decide)]; exact es1040_1041
      have es1038_1044 : en_1044 0 = .inr (11, [.int 3, .int hi, .int (nI wd), .int (nI mo), .int (nI tb), .ref (ad 1), .ref (ad 2), .ref (ad 3), .ref (ad 4), .ref (ad 5), .ref (ad 6), .ref (ad 7), .ref (ad 8), .ref (ad 9), .int dp, .long many, .long grt, .long lst, .long nou, .ref (ad 10), .ref (ad 11), .ref (ad 12), .int rm, .long rb, .ref (ad 13), .int pr, .ref (ad 14), .ref (ad 15), .ref (ad 16), .ref (ad 17), .int (nI wo), .ref (ad 18), .ref (ad 19)]) := by rw [hen_1044]; exact va_up_self _ _ _
      have hI_1044 : RX cy cs ad en_1044 := by rw [hen_1044]; exact upr_M hI_1041 ⟨3, hi, wd, mo, tb, dp, many, grt, lst, nou, rm, rb, pr, wo, rfl, hwd2, hwd3, hmo, htb, hwo⟩
      have hf_1044 : ∀ c, (c ≠ 0 ∧ c ≠ 1) → en_1044 c = en c := fun c hc => Eq.trans (show en_1044 c = en_1041 c from by rw [hen_1044, va_up_ne _ _ (by omega)]) (hf_1041 c hc)
      have hkp_1044 : KP en en_1044 := KP_fv hkp_1041 es1038_1041 es1038_1044 hi (nI wd) (nI mo) (nI tb) pr (nI wo) rfl rfl rfl rfl rfl rfl rfl rfl rfl rfl rfl rfl
      obtain rfl : r_1044 = (-13) := hr_1044.trans (by decide)
      exact hp_iretM hx hb hr rfl hlocks hh (⟨hI_1044, hf_1044, Or.inl hkp_1044⟩) dX12_table_50
    · refine lv_iload_n hx hb dX12_table_25 rfl (lv_at hl 4 rfl) ?_
      refine lv_aload_n hx hb dX12_table_26 rfl (lv_at hl 1 rfl) ?_
      refine hp_get hx hb hts ix12 hown hK hh (q := 0) rfl (hI.1 _ (by decide)) es1038_1041 rfl 8 (by decide) (hts _ tw_887) (fun _ h9 => h9) rfl dX12_table_27 ?_
      refine lv_iload_n hx hb dX12_table_30 rfl (lv_at hl 2 rfl) ?_
      refine hp_iald hx hb hK hh (q := 4) rfl (hI.1 _ (by decide)) es1039_1041 (vp_in_nI (n := K9) (by omega) (by decide)) dX12_table_31 ?_
      rw [nI_clamp (n := K9) (by omega)]
      obtain ⟨v_1045, hv_1045, hfv_1045⟩ := p0_1039 K9 (by omega)
      rw [hfv_1045]
      refine lv_aload_n hx hb dX12_table_32 rfl (lv_at hl 1 rfl) ?_
      refine hp_get hx hb hts ix12 hown hK hh (q := 0) rfl (hI.1 _ (by decide)) es1038_1041 rfl 2 (by decide) (hts _ tw_881) (fun _ h9 => h9) rfl dX12_table_33 ?_
      refine lv_aload_n hx hb dX12_table_36 rfl (lv_at hl 1 rfl) ?_
      refine hp_get hx hb hts ix12 hown hK hh (q := 0) rfl (hI.1 _ (by decide)) es1038_1041 rfl 2 (by decide) (hts _ tw_881) (fun _ h9 => h9) rfl dX12_table_37 ?_
      refine lv_imul hx hb dX12_table_40 ?_
      rw [pk_mul wd wd]
      have hw2_1046 : wd * wd ≤ 9 := mww (by omega)
      refine lv_isub hx hb dX12_table_41 ?_
      refine lv_icmp_le (tgt := 51) hx hb dX12_table_42 (by decide) (fun c_1047 => ?_) (fun c_1047 => ?_)
      · obtain ⟨I9, rfl, hI9⟩ := le_sub_nat c_1043 c_1047 (by omega) (by omega)
        refine lv_iconst (v := 0) hx hb dX12_table_51 (by decide) ?_
        refine lv_istore (lv' := [(5, .int 0), (4, .int 0), (0, .ref (ad 0)), (1, .int (nI K9)), (2, .int la9), (3, .int (nI I9))]) hx hb dX12_table_52 hl (by decide) rfl (fun ls hl => ?_)
        have loop_1048 : ∀ (fu j1048 : Nat)  (en_1048 : Nat → va_E) (ls : Array Slot) (H : Heap) (locs : List Loc), 0 ≤ j1048 → j1048 ≤ 9 → 9 < j1048 + fu → RX cy cs ad en_1048 → (∀ c, (c ≠ 0 ∧ c ≠ 1) → en_1048 c = en c) → (KP en en_1048) → lv_has ls 6 [(5, .int (nI j1048)), (4, .int 0), (0, .ref (ad 0)), (1, .int (nI K9)), (2, .int la9), (3, .int (nI I9))] → Hp D (Af cs ad sz) (Af cs ad sz) s.heap H locs cs ad en_1048 → W p l e (headSpec (Cond.code yX12_table cX12_table 6 (some .int) :: TB) (rmN 2)).room s m ([.ref (ad 0), .int (nI K9), .int la9, .int (nI I9)] : List Value).toArray below meth c H locs 0 0 (MQ below (va_Qi (S := Nat → va_E) (fun r en1 => RX cy cs ad en1 ∧ (∀ c, (c ≠ 0 ∧ c ≠ 1) → en1 c = en c) ∧ (KP en en1 ∨ (∃ t, t < 6 ∧ r = nI t ∧ rdI (en 0) 4 = nI t ∧ rdI (en1 0) 1 = rdI (en 0) 1 ∧ rdI (en1 0) 2 = rdI (en 0) 2 ∧ rdI (en1 0) 3 = rdI (en 0) 3 ∧ rdI (en1 0) 4 = nI (t + 1) ∧ rdI (en1 0) 25 = -9 ∧ rdI (en1 0) 30 = rdI (en 0) 30))) (PostM D cs ad) (Af cs ad sz)) ([.ref (ad 0), .int (nI K9), .int la9, .int (nI I9)] : List Value).toArray s 0 0 (Af cs ad sz)) (F0 m 54 ls []) := by
          intro fu
          induction fu with
          | zero => intro j1048  en_1048 ls H locs h0 h1 h2; exact absurd h2 (by omega)
          | succ fu ih_1048 =>
            intro j1048  en_1048 ls H locs hj0_1048 hj_1048 hfu_1048 hI_1048 hf_1048 i0_1048 hl hh
            refine lv_iload hx hb dX12_table_54 (lv_at hl 0 rfl) ?_
            refine lv_aload_n hx hb dX12_table_56 rfl (lv_at hl 2 rfl) ?_
            obtain ⟨fa_1049, hi_1049, wd_1049, mo_1049, tb_1049, dp_1049, many_1049, grt_1049, lst_1049, nou_1049, rm_1049, rb_1049, pr_1049, wo_1049, es1049, p0_1049, p1_1049, p2_1049, p3_1049, p4_1049⟩ := getr_M hI_1048
            have hq2_1050 : wd_1049 = wd := n_eq ((show nI wd_1049 = rdI (en_1048 0) 2 from by rw [es1049]; rfl).trans (i0_1048.2.1.trans (show rdI (en 0) 2 = nI wd from by rw [es1038]; rfl))) (by omega) (by omega)
            have hq3_1050 : mo_1049 = mo := n_eq ((show nI mo_1049 = rdI (en_1048 0) 3 from by rw [es1049]; rfl).trans (i0_1048.2.2.1.trans (show rdI (en 0) 3 = nI mo from by rw [es1038]; rfl))) (by omega) (by omega)
            have hq4_1050 : tb_1049 = tb := n_eq ((show nI tb_1049 = rdI (en_1048 0) 4 from by rw [es1049]; rfl).trans (i0_1048.2.2.2.1.trans (show rdI (en 0) 4 = nI tb from by rw [es1038]; rfl))) (by omega) (by omega)
            have hq30_1050 : wo_1049 = wo := n_eq ((show nI wo_1049 = rdI (en_1048 0) 30 from by rw [es1049]; rfl).trans (i0_1048.2.2.2.2.2.trans (show rdI (en 0) 30 = nI wo from by rw [es1038]; rfl))) (by omega) (by omega)
            rw [hq2_1050, hq3_1050, hq4_1050, hq30_1050] at es1049
            refine hp_get hx hb hts ix12 hown hK hh (q := 0) rfl (hI.1 _ (by decide)) es1049 rfl 2 (by decide) (hts _ tw_881) (fun _ h9 => h9) rfl dX12_table_57 ?_
            refine lv_aload_n hx hb dX12_table_60 rfl (lv_at hl 2 rfl) ?_
            refine hp_get hx hb hts ix12 hown hK hh (q := 0) rfl (hI.1 _ (by decide)) es1049 rfl 2 (by decide) (hts _ tw_881) (fun _ h9 => h9) rfl dX12_table_61 ?_
            refine lv_imul hx hb dX12_table_64 ?_
            rw [pk_mul wd wd]
            have hw2_1051 : wd * wd ≤ 9 := mww (by omega)
            refine lv_icmp_ge (tgt := 104) hx hb dX12_table_65 (by decide) (fun c_1052 => ?_) (fun c_1052 => ?_)
            · have n_1052 : (wd * wd) ≤ j1048 := n_le (a := (wd * wd)) (b := j1048) c_1052 (by omega) (by omega)
              refine lv_aload_n hx hb dX12_table_104 rfl (lv_at hl 2 rfl) ?_
              refine hp_get hx hb hts ix12 hown hK hh (q := 0) rfl (hI.1 _ (by decide)) es1049 rfl 4 (by decide) (hts _ tw_883) (fun _ h9 => h9) rfl dX12_table_105 ?_
              refine lv_bipush (v := 6) hx hb dX12_table_108 (by decide) ?_
              refine lv_icmp_ne (tgt := 116) hx hb dX12_table_110 (by decide) (fun c_1053 => ?_) (fun c_1053 => ?_)
              · have n_1053 : tb ≠ 6 := n_neq (a := tb) (b := 6) c_1053 (by omega) (by decide)
                refine lv_iconst (v := 0) hx hb dX12_table_116 (by decide) ?_
                refine lv_istore (lv' := [(5, .int 0), (4, .int 0), (0, .ref (ad 0)), (1, .int (nI K9)), (2, .int la9), (3, .int (nI I9))]) hx hb dX12_table_117 hl (by decide) rfl (fun ls hl => ?_)
                have loop_1054 : ∀ (fu j1054 : Nat)  (en_1054 : Nat → va_E) (ls : Array Slot) (H : Heap) (locs : List Loc), 0 ≤ j1054 → j1054 ≤ 9 → 9 < j1054 + fu → RX cy cs ad en_1054 → (∀ c, (c ≠ 0 ∧ c ≠ 1) → en_1054 c = en c) → (KP en en_1054) → lv_has ls 6 [(5, .int (nI j1054)), (4, .int 0), (0, .ref (ad 0)), (1, .int (nI K9)), (2, .int la9), (3, .int (nI I9))] → Hp D (Af cs ad sz) (Af cs ad sz) s.heap H locs cs ad en_1054 → W p l e (headSpec (Cond.code yX12_table cX12_table 6 (some .int) :: TB) (rmN 2)).room s m ([.ref (ad 0), .int (nI K9), .int la9, .int (nI I9)] : List Value).toArray below meth c H locs 0 0 (MQ below (va_Qi (S := Nat → va_E) (fun r en1 => RX cy cs ad en1 ∧ (∀ c, (c ≠ 0 ∧ c ≠ 1) → en1 c = en c) ∧ (KP en en1 ∨ (∃ t, t < 6 ∧ r = nI t ∧ rdI (en 0) 4 = nI t ∧ rdI (en1 0) 1 = rdI (en 0) 1 ∧ rdI (en1 0) 2 = rdI (en 0) 2 ∧ rdI (en1 0) 3 = rdI (en 0) 3 ∧ rdI (en1 0) 4 = nI (t + 1) ∧ rdI (en1 0) 25 = -9 ∧ rdI (en1 0) 30 = rdI (en 0) 30))) (PostM D cs ad) (Af cs ad sz)) ([.ref (ad 0), .int (nI K9), .int la9, .int (nI I9)] : List Value).toArray s 0 0 (Af cs ad sz)) (F0 m 119 ls []) := by
                  intro fu
                  induction fu with
                  | zero => intro j1054  en_1054 ls H locs h0 h1 h2; exact absurd h2 (by omega)
                  | succ fu ih_1054 =>
                    intro j1054  en_1054 ls H locs hj0_1054 hj_1054 hfu_1054 hI_1054 hf_1054 i0_1054 hl hh
                    refine lv_iload hx hb dX12_table_119 (lv_at hl 0 rfl) ?_
                    refine lv_aload_n hx hb dX12_table_121 rfl (lv_at hl 2 rfl) ?_
                    obtain ⟨fa_1055, hi_1055, wd_1055, mo_1055, tb_1055, dp_1055, many_1055, grt_1055, lst_1055, nou_1055, rm_1055, rb_1055, pr_1055, wo_1055, es1055, p0_1055, p1_1055, p2_1055, p3_1055, p4_1055⟩ := getr_M hI_1054
                    have hq2_1056 : wd_1055 = wd := n_eq ((show nI wd_1055 = rdI (en_1054 0) 2 from by rw [es1055]; rfl).trans (i0_1054.2.1.trans (show rdI (en 0) 2 = nI wd from by rw [es1038]; rfl))) (by omega) (by omega)
                    have hq3_1056 : mo_1055 = mo := n_eq ((show nI mo_1055 = rdI (en_1054 0) 3 from by rw [es1055]; rfl).trans (i0_1054.2.2.1.trans (show rdI (en 0) 3 = nI mo from by rw [es1038]; rfl))) (by omega) (by omega)
                    have hq4_1056 : tb_1055 = tb := n_eq ((show nI tb_1055 = rdI (en_1054 0) 4 from by rw [es1055]; rfl).trans (i0_1054.2.2.2.1.trans (show rdI (en 0) 4 = nI tb from by rw [es1038]; rfl))) (by omega) (by omega)
                    have hq30_1056 : wo_1055 = wo := n_eq ((show nI wo_1055 = rdI (en_1054 0) 30 from by rw [es1055]; rfl).trans (i0_1054.2.2.2.2.2.trans (show rdI (en 0) 30 = nI wo from by rw [es1038]; rfl))) (by omega) (by omega)
                    rw [hq2_1056, hq3_1056, hq4_1056, hq30_1056] at es1055
                    refine hp_get hx hb hts ix12 hown hK hh (q := 0) rfl (hI.1 _ (by decide)) es1055 rfl 2 (by decide) (hts _ tw_881) (fun _ h9 => h9) rfl dX12_table_122 ?_
                    refine lv_aload_n hx hb dX12_table_125 rfl (lv_at hl 2 rfl) ?_
                    refine hp_get hx hb hts ix12 hown hK hh (q := 0) rfl (hI.1 _ (by decide)) es1055 rfl 2 (by decide) (hts _ tw_881) (fun _ h9 => h9) rfl dX12_table_126 ?_
                    refine lv_imul hx hb dX12_table_129 ?_
                    rw [pk_mul wd wd]
                    have hw2_1057 : wd * wd ≤ 9 := mww (by omega)
                    refine lv_icmp_ge (tgt := 168) hx hb dX12_table_130 (by decide) (fun c_1058 => ?_) (fun c_1058 => ?_)
                    · have n_1058 : (wd * wd) ≤ j1054 := n_le (a := (wd * wd)) (b := j1054) c_1058 (by omega) (by omega)
                      refine lv_aload_n hx hb dX12_table_168 rfl (lv_at hl 2 rfl) ?_
                      refine lv_bipush (v := (-9)) hx hb dX12_table_169 (by decide) ?_
                      refine hp_put hx hb hts ix12 tyX12 tyX12_ok nmX12 hown hK hh (q := 0) rfl (hI.1 _ (by decide)) es1055 rfl 25 (by decide) (hts _ tw_904) (fun _ h9 => h9) rfl (ty := .int) (by decide +kernel) rfl rfl (Nat.le_of_ble_eq_true rfl) dX12_table_171 (fun H locs en_1059 hen_1059 hh => ?_)
                      have es1055_1059 : en_1059 0 = .inr (11, [.int fa_1055, .int hi_1055, .int (nI wd), .int (nI mo), .int (nI tb), .ref (ad 1), .ref (ad 2), .ref (ad 3), .ref (ad 4), .ref (ad 5), .ref (ad 6), .ref (ad 7), .ref (ad 8), .ref (ad 9), .int dp_1055, .long many_1055, .long grt_1055, .long lst_1055, .long nou_1055, .ref (ad 10), .ref (ad 11), .ref (ad 12), .int rm_1055, .long rb_1055, .ref (ad 13), .int (-9), .ref (ad 14), .ref (ad 15), .ref (ad 16), .ref (ad 17), .int (nI wo), .ref (ad 18), .ref (ad 19)]) := by rw [hen_1059]; exact va_up_self _ _ _
                      have hI_1059 : RX cy cs ad en_1059 := by rw [hen_1059]; exact upr_M hI_1054 ⟨fa_1055, hi_1055, wd, mo, tb, dp_1055, many_1055, grt_1055, lst_1055, nou_1055, rm_1055, rb_1055, (-9), wo, rfl, hwd2, hwd3, hmo, htb, hwo⟩
                      have hf_1059 : ∀ c, (c ≠ 0 ∧ c ≠ 1) → en_1059 c = en c := fun c hc => Eq.trans (show en_1059 c = en_1054 c from by rw [hen_1059, va_up_ne _ _ (by omega)]) (hf_1054 c hc)
                      refine lv_aload_n hx hb dX12_table_174 rfl (lv_at hl 2 rfl) ?_
                      refine lv_dup hx hb dX12_table_175 rfl ?_
                      refine hp_get hx hb hts ix12 hown hK hh (q := 0) rfl (hI.1 _ (by decide)) es1055_1059 rfl 4 (by decide) (hts _ tw_883) (fun _ h9 => h9) rfl dX12_table_176 ?_
                      refine lv_iconst (v := 1) hx hb dX12_table_179 (by decide) ?_
                      refine lv_iadd hx hb dX12_table_180 ?_
                      rw [show (1 : Int32) = nI 1 from rfl, nI_add tb 1]
                      refine hp_put hx hb hts ix12 tyX12 tyX12_ok nmX12 hown hK hh (q := 0) rfl (hI.1 _ (by decide)) es1055_1059 rfl 4 (by decide) (hts _ tw_883) (fun _ h9 => h9) rfl (ty := .int) (by decide +kernel) rfl rfl (Nat.le_of_ble_eq_true rfl) dX12_table_181 (fun H locs en_1060 hen_1060 hh => ?_)
                      have es1055_1060 : en_1060 0 = .inr (11, [.int fa_1055, .int hi_1055, .int (nI wd), .int (nI mo), .int (nI (tb + 1)), .ref (ad 1), .ref (ad 2), .ref (ad 3), .ref (ad 4), .ref (ad 5), .ref (ad 6), .ref (ad 7), .ref (ad 8), .ref (ad 9), .int dp_1055, .long many_1055, .long grt_1055, .long lst_1055, .long nou_1055, .ref (ad 10), .ref (ad 11), .ref (ad 12), .int rm_1055, .long rb_1055, .ref (ad 13), .int (-9), .ref (ad 14), .ref (ad 15), .ref (ad 16), .ref (ad 17), .int (nI wo), .ref (ad 18), .ref (ad 19)]) := by rw [hen_1060]; exact va_up_self _ _ _
                      have hI_1060 : RX cy cs ad en_1060 := by rw [hen_1060]; exact upr_M hI_1059 ⟨fa_1055, hi_1055, wd, mo, (tb + 1), dp_1055, many_1055, grt_1055, lst_1055, nou_1055, rm_1055, rb_1055, (-9), wo, rfl, hwd2, hwd3, hmo, (by omega), hwo⟩
                      have hf_1060 : ∀ c, (c ≠ 0 ∧ c ≠ 1) → en_1060 c = en c := fun c hc => Eq.trans (show en_1060 c = en_1059 c from by rw [hen_1060, va_up_ne _ _ (by omega)]) (hf_1059 c hc)
                      refine lv_aload_n hx hb dX12_table_184 rfl (lv_at hl 2 rfl) ?_
                      refine hp_get hx hb hts ix12 hown hK hh (q := 0) rfl (hI.1 _ (by decide)) es1055_1060 rfl 4 (by decide) (hts _ tw_883) (fun _ h9 => h9) rfl dX12_table_185 ?_
                      refine lv_iconst (v := 1) hx hb dX12_table_188 (by decide) ?_
                      refine lv_isub hx hb dX12_table_189 ?_
                      rw [show (1 : Int32) = nI 1 from rfl, pk_sub (a := (tb + 1)) (b := 1) (by omega)]
                      exact hp_iretM hx hb hr rfl hlocks hh (⟨hI_1060, hf_1060, Or.inr ⟨tb, by omega, congrArg nI (by omega), (i0_1054.2.2.2.1.symm.trans (by rw [es1055]; exact congrArg nI (by omega))), (Eq.trans (show rdI (en_1060 0) 1 = rdI (en_1054 0) 1 from by rw [es1055_1060, es1055]; rfl) i0_1054.1), (Eq.trans (show rdI (en_1060 0) 2 = rdI (en_1054 0) 2 from by rw [es1055_1060, es1055]; rfl) i0_1054.2.1), (Eq.trans (show rdI (en_1060 0) 3 = rdI (en_1054 0) 3 from by rw [es1055_1060, es1055]; rfl) i0_1054.2.2.1), (by rw [es1055_1060]; exact congrArg nI (by omega)), (by rw [es1055_1060]; rfl), (Eq.trans (show rdI (en_1060 0) 30 = rdI (en_1054 0) 30 from by rw [es1055_1060, es1055]; rfl) i0_1054.2.2.2.2.2)⟩⟩) dX12_table_190
                    · have n_1058 : j1054 < (wd * wd) := n_nle (a := (wd * wd)) (b := j1054) c_1058 (by omega) (by omega)
                      refine lv_aload_n hx hb dX12_table_133 rfl (lv_at hl 2 rfl) ?_
                      refine hp_get hx hb hts ix12 hown hK hh (q := 0) rfl (hI.1 _ (by decide)) es1055 rfl 5 (by decide) (hts _ tw_884) (fun _ h9 => h9) rfl dX12_table_134 ?_
                      refine lv_bipush (v := 9) hx hb dX12_table_137 (by decide) ?_
                      refine lv_aload_n hx hb dX12_table_139 rfl (lv_at hl 2 rfl) ?_
                      refine hp_get hx hb hts ix12 hown hK hh (q := 0) rfl (hI.1 _ (by decide)) es1055 rfl 4 (by decide) (hts _ tw_883) (fun _ h9 => h9) rfl dX12_table_140 ?_
                      refine lv_imul hx hb dX12_table_143 ?_
                      rw [show (9 : Int32) = nI 9 from rfl, pk_mul 9 tb]
                      refine lv_iload hx hb dX12_table_144 (lv_at hl 0 rfl) ?_
                      refine lv_iadd hx hb dX12_table_146 ?_
                      rw [nI_add (9 * tb) j1054]
                      refine lv_aload_n hx hb dX12_table_147 rfl (lv_at hl 2 rfl) ?_
                      refine hp_get hx hb hts ix12 hown hK hh (q := 0) rfl (hI.1 _ (by decide)) es1055 rfl 9 (by decide) (hts _ tw_888) (fun _ h9 => h9) rfl dX12_table_148 ?_
                      refine lv_bipush (v := 40) hx hb dX12_table_151 (by decide) ?_
                      refine lv_iload_n hx hb dX12_table_153 rfl (lv_at hl 3 rfl) ?_
                      refine lv_imul hx hb dX12_table_154 ?_
                      rw [show (40 : Int32) = nI 40 from rfl, pk_mul 40 K9]
                      refine lv_iload_n hx hb dX12_table_155 rfl (lv_at hl 5 rfl) ?_
                      refine lv_iadd hx hb dX12_table_156 ?_
                      rw [nI_add (40 * K9) I9]
                      refine lv_iload hx hb dX12_table_157 (lv_at hl 0 rfl) ?_
                      refine lv_iadd hx hb dX12_table_159 ?_
                      rw [nI_add ((40 * K9) + I9) j1054]
                      have es1040_1061 : en_1054 5 = .inl (cy 0, 160, .inl f_1040) := (hf_1054 5 (by omega)).trans es1040
                      refine hp_iald hx hb hK hh (q := 5) rfl (hI.1 _ (by decide)) es1040_1061 (vp_in_nI (n := (((40 * K9) + I9) + j1054)) (by omega) (by decide)) dX12_table_160 ?_
                      rw [nI_clamp (n := (((40 * K9) + I9) + j1054)) (by omega)]
                      obtain ⟨f_1062, es1062⟩ := getr_E hI_1054
                      refine hp_iast hx hb hK hh (q := 1) rfl (hI.1 _ (by decide)) es1062 (vp_in_nI (n := ((9 * tb) + j1054)) (by omega) (by decide)) dX12_table_161 (fun H locs en_1063 hen_1063 hh => ?_)
                      rw [nI_clamp (n := ((9 * tb) + j1054)) (by omega)] at hen_1063
                      have es1055_1063 : en_1063 0 = .inr (11, [.int fa_1055, .int hi_1055, .int (nI wd), .int (nI mo), .int (nI tb), .ref (ad 1), .ref (ad 2), .ref (ad 3), .ref (ad 4), .ref (ad 5), .ref (ad 6), .ref (ad 7), .ref (ad 8), .ref (ad 9), .int dp_1055, .long many_1055, .long grt_1055, .long lst_1055, .long nou_1055, .ref (ad 10), .ref (ad 11), .ref (ad 12), .int rm_1055, .long rb_1055, .ref (ad 13), .int pr_1055, .ref (ad 14), .ref (ad 15), .ref (ad 16), .ref (ad 17), .int (nI wo), .ref (ad 18), .ref (ad 19)]) := by rw [hen_1063, va_up_ne _ _ (by decide)]; exact es1055
                      have es1040_1063 : en_1063 5 = .inl (cy 0, 160, .inl f_1040) := by rw [hen_1063, va_up_ne _ _ (by decide)]; exact es1040_1061
                      have es1062_1063 : en_1063 1 = .inl (cy 0, 54, .inl (upd f_1062 ((9 * tb) + j1054) (f_1040 (((40 * K9) + I9) + j1054)))) := by rw [hen_1063]; exact va_up_self _ _ _
                      have hI_1063 : RX cy cs ad en_1063 := by rw [hen_1063]; exact upr_E hI_1054 ⟨(upd f_1062 ((9 * tb) + j1054) (f_1040 (((40 * K9) + I9) + j1054))), rfl⟩
                      have hf_1063 : ∀ c, (c ≠ 0 ∧ c ≠ 1) → en_1063 c = en c := fun c hc => Eq.trans (show en_1063 c = en_1054 c from by rw [hen_1063, va_up_ne _ _ (by omega)]) (hf_1054 c hc)
                      have hkp_1063 : KP en en_1063 := KP_same i0_1054 (show en_1063 0 = en_1054 0 from by rw [hen_1063, va_up_ne _ _ (by decide)])
                      refine lv_iinc (v := (nI (j1054 + 1))) (lv' := [(5, .int (nI (j1054 + 1))), (4, .int 0), (0, .ref (ad 0)), (1, .int (nI K9)), (2, .int la9), (3, .int (nI I9))]) hx hb dX12_table_162 hl (k := 0) rfl (nI_1 _) (by decide) rfl (fun ls hl => ?_)
                      refine lv_goto (tgt := 119) hx hb dX12_table_165 (by decide) ?_
                      exact ih_1054 ((j1054 + 1))  en_1063 ls H locs (by omega) (by omega) (by omega) hI_1063 hf_1063 (hkp_1063) (lv_sub hl [0, 1, 2, 3, 4, 5] rfl) hh
                exact loop_1054 (9 + 1) 0  en_1048 ls _ _ (Nat.le_refl _) (by omega) (by omega) hI_1048 hf_1048 (i0_1048) (lv_sub hl [0, 1, 2, 3, 4, 5] rfl) hh
              · have n_1053 : tb = 6 := n_eq (a := tb) (b := 6) c_1053 (by omega) (by decide)
                refine lv_bipush (v := (-4)) hx hb dX12_table_113 (by decide) ?_
                exact hp_iretM hx hb hr rfl hlocks hh (⟨hI_1048, hf_1048, Or.inl i0_1048⟩) dX12_table_115
            · have n_1052 : j1048 < (wd * wd) := n_nle (a := (wd * wd)) (b := j1048) c_1052 (by omega) (by omega)
              refine lv_aload_n hx hb dX12_table_68 rfl (lv_at hl 2 rfl) ?_
              refine hp_get hx hb hts ix12 hown hK hh (q := 0) rfl (hI.1 _ (by decide)) es1049 rfl 9 (by decide) (hts _ tw_888) (fun _ h9 => h9) rfl dX12_table_69 ?_
              refine lv_bipush (v := 40) hx hb dX12_table_72 (by decide) ?_
              refine lv_iload_n hx hb dX12_table_74 rfl (lv_at hl 3 rfl) ?_
              refine lv_imul hx hb dX12_table_75 ?_
              rw [show (40 : Int32) = nI 40 from rfl, pk_mul 40 K9]
              refine lv_iload_n hx hb dX12_table_76 rfl (lv_at hl 5 rfl) ?_
              refine lv_iadd hx hb dX12_table_77 ?_
              rw [nI_add (40 * K9) I9]
              refine lv_iload hx hb dX12_table_78 (lv_at hl 0 rfl) ?_
              refine lv_iadd hx hb dX12_table_80 ?_
              rw [nI_add ((40 * K9) + I9) j1048]
              have es1040_1064 : en_1048 5 = .inl (cy 0, 160, .inl f_1040) := (hf_1048 5 (by omega)).trans es1040
              refine hp_iald hx hb hK hh (q := 5) rfl (hI.1 _ (by decide)) es1040_1064 (vp_in_nI (n := (((40 * K9) + I9) + j1048)) (by omega) (by decide)) dX12_table_81 ?_
              rw [nI_clamp (n := (((40 * K9) + I9) + j1048)) (by omega)]
              refine lv_i2l hx hb dX12_table_82 rfl ?_
              refine lv_ldc2 hx hb hown (hts _ tw_1001) dX12_table_83 ?_
              refine lv_ldc2 hx hb hown (hts _ tw_1002) dX12_table_86 ?_
              refine hp_callRi (va_runS (As := [.long ((f_1040 (((40 * K9) + I9) + j1048)).toInt64), .long (-9), .long 9]) (rest := []) ⟨hx, hb, hml, hown, hts⟩ (c_X12_within l D cy _ cs ad en_1048 ((f_1040 (((40 * K9) + I9) + j1048)).toInt64) (-9) 9) (kw_X12_within hts tw_985 ⟨by decide, by decide⟩) (preS_of hh hK) rfl rfl hl.1 rfl (lv_room (Nat.le_of_ble_eq_true rfl)) dX12_table_89 ⟨Nat.le_of_ble_eq_true rfl, Nat.le_of_ble_eq_true rfl⟩) hh hA (fun r_1065 H locs hw_1065 hh => ?_)
              rcases Decidable.em (wi (f_1040 (((40 * K9) + I9) + j1048)) (-9) 9) with hp_1065 | hp_1065
              · obtain rfl : r_1065 = 1 := Eq.trans hw_1065 (if_pos ((wj_32 (by decide) (by decide)).mpr hp_1065))
                refine lv_if_ne (tgt := 98) hx hb dX12_table_92 (by decide) (fun _ => ?_) (fun c_0 => absurd c_0 (by decide))
                refine lv_iinc (v := (nI (j1048 + 1))) (lv' := [(5, .int (nI (j1048 + 1))), (4, .int 0), (0, .ref (ad 0)), (1, .int (nI K9)), (2, .int la9), (3, .int (nI I9))]) hx hb dX12_table_98 hl (k := 0) rfl (nI_1 _) (by decide) rfl (fun ls hl => ?_)
                refine lv_goto (tgt := 54) hx hb dX12_table_101 (by decide) ?_
                exact ih_1048 ((j1048 + 1))  en_1048 ls H locs (by omega) (by omega) (by omega) hI_1048 hf_1048 (i0_1048) (lv_sub hl [0, 1, 2, 3, 4, 5] rfl) hh
              · obtain rfl : r_1065 = 0 := Eq.trans hw_1065 (if_neg (fun q => hp_1065 ((wj_32 (by decide) (by decide)).mp q)))
                refine lv_if_ne (tgt := 98) hx hb dX12_table_92 (by decide) (fun c_0 => absurd c_0 (by decide)) (fun _ => ?_)
                refine lv_bipush (v := (-2)) hx hb dX12_table_95 (by decide) ?_
                exact hp_iretM hx hb hr rfl hlocks hh (⟨hI_1048, hf_1048, Or.inl i0_1048⟩) dX12_table_97
        exact loop_1048 (9 + 1) 0  en_1041 ls _ _ (Nat.le_refl _) (by omega) (by omega) hI_1041 hf_1041 (hkp_1041) (lv_sub hl [0, 1, 2, 3, 4, 5] rfl) hh
      · refine lv_aload_n hx hb dX12_table_45 rfl (lv_at hl 1 rfl) ?_
        refine lv_iconst (v := 3) hx hb dX12_table_46 (by decide) ?_
        refine hp_callMi (va_runV (As := [.int 3]) (rest := []) ⟨hx, hb, hml, hown, hts⟩ (c_X12_fails l D cy _ cs ad en_1041 (hI.1 _ (by decide)) 0 hi wd mo tb dp many grt lst nou rm rb pr wo 3 es1038_1041) (kw_X12_fails hts tw_997 ⟨by decide, by decide⟩) (preV_of hh hK (hI.1 _ (by decide)) es1038_1041 rfl) rfl rfl hl.1 rfl (lv_room (Nat.le_of_ble_eq_true rfl)) dX12_table_47 ⟨Nat.le_of_ble_eq_true rfl, Nat.le_of_ble_eq_true rfl⟩) hh hA (fun r_1066 H locs en_1066 hw_1066 hh => ?_)
        obtain ⟨hr_1066, hen_1066⟩ := hw_1066
        have es1039_1066 : en_1066 4 = .inl (cy 0, 4, .inl f_1039) := by rw [hen_1066, va_up_ne _ _ (by decide)]; exact es1039_1041
        have es1040_1066 : en_1066 5 = .inl (cy 0, 160, .inl f_1040) := by rw [hen_1066, va_up_ne _ _ (by decide)]; exact es1040_1041
        have es1038_1066 : en_1066 0 = .inr (11, [.int 3, .int hi, .int (nI wd), .int (nI mo), .int (nI tb), .ref (ad 1), .ref (ad 2), .ref (ad 3), .ref (ad 4), .ref (ad 5), .ref (ad 6), .ref (ad 7), .ref (ad 8), .ref (ad 9), .int dp, .long many, .long grt, .long lst, .long nou, .ref (ad 10), .ref (ad 11), .ref (ad 12), .int rm, .long rb, .ref (ad 13), .int pr, .ref (ad 14), .ref (ad 15), .ref (ad 16), .ref (ad 17), .int (nI wo), .ref (ad 18), .ref (ad 19)]) := by rw [hen_1066]; exact va_up_self _ _ _
        have hI_1066 : RX cy cs ad en_1066 := by rw [hen_1066]; exact upr_M hI_1041 ⟨3, hi, wd, mo, tb, dp, many, grt, lst, nou, rm, rb, pr, wo, rfl, hwd2, hwd3, hmo, htb, hwo⟩
        have hf_1066 : ∀ c, (c ≠ 0 ∧ c ≠ 1) → en_1066 c = en c := fun c hc => Eq.trans (show en_1066 c = en_1041 c from by rw [hen_1066, va_up_ne _ _ (by omega)]) (hf_1041 c hc)
        have hkp_1066 : KP en en_1066 := KP_fv hkp_1041 es1038_1041 es1038_1066 hi (nI wd) (nI mo) (nI tb) pr (nI wo) rfl rfl rfl rfl rfl rfl rfl rfl rfl rfl rfl rfl
        obtain rfl : r_1066 = (-13) := hr_1066.trans (by decide)
        exact hp_iretM hx hb hr rfl hlocks hh (⟨hI_1066, hf_1066, Or.inl hkp_1066⟩) dX12_table_50
  · have hI_1042a := hI_1042
    have hf_1042 : ∀ c, (c ≠ 0 ∧ c ≠ 1) → en_1042 c = en c := fun c hc => (hu_1042 c (by omega)).trans (hf_1041 c hc)
    have hkp_1042 : KP en en_1042 := KP_tr hkp_1041 hkq_1042
    refine lv_istore (lv' := [(4, .int r_1042), (0, .ref (ad 0)), (1, .int k9), (2, .int la9), (3, .int i9)]) hx hb dX12_table_11 hl (by decide) rfl (fun ls hl => ?_)
    refine lv_iload hx hb dX12_table_13 (lv_at hl 0 rfl) ?_
    refine lv_if_eq (tgt := 21) hx hb dX12_table_15 (by decide) (fun c_0 => absurd c_0 (hz_1042)) (fun _ => ?_)
    refine lv_iload hx hb dX12_table_18 (lv_at hl 0 rfl) ?_
    exact hp_iretM hx hb hr rfl hlocks hh (⟨hI_1042, hf_1042, Or.inl hkp_1042⟩) dX12_table_20
theorem kw_X12_table {R : Room} {s : State} {args : Array Value} {own : String} {idx : Nat} (hts : ∀ w ∈ TB, w.before args s = true) (hl : Cond.methodLink own idx yX12_table ∈ TB) (hR : 2 + 1 ≤ R.frames ∧ 8 + (6 + 11) + 40 * 2 ≤ R.locals) : CallW R s args own RX12 idx yX12_table cX12_table 6 (some .int) (Cond.code yX12_table cX12_table 6 (some .int) :: TB) (rmN 2) 0 0 3 := cwV 3 hts (TB_V hl tw_990 tw_991 tw_9 tw_992) rfl rfl rfl (by decide +kernel) hR
set_option maxHeartbeats 4000000 in
set_option maxRecDepth 100000 in
/-- entry -/
theorem c_X12_entry (l : Launch) (D : va_G) (cy : Nat → ClassId) (sz : Nat) (cs : List Nat) (ad : Nat → Nat) (en : Nat → va_E) (hI : RX cy cs ad en) (t a b : Int32)   : Met l yX12_entry (Cond.code yX12_entry cX12_entry 4 (some .long) :: TB) (rmN 2) (va_Pc [.ref (ad 0), .int t, .int a, .int b] (Pre D cy cs ad en sz)) (va_Ql (S := Unit) (fun _ _ => True) (fun _ _ => True) (Nf sz)) 0 0 (Nf sz) := by
  refine Met.ofW (cc := cX12_entry) (maxL := 4) (ret := (some .long)) (by decide) rfl ?_
  intro p e s m args below meth c s₁ B hml hv
  obtain ⟨rfl, hsz, hP, hK, hD0⟩ := hv
  have hx := B.exec
  have hb := B.bytes
  have hr := B.returns
  have hts : ∀ w ∈ TB, w.before _ s = true := fun w h => atoms_spec (ws := _ :: TB) B.pre w (List.mem_cons_of_mem _ h)
  have hown : s.vm.findClass RX12 = some m.cls := findClass_of_methodNamed B.named
  have hlocks := B.notSynchronized
  have hh : Hp D (Nf sz) (fun _ => True) s.heap s.heap [] cs ad en := ⟨hP, hD0, va_S.rf⟩
  have hA : ∀ q : Nat, s.heap.size ≤ q → Nf sz q := fun q h => by rw [hsz] at h; exact h
  have hl := lv_entry ([.ref (ad 0), .int t, .int a, .int b]) (n := 4) (Nat.le_of_ble_eq_true rfl)
  rw [lg_entry_eq]
  generalize (lg_sl ([.ref (ad 0), .int t, .int a, .int b]) ++ List.replicate (4 - (lg_sl ([.ref (ad 0), .int t, .int a, .int b])).length) Slot.unset).toArray = ls at hl ⊢
  have hl : lv_has ls 4 [(0, .ref (ad 0)), (1, .int t), (2, .int a), (3, .int b)] := hl
  obtain ⟨fa, hi, wd, mo, tb, dp, many, grt, lst, nou, rm, rb, pr, wo, es1067, hwd2, hwd3, hmo, htb, hwo⟩ := getr_M hI
  obtain ⟨f_1068, es1068⟩ := getr_E hI
  refine lv_aload_n hx hb dX12_entry_0 rfl (lv_at hl 0 rfl) ?_
  refine lv_iload_n hx hb dX12_entry_1 rfl (lv_at hl 1 rfl) ?_
  refine hp_callRi (va_runV (As := [.int t]) (rest := []) ⟨hx, hb, hml, hown, hts⟩ (c_X12_isTable l D cy _ cs ad en hI t ) (kw_X12_isTable hts tw_1007 ⟨by decide, by decide⟩) (preV_of hh hK (hI.1 _ (by decide)) es1067 rfl) rfl rfl hl.1 rfl (lv_room (Nat.le_of_ble_eq_true rfl)) dX12_entry_2 ⟨Nat.le_of_ble_eq_true rfl, Nat.le_of_ble_eq_true rfl⟩) hh hA (fun r_1069 H locs hw_1069 hh => ?_)
  rw [show rdI (en 0) 4 = (nI tb) from by rw [es1067]; rfl, nI_toInt (n := tb) (by omega)] at hw_1069
  rcases Decidable.em (0 ≤ t.toInt ∧ t.toInt < (tb : Int)) with hp_1069 | hp_1069
  · obtain rfl : r_1069 = 1 := Eq.trans hw_1069 (if_pos hp_1069)
    obtain ⟨T_1069, rfl, hT_1069⟩ := has_nat hp_1069
    refine lv_if_eq (tgt := 39) hx hb dX12_entry_5 (by decide) (fun c_0 => absurd c_0 (by decide)) (fun _ => ?_)
    refine lv_aload_n hx hb dX12_entry_8 rfl (lv_at hl 0 rfl) ?_
    refine lv_iload_n hx hb dX12_entry_9 rfl (lv_at hl 2 rfl) ?_
    refine lv_iload_n hx hb dX12_entry_10 rfl (lv_at hl 3 rfl) ?_
    refine hp_callRi (va_runV (As := [.int a, .int b]) (rest := []) ⟨hx, hb, hml, hown, hts⟩ (c_X12_isPlace l D cy _ cs ad en hI a b ) (kw_X12_isPlace hts tw_1011 ⟨by decide, by decide⟩) (preV_of hh hK (hI.1 _ (by decide)) es1067 rfl) rfl rfl hl.1 rfl (lv_room (Nat.le_of_ble_eq_true rfl)) dX12_entry_11 ⟨Nat.le_of_ble_eq_true rfl, Nat.le_of_ble_eq_true rfl⟩) hh hA (fun r_1070 H locs hw_1070 hh => ?_)
    rw [show (rdI (en 0) 2).toInt = (wd : Int) from by rw [es1067]; exact nI_toInt (by omega)] at hw_1070
    rcases Decidable.em ((0 ≤ a.toInt ∧ a.toInt < (wd : Int)) ∧ 0 ≤ b.toInt ∧ b.toInt < (wd : Int)) with hp_1070 | hp_1070
    · obtain rfl : r_1070 = 1 := Eq.trans hw_1070 (if_pos hp_1070)
      obtain ⟨A_1070, rfl, hA_1070⟩ := has_nat hp_1070.1
      obtain ⟨B_1070, rfl, hB_1070⟩ := has_nat hp_1070.2
      refine lv_if_eq (tgt := 39) hx hb dX12_entry_14 (by decide) (fun c_0 => absurd c_0 (by decide)) (fun _ => ?_)
      refine lv_aload_n hx hb dX12_entry_17 rfl (lv_at hl 0 rfl) ?_
      refine hp_get hx hb hts ix12 hown hK hh (q := 0) rfl (hI.1 _ (by decide)) es1067 rfl 5 (by decide) (hts _ tw_884) (fun _ h9 => h9) rfl dX12_entry_18 ?_
      refine lv_bipush (v := 9) hx hb dX12_entry_21 (by decide) ?_
      refine lv_iload_n hx hb dX12_entry_23 rfl (lv_at hl 1 rfl) ?_
      refine lv_imul hx hb dX12_entry_24 ?_
      rw [show (9 : Int32) = nI 9 from rfl, pk_mul 9 T_1069]
      refine lv_aload_n hx hb dX12_entry_25 rfl (lv_at hl 0 rfl) ?_
      refine hp_get hx hb hts ix12 hown hK hh (q := 0) rfl (hI.1 _ (by decide)) es1067 rfl 2 (by decide) (hts _ tw_881) (fun _ h9 => h9) rfl dX12_entry_26 ?_
      refine lv_iload_n hx hb dX12_entry_29 rfl (lv_at hl 2 rfl) ?_
      refine lv_imul hx hb dX12_entry_30 ?_
      rw [pk_mul wd A_1070]
      refine lv_iadd hx hb dX12_entry_31 ?_
      rw [nI_add (9 * T_1069) (wd * A_1070)]
      refine lv_iload_n hx hb dX12_entry_32 rfl (lv_at hl 3 rfl) ?_
      refine lv_iadd hx hb dX12_entry_33 ?_
      rw [nI_add ((9 * T_1069) + (wd * A_1070)) B_1070]
      have hi_1071 : wd * A_1070 + B_1070 < 9 := mdr (by omega) (by omega) (by omega)
      refine hp_iald hx hb hK hh (q := 1) rfl (hI.1 _ (by decide)) es1068 (vp_in_nI (n := (((9 * T_1069) + (wd * A_1070)) + B_1070)) (by omega) (by decide)) dX12_entry_34 ?_
      rw [nI_clamp (n := (((9 * T_1069) + (wd * A_1070)) + B_1070)) (by omega)]
      refine lv_i2l hx hb dX12_entry_35 rfl ?_
      refine lv_goto (tgt := 42) hx hb dX12_entry_36 (by decide) ?_
      exact hp_lretR hx hb hr hlocks hsz hh (trivial) dX12_entry_42
    · obtain rfl : r_1070 = 0 := Eq.trans hw_1070 (if_neg hp_1070)
      refine lv_if_eq (tgt := 39) hx hb dX12_entry_14 (by decide) (fun _ => ?_) (fun c_0 => absurd c_0 (by decide))
      refine lv_ldc2 hx hb hown (hts _ tw_1015) dX12_entry_39 ?_
      exact hp_lretR hx hb hr hlocks hsz hh (trivial) dX12_entry_42
  · obtain rfl : r_1069 = 0 := Eq.trans hw_1069 (if_neg hp_1069)
    refine lv_if_eq (tgt := 39) hx hb dX12_entry_5 (by decide) (fun _ => ?_) (fun c_0 => absurd c_0 (by decide))
    refine lv_ldc2 hx hb hown (hts _ tw_1015) dX12_entry_39 ?_
    exact hp_lretR hx hb hr hlocks hsz hh (trivial) dX12_entry_42
theorem kw_X12_entry {R : Room} {s : State} {args : Array Value} {own : String} {idx : Nat} (hts : ∀ w ∈ TB, w.before args s = true) (hl : Cond.methodLink own idx yX12_entry ∈ TB) (hR : 2 + 1 ≤ R.frames ∧ 8 + (4 + 11) + 40 * 2 ≤ R.locals) : CallW R s args own RX12 idx yX12_entry cX12_entry 4 (some .long) (Cond.code yX12_entry cX12_entry 4 (some .long) :: TB) (rmN 2) 0 0 3 := cwV 3 hts (TB_V hl tw_1004 tw_1005 tw_9 tw_1006) rfl rfl rfl (by decide +kernel) hR
set_option maxHeartbeats 4000000 in
set_option maxRecDepth 100000 in
/-- may -/
theorem c_X12_may (l : Launch) (D : va_G) (cy : Nat → ClassId) (sz : Nat) (cs : List Nat) (ad : Nat → Nat) (en : Nat → va_E) (hI : RX cy cs ad en) (a b z : Int32) (hz : z = 0 ∨ z = 1)   : Met l yX12_may (Cond.code yX12_may cX12_may 5 (some .int) :: TB) (rmN 1) (va_Pc [.ref (ad 0), .int a, .int b, .int z] (Pre D cy cs ad en sz)) (va_Qi (S := Nat → va_E) (fun r en1 => RX cy cs ad en1 ∧ (∀ c, (c ≠ 2) → en1 c = en c)) (PostM D cs ad) (Af cs ad sz)) 0 0 (Af cs ad sz) := by
  refine Met.ofW (cc := cX12_may) (maxL := 5) (ret := (some .int)) (by decide) rfl ?_
  intro p e s m args below meth c s₁ B hml hv
  obtain ⟨rfl, hsz, hP, hK, hD0⟩ := hv
  have hx := B.exec
  have hb := B.bytes
  have hr := B.returns
  have hts : ∀ w ∈ TB, w.before _ s = true := fun w h => atoms_spec (ws := _ :: TB) B.pre w (List.mem_cons_of_mem _ h)
  have hown : s.vm.findClass RX12 = some m.cls := findClass_of_methodNamed B.named
  have hlocks := B.notSynchronized
  have hh : Hp D (Af cs ad sz) (Af cs ad sz) s.heap s.heap [] cs ad en := ⟨hP, Af_self hD0, va_S.rf⟩
  have hA : ∀ q : Nat, s.heap.size ≤ q → Af cs ad sz q := fun q h => Or.inr (by rw [hsz] at h; exact h)
  have hl := lv_entry ([.ref (ad 0), .int a, .int b, .int z]) (n := 5) (Nat.le_of_ble_eq_true rfl)
  rw [lg_entry_eq]
  generalize (lg_sl ([.ref (ad 0), .int a, .int b, .int z]) ++ List.replicate (5 - (lg_sl ([.ref (ad 0), .int a, .int b, .int z])).length) Slot.unset).toArray = ls at hl ⊢
  have hl : lv_has ls 5 [(0, .ref (ad 0)), (1, .int a), (2, .int b), (3, .int z)] := hl
  have hf0 : ∀ c, (c ≠ 2) → en c = en c := fun _ _ => rfl
  obtain ⟨fa, hi, wd, mo, tb, dp, many, grt, lst, nou, rm, rb, pr, wo, es1072, hwd2, hwd3, hmo, htb, hwo⟩ := getr_M hI
  obtain ⟨f_1073, es1073, p0_1073⟩ := getr_mn hI
  refine lv_aload_n hx hb dX12_may_0 rfl (lv_at hl 0 rfl) ?_
  refine lv_iload_n hx hb dX12_may_1 rfl (lv_at hl 1 rfl) ?_
  refine hp_callRi (va_runV (As := [.int a]) (rest := []) ⟨hx, hb, hml, hown, hts⟩ (c_X12_isTable l D cy _ cs ad en hI a ) (kw_X12_isTable hts tw_1007 ⟨by decide, by decide⟩) (preV_of hh hK (hI.1 _ (by decide)) es1072 rfl) rfl rfl hl.1 rfl (lv_room (Nat.le_of_ble_eq_true rfl)) dX12_may_2 ⟨Nat.le_of_ble_eq_true rfl, Nat.le_of_ble_eq_true rfl⟩) hh hA (fun r_1074 H locs hw_1074 hh => ?_)
  rw [show rdI (en 0) 4 = (nI tb) from by rw [es1072]; rfl, nI_toInt (n := tb) (by omega)] at hw_1074
  rcases Decidable.em (0 ≤ a.toInt ∧ a.toInt < (tb : Int)) with hp_1074 | hp_1074
  · obtain rfl : r_1074 = 1 := Eq.trans hw_1074 (if_pos hp_1074)
    obtain ⟨T_1074, rfl, hT_1074⟩ := has_nat hp_1074
    refine lv_if_eq (tgt := 16) hx hb dX12_may_5 (by decide) (fun c_0 => absurd c_0 (by decide)) (fun _ => ?_)
    refine lv_aload_n hx hb dX12_may_8 rfl (lv_at hl 0 rfl) ?_
    refine lv_iload_n hx hb dX12_may_9 rfl (lv_at hl 2 rfl) ?_
    refine hp_callRi (va_runV (As := [.int b]) (rest := []) ⟨hx, hb, hml, hown, hts⟩ (c_X12_isTable l D cy _ cs ad en hI b ) (kw_X12_isTable hts tw_1007 ⟨by decide, by decide⟩) (preV_of hh hK (hI.1 _ (by decide)) es1072 rfl) rfl rfl hl.1 rfl (lv_room (Nat.le_of_ble_eq_true rfl)) dX12_may_10 ⟨Nat.le_of_ble_eq_true rfl, Nat.le_of_ble_eq_true rfl⟩) hh hA (fun r_1075 H locs hw_1075 hh => ?_)
    rw [show rdI (en 0) 4 = (nI tb) from by rw [es1072]; rfl, nI_toInt (n := tb) (by omega)] at hw_1075
    rcases Decidable.em (0 ≤ b.toInt ∧ b.toInt < (tb : Int)) with hp_1075 | hp_1075
    · obtain rfl : r_1075 = 1 := Eq.trans hw_1075 (if_pos hp_1075)
      obtain ⟨T_1075, rfl, hT_1075⟩ := has_nat hp_1075
      refine lv_if_ne (tgt := 18) hx hb dX12_may_13 (by decide) (fun _ => ?_) (fun c_0 => absurd c_0 (by decide))
      refine lv_aload_n hx hb dX12_may_18 rfl (lv_at hl 0 rfl) ?_
      refine hp_get hx hb hts ix12 hown hK hh (q := 0) rfl (hI.1 _ (by decide)) es1072 rfl 6 (by decide) (hts _ tw_885) (fun _ h9 => h9) rfl dX12_may_19 ?_
      refine lv_bipush (v := 6) hx hb dX12_may_22 (by decide) ?_
      refine lv_iload_n hx hb dX12_may_24 rfl (lv_at hl 1 rfl) ?_
      refine lv_imul hx hb dX12_may_25 ?_
      rw [show (6 : Int32) = nI 6 from rfl, pk_mul 6 T_1074]
      refine lv_iload_n hx hb dX12_may_26 rfl (lv_at hl 2 rfl) ?_
      refine lv_iadd hx hb dX12_may_27 ?_
      rw [nI_add (6 * T_1074) T_1075]
      refine hp_zald hx hb hK hh (q := 2) rfl (hI.1 _ (by decide)) es1073 (vp_in_nI (n := ((6 * T_1074) + T_1075)) (by omega) (by decide)) dX12_may_28 ?_
      rw [nI_clamp (n := ((6 * T_1074) + T_1075)) (by omega)]
      refine lv_iload_n hx hb dX12_may_29 rfl (lv_at hl 3 rfl) ?_
      refine lv_icmp_ne (tgt := 37) hx hb dX12_may_30 (by decide) (fun c_1076 => ?_) (fun c_1076 => ?_)
      · refine lv_iconst (v := 0) hx hb dX12_may_37 (by decide) ?_
        refine lv_istore (lv' := [(4, .int 0), (0, .ref (ad 0)), (1, .int (nI T_1074)), (2, .int (nI T_1075)), (3, .int z)]) hx hb dX12_may_38 hl (by decide) rfl (fun ls hl => ?_)
        refine lv_aload_n hx hb dX12_may_40 rfl (lv_at hl 1 rfl) ?_
        refine hp_get hx hb hts ix12 hown hK hh (q := 0) rfl (hI.1 _ (by decide)) es1072 rfl 6 (by decide) (hts _ tw_885) (fun _ h9 => h9) rfl dX12_may_41 ?_
        refine lv_bipush (v := 6) hx hb dX12_may_44 (by decide) ?_
        refine lv_iload_n hx hb dX12_may_46 rfl (lv_at hl 2 rfl) ?_
        refine lv_imul hx hb dX12_may_47 ?_
        rw [show (6 : Int32) = nI 6 from rfl, pk_mul 6 T_1074]
        refine lv_iload_n hx hb dX12_may_48 rfl (lv_at hl 3 rfl) ?_
        refine lv_iadd hx hb dX12_may_49 ?_
        rw [nI_add (6 * T_1074) T_1075]
        refine lv_iload_n hx hb dX12_may_50 rfl (lv_at hl 4 rfl) ?_
        refine lv_if_ne (tgt := 58) hx hb dX12_may_51 (by decide) (fun c_1077 => ?_) (fun c_1077 => ?_)
        · refine lv_iconst (v := 0) hx hb dX12_may_58 (by decide) ?_
          refine hp_zast hx hb hK hh (q := 2) rfl (hI.1 _ (by decide)) es1073 (vp_in_nI (n := ((6 * T_1074) + T_1075)) (by omega) (by decide)) dX12_may_59 (fun H locs en_1078 hen_1078 hh => ?_)
          rw [nI_clamp (n := ((6 * T_1074) + T_1075)) (by omega)] at hen_1078
          have es1072_1078 : en_1078 0 = .inr (11, [.int fa, .int hi, .int (nI wd), .int (nI mo), .int (nI tb), .ref (ad 1), .ref (ad 2), .ref (ad 3), .ref (ad 4), .ref (ad 5), .ref (ad 6), .ref (ad 7), .ref (ad 8), .ref (ad 9), .int dp, .long many, .long grt, .long lst, .long nou, .ref (ad 10), .ref (ad 11), .ref (ad 12), .int rm, .long rb, .ref (ad 13), .int pr, .ref (ad 14), .ref (ad 15), .ref (ad 16), .ref (ad 17), .int (nI wo), .ref (ad 18), .ref (ad 19)]) := by rw [hen_1078, va_up_ne _ _ (by decide)]; exact es1072
          have es1073_1078 : en_1078 2 = .inl (cy 2, 36, .inl (upd f_1073 ((6 * T_1074) + T_1075) (vp_nar .boolean 0))) := by rw [hen_1078]; exact va_up_self _ _ _
          have hI_1078 : RX cy cs ad en_1078 := by rw [hen_1078]; exact upr_mn hI ⟨(upd f_1073 ((6 * T_1074) + T_1075) (vp_nar .boolean 0)), rfl, (bits_upd p0_1073 (Or.inl rfl))⟩
          have hf_1078 : ∀ c, (c ≠ 2) → en_1078 c = en c := fun c hc => Eq.trans (show en_1078 c = en c from by rw [hen_1078, va_up_ne _ _ (by omega)]) (hf0 c hc)
          refine lv_iload hx hb dX12_may_60 (lv_at hl 0 rfl) ?_
          exact hp_iretM hx hb hr rfl hlocks hh (⟨hI_1078, hf_1078⟩) dX12_may_62
        · refine lv_iconst (v := 1) hx hb dX12_may_54 (by decide) ?_
          refine lv_goto (tgt := 59) hx hb dX12_may_55 (by decide) ?_
          refine hp_zast hx hb hK hh (q := 2) rfl (hI.1 _ (by decide)) es1073 (vp_in_nI (n := ((6 * T_1074) + T_1075)) (by omega) (by decide)) dX12_may_59 (fun H locs en_1079 hen_1079 hh => ?_)
          rw [nI_clamp (n := ((6 * T_1074) + T_1075)) (by omega)] at hen_1079
          have es1072_1079 : en_1079 0 = .inr (11, [.int fa, .int hi, .int (nI wd), .int (nI mo), .int (nI tb), .ref (ad 1), .ref (ad 2), .ref (ad 3), .ref (ad 4), .ref (ad 5), .ref (ad 6), .ref (ad 7), .ref (ad 8), .ref (ad 9), .int dp, .long many, .long grt, .long lst, .long nou, .ref (ad 10), .ref (ad 11), .ref (ad 12), .int rm, .long rb, .ref (ad 13), .int pr, .ref (ad 14), .ref (ad 15), .ref (ad 16), .ref (ad 17), .int (nI wo), .ref (ad 18), .ref (ad 19)]) := by rw [hen_1079, va_up_ne _ _ (by decide)]; exact es1072
          have es1073_1079 : en_1079 2 = .inl (cy 2, 36, .inl (upd f_1073 ((6 * T_1074) + T_1075) (vp_nar .boolean 1))) := by rw [hen_1079]; exact va_up_self _ _ _
          have hI_1079 : RX cy cs ad en_1079 := by rw [hen_1079]; exact upr_mn hI ⟨(upd f_1073 ((6 * T_1074) + T_1075) (vp_nar .boolean 1)), rfl, (bits_upd p0_1073 (Or.inr rfl))⟩
          have hf_1079 : ∀ c, (c ≠ 2) → en_1079 c = en c := fun c hc => Eq.trans (show en_1079 c = en c from by rw [hen_1079, va_up_ne _ _ (by omega)]) (hf0 c hc)
          refine lv_iload hx hb dX12_may_60 (lv_at hl 0 rfl) ?_
          exact hp_iretM hx hb hr rfl hlocks hh (⟨hI_1079, hf_1079⟩) dX12_may_62
      · refine lv_iconst (v := 1) hx hb dX12_may_33 (by decide) ?_
        refine lv_goto (tgt := 38) hx hb dX12_may_34 (by decide) ?_
        refine lv_istore (lv' := [(4, .int 1), (0, .ref (ad 0)), (1, .int (nI T_1074)), (2, .int (nI T_1075)), (3, .int z)]) hx hb dX12_may_38 hl (by decide) rfl (fun ls hl => ?_)
        refine lv_aload_n hx hb dX12_may_40 rfl (lv_at hl 1 rfl) ?_
        refine hp_get hx hb hts ix12 hown hK hh (q := 0) rfl (hI.1 _ (by decide)) es1072 rfl 6 (by decide) (hts _ tw_885) (fun _ h9 => h9) rfl dX12_may_41 ?_
        refine lv_bipush (v := 6) hx hb dX12_may_44 (by decide) ?_
        refine lv_iload_n hx hb dX12_may_46 rfl (lv_at hl 2 rfl) ?_
        refine lv_imul hx hb dX12_may_47 ?_
        rw [show (6 : Int32) = nI 6 from rfl, pk_mul 6 T_1074]
        refine lv_iload_n hx hb dX12_may_48 rfl (lv_at hl 3 rfl) ?_
        refine lv_iadd hx hb dX12_may_49 ?_
        rw [nI_add (6 * T_1074) T_1075]
        refine lv_iload_n hx hb dX12_may_50 rfl (lv_at hl 4 rfl) ?_
        refine lv_if_ne (tgt := 58) hx hb dX12_may_51 (by decide) (fun c_1080 => ?_) (fun c_1080 => ?_)
        · refine lv_iconst (v := 0) hx hb dX12_may_58 (by decide) ?_
          refine hp_zast hx hb hK hh (q := 2) rfl (hI.1 _ (by decide)) es1073 (vp_in_nI (n := ((6 * T_1074) + T_1075)) (by omega) (by decide)) dX12_may_59 (fun H locs en_1081 hen_1081 hh => ?_)
          rw [nI_clamp (n := ((6 * T_1074) + T_1075)) (by omega)] at hen_1081
          have es1072_1081 : en_1081 0 = .inr (11, [.int fa, .int hi, .int (nI wd), .int (nI mo), .int (nI tb), .ref (ad 1), .ref (ad 2), .ref (ad 3), .ref (ad 4), .ref (ad 5), .ref (ad 6), .ref (ad 7), .ref (ad 8), .ref (ad 9), .int dp, .long many, .long grt, .long lst, .long nou, .ref (ad 10), .ref (ad 11), .ref (ad 12), .int rm, .long rb, .ref (ad 13), .int pr, .ref (ad 14), .ref (ad 15), .ref (ad 16), .ref (ad 17), .int (nI wo), .ref (ad 18), .ref (ad 19)]) := by rw [hen_1081, va_up_ne _ _ (by decide)]; exact es1072
          have es1073_1081 : en_1081 2 = .inl (cy 2, 36, .inl (upd f_1073 ((6 * T_1074) + T_1075) (vp_nar .boolean 0))) := by rw [hen_1081]; exact va_up_self _ _ _
          have hI_1081 : RX cy cs ad en_1081 := by rw [hen_1081]; exact upr_mn hI ⟨(upd f_1073 ((6 * T_1074) + T_1075) (vp_nar .boolean 0)), rfl, (bits_upd p0_1073 (Or.inl rfl))⟩
          have hf_1081 : ∀ c, (c ≠ 2) → en_1081 c = en c := fun c hc => Eq.trans (show en_1081 c = en c from by rw [hen_1081, va_up_ne _ _ (by omega)]) (hf0 c hc)
          refine lv_iload hx hb dX12_may_60 (lv_at hl 0 rfl) ?_
          exact hp_iretM hx hb hr rfl hlocks hh (⟨hI_1081, hf_1081⟩) dX12_may_62
        · refine lv_iconst (v := 1) hx hb dX12_may_54 (by decide) ?_
          refine lv_goto (tgt := 59) hx hb dX12_may_55 (by decide) ?_
          refine hp_zast hx hb hK hh (q := 2) rfl (hI.1 _ (by decide)) es1073 (vp_in_nI (n := ((6 * T_1074) + T_1075)) (by omega) (by decide)) dX12_may_59 (fun H locs en_1082 hen_1082 hh => ?_)
          rw [nI_clamp (n := ((6 * T_1074) + T_1075)) (by omega)] at hen_1082
          have es1072_1082 : en_1082 0 = .inr (11, [.int fa, .int hi, .int (nI wd), .int (nI mo), .int (nI tb), .ref (ad 1), .ref (ad 2), .ref (ad 3), .ref (ad 4), .ref (ad 5), .ref (ad 6), .ref (ad 7), .ref (ad 8), .ref (ad 9), .int dp, .long many, .long grt, .long lst, .long nou, .ref (ad 10), .ref (ad 11), .ref (ad 12), .int rm, .long rb, .ref (ad 13), .int pr, .ref (ad 14), .ref (ad 15), .ref (ad 16), .ref (ad 17), .int (nI wo), .ref (ad 18), .ref (ad 19)]) := by rw [hen_1082, va_up_ne _ _ (by decide)]; exact es1072
          have es1073_1082 : en_1082 2 = .inl (cy 2, 36, .inl (upd f_1073 ((6 * T_1074) + T_1075) (vp_nar .boolean 1))) := by rw [hen_1082]; exact va_up_self _ _ _
          have hI_1082 : RX cy cs ad en_1082 := by rw [hen_1082]; exact upr_mn hI ⟨(upd f_1073 ((6 * T_1074) + T_1075) (vp_nar .boolean 1)), rfl, (bits_upd p0_1073 (Or.inr rfl))⟩
          have hf_1082 : ∀ c, (c ≠ 2) → en_1082 c = en c := fun c hc => Eq.trans (show en_1082 c = en c from by rw [hen_1082, va_up_ne _ _ (by omega)]) (hf0 c hc)
          refine lv_iload hx hb dX12_may_60 (lv_at hl 0 rfl) ?_
          exact hp_iretM hx hb hr rfl hlocks hh (⟨hI_1082, hf_1082⟩) dX12_may_62
    · obtain rfl : r_1075 = 0 := Eq.trans hw_1075 (if_neg hp_1075)
      refine lv_if_ne (tgt := 18) hx hb dX12_may_13 (by decide) (fun c_0 => absurd c_0 (by decide)) (fun _ => ?_)
      refine lv_iconst (v := (-1)) hx hb dX12_may_16 (by decide) ?_
      exact hp_iretM hx hb hr rfl hlocks hh (⟨hI, hf0⟩) dX12_may_17
  · obtain rfl : r_1074 = 0 := Eq.trans hw_1074 (if_neg hp_1074)
    refine lv_if_eq (tgt := 16) hx hb dX12_may_5 (by decide) (fun _ => ?_) (fun c_0 => absurd c_0 (by decide))
    refine lv_iconst (v := (-1)) hx hb dX12_may_16 (by decide) ?_
    exact hp_iretM hx hb hr rfl hlocks hh (⟨hI, hf0⟩) dX12_may_17
theorem kw_X12_may {R : Room} {s : State} {args : Array Value} {own : String} {idx : Nat} (hts : ∀ w ∈ TB, w.before args s = true) (hl : Cond.methodLink own idx yX12_may ∈ TB) (hR : 1 + 1 ≤ R.frames ∧ 8 + (5 + 11) + 40 * 1 ≤ R.locals) : CallW R s args own RX12 idx yX12_may cX12_may 5 (some .int) (Cond.code yX12_may cX12_may 5 (some .int) :: TB) (rmN 1) 0 0 3 := cwV 3 hts (TB_V hl tw_1017 tw_1018 tw_9 tw_1019) rfl rfl rfl (by decide +kernel) hR
set_option maxHeartbeats 4000000 in
set_option maxRecDepth 100000 in
/-- isSpent -/
theorem c_X12_isSpent (l : Launch) (D : va_G) (cy : Nat → ClassId) (sz : Nat) (cs : List Nat) (ad : Nat → Nat) (en : Nat → va_E) (hI : RX cy cs ad en) (n : Nat) (hn : n ≤ 8)   : Met l yX12_isSpent (Cond.code yX12_isSpent cX12_isSpent 5 (some .boolean) :: TB) (rmN 1) (va_Pc [.ref (ad 0), .int (nI n)] (Pre D cy cs ad en sz)) (va_Qi (S := Nat → va_E) (fun r en1 => RX cy cs ad en1 ∧ (∀ c, (c ≠ 8 ∧ c ≠ 9) → en1 c = en c) ∧ (r = 0 ∨ r = 1)) (PostM D cs ad) (Af cs ad sz)) 0 0 (Af cs ad sz) := by
  refine Met.ofW (cc := cX12_isSpent) (maxL := 5) (ret := (some .boolean)) (by decide) rfl ?_
  intro p e s m args below meth c s₁ B hml hv
  obtain ⟨rfl, hsz, hP, hK, hD0⟩ := hv
  have hx := B.exec
  have hb := B.bytes
  have hr := B.returns
  have hts : ∀ w ∈ TB, w.before _ s = true := fun w h => atoms_spec (ws := _ :: TB) B.pre w (List.mem_cons_of_mem _ h)
  have hown : s.vm.findClass RX12 = some m.cls := findClass_of_methodNamed B.named
  have hlocks := B.notSynchronized
  have hh : Hp D (Af cs ad sz) (Af cs ad sz) s.heap s.heap [] cs ad en := ⟨hP, Af_self hD0, va_S.rf⟩
  have hA : ∀ q : Nat, s.heap.size ≤ q → Af cs ad sz q := fun q h => Or.inr (by rw [hsz] at h; exact h)
  have hl := lv_entry ([.ref (ad 0), .int (nI n)]) (n := 5) (Nat.le_of_ble_eq_true rfl)
  rw [lg_entry_eq]
  generalize (lg_sl ([.ref (ad 0), .int (nI n)]) ++ List.replicate (5 - (lg_sl ([.ref (ad 0), .int (nI n)])).length) Slot.unset).toArray = ls at hl ⊢
  have hl : lv_has ls 5 [(0, .ref (ad 0)), (1, .int (nI n))] := hl
  have hf0 : ∀ c, (c ≠ 8 ∧ c ≠ 9) → en c = en c := fun _ _ => rfl
  obtain ⟨fa, hi, wd, mo, tb, dp, many, grt, lst, nou, rm, rb, pr, wo, es1083, hwd2, hwd3, hmo, htb, hwo⟩ := getr_M hI
  refine lv_iconst (v := 0) hx hb dX12_isSpent_0 (by decide) ?_
  refine lv_istore_n (lv' := [(2, .int 0), (0, .ref (ad 0)), (1, .int (nI n))]) hx hb dX12_isSpent_1 rfl hl (by decide) rfl (fun ls hl => ?_)
  have loop_1084 : ∀ (fu j1084 : Nat)  (en_1084 : Nat → va_E) (ls : Array Slot) (H : Heap) (locs : List Loc), 0 ≤ j1084 → j1084 ≤ 6 → 6 < j1084 + fu → RX cy cs ad en_1084 → (∀ c, (c ≠ 8 ∧ c ≠ 9) → en_1084 c = en c) →  lv_has ls 5 [(2, .int (nI j1084)), (0, .ref (ad 0)), (1, .int (nI n))] → Hp D (Af cs ad sz) (Af cs ad sz) s.heap H locs cs ad en_1084 → W p l e (headSpec (Cond.code yX12_isSpent cX12_isSpent 5 (some .boolean) :: TB) (rmN 1)).room s m ([.ref (ad 0), .int (nI n)] : List Value).toArray below meth c H locs 0 0 (MQ below (va_Qi (S := Nat → va_E) (fun r en1 => RX cy cs ad en1 ∧ (∀ c, (c ≠ 8 ∧ c ≠ 9) → en1 c = en c) ∧ (r = 0 ∨ r = 1)) (PostM D cs ad) (Af cs ad sz)) ([.ref (ad 0), .int (nI n)] : List Value).toArray s 0 0 (Af cs ad sz)) (F0 m 2 ls []) := by
    intro fu
    induction fu with
    | zero => intro j1084  en_1084 ls H locs h0 h1 h2; exact absurd h2 (by omega)
    | succ fu ih_1084 =>
      intro j1084  en_1084 ls H locs hj0_1084 hj_1084 hfu_1084 hI_1084 hf_1084  hl hh
      refine lv_iload_n hx hb dX12_isSpent_2 rfl (lv_at hl 0 rfl) ?_
      refine lv_aload_n hx hb dX12_isSpent_3 rfl (lv_at hl 1 rfl) ?_
      have es1083_1085 : en_1084 0 = .inr (11, [.int fa, .int hi, .int (nI wd), .int (nI mo), .int (nI tb), .ref (ad 1), .ref (ad 2), .ref (ad 3), .ref (ad 4), .ref (ad 5), .ref (ad 6), .ref (ad 7), .ref (ad 8), .ref (ad 9), .int dp, .long many, .long grt, .long lst, .long nou, .ref (ad 10), .ref (ad 11), .ref (ad 12), .int rm, .long rb, .ref (ad 13), .int pr, .ref (ad 14), .ref (ad 15), .ref (ad 16), .ref (ad 17), .int (nI wo), .ref (ad 18), .ref (ad 19)]) := (hf_1084 0 (by omega)).trans es1083
      refine hp_get hx hb hts ix12 hown hK hh (q := 0) rfl (hI.1 _ (by decide)) es1083_1085 rfl 4 (by decide) (hts _ tw_883) (fun _ h9 => h9) rfl dX12_isSpent_4 ?_
      refine lv_icmp_ge (tgt := 23) hx hb dX12_isSpent_7 (by decide) (fun c_1086 => ?_) (fun c_1086 => ?_)
      · have n_1086 : tb ≤ j1084 := n_le (a := tb) (b := j1084) c_1086 (by omega) (by omega)
        refine lv_iconst (v := 1) hx hb dX12_isSpent_23 (by decide) ?_
        refine lv_istore_n (lv' := [(2, .int 1), (0, .ref (ad 0)), (1, .int (nI n))]) hx hb dX12_isSpent_24 rfl hl (by decide) rfl (fun ls hl => ?_)
        have loop_1087 : ∀ (fu j1087 : Nat)  (en_1087 : Nat → va_E) (ls : Array Slot) (H : Heap) (locs : List Loc), 1 ≤ j1087 → j1087 ≤ 8 → 8 < j1087 + fu → RX cy cs ad en_1087 → (∀ c, (c ≠ 8 ∧ c ≠ 9) → en_1087 c = en c) →  lv_has ls 5 [(2, .int (nI j1087)), (0, .ref (ad 0)), (1, .int (nI n))] → Hp D (Af cs ad sz) (Af cs ad sz) s.heap H locs cs ad en_1087 → W p l e (headSpec (Cond.code yX12_isSpent cX12_isSpent 5 (some .boolean) :: TB) (rmN 1)).room s m ([.ref (ad 0), .int (nI n)] : List Value).toArray below meth c H locs 0 0 (MQ below (va_Qi (S := Nat → va_E) (fun r en1 => RX cy cs ad en1 ∧ (∀ c, (c ≠ 8 ∧ c ≠ 9) → en1 c = en c) ∧ (r = 0 ∨ r = 1)) (PostM D cs ad) (Af cs ad sz)) ([.ref (ad 0), .int (nI n)] : List Value).toArray s 0 0 (Af cs ad sz)) (F0 m 25 ls []) := by
          intro fu
          induction fu with
          | zero => intro j1087  en_1087 ls H locs h0 h1 h2; exact absurd h2 (by omega)
          | succ fu ih_1087 =>
            intro j1087  en_1087 ls H locs hj0_1087 hj_1087 hfu_1087 hI_1087 hf_1087  hl hh
            refine lv_iload_n hx hb dX12_isSpent_25 rfl (lv_at hl 0 rfl) ?_
            refine lv_iload_n hx hb dX12_isSpent_26 rfl (lv_at hl 2 rfl) ?_
            refine lv_icmp_ge (tgt := 135) hx hb dX12_isSpent_27 (by decide) (fun c_1088 => ?_) (fun c_1088 => ?_)
            · have n_1088 : n ≤ j1087 := n_le (a := n) (b := j1087) c_1088 (by omega) (by omega)
              refine lv_lconst (v := 0) hx hb dX12_isSpent_135 (by decide) ?_
              refine lv_lstore_n (lv' := [(2, .long 0), (0, .ref (ad 0)), (1, .int (nI n))]) hx hb dX12_isSpent_136 rfl hl (by decide) rfl (fun ls hl => ?_)
              refine lv_iconst (v := 0) hx hb dX12_isSpent_137 (by decide) ?_
              refine lv_istore (lv' := [(4, .int 0), (2, .long 0), (0, .ref (ad 0)), (1, .int (nI n))]) hx hb dX12_isSpent_138 hl (by decide) rfl (fun ls hl => ?_)
              have loop_1089 : ∀ (fu j1089 : Nat) (al1089 : Int64) (en_1089 : Nat → va_E) (ls : Array Slot) (H : Heap) (locs : List Loc), 0 ≤ j1089 → j1089 ≤ 6 → 6 < j1089 + fu → RX cy cs ad en_1089 → (∀ c, (c ≠ 8 ∧ c ≠ 9) → en_1089 c = en c) →  lv_has ls 5 [(4, .int (nI j1089)), (2, .long al1089), (0, .ref (ad 0)), (1, .int (nI n))] → Hp D (Af cs ad sz) (Af cs ad sz) s.heap H locs cs ad en_1089 → W p l e (headSpec (Cond.code yX12_isSpent cX12_isSpent 5 (some .boolean) :: TB) (rmN 1)).room s m ([.ref (ad 0), .int (nI n)] : List Value).toArray below meth c H locs 0 0 (MQ below (va_Qi (S := Nat → va_E) (fun r en1 => RX cy cs ad en1 ∧ (∀ c, (c ≠ 8 ∧ c ≠ 9) → en1 c = en c) ∧ (r = 0 ∨ r = 1)) (PostM D cs ad) (Af cs ad sz)) ([.ref (ad 0), .int (nI n)] : List Value).toArray s 0 0 (Af cs ad sz)) (F0 m 140 ls []) := by
                intro fu
                induction fu with
                | zero => intro j1089 al1089 en_1089 ls H locs h0 h1 h2; exact absurd h2 (by omega)
                | succ fu ih_1089 =>
                  intro j1089 al1089 en_1089 ls H locs hj0_1089 hj_1089 hfu_1089 hI_1089 hf_1089  hl hh
                  refine lv_iload hx hb dX12_isSpent_140 (lv_at hl 0 rfl) ?_
                  refine lv_aload_n hx hb dX12_isSpent_142 rfl (lv_at hl 2 rfl) ?_
                  have es1083_1090 : en_1089 0 = .inr (11, [.int fa, .int hi, .int (nI wd), .int (nI mo), .int (nI tb), .ref (ad 1), .ref (ad 2), .ref (ad 3), .ref (ad 4), .ref (ad 5), .ref (ad 6), .ref (ad 7), .ref (ad 8), .ref (ad 9), .int dp, .long many, .long grt, .long lst, .long nou, .ref (ad 10), .ref (ad 11), .ref (ad 12), .int rm, .long rb, .ref (ad 13), .int pr, .ref (ad 14), .ref (ad 15), .ref (ad 16), .ref (ad 17), .int (nI wo), .ref (ad 18), .ref (ad 19)]) := (hf_1089 0 (by omega)).trans es1083
                  refine hp_get hx hb hts ix12 hown hK hh (q := 0) rfl (hI.1 _ (by decide)) es1083_1090 rfl 4 (by decide) (hts _ tw_883) (fun _ h9 => h9) rfl dX12_isSpent_143 ?_
                  refine lv_icmp_ge (tgt := 165) hx hb dX12_isSpent_146 (by decide) (fun c_1091 => ?_) (fun c_1091 => ?_)
                  · have n_1091 : tb ≤ j1089 := n_le (a := tb) (b := j1089) c_1091 (by omega) (by omega)
                    refine lv_lload_n hx hb dX12_isSpent_165 rfl (lv_at hl 1 rfl) ?_
                    refine lv_ldc2 hx hb hown (hts _ tw_1033) dX12_isSpent_166 ?_
                    refine W.lcmp hx hb dX12_isSpent_169 ?_
                    refine lv_if_le (tgt := 177) hx hb dX12_isSpent_170 (by decide) (fun c_1092 => ?_) (fun c_1092 => ?_)
                    · refine lv_iconst (v := 0) hx hb dX12_isSpent_177 (by decide) ?_
                      exact hp_iretM hx hb hr rfl hlocks hh (⟨hI_1089, hf_1089, Or.inl rfl⟩) dX12_isSpent_178
                    · refine lv_iconst (v := 1) hx hb dX12_isSpent_173 (by decide) ?_
                      refine lv_goto (tgt := 178) hx hb dX12_isSpent_174 (by decide) ?_
                      exact hp_iretM hx hb hr rfl hlocks hh (⟨hI_1089, hf_1089, Or.inr rfl⟩) dX12_isSpent_178
                  · have n_1091 : j1089 < tb := n_nle (a := tb) (b := j1089) c_1091 (by omega) (by omega)
                    refine lv_lload_n hx hb dX12_isSpent_149 rfl (lv_at hl 1 rfl) ?_
                    refine lv_aload_n hx hb dX12_isSpent_150 rfl (lv_at hl 2 rfl) ?_
                    refine hp_get hx hb hts ix12 hown hK hh (q := 0) rfl (hI.1 _ (by decide)) es1083_1090 rfl 12 (by decide) (hts _ tw_891) (fun _ h9 => h9) rfl dX12_isSpent_151 ?_
                    refine lv_iload hx hb dX12_isSpent_154 (lv_at hl 0 rfl) ?_
                    obtain ⟨f_1093, es1093⟩ := getr_wy hI_1089
                    refine hp_lald hx hb hK hh (q := 8) rfl (hI.1 _ (by decide)) es1093 (vp_in_nI (n := j1089) (by omega) (by decide)) dX12_isSpent_156 ?_
                    rw [nI_clamp (n := j1089) (by omega)]
                    refine lv_ladd hx hb dX12_isSpent_157 ?_
                    refine lv_lstore_n (lv' := [(2, .long (al1089 + (f_1093 j1089))), (4, .int (nI j1089)), (0, .ref (ad 0)), (1, .int (nI n))]) hx hb dX12_isSpent_158 rfl hl (by decide) rfl (fun ls hl => ?_)
                    refine lv_iinc (v := (nI (j1089 + 1))) (lv' := [(4, .int (nI (j1089 + 1))), (2, .long (al1089 + (f_1093 j1089))), (0, .ref (ad 0)), (1, .int (nI n))]) hx hb dX12_isSpent_159 hl (k := 1) rfl (nI_1 _) (by decide) rfl (fun ls hl => ?_)
                    refine lv_goto (tgt := 140) hx hb dX12_isSpent_162 (by decide) ?_
                    exact ih_1089 ((j1089 + 1)) (al1089 + (f_1093 j1089)) en_1089 ls H locs (by omega) (by omega) (by omega) hI_1089 hf_1089  (lv_sub hl [0, 1, 2, 3] rfl) hh
              exact loop_1089 (6 + 1) 0 0 en_1087 ls _ _ (Nat.le_refl _) (by omega) (by omega) hI_1087 hf_1087  (lv_sub hl [0, 1, 2, 3] rfl) hh
            · have n_1088 : j1087 < n := n_nle (a := n) (b := j1087) c_1088 (by omega) (by omega)
              refine lv_iconst (v := 0) hx hb dX12_isSpent_30 (by decide) ?_
              refine lv_istore_n (lv' := [(3, .int 0), (2, .int (nI j1087)), (0, .ref (ad 0)), (1, .int (nI n))]) hx hb dX12_isSpent_31 rfl hl (by decide) rfl (fun ls hl => ?_)
              have loop_1094 : ∀ (fu j1094 : Nat)  (en_1094 : Nat → va_E) (ls : Array Slot) (H : Heap) (locs : List Loc), 0 ≤ j1094 → j1094 ≤ 6 → 6 < j1094 + fu → RX cy cs ad en_1094 → (∀ c, (c ≠ 8 ∧ c ≠ 9) → en_1094 c = en c) →  lv_has ls 5 [(3, .int (nI j1094)), (2, .int (nI j1087)), (0, .ref (ad 0)), (1, .int (nI n))] → Hp D (Af cs ad sz) (Af cs ad sz) s.heap H locs cs ad en_1094 → W p l e (headSpec (Cond.code yX12_isSpent cX12_isSpent 5 (some .boolean) :: TB) (rmN 1)).room s m ([.ref (ad 0), .int (nI n)] : List Value).toArray below meth c H locs 0 0 (MQ below (va_Qi (S := Nat → va_E) (fun r en1 => RX cy cs ad en1 ∧ (∀ c, (c ≠ 8 ∧ c ≠ 9) → en1 c = en c) ∧ (r = 0 ∨ r = 1)) (PostM D cs ad) (Af cs ad sz)) ([.ref (ad 0), .int (nI n)] : List Value).toArray s 0 0 (Af cs ad sz)) (F0 m 32 ls []) := by
                intro fu
                induction fu with
                | zero => intro j1094  en_1094 ls H locs h0 h1 h2; exact absurd h2 (by omega)
                | succ fu ih_1094 =>
                  intro j1094  en_1094 ls H locs hj0_1094 hj_1094 hfu_1094 hI_1094 hf_1094  hl hh
                  refine lv_iload_n hx hb dX12_isSpent_32 rfl (lv_at hl 0 rfl) ?_
                  refine lv_aload_n hx hb dX12_isSpent_33 rfl (lv_at hl 2 rfl) ?_
                  have es1083_1095 : en_1094 0 = .inr (11, [.int fa, .int hi, .int (nI wd), .int (nI mo), .int (nI tb), .ref (ad 1), .ref (ad 2), .ref (ad 3), .ref (ad 4), .ref (ad 5), .ref (ad 6), .ref (ad 7), .ref (ad 8), .ref (ad 9), .int dp, .long many, .long grt, .long lst, .long nou, .ref (ad 10), .ref (ad 11), .ref (ad 12), .int rm, .long rb, .ref (ad 13), .int pr, .ref (ad 14), .ref (ad 15), .ref (ad 16), .ref (ad 17), .int (nI wo), .ref (ad 18), .ref (ad 19)]) := (hf_1094 0 (by omega)).trans es1083
                  refine hp_get hx hb hts ix12 hown hK hh (q := 0) rfl (hI.1 _ (by decide)) es1083_1095 rfl 4 (by decide) (hts _ tw_883) (fun _ h9 => h9) rfl dX12_isSpent_34 ?_
                  refine lv_icmp_ge (tgt := 101) hx hb dX12_isSpent_37 (by decide) (fun c_1096 => ?_) (fun c_1096 => ?_)
                  · have n_1096 : tb ≤ j1094 := n_le (a := tb) (b := j1094) c_1096 (by omega) (by omega)
                    refine lv_iconst (v := 0) hx hb dX12_isSpent_101 (by decide) ?_
                    refine lv_istore_n (lv' := [(3, .int 0), (2, .int (nI j1087)), (0, .ref (ad 0)), (1, .int (nI n))]) hx hb dX12_isSpent_102 rfl hl (by decide) rfl (fun ls hl => ?_)
                    have loop_1097 : ∀ (fu j1097 : Nat)  (en_1097 : Nat → va_E) (ls : Array Slot) (H : Heap) (locs : List Loc), 0 ≤ j1097 → j1097 ≤ 6 → 6 < j1097 + fu → RX cy cs ad en_1097 → (∀ c, (c ≠ 8 ∧ c ≠ 9) → en_1097 c = en c) →  lv_has ls 5 [(3, .int (nI j1097)), (2, .int (nI j1087)), (0, .ref (ad 0)), (1, .int (nI n))] → Hp D (Af cs ad sz) (Af cs ad sz) s.heap H locs cs ad en_1097 → W p l e (headSpec (Cond.code yX12_isSpent cX12_isSpent 5 (some .boolean) :: TB) (rmN 1)).room s m ([.ref (ad 0), .int (nI n)] : List Value).toArray below meth c H locs 0 0 (MQ below (va_Qi (S := Nat → va_E) (fun r en1 => RX cy cs ad en1 ∧ (∀ c, (c ≠ 8 ∧ c ≠ 9) → en1 c = en c) ∧ (r = 0 ∨ r = 1)) (PostM D cs ad) (Af cs ad sz)) ([.ref (ad 0), .int (nI n)] : List Value).toArray s 0 0 (Af cs ad sz)) (F0 m 103 ls []) := by
                      intro fu
                      induction fu with
                      | zero => intro j1097  en_1097 ls H locs h0 h1 h2; exact absurd h2 (by omega)
                      | succ fu ih_1097 =>
                        intro j1097  en_1097 ls H locs hj0_1097 hj_1097 hfu_1097 hI_1097 hf_1097  hl hh
                        refine lv_iload_n hx hb dX12_isSpent_103 rfl (lv_at hl 0 rfl) ?_
                        refine lv_aload_n hx hb dX12_isSpent_104 rfl (lv_at hl 2 rfl) ?_
                        have es1083_1098 : en_1097 0 = .inr (11, [.int fa, .int hi, .int (nI wd), .int (nI mo), .int (nI tb), .ref (ad 1), .ref (ad 2), .ref (ad 3), .ref (ad 4), .ref (ad 5), .ref (ad 6), .ref (ad 7), .ref (ad 8), .ref (ad 9), .int dp, .long many, .long grt, .long lst, .long nou, .ref (ad 10), .ref (ad 11), .ref (ad 12), .int rm, .long rb, .ref (ad 13), .int pr, .ref (ad 14), .ref (ad 15), .ref (ad 16), .ref (ad 17), .int (nI wo), .ref (ad 18), .ref (ad 19)]) := (hf_1097 0 (by omega)).trans es1083
                        refine hp_get hx hb hts ix12 hown hK hh (q := 0) rfl (hI.1 _ (by decide)) es1083_1098 rfl 4 (by decide) (hts _ tw_883) (fun _ h9 => h9) rfl dX12_isSpent_105 ?_
                        refine lv_icmp_ge (tgt := 129) hx hb dX12_isSpent_108 (by decide) (fun c_1099 => ?_) (fun c_1099 => ?_)
                        · have n_1099 : tb ≤ j1097 := n_le (a := tb) (b := j1097) c_1099 (by omega) (by omega)
                          refine lv_iinc (v := (nI (j1087 + 1))) (lv' := [(2, .int (nI (j1087 + 1))), (3, .int (nI j1097)), (0, .ref (ad 0)), (1, .int (nI n))]) hx hb dX12_isSpent_129 hl (k := 1) rfl (nI_1 _) (by decide) rfl (fun ls hl => ?_)
                          refine lv_goto (tgt := 25) hx hb dX12_isSpent_132 (by decide) ?_
                          exact ih_1087 ((j1087 + 1))  en_1097 ls H locs (by omega) (by omega) (by omega) hI_1097 hf_1097  (lv_sub hl [0, 2, 3] rfl) hh
                        · have n_1099 : j1097 < tb := n_nle (a := tb) (b := j1097) c_1099 (by omega) (by omega)
                          refine lv_aload_n hx hb dX12_isSpent_111 rfl (lv_at hl 2 rfl) ?_
                          refine hp_get hx hb hts ix12 hown hK hh (q := 0) rfl (hI.1 _ (by decide)) es1083_1098 rfl 12 (by decide) (hts _ tw_891) (fun _ h9 => h9) rfl dX12_isSpent_112 ?_
                          refine lv_iload_n hx hb dX12_isSpent_115 rfl (lv_at hl 0 rfl) ?_
                          refine lv_aload_n hx hb dX12_isSpent_116 rfl (lv_at hl 2 rfl) ?_
                          refine hp_get hx hb hts ix12 hown hK hh (q := 0) rfl (hI.1 _ (by decide)) es1083_1098 rfl 13 (by decide) (hts _ tw_892) (fun _ h9 => h9) rfl dX12_isSpent_117 ?_
                          refine lv_iload_n hx hb dX12_isSpent_120 rfl (lv_at hl 0 rfl) ?_
                          obtain ⟨f_1100, es1100⟩ := getr_mw hI_1097
                          refine hp_lald hx hb hK hh (q := 9) rfl (hI.1 _ (by decide)) es1100 (vp_in_nI (n := j1097) (by omega) (by decide)) dX12_isSpent_121 ?_
                          rw [nI_clamp (n := j1097) (by omega)]
                          obtain ⟨f_1101, es1101⟩ := getr_wy hI_1097
                          refine hp_last hx hb hK hh (q := 8) rfl (hI.1 _ (by decide)) es1101 (vp_in_nI (n := j1097) (by omega) (by decide)) dX12_isSpent_122 (fun H locs en_1102 hen_1102 hh => ?_)
                          rw [nI_clamp (n := j1097) (by omega)] at hen_1102
                          have es1083_1102 : en_1102 0 = .inr (11, [.int fa, .int hi, .int (nI wd), .int (nI mo), .int (nI tb), .ref (ad 1), .ref (ad 2), .ref (ad 3), .ref (ad 4), .ref (ad 5), .ref (ad 6), .ref (ad 7), .ref (ad 8), .ref (ad 9), .int dp, .long many, .long grt, .long lst, .long nou, .ref (ad 10), .ref (ad 11), .ref (ad 12), .int rm, .long rb, .ref (ad 13), .int pr, .ref (ad 14), .ref (ad 15), .ref (ad 16), .ref (ad 17), .int (nI wo), .ref (ad 18), .ref (ad 19)]) := by rw [hen_1102, va_up_ne _ _ (by decide)]; exact es1083_1098
                          have es1100_1102 : en_1102 9 = .inl (cy 1, 6, .inr (.inl f_1100)) := by rw [hen_1102, va_up_ne _ _ (by decide)]; exact es1100
                          have es1101_1102 : en_1102 8 = .inl (cy 1, 6, .inr (.inl (vp_updL f_1101 j1097 (f_1100 j1097)))) := by rw [hen_1102]; exact va_up_self _ _ _
                          have hI_1102 : RX cy cs ad en_1102 := by rw [hen_1102]; exact upr_wy hI_1097 ⟨(vp_updL f_1101 j1097 (f_1100 j1097)), rfl⟩
                          have hf_1102 : ∀ c, (c ≠ 8 ∧ c ≠ 9) → en_1102 c = en c := fun c hc => Eq.trans (show en_1102 c = en_1097 c from by rw [hen_1102, va_up_ne _ _ (by omega)]) (hf_1097 c hc)
                          refine lv_iinc (v := (nI (j1097 + 1))) (lv' := [(3, .int (nI (j1097 + 1))), (2, .int (nI j1087)), (0, .ref (ad 0)), (1, .int (nI n))]) hx hb dX12_isSpent_123 hl (k := 0) rfl (nI_1 _) (by decide) rfl (fun ls hl => ?_)
                          refine lv_goto (tgt := 103) hx hb dX12_isSpent_126 (by decide) ?_
                          exact ih_1097 ((j1097 + 1))  en_1102 ls H locs (by omega) (by omega) (by omega) hI_1102 hf_1102  (lv_sub hl [0, 1, 2, 3] rfl) hh
                    exact loop_1097 (6 + 1) 0  en_1094 ls _ _ (Nat.le_refl _) (by omega) (by omega) hI_1094 hf_1094  (lv_sub hl [0, 1, 2, 3] rfl) hh
                  · have n_1096 : j1094 < tb := n_nle (a := tb) (b := j1094) c_1096 (by omega) (by omega)
                    refine lv_aload_n hx hb dX12_isSpent_40 rfl (lv_at hl 2 rfl) ?_
                    refine hp_get hx hb hts ix12 hown hK hh (q := 0) rfl (hI.1 _ (by decide)) es1083_1095 rfl 13 (by decide) (hts _ tw_892) (fun _ h9 => h9) rfl dX12_isSpent_41 ?_
                    refine lv_iload_n hx hb dX12_isSpent_44 rfl (lv_at hl 0 rfl) ?_
                    refine lv_lconst (v := 0) hx hb dX12_isSpent_45 (by decide) ?_
                    obtain ⟨f_1103, es1103⟩ := getr_mw hI_1094
                    refine hp_last hx hb hK hh (q := 9) rfl (hI.1 _ (by decide)) es1103 (vp_in_nI (n := j1094) (by omega) (by decide)) dX12_isSpent_46 (fun H locs en_1104 hen_1104 hh => ?_)
                    rw [nI_clamp (n := j1094) (by omega)] at hen_1104
                    have es1083_1104 : en_1104 0 = .inr (11, [.int fa, .int hi, .int (nI wd), .int (nI mo), .int (nI tb), .ref (ad 1), .ref (ad 2), .ref (ad 3), .ref (ad 4), .ref (ad 5), .ref (ad 6), .ref (ad 7), .ref (ad 8), .ref (ad 9), .int dp, .long many, .long grt, .long lst, .long nou, .ref (ad 10), .ref (ad 11), .ref (ad 12), .int rm, .long rb, .ref (ad 13), .int pr, .ref (ad 14), .ref (ad 15), .ref (ad 16), .ref (ad 17), .int (nI wo), .ref (ad 18), .ref (ad 19)]) := by rw [hen_1104, va_up_ne _ _ (by decide)]; exact es1083_1095
                    have es1103_1104 : en_1104 9 = .inl (cy 1, 6, .inr (.inl (vp_updL f_1103 j1094 0))) := by rw [hen_1104]; exact va_up_self _ _ _
                    have hI_1104 : RX cy cs ad en_1104 := by rw [hen_1104]; exact upr_mw hI_1094 ⟨(vp_updL f_1103 j1094 0), rfl⟩
                    have hf_1104 : ∀ c, (c ≠ 8 ∧ c ≠ 9) → en_1104 c = en c := fun c hc => Eq.trans (show en_1104 c = en_1094 c from by rw [hen_1104, va_up_ne _ _ (by omega)]) (hf_1094 c hc)
                    refine lv_iconst (v := 0) hx hb dX12_isSpent_47 (by decide) ?_
                    refine lv_istore (lv' := [(4, .int 0), (3, .int (nI j1094)), (2, .int (nI j1087)), (0, .ref (ad 0)), (1, .int (nI n))]) hx hb dX12_isSpent_48 hl (by decide) rfl (fun ls hl => ?_)
                    have loop_1105 : ∀ (fu j1105 : Nat)  (en_1105 : Nat → va_E) (ls : Array Slot) (H : Heap) (locs : List Loc), 0 ≤ j1105 → j1105 ≤ 6 → 6 < j1105 + fu → RX cy cs ad en_1105 → (∀ c, (c ≠ 8 ∧ c ≠ 9) → en_1105 c = en c) →  lv_has ls 5 [(4, .int (nI j1105)), (3, .int (nI j1094)), (2, .int (nI j1087)), (0, .ref (ad 0)), (1, .int (nI n))] → Hp D (Af cs ad sz) (Af cs ad sz) s.heap H locs cs ad en_1105 → W p l e (headSpec (Cond.code yX12_isSpent cX12_isSpent 5 (some .boolean) :: TB) (rmN 1)).room s m ([.ref (ad 0), .int (nI n)] : List Value).toArray below meth c H locs 0 0 (MQ below (va_Qi (S := Nat → va_E) (fun r en1 => RX cy cs ad en1 ∧ (∀ c, (c ≠ 8 ∧ c ≠ 9) → en1 c = en c) ∧ (r = 0 ∨ r = 1)) (PostM D cs ad) (Af cs ad sz)) ([.ref (ad 0), .int (nI n)] : List Value).toArray s 0 0 (Af cs ad sz)) (F0 m 50 ls []) := by
                      intro fu
                      induction fu with
                      | zero => intro j1105  en_1105 ls H locs h0 h1 h2; exact absurd h2 (by omega)
                      | succ fu ih_1105 =>
                        intro j1105  en_1105 ls H locs hj0_1105 hj_1105 hfu_1105 hI_1105 hf_1105  hl hh
                        refine lv_iload hx hb dX12_isSpent_50 (lv_at hl 0 rfl) ?_
                        refine lv_aload_n hx hb dX12_isSpent_52 rfl (lv_at hl 3 rfl) ?_
                        have es1083_1106 : en_1105 0 = .inr (11, [.int fa, .int hi, .int (nI wd), .int (nI mo), .int (nI tb), .ref (ad 1), .ref (ad 2), .ref (ad 3), .ref (ad 4), .ref (ad 5), .ref (ad 6), .ref (ad 7), .ref (ad 8), .ref (ad 9), .int dp, .long many, .long grt, .long lst, .long nou, .ref (ad 10), .ref (ad 11), .ref (ad 12), .int rm, .long rb, .ref (ad 13), .int pr, .ref (ad 14), .ref (ad 15), .ref (ad 16), .ref (ad 17), .int (nI wo), .ref (ad 18), .ref (ad 19)]) := (hf_1105 0 (by omega)).trans es1083
                        refine hp_get hx hb hts ix12 hown hK hh (q := 0) rfl (hI.1 _ (by decide)) es1083_1106 rfl 4 (by decide) (hts _ tw_883) (fun _ h9 => h9) rfl dX12_isSpent_53 ?_
                        refine lv_icmp_ge (tgt := 95) hx hb dX12_isSpent_56 (by decide) (fun c_1107 => ?_) (fun c_1107 => ?_)
                        · have n_1107 : tb ≤ j1105 := n_le (a := tb) (b := j1105) c_1107 (by omega) (by omega)
                          refine lv_iinc (v := (nI (j1094 + 1))) (lv' := [(3, .int (nI (j1094 + 1))), (4, .int (nI j1105)), (2, .int (nI j1087)), (0, .ref (ad 0)), (1, .int (nI n))]) hx hb dX12_isSpent_95 hl (k := 1) rfl (nI_1 _) (by decide) rfl (fun ls hl => ?_)
                          refine lv_goto (tgt := 32) hx hb dX12_isSpent_98 (by decide) ?_
                          exact ih_1094 ((j1094 + 1))  en_1105 ls H locs (by omega) (by omega) (by omega) hI_1105 hf_1105  (lv_sub hl [0, 2, 3, 4] rfl) hh
                        · have n_1107 : j1105 < tb := n_nle (a := tb) (b := j1105) c_1107 (by omega) (by omega)
                          refine lv_aload_n hx hb dX12_isSpent_59 rfl (lv_at hl 3 rfl) ?_
                          refine hp_get hx hb hts ix12 hown hK hh (q := 0) rfl (hI.1 _ (by decide)) es1083_1106 rfl 13 (by decide) (hts _ tw_892) (fun _ h9 => h9) rfl dX12_isSpent_60 ?_
                          refine lv_iload_n hx hb dX12_isSpent_63 rfl (lv_at hl 1 rfl) ?_
                          refine lv_dup2_11 hx hb dX12_isSpent_64 rfl rfl ?_
                          obtain ⟨f_1108, es1108⟩ := getr_mw hI_1105
                          refine hp_lald hx hb hK hh (q := 9) rfl (hI.1 _ (by decide)) es1108 (vp_in_nI (n := j1094) (by omega) (by decide)) dX12_isSpent_65 ?_
                          rw [nI_clamp (n := j1094) (by omega)]
                          refine lv_aload_n hx hb dX12_isSpent_66 rfl (lv_at hl 3 rfl) ?_
                          refine lv_iload hx hb dX12_isSpent_67 (lv_at hl 0 rfl) ?_
                          refine lv_iload_n hx hb dX12_isSpent_69 rfl (lv_at hl 1 rfl) ?_
                          refine hp_callRi (va_runV (As := [.int (nI j1105), .int (nI j1094)]) (rest := [.long (f_1108 j1094), .int (nI j1094), .ref (ad 9)]) ⟨hx, hb, hml, hown, hts⟩ (c_X12_mayFollow l D cy _ cs ad en_1105 hI_1105 j1105 j1094 (by omega) (by omega)) (kw_X12_mayFollow hts tw_1029 ⟨by decide, by decide⟩) (preV_of hh hK (hI.1 _ (by decide)) es1083_1106 rfl) rfl rfl hl.1 rfl (lv_room (Nat.le_of_ble_eq_true rfl)) dX12_isSpent_70 ⟨Nat.le_of_ble_eq_true rfl, Nat.le_of_ble_eq_true rfl⟩) hh hA (fun r_1109 H locs hw_1109 hh => ?_)
                          rcases Decidable.em (rdF (en_1105 2) (6 * j1105 + j1094) = 0) with hp_1109 | hp_1109
                          · obtain rfl : r_1109 = 1 := Eq.trans hw_1109 (if_pos hp_1109)
                            refine lv_if_eq (tgt := 86) hx hb dX12_isSpent_73 (by decide) (fun c_0 => absurd c_0 (by decide)) (fun _ => ?_)
                            refine lv_aload_n hx hb dX12_isSpent_76 rfl (lv_at hl 3 rfl) ?_
                            refine hp_get hx hb hts ix12 hown hK hh (q := 0) rfl (hI.1 _ (by decide)) es1083_1106 rfl 12 (by decide) (hts _ tw_891) (fun _ h9 => h9) rfl dX12_isSpent_77 ?_
                            refine lv_iload hx hb dX12_isSpent_80 (lv_at hl 0 rfl) ?_
                            obtain ⟨f_1110, es1110⟩ := getr_wy hI_1105
                            refine hp_lald hx hb hK hh (q := 8) rfl (hI.1 _ (by decide)) es1110 (vp_in_nI (n := j1105) (by omega) (by decide)) dX12_isSpent_82 ?_
                            rw [nI_clamp (n := j1105) (by omega)]
                            refine lv_goto (tgt := 87) hx hb dX12_isSpent_83 (by decide) ?_
                            refine lv_ladd hx hb dX12_isSpent_87 ?_
                            refine hp_last hx hb hK hh (q := 9) rfl (hI.1 _ (by decide)) es1108 (vp_in_nI (n := j1094) (by omega) (by decide)) dX12_isSpent_88 (fun H locs en_1111 hen_1111 hh => ?_)
                            rw [nI_clamp (n := j1094) (by omega)] at hen_1111
                            have es1083_1111 : en_1111 0 = .inr (11, [.int fa, .int hi, .int (nI wd), .int (nI mo), .int (nI tb), .ref (ad 1), .ref (ad 2), .ref (ad 3), .ref (ad 4), .ref (ad 5), .ref (ad 6), .ref (ad 7), .ref (ad 8), .ref (ad 9), .int dp, .long many, .long grt, .long lst, .long nou, .ref (ad 10), .ref (ad 11), .ref (ad 12), .int rm, .long rb, .ref (ad 13), .int pr, .ref (ad 14), .ref (ad 15), .ref (ad 16), .ref (ad 17), .int (nI wo), .ref (ad 18), .ref (ad 19)]) := by rw [hen_1111, va_up_ne _ _ (by decide)]; exact es1083_1106
                            have es1110_1111 : en_1111 8 = .inl (cy 1, 6, .inr (.inl f_1110)) := by rw [hen_1111, va_up_ne _ _ (by decide)]; exact es1110
                            have es1108_1111 : en_1111 9 = .inl (cy 1, 6, .inr (.inl (vp_updL f_1108 j1094 ((f_1108 j1094) + (f_1110 j1105))))) := by rw [hen_1111]; exact va_up_self _ _ _
                            have hI_1111 : RX cy cs ad en_1111 := by rw [hen_1111]; exact upr_mw hI_1105 ⟨(vp_updL f_1108 j1094 ((f_1108 j1094) + (f_1110 j1105))), rfl⟩
                            have hf_1111 : ∀ c, (c ≠ 8 ∧ c ≠ 9) → en_1111 c = en c := fun c hc => Eq.trans (show en_1111 c = en_1105 c from by rw [hen_1111, va_up_ne _ _ (by omega)]) (hf_1105 c hc)
                            refine lv_iinc (v := (nI (j1105 + 1))) (lv' := [(4, .int (nI (j1105 + 1))), (3, .int (nI j1094)), (2, .int (nI j1087)), (0, .ref (ad 0)), (1, .int (nI n))]) hx hb dX12_isSpent_89 hl (k := 0) rfl (nI_1 _) (by decide) rfl (fun ls hl => ?_)
                            refine lv_goto (tgt := 50) hx hb dX12_isSpent_92 (by decide) ?_
                            exact ih_1105 ((j1105 + 1))  en_1111 ls H locs (by omega) (by omega) (by omega) hI_1111 hf_1111  (lv_sub hl [0, 1, 2, 3, 4] rfl) hh
                          · obtain rfl : r_1109 = 0 := Eq.trans hw_1109 (if_neg hp_1109)
                            refine lv_if_eq (tgt := 86) hx hb dX12_isSpent_73 (by decide) (fun _ => ?_) (fun c_0 => absurd c_0 (by decide))
                            refine lv_lconst (v := 0) hx hb dX12_isSpent_86 (by decide) ?_
                            refine lv_ladd hx hb dX12_isSpent_87 ?_
                            refine hp_last hx hb hK hh (q := 9) rfl (hI.1 _ (by decide)) es1108 (vp_in_nI (n := j1094) (by omega) (by decide)) dX12_isSpent_88 (fun H locs en_1112 hen_1112 hh => ?_)
                            rw [nI_clamp (n := j1094) (by omega)] at hen_1112
                            have es1083_1112 : en_1112 0 = .inr (11, [.int fa, .int hi, .int (nI wd), .int (nI mo), .int (nI tb), .ref (ad 1), .ref (ad 2), .ref (ad 3), .ref (ad 4), .ref (ad 5), .ref (ad 6), .ref (ad 7), .ref (ad 8), .ref (ad 9), .int dp, .long many, .long grt, .long lst, .long nou, .ref (ad 10), .ref (ad 11), .ref (ad 12), .int rm, .long rb, .ref (ad 13), .int pr, .ref (ad 14), .ref (ad 15), .ref (ad 16), .ref (ad 17), .int (nI wo), .ref (ad 18), .ref (ad 19)]) := by rw [hen_1112, va_up_ne _ _ (by decide)]; exact es1083_1106
                            have es1108_1112 : en_1112 9 = .inl (cy 1, 6, .inr (.inl (vp_updL f_1108 j1094 ((f_1108 j1094) + 0)))) := by rw [hen_1112]; exact va_up_self _ _ _
                            have hI_1112 : RX cy cs ad en_1112 := by rw [hen_1112]; exact upr_mw hI_1105 ⟨(vp_updL f_1108 j1094 ((f_1108 j1094) + 0)), rfl⟩
                            have hf_1112 : ∀ c, (c ≠ 8 ∧ c ≠ 9) → en_1112 c = en c := fun c hc => Eq.trans (show en_1112 c = en_1105 c from by rw [hen_1112, va_up_ne _ _ (by omega)]) (hf_1105 c hc)
                            refine lv_iinc (v := (nI (j1105 + 1))) (lv' := [(4, .int (nI (j1105 + 1))), (3, .int (nI j1094)), (2, .int (nI j1087)), (0, .ref (ad 0)), (1, .int (nI n))]) hx hb dX12_isSpent_89 hl (k := 0) rfl (nI_1 _) (by decide) rfl (fun ls hl => ?_)
                            refine lv_goto (tgt := 50) hx hb dX12_isSpent_92 (by decide) ?_
                            exact ih_1105 ((j1105 + 1))  en_1112 ls H locs (by omega) (by omega) (by omega) hI_1112 hf_1112  (lv_sub hl [0, 1, 2, 3, 4] rfl) hh
                    exact loop_1105 (6 + 1) 0  en_1104 ls _ _ (Nat.le_refl _) (by omega) (by omega) hI_1104 hf_1104  (lv_sub hl [0, 1, 2, 3, 4] rfl) hh
              exact loop_1094 (6 + 1) 0  en_1087 ls _ _ (Nat.le_refl _) (by omega) (by omega) hI_1087 hf_1087  (lv_sub hl [0, 1, 2, 3] rfl) hh
        exact loop_1087 (8 + 1) 1  en_1084 ls _ _ (Nat.le_refl _) (by omega) (by omega) hI_1084 hf_1084  (lv_sub hl [0, 1, 2] rfl) hh
      · have n_1086 : j1084 < tb := n_nle (a := tb) (b := j1084) c_1086 (by omega) (by omega)
        refine lv_aload_n hx hb dX12_isSpent_10 rfl (lv_at hl 1 rfl) ?_
        refine hp_get hx hb hts ix12 hown hK hh (q := 0) rfl (hI.1 _ (by decide)) es1083_1085 rfl 12 (by decide) (hts _ tw_891) (fun _ h9 => h9) rfl dX12_isSpent_11 ?_
        refine lv_iload_n hx hb dX12_isSpent_14 rfl (lv_at hl 0 rfl) ?_
        refine lv_lconst (v := 1) hx hb dX12_isSpent_15 (by decide) ?_
        obtain ⟨f_1113, es1113⟩ := getr_wy hI_1084
        refine hp_last hx hb hK hh (q := 8) rfl (hI.1 _ (by decide)) es1113 (vp_in_nI (n := j1084) (by omega) (by decide)) dX12_isSpent_16 (fun H locs en_1114 hen_1114 hh => ?_)
        rw [nI_clamp (n := j1084) (by omega)] at hen_1114
        have es1083_1114 : en_1114 0 = .inr (11, [.int fa, .int hi, .int (nI wd), .int (nI mo), .int (nI tb), .ref (ad 1), .ref (ad 2), .ref (ad 3), .ref (ad 4), .ref (ad 5), .ref (ad 6), .ref (ad 7), .ref (ad 8), .ref (ad 9), .int dp, .long many, .long grt, .long lst, .long nou, .ref (ad 10), .ref (ad 11), .ref (ad 12), .int rm, .long rb, .ref (ad 13), .int pr, .ref (ad 14), .ref (ad 15), .ref (ad 16), .ref (ad 17), .int (nI wo), .ref (ad 18), .ref (ad 19)]) := by rw [hen_1114, va_up_ne _ _ (by decide)]; exact es1083_1085
        have es1113_1114 : en_1114 8 = .inl (cy 1, 6, .inr (.inl (vp_updL f_1113 j1084 1))) := by rw [hen_1114]; exact va_up_self _ _ _
        have hI_1114 : RX cy cs ad en_1114 := by rw [hen_1114]; exact upr_wy hI_1084 ⟨(vp_updL f_1113 j1084 1), rfl⟩
        have hf_1114 : ∀ c, (c ≠ 8 ∧ c ≠ 9) → en_1114 c = en c := fun c hc => Eq.trans (show en_1114 c = en_1084 c from by rw [hen_1114, va_up_ne _ _ (by omega)]) (hf_1084 c hc)
        refine lv_iinc (v := (nI (j1084 + 1))) (lv' := [(2, .int (nI (j1084 + 1))), (0, .ref (ad 0)), (1, .int (nI n))]) hx hb dX12_isSpent_17 hl (k := 0) rfl (nI_1 _) (by decide) rfl (fun ls hl => ?_)
        refine lv_goto (tgt := 2) hx hb dX12_isSpent_20 (by decide) ?_
        exact ih_1084 ((j1084 + 1))  en_1114 ls H locs (by omega) (by omega) (by omega) hI_1114 hf_1114  (lv_sub hl [0, 1, 2] rfl) hh
  exact loop_1084 (6 + 1) 0  en ls _ _ (Nat.le_refl _) (by omega) (by omega) hI hf0  (lv_sub hl [0, 1, 2] rfl) hh
theorem kw_X12_isSpent {R : Room} {s : State} {args : Array Value} {own : String} {idx : Nat} (hts : ∀ w ∈ TB, w.before args s = true) (hl : Cond.methodLink own idx yX12_isSpent ∈ TB) (hR : 1 + 1 ≤ R.frames ∧ 8 + (5 + 11) + 40 * 1 ≤ R.locals) : CallW R s args own RX12 idx yX12_isSpent cX12_isSpent 5 (some .boolean) (Cond.code yX12_isSpent cX12_isSpent 5 (some .boolean) :: TB) (rmN 1) 0 0 1 := cwV 1 hts (TB_V hl tw_1027 ts_35 tw_9 tw_1028) rfl rfl rfl (by decide +kernel) hR
