set_option maxHeartbeats 4000000 in
set_option maxRecDepth 100000 in
/-- begin -/
theorem c_X12_begin (l : Launch) (D : va_G) (cy : Nat → ClassId) (sz : Nat) (cs : List Nat) (ad : Nat → Nat) (en : Nat → va_E) (hI : RX cy cs ad en) (d0 m0 : Int32)   : Met l yX12_begin (Cond.code yX12_begin cX12_begin 4 (some .int) :: TB) (rmN 1) (va_Pc [.ref (ad 0), .int d0, .int m0] (Pre D cy cs ad en sz)) (va_Qi (S := Nat → va_E) (fun r en1 => RX cy cs ad en1 ∧ (∀ c, (c ≠ 0 ∧ c ≠ 2) → en1 c = en c) ∧ r = spBegin d0 m0 ∧ ((r = -2 ∧ en1 = en) ∨ (r = 1 ∧ (rdI (en1 0) 1 = rdI (en 0) 1 ∧ rdI (en1 0) 2 = d0 ∧ rdI (en1 0) 3 = m0 ∧ rdI (en1 0) 4 = nI 0 ∧ rdI (en1 0) 25 = -9 ∧ rdI (en1 0) 30 = nI 0) ∧ ∀ i, i < 36 → rdF (en1 2) i = 0))) (PostM D cs ad) (Af cs ad sz)) 0 0 (Af cs ad sz) := by
  refine Met.ofW (cc := cX12_begin) (maxL := 4) (ret := (some .int)) (by decide) rfl ?_
  intro p e s m args below meth c s₁ B hml hv
  obtain ⟨rfl, hsz, hP, hK, hD0⟩ := hv
  have hx := B.exec
  have hb := B.bytes
  have hr := B.returns
  have hts : ∀ w ∈ TB, w.before _ s = true := fun w h => atoms_spec (ws := _ :: TB) B.pre w (List.mem_cons_of_mem _ h)
  have hown : s.vm.findClass RX12 = some m.cls := findClass_of_methodNamed B.named
  have hlocks := B.notSynchronized
  have hh : Hp D (Af cs ad sz) (Af cs ad sz) s.heap s.heap [] cs ad en := ⟨hP, Af_self hD0, va_S.rf⟩
  have hA : ∀ q : Nat, s.heap.size ≤ q → Af cs ad sz q := fun q h => Or.inr (by rw [hsz] at h; exact h)
  have hl := lv_entry ([.ref (ad 0), .int d0, .int m0]) (n := 4) (Nat.le_of_ble_eq_true rfl)
  rw [lg_entry_eq]
  generalize (lg_sl ([.ref (ad 0), .int d0, .int m0]) ++ List.replicate (4 - (lg_sl ([.ref (ad 0), .int d0, .int m0])).length) Slot.unset).toArray = ls at hl ⊢
  have hl : lv_has ls 4 [(0, .ref (ad 0)), (1, .int d0), (2, .int m0)] := hl
  have hf0 : ∀ c, (c ≠ 0 ∧ c ≠ 2) → en c = en c := fun _ _ => rfl
  obtain ⟨fa, hi, wd, mo, tb, dp, many, grt, lst, nou, rm, rb, pr, wo, es1006, hwd2, hwd3, hmo, htb, hwo⟩ := getr_M hI
  refine lv_iload_n hx hb dX12_begin_0 rfl (lv_at hl 1 rfl) ?_
  refine lv_i2l hx hb dX12_begin_1 rfl ?_
  refine lv_ldc2 hx hb hown (hts _ tw_983) dX12_begin_2 ?_
  refine lv_ldc2 hx hb hown (hts _ tw_984) dX12_begin_5 ?_
  refine hp_callRi (va_runS (As := [.long d0.toInt64, .long 2, .long 3]) (rest := []) ⟨hx, hb, hml, hown, hts⟩ (c_X12_within l D cy _ cs ad en d0.toInt64 2 3) (kw_X12_within hts tw_985 ⟨by decide, by decide⟩) (preS_of hh hK) rfl rfl hl.1 rfl (lv_room (Nat.le_of_ble_eq_true rfl)) dX12_begin_8 ⟨Nat.le_of_ble_eq_true rfl, Nat.le_of_ble_eq_true rfl⟩) hh hA (fun r_1007 H locs hw_1007 hh => ?_)
  rcases Decidable.em (wi d0 2 3) with hp_1007 | hp_1007
  · obtain rfl : r_1007 = 1 := Eq.trans hw_1007 (if_pos ((wj_32 (by decide) (by decide)).mpr hp_1007))
    obtain ⟨N_1007, rfl, hA_1007, hB_1007⟩ := wi_natB hp_1007 2 3 (by decide) (by decide)
    refine lv_if_eq (tgt := 32) hx hb dX12_begin_11 (by decide) (fun c_0 => absurd c_0 (by decide)) (fun _ => ?_)
    refine lv_iload_n hx hb dX12_begin_14 rfl (lv_at hl 2 rfl) ?_
    refine lv_if_eq (tgt := 35) hx hb dX12_begin_15 (by decide) (fun c_1008 => ?_) (fun c_1008 => ?_)
    · subst c_1008
      refine lv_aload_n hx hb dX12_begin_35 rfl (lv_at hl 0 rfl) ?_
      refine lv_iload_n hx hb dX12_begin_36 rfl (lv_at hl 1 rfl) ?_
      refine hp_put hx hb hts ix12 tyX12 tyX12_ok nmX12 hown hK hh (q := 0) rfl (hI.1 _ (by decide)) es1006 rfl 2 (by decide) (hts _ tw_881) (fun _ h9 => h9) rfl (ty := .int) (by decide +kernel) rfl rfl (Nat.le_of_ble_eq_true rfl) dX12_begin_37 (fun H locs en_1009 hen_1009 hh => ?_)
      have es1006_1009 : en_1009 0 = .inr (11, [.int fa, .int hi, .int (nI N_1007), .int (nI mo), .int (nI tb), .ref (ad 1), .ref (ad 2), .ref (ad 3), .ref (ad 4), .ref (ad 5), .ref (ad 6), .ref (ad 7), .ref (ad 8), .ref (ad 9), .int dp, .long many, .long grt, .long lst, .long nou, .ref (ad 10), .ref (ad 11), .ref (ad 12), .int rm, .long rb, .ref (ad 13), .int pr, .ref (ad 14), .ref (ad 15), .ref (ad 16), .ref (ad 17), .int (nI wo), .ref (ad 18), .ref (ad 19)]) := by rw [hen_1009]; exact va_up_self _ _ _
      have hI_1009 : RX cy cs ad en_1009 := by rw [hen_1009]; exact upr_M hI ⟨fa, hi, N_1007, mo, tb, dp, many, grt, lst, nou, rm, rb, pr, wo, rfl, (by omega), (by omega), hmo, htb, hwo⟩
      have hf_1009 : ∀ c, (c ≠ 0 ∧ c ≠ 2) → en_1009 c = en c := fun c hc => Eq.trans (show en_1009 c = en c from by rw [hen_1009, va_up_ne _ _ (by omega)]) (hf0 c hc)
      refine lv_aload_n hx hb dX12_begin_40 rfl (lv_at hl 0 rfl) ?_
      refine lv_iload_n hx hb dX12_begin_41 rfl (lv_at hl 2 rfl) ?_
      refine hp_put hx hb hts ix12 tyX12 tyX12_ok nmX12 hown hK hh (q := 0) rfl (hI.1 _ (by decide)) es1006_1009 rfl 3 (by decide) (hts _ tw_882) (fun _ h9 => h9) rfl (ty := .int) (by decide +kernel) rfl rfl (Nat.le_of_ble_eq_true rfl) dX12_begin_42 (fun H locs en_1010 hen_1010 hh => ?_)
      have es1006_1010 : en_1010 0 = .inr (11, [.int fa, .int hi, .int (nI N_1007), .int 0, .int (nI tb), .ref (ad 1), .ref (ad 2), .ref (ad 3), .ref (ad 4), .ref (ad 5), .ref (ad 6), .ref (ad 7), .ref (ad 8), .ref (ad 9), .int dp, .long many, .long grt, .long lst, .long nou, .ref (ad 10), .ref (ad 11), .ref (ad 12), .int rm, .long rb, .ref (ad 13), .int pr, .ref (ad 14), .ref (ad 15), .ref (ad 16), .ref (ad 17), .int (nI wo), .ref (ad 18), .ref (ad 19)]) := by rw [hen_1010]; exact va_up_self _ _ _
      have hI_1010 : RX cy cs ad en_1010 := by rw [hen_1010]; exact upr_M hI_1009 ⟨fa, hi, N_1007, 0, tb, dp, many, grt, lst, nou, rm, rb, pr, wo, rfl, (by omega), (by omega), (by omega), htb, hwo⟩
      have hf_1010 : ∀ c, (c ≠ 0 ∧ c ≠ 2) → en_1010 c = en c := fun c hc => Eq.trans (show en_1010 c = en_1009 c from by rw [hen_1010, va_up_ne _ _ (by omega)]) (hf_1009 c hc)
      refine lv_aload_n hx hb dX12_begin_45 rfl (lv_at hl 0 rfl) ?_
      refine lv_iconst (v := 0) hx hb dX12_begin_46 (by decide) ?_
      refine hp_put hx hb hts ix12 tyX12 tyX12_ok nmX12 hown hK hh (q := 0) rfl (hI.1 _ (by decide)) es1006_1010 rfl 4 (by decide) (hts _ tw_883) (fun _ h9 => h9) rfl (ty := .int) (by decide +kernel) rfl rfl (Nat.le_of_ble_eq_true rfl) dX12_begin_47 (fun H locs en_1011 hen_1011 hh => ?_)
      have es1006_1011 : en_1011 0 = .inr (11, [.int fa, .int hi, .int (nI N_1007), .int 0, .int 0, .ref (ad 1), .ref (ad 2), .ref (ad 3), .ref (ad 4), .ref (ad 5), .ref (ad 6), .ref (ad 7), .ref (ad 8), .ref (ad 9), .int dp, .long many, .long grt, .long lst, .long nou, .ref (ad 10), .ref (ad 11), .ref (ad 12), .int rm, .long rb, .ref (ad 13), .int pr, .ref (ad 14), .ref (ad 15), .ref (ad 16), .ref (ad 17), .int (nI wo), .ref (ad 18), .ref (ad 19)]) := by rw [hen_1011]; exact va_up_self _ _ _
      have hI_1011 : RX cy cs ad en_1011 := by rw [hen_1011]; exact upr_M hI_1010 ⟨fa, hi, N_1007, 0, 0, dp, many, grt, lst, nou, rm, rb, pr, wo, rfl, (by omega), (by omega), (by omega), (by omega), hwo⟩
      have hf_1011 : ∀ c, (c ≠ 0 ∧ c ≠ 2) → en_1011 c = en c := fun c hc => Eq.trans (show en_1011 c = en_1010 c from by rw [hen_1011, va_up_ne _ _ (by omega)]) (hf_1010 c hc)
      refine lv_aload_n hx hb dX12_begin_50 rfl (lv_at hl 0 rfl) ?_
      refine lv_iconst (v := 0) hx hb dX12_begin_51 (by decide) ?_
      refine hp_put hx hb hts ix12 tyX12 tyX12_ok nmX12 hown hK hh (q := 0) rfl (hI.1 _ (by decide)) es1006_1011 rfl 30 (by decide) (hts _ tw_909) (fun _ h9 => h9) rfl (ty := .int) (by decide +kernel) rfl rfl (Nat.le_of_ble_eq_true rfl) dX12_begin_52 (fun H locs en_1012 hen_1012 hh => ?_)
      have es1006_1012 : en_1012 0 = .inr (11, [.int fa, .int hi, .int (nI N_1007), .int 0, .int 0, .ref (ad 1), .ref (ad 2), .ref (ad 3), .ref (ad 4), .ref (ad 5), .ref (ad 6), .ref (ad 7), .ref (ad 8), .ref (ad 9), .int dp, .long many, .long grt, .long lst, .long nou, .ref (ad 10), .ref (ad 11), .ref (ad 12), .int rm, .long rb, .ref (ad 13), .int pr, .ref (ad 14), .ref (ad 15), .ref (ad 16), .ref (ad 17), .int 0, .ref (ad 18), .ref (ad 19)]) := by rw [hen_1012]; exact va_up_self _ _ _
      have hI_1012 : RX cy cs ad en_1012 := by rw [hen_1012]; exact upr_M hI_1011 ⟨fa, hi, N_1007, 0, 0, dp, many, grt, lst, nou, rm, rb, pr, 0, rfl, (by omega), (by omega), (by omega), (by omega), (by omega)⟩
      have hf_1012 : ∀ c, (c ≠ 0 ∧ c ≠ 2) → en_1012 c = en c := fun c hc => Eq.trans (show en_1012 c = en_1011 c from by rw [hen_1012, va_up_ne _ _ (by omega)]) (hf_1011 c hc)
      refine lv_aload_n hx hb dX12_begin_55 rfl (lv_at hl 0 rfl) ?_
      refine lv_bipush (v := (-9)) hx hb dX12_begin_56 (by decide) ?_
      refine hp_put hx hb hts ix12 tyX12 tyX12_ok nmX12 hown hK hh (q := 0) rfl (hI.1 _ (by decide)) es1006_1012 rfl 25 (by decide) (hts _ tw_904) (fun _ h9 => h9) rfl (ty := .int) (by decide +kernel) rfl rfl (Nat.le_of_ble_eq_true rfl) dX12_begin_58 (fun H locs en_1013 hen_1013 hh => ?_)
      have es1006_1013 : en_1013 0 = .inr (11, [.int fa, .int hi, .int (nI N_1007), .int 0, .int 0, .ref (ad 1), .ref (ad 2), .ref (ad 3), .ref (ad 4), .ref (ad 5), .ref (ad 6), .ref (ad 7), .ref (ad 8), .ref (ad 9), .int dp, .long many, .long grt, .long lst, .long nou, .ref (ad 10), .ref (ad 11), .ref (ad 12), .int rm, .long rb, .ref (ad 13), .int (-9), .ref (ad 14), .ref (ad 15), .ref (ad 16), .ref (ad 17), .int 0, .ref (ad 18), .ref (ad 19)]) := by rw [hen_1013]; exact va_up_self _ _ _
      have hI_1013 : RX cy cs ad en_1013 := by rw [hen_1013]; exact upr_M hI_1012 ⟨fa, hi, N_1007, 0, 0, dp, many, grt, lst, nou, rm, rb, (-9), 0, rfl, (by omega), (by omega), (by omega), (by omega), (by omega)⟩
      have hf_1013 : ∀ c, (c ≠ 0 ∧ c ≠ 2) → en_1013 c = en c := fun c hc => Eq.trans (show en_1013 c = en_1012 c from by rw [hen_1013, va_up_ne _ _ (by omega)]) (hf_1012 c hc)
      refine lv_iconst (v := 0) hx hb dX12_begin_61 (by decide) ?_
      refine lv_istore_n (lv' := [(3, .int 0), (0, .ref (ad 0)), (1, .int (nI N_1007)), (2, .int 0)]) hx hb dX12_begin_62 rfl hl (by decide) rfl (fun ls hl => ?_)
      have loop_1014 : ∀ (fu j1014 : Nat)  (en_1014 : Nat → va_E) (ls : Array Slot) (H : Heap) (locs : List Loc), 0 ≤ j1014 → j1014 ≤ 36 → 36 < j1014 + fu → RX cy cs ad en_1014 → (∀ c, (c ≠ 0 ∧ c ≠ 2) → en_1014 c = en c) → (∀ i, i < j1014 → rdF (en_1014 2) i = 0) → (rdI (en_1014 0) 1 = rdI (en 0) 1 ∧ rdI (en_1014 0) 2 = (nI N_1007) ∧ rdI (en_1014 0) 3 = 0 ∧ rdI (en_1014 0) 4 = nI 0 ∧ rdI (en_1014 0) 25 = -9 ∧ rdI (en_1014 0) 30 = nI 0) → lv_has ls 4 [(3, .int (nI j1014)), (0, .ref (ad 0)), (1, .int (nI N_1007)), (2, .int 0)] → Hp D (Af cs ad sz) (Af cs ad sz) s.heap H locs cs ad en_1014 → W p l e (headSpec (Cond.code yX12_begin cX12_begin 4 (some .int) :: TB) (rmN 1)).room s m ([.ref (ad 0), .int (nI N_1007), .int 0] : List Value).toArray below meth c H locs 0 0 (MQ below (va_Qi (S := Nat → va_E) (fun r en1 => RX cy cs ad en1 ∧ (∀ c, (c ≠ 0 ∧ c ≠ 2) → en1 c = en c) ∧ r = spBegin (nI N_1007) 0 ∧ ((r = -2 ∧ en1 = en) ∨ (r = 1 ∧ (rdI (en1 0) 1 = rdI (en 0) 1 ∧ rdI (en1 0) 2 = (nI N_1007) ∧ rdI (en1 0) 3 = 0 ∧ rdI (en1 0) 4 = nI 0 ∧ rdI (en1 0) 25 = -9 ∧ rdI (en1 0) 30 = nI 0) ∧ ∀ i, i < 36 → rdF (en1 2) i = 0))) (PostM D cs ad) (Af cs ad sz)) ([.ref (ad 0), .int (nI N_1007), .int 0] : List Value).toArray s 0 0 (Af cs ad sz)) (F0 m 63 ls []) := by
        intro fu
        induction fu with
        | zero => intro j1014  en_1014 ls H locs h0 h1 h2; exact absurd h2 (by omega)
        | succ fu ih_1014 =>
          intro j1014  en_1014 ls H locs hj0_1014 hj_1014 hfu_1014 hI_1014 hf_1014 i0_1014 i1_1014 hl hh
          refine lv_iload_n hx hb dX12_begin_63 rfl (lv_at hl 0 rfl) ?_
          refine lv_bipush (v := 36) hx hb dX12_begin_64 (by decide) ?_
          refine lv_icmp_ge (tgt := 82) hx hb dX12_begin_66 (by decide) (fun c_1015 => ?_) (fun c_1015 => ?_)
          · have n_1015 : 36 ≤ j1014 := n_le (a := 36) (b := j1014) c_1015 (by decide) (by omega)
            refine lv_iconst (v := 1) hx hb dX12_begin_82 (by decide) ?_
            exact hp_iretM hx hb hr rfl hlocks hh (⟨hI_1014, hf_1014, (by unfold spBegin; rw [if_pos ⟨hp_1007, Or.inl rfl⟩]), Or.inr ⟨rfl, i1_1014, fun i hi => i0_1014 i (by omega)⟩⟩) dX12_begin_83
          · have n_1015 : j1014 < 36 := n_nle (a := 36) (b := j1014) c_1015 (by decide) (by omega)
            refine lv_aload_n hx hb dX12_begin_69 rfl (lv_at hl 1 rfl) ?_
            obtain ⟨fa_1016, hi_1016, wd_1016, mo_1016, tb_1016, dp_1016, many_1016, grt_1016, lst_1016, nou_1016, rm_1016, rb_1016, pr_1016, wo_1016, es1016, p0_1016, p1_1016, p2_1016, p3_1016, p4_1016⟩ := getr_M hI_1014
            refine hp_get hx hb hts ix12 hown hK hh (q := 0) rfl (hI.1 _ (by decide)) es1016 rfl 6 (by decide) (hts _ tw_885) (fun _ h9 => h9) rfl dX12_begin_70 ?_
            refine lv_iload_n hx hb dX12_begin_73 rfl (lv_at hl 0 rfl) ?_
            refine lv_iconst (v := 0) hx hb dX12_begin_74 (by decide) ?_
            obtain ⟨f_1017, es1017, p0_1017⟩ := getr_mn hI_1014
            refine hp_zast hx hb hK hh (q := 2) rfl (hI.1 _ (by decide)) es1017 (vp_in_nI (n := j1014) (by omega) (by decide)) dX12_begin_75 (fun H locs en_1018 hen_1018 hh => ?_)
            rw [nI_clamp (n := j1014) (by omega)] at hen_1018
            have es1016_1018 : en_1018 0 = .inr (11, [.int fa_1016, .int hi_1016, .int (nI wd_1016), .int (nI mo_1016), .int (nI tb_1016), .ref (ad 1), .ref (ad 2), .ref (ad 3), .ref (ad 4), .ref (ad 5), .ref (ad 6), .ref (ad 7), .ref (ad 8), .ref (ad 9), .int dp_1016, .long many_1016, .long grt_1016, .long lst_1016, .long nou_1016, .ref (ad 10), .ref (ad 11), .ref (ad 12), .int rm_1016, .long rb_1016, .ref (ad 13), .int pr_1016, .ref (ad 14), .ref (ad 15), .ref (ad 16), .ref (ad 17), .int (nI wo_1016), .ref (ad 18), .ref (ad 19)]) := by rw [hen_1018, va_up_ne _ _ (by decide)]; exact es1016
            have es1017_1018 : en_1018 2 = .inl (cy 2, 36, .inl (upd f_1017 j1014 (vp_nar .boolean 0))) := by rw [hen_1018]; exact va_up_self _ _ _
            have hI_1018 : RX cy cs ad en_1018 := by rw [hen_1018]; exact upr_mn hI_1014 ⟨(upd f_1017 j1014 (vp_nar .boolean 0)), rfl, (bits_upd p0_1017 (Or.inl rfl))⟩
            have hf_1018 : ∀ c, (c ≠ 0 ∧ c ≠ 2) → en_1018 c = en c := fun c hc => Eq.trans (show en_1018 c = en_1014 c from by rw [hen_1018, va_up_ne _ _ (by omega)]) (hf_1014 c hc)
            refine lv_iinc (v := (nI (j1014 + 1))) (lv' := [(3, .int (nI (j1014 + 1))), (0, .ref (ad 0)), (1, .int (nI N_1007)), (2, .int 0)]) hx hb dX12_begin_76 hl (k := 0) rfl (nI_1 _) (by decide) rfl (fun ls hl => ?_)
            refine lv_goto (tgt := 63) hx hb dX12_begin_79 (by decide) ?_
            exact ih_1014 ((j1014 + 1))  en_1018 ls H locs (by omega) (by omega) (by omega) hI_1018 hf_1018 (fun i hi => by rw [es1017_1018]; exact z_upd hi vp_bit0 (fun h9 => (show f_1017 i = rdF (en_1014 2) i from by rw [es1017]; rfl).trans (i0_1014 i h9))) (by rw [show en_1018 0 = en_1014 0 from by rw [hen_1018, va_up_ne _ _ (by decide)]]; exact i1_1014) (lv_sub hl [0, 1, 2, 3] rfl) hh
      exact loop_1014 (36 + 1) 0  en_1013 ls _ _ (Nat.le_refl _) (by omega) (by omega) hI_1013 hf_1013 (fun i h => absurd h (Nat.not_lt_zero i)) (⟨by rw [es1006_1013, es1006]; rfl, by rw [es1006_1013]; rfl, by rw [es1006_1013]; rfl, by rw [es1006_1013]; rfl, by rw [es1006_1013]; rfl, by rw [es1006_1013]; rfl⟩) (lv_sub hl [0, 1, 2, 3] rfl) hh
    · refine lv_iload_n hx hb dX12_begin_18 rfl (lv_at hl 2 rfl) ?_
      refine lv_i2l hx hb dX12_begin_19 rfl ?_
      refine lv_ldc2 hx hb hown (hts _ tw_983) dX12_begin_20 ?_
      refine lv_ldc2 hx hb hown (hts _ tw_988) dX12_begin_23 ?_
      refine hp_callRi (va_runS (As := [.long m0.toInt64, .long 2, .long 97]) (rest := []) ⟨hx, hb, hml, hown, hts⟩ (c_X12_within l D cy _ cs ad en m0.toInt64 2 97) (kw_X12_within hts tw_985 ⟨by decide, by decide⟩) (preS_of hh hK) rfl rfl hl.1 rfl (lv_room (Nat.le_of_ble_eq_true rfl)) dX12_begin_26 ⟨Nat.le_of_ble_eq_true rfl, Nat.le_of_ble_eq_true rfl⟩) hh hA (fun r_1019 H locs hw_1019 hh => ?_)
      rcases Decidable.em (wi m0 2 97) with hp_1019 | hp_1019
      · obtain rfl : r_1019 = 1 := Eq.trans hw_1019 (if_pos ((wj_32 (by decide) (by decide)).mpr hp_1019))
        obtain ⟨N_1019, rfl, hA_1019, hB_1019⟩ := wi_natB hp_1019 2 97 (by decide) (by decide)
        refine lv_if_ne (tgt := 35) hx hb dX12_begin_29 (by decide) (fun _ => ?_) (fun c_0 => absurd c_0 (by decide))
        refine lv_aload_n hx hb dX12_begin_35 rfl (lv_at hl 0 rfl) ?_
        refine lv_iload_n hx hb dX12_begin_36 rfl (lv_at hl 1 rfl) ?_
        refine hp_put hx hb hts ix12 tyX12 tyX12_ok nmX12 hown hK hh (q := 0) rfl (hI.1 _ (by decide)) es1006 rfl 2 (by decide) (hts _ tw_881) (fun _ h9 => h9) rfl (ty := .int) (by decide +kernel) rfl rfl (Nat.le_of_ble_eq_true rfl) dX12_begin_37 (fun H locs en_1020 hen_1020 hh => ?_)
        have es1006_1020 : en_1020 0 = .inr (11, [.int fa, .int hi, .int (nI N_1007), .int (nI mo), .int (nI tb), .ref (ad 1), .ref (ad 2), .ref (ad 3), .ref (ad 4), .ref (ad 5), .ref (ad 6), .ref (ad 7), .ref (ad 8), .ref (ad 9), .int dp, .long many, .long grt, .long lst, .long nou, .ref (ad 10), .ref (ad 11), .ref (ad 12), .int rm, .long rb, .ref (ad 13), .int pr, .ref (ad 14), .ref (ad 15), .ref (ad 16), .ref (ad 17), .int (nI wo), .ref (ad 18), .ref (ad 19)]) := by rw [hen_1020]; exact va_up_self _ _ _
        have hI_1020 : RX cy cs ad en_1020 := by rw [hen_1020]; exact upr_M hI ⟨fa, hi, N_1007, mo, tb, dp, many, grt, lst, nou, rm, rb, pr, wo, rfl, (by omega), (by omega), hmo, htb, hwo⟩
        have hf_1020 : ∀ c, (c ≠ 0 ∧ c ≠ 2) → en_1020 c = en c := fun c hc => Eq.trans (show en_1020 c = en c from by rw [hen_1020, va_up_ne _ _ (by omega)]) (hf0 c hc)
        refine lv_aload_n hx hb dX12_begin_40 rfl (lv_at hl 0 rfl) ?_
        refine lv_iload_n hx hb dX12_begin_41 rfl (lv_at hl 2 rfl) ?_
        refine hp_put hx hb hts ix12 tyX12 tyX12_ok nmX12 hown hK hh (q := 0) rfl (hI.1 _ (by decide)) es1006_1020 rfl 3 (by decide) (hts _ tw_882) (fun _ h9 => h9) rfl (ty := .int) (by decide +kernel) rfl rfl (Nat.le_of_ble_eq_true rfl) dX12_begin_42 (fun H locs en_1021 hen_1021 hh => ?_)
        have es1006_1021 : en_1021 0 = .inr (11, [.int fa, .int hi, .int (nI N_1007), .int (nI N_1019), .int (nI tb), .ref (ad 1), .ref (ad 2), .ref (ad 3), .ref (ad 4), .ref (ad 5), .ref (ad 6), .ref (ad 7), .ref (ad 8), .ref (ad 9), .int dp, .long many, .long grt, .long lst, .long nou, .ref (ad 10), .ref (ad 11), .ref (ad 12), .int rm, .long rb, .ref (ad 13), .int pr, .ref (ad 14), .ref (ad 15), .ref (ad 16), .ref (ad 17), .int (nI wo), .ref (ad 18), .ref (ad 19)]) := by rw [hen_1021]; exact va_up_self _ _ _
        have hI_1021 : RX cy cs ad en_1021 := by rw [hen_1021]; exact upr_M hI_1020 ⟨fa, hi, N_1007, N_1019, tb, dp, many, grt, lst, nou, rm, rb, pr, wo, rfl, (by omega), (by omega), (by omega), htb, hwo⟩
        have hf_1021 : ∀ c, (c ≠ 0 ∧ c ≠ 2) → en_1021 c = en c := fun c hc => Eq.trans (show en_1021 c = en_1020 c from by rw [hen_1021, va_up_ne _ _ (by omega)]) (hf_1020 c hc)
        refine lv_aload_n hx hb dX12_begin_45 rfl (lv_at hl 0 rfl) ?_
        refine lv_iconst (v := 0) hx hb dX12_begin_46 (by decide) ?_
        refine hp_put hx hb hts ix12 tyX12 tyX12_ok nmX12 hown hK hh (q := 0) rfl (hI.1 _ (by decide)) es1006_1021 rfl 4 (by decide) (hts _ tw_883) (fun _ h9 => h9) rfl (ty := .int) (by decide +kernel) rfl rfl (Nat.le_of_ble_eq_true rfl) dX12_begin_47 (fun H locs en_1022 hen_1022 hh => ?_)
        have es1006_1022 : en_1022 0 = .inr (11, [.int fa, .int hi, .int (nI N_1007), .int (nI N_1019), .int 0, .ref (ad 1), .ref (ad 2), .ref (ad 3), .ref (ad 4), .ref (ad 5), .ref (ad 6), .ref (ad 7), .ref (ad 8), .ref (ad 9), .int dp, .long many, .long grt, .long lst, .long nou, .ref (ad 10), .ref (ad 11), .ref (ad 12), .int rm, .long rb, .ref (ad 13), .int pr, .ref (ad 14), .ref (ad 15), .ref (ad 16), .ref (ad 17), .int (nI wo), .ref (ad 18), .ref (ad 19)]) := by rw [hen_1022]; exact va_up_self _ _ _
        have hI_1022 : RX cy cs ad en_1022 := by rw [hen_1022]; exact upr_M hI_1021 ⟨fa, hi, N_1007, N_1019, 0, dp, many, grt, lst, nou, rm, rb, pr, wo, rfl, (by omega), (by omega), (by omega), (by omega), hwo⟩
        have hf_1022 : ∀ c, (c ≠ 0 ∧ c ≠ 2) → en_1022 c = en c := fun c hc => Eq.trans (show en_1022 c = en_1021 c from by rw [hen_1022, va_up_ne _ _ (by omega)]) (hf_1021 c hc)
        refine lv_aload_n hx hb dX12_begin_50 rfl (lv_at hl 0 rfl) ?_
        refine lv_iconst (v := 0) hx hb dX12_begin_51 (by decide) ?_
        refine hp_put hx hb hts ix12 tyX12 tyX12_ok nmX12 hown hK hh (q := 0) rfl (hI.1 _ (by decide)) es1006_1022 rfl 30 (by decide) (hts _ tw_909) (fun _ h9 => h9) rfl (ty := .int) (by decide +kernel) rfl rfl (Nat.le_of_ble_eq_true rfl) dX12_begin_52 (fun H locs en_1023 hen_1023 hh => ?_)
        have es1006_1023 : en_1023 0 = .inr (11, [.int fa, .int hi, .int (nI N_1007), .int (nI N_1019), .int 0, .ref (ad 1), .ref (ad 2), .ref (ad 3), .ref (ad 4), .ref (ad 5), .ref (ad 6), .ref (ad 7), .ref (ad 8), .ref (ad 9), .int dp, .long many, .long grt, .long lst, .long nou, .ref (ad 10), .ref (ad 11), .ref (ad 12), .int rm, .long rb, .ref (ad 13), .int pr, .ref (ad 14), .ref (ad 15), .ref (ad 16), .ref (ad 17), .int 0, .ref (ad 18), .ref (ad 19)]) := by rw [hen_1023]; exact va_up_self _ _ _
        have hI_1023 : RX cy cs ad en_1023 := by rw [hen_1023]; exact upr_M hI_1022 ⟨fa, hi, N_1007, N_1019, 0, dp, many, grt, lst, nou, rm, rb, pr, 0, rfl, (by omega), (by omega), (by omega), (by omega), (by omega)⟩
        have hf_1023 : ∀ c, (c ≠ 0 ∧ c ≠ 2) → en_1023 c = en c := fun c hc => Eq.trans (show en_1023 c = en_1022 c from by rw [hen_1023, va_up_ne _ _ (by omega)]) (hf_1022 c hc)
        refine lv_aload_n hx hb dX12_begin_55 rfl (lv_at hl 0 rfl) ?_
        refine lv_bipush (v := (-9)) hx hb dX12_begin_56 (by decide) ?_
        refine hp_put hx hb hts ix12 tyX12 tyX12_ok nmX12 hown hK hh (q := 0) rfl (hI.1 _ (by decide)) es1006_1023 rfl 25 (by decide) (hts _ tw_904) (fun _ h9 => h9) rfl (ty := .int) (by decide +kernel) rfl rfl (Nat.le_of_ble_eq_true rfl) dX12_begin_58 (fun H locs en_1024 hen_1024 hh => ?_)
        have es1006_1024 : en_1024 0 = .inr (11, [.int fa, .int hi, .int (nI N_1007), .int (nI N_1019), .int 0, .ref (ad 1), .ref (ad 2), .ref (ad 3), .ref (ad 4), .ref (ad 5), .ref (ad 6), .ref (ad 7), .ref (ad 8), .ref (ad 9), .int dp, .long many, .long grt, .long lst, .long nou, .ref (ad 10), .ref (ad 11), .ref (ad 12), .int rm, .long rb, .ref (ad 13), .int (-9), .ref (ad 14), .ref (ad 15), .ref (ad 16), .ref (ad 17), .int 0, .ref (ad 18), .ref (ad 19)]) := by rw [hen_1024]; exact va_up_self _ _ _
        have hI_1024 : RX cy cs ad en_1024 := by rw [hen_1024]; exact upr_M hI_1023 ⟨fa, hi, N_1007, N_1019, 0, dp, many, grt, lst, nou, rm, rb, (-9), 0, rfl, (by omega), (by omega), (by omega), (by omega), (by omega)⟩
        have hf_1024 : ∀ c, (c ≠ 0 ∧ c ≠ 2) → en_1024 c = en c := fun c hc => Eq.trans (show en_1024 c = en_1023 c from by rw [hen_1024, va_up_ne _ _ (by omega)]) (hf_1023 c hc)
        refine lv_iconst (v := 0) hx hb dX12_begin_61 (by decide) ?_
        refine lv_istore_n (lv' := [(3, .int 0), (0, .ref (ad 0)), (1, .int (nI N_1007)), (2, .int (nI N_1019))]) hx hb dX12_begin_62 rfl hl (by decide) rfl (fun ls hl => ?_)
        have loop_1025 : ∀ (fu j1025 : Nat)  (en_1025 : Nat → va_E) (ls : Array Slot) (H : Heap) (locs : List Loc), 0 ≤ j1025 → j1025 ≤ 36 → 36 < j1025 + fu → RX cy cs ad en_1025 → (∀ c, (c ≠ 0 ∧ c ≠ 2) → en_1025 c = en c) → (∀ i, i < j1025 → rdF (en_1025 2) i = 0) → (rdI (en_1025 0) 1 = rdI (en 0) 1 ∧ rdI (en_1025 0) 2 = (nI N_1007) ∧ rdI (en_1025 0) 3 = (nI N_1019) ∧ rdI (en_1025 0) 4 = nI 0 ∧ rdI (en_1025 0) 25 = -9 ∧ rdI (en_1025 0) 30 = nI 0) → lv_has ls 4 [(3, .int (nI j1025)), (0, .ref (ad 0)), (1, .int (nI N_1007)), (2, .int (nI N_1019))] → Hp D (Af cs ad sz) (Af cs ad sz) s.heap H locs cs ad en_1025 → W p l e (headSpec (Cond.code yX12_begin cX12_begin 4 (some .int) :: TB) (rmN 1)).room s m ([.ref (ad 0), .int (nI N_1007), .int (nI N_1019)] : List Value).toArray below meth c H locs 0 0 (MQ below (va_Qi (S := Nat → va_E) (fun r en1 => RX cy cs ad en1 ∧ (∀ c, (c ≠ 0 ∧ c ≠ 2) → en1 c = en c) ∧ r = spBegin (nI N_1007) (nI N_1019) ∧ ((r = -2 ∧ en1 = en) ∨ (r = 1 ∧ (rdI (en1 0) 1 = rdI (en 0) 1 ∧ rdI (en1 0) 2 = (nI N_1007) ∧ rdI (en1 0) 3 = (nI N_1019) ∧ rdI (en1 0) 4 = nI 0 ∧ rdI (en1 0) 25 = -9 ∧ rdI (en1 0) 30 = nI 0) ∧ ∀ i, i < 36 → rdF (en1 2) i = 0))) (PostM D cs ad) (Af cs ad sz)) ([.ref (ad 0), .int (nI N_1007), .int (nI N_1019)] : List Value).toArray s 0 0 (Af cs ad sz)) (F0 m 63 ls []) := by
          intro fu
          induction fu with
          | zero => intro j1025  en_1025 ls H locs h0 h1 h2; exact absurd h2 (by omega)
          | succ fu ih_1025 =>
            intro j1025  en_1025 ls H locs hj0_1025 hj_1025 hfu_1025 hI_1025 hf_1025 i0_1025 i1_1025 hl hh
            refine lv_iload_n hx hb dX12_begin_63 rfl (lv_at hl 0 rfl) ?_
            refine lv_bipush (v := 36) hx hb dX12_begin_64 (by decide) ?_
            refine lv_icmp_ge (tgt := 82) hx hb dX12_begin_66 (by decide) (fun c_1026 => ?_) (fun c_1026 => ?_)
            · have n_1026 : 36 ≤ j1025 := n_le (a := 36) (b := j1025) c_1026 (by decide) (by omega)
              refine lv_iconst (v := 1) hx hb dX12_begin_82 (by decide) ?_
              exact hp_iretM hx hb hr rfl hlocks hh (⟨hI_1025, hf_1025, (by unfold spBegin; rw [if_pos ⟨hp_1007, Or.inr hp_1019⟩]), Or.inr ⟨rfl, i1_1025, fun i hi => i0_1025 i (by omega)⟩⟩) dX12_begin_83
            · have n_1026 : j1025 < 36 := n_nle (a := 36) (b := j1025) c_1026 (by decide) (by omega)
              refine lv_aload_n hx hb dX12_begin_69 rfl (lv_at hl 1 rfl) ?_
              obtain ⟨fa_1027, hi_1027, wd_1027, mo_1027, tb_1027, dp_1027, many_1027, grt_1027, lst_1027, nou_1027, rm_1027, rb_1027, pr_1027, wo_1027, es1027, p0_1027, p1_1027, p2_1027, p3_1027, p4_1027⟩ := getr_M hI_1025
              refine hp_get hx hb hts ix12 hown hK hh (q := 0) rfl (hI.1 _ (by decide)) es1027 rfl 6 (by decide) (hts _ tw_885) (fun _ h9 => h9) rfl dX12_begin_70 ?_
              refine lv_iload_n hx hb dX12_begin_73 rfl (lv_at hl 0 rfl) ?_
              refine lv_iconst (v := 0) hx hb dX12_begin_74 (by decide) ?_
              obtain ⟨f_1028, es1028, p0_1028⟩ := getr_mn hI_1025
              refine hp_zast hx hb hK hh (q := 2) rfl (hI.1 _ (by decide)) es1028 (vp_in_nI (n := j1025) (by omega) (by decide)) dX12_begin_75 (fun H locs en_1029 hen_1029 hh => ?_)
              rw [nI_clamp (n := j1025) (by omega)] at hen_1029
              have es1027_1029 : en_1029 0 = .inr (11, [.int fa_1027, .int hi_1027, .int (nI wd_1027), .int (nI mo_1027), .int (nI tb_1027), .ref (ad 1), .ref (ad 2), .ref (ad 3), .ref (ad 4), .ref (ad 5), .ref (ad 6), .ref (ad 7), .ref (ad 8), .ref (ad 9), .int dp_1027, .long many_1027, .long grt_1027, .long lst_1027, .long nou_1027, .ref (ad 10), .ref (ad 11), .ref (ad 12), .int rm_1027, .long rb_1027, .ref (ad 13), .int pr_1027, .ref (ad 14), .ref (ad 15), .ref (ad 16), .ref (ad 17), .int (nI wo_1027), .ref (ad 18), .ref (ad 19)]) := by rw [hen_1029, va_up_ne _ _ (by decide)]; exact es1027
              have es1028_1029 : en_1029 2 = .inl (cy 2, 36, .inl (upd f_1028 j1025 (vp_nar .boolean 0))) := by rw [hen_1029]; exact va_up_self _ _ _
              have hI_1029 : RX cy cs ad en_1029 := by rw [hen_1029]; exact upr_mn hI_1025 ⟨(upd f_1028 j1025 (vp_nar .boolean 0)), rfl, (bits_upd p0_1028 (Or.inl rfl))⟩
              have hf_1029 : ∀ c, (c ≠ 0 ∧ c ≠ 2) → en_1029 c = en c := fun c hc => Eq.trans (show en_1029 c = en_1025 c from by rw [hen_1029, va_up_ne _ _ (by omega)]) (hf_1025 c hc)
              refine lv_iinc (v := (nI (j1025 + 1))) (lv' := [(3, .int (nI (j1025 + 1))), (0, .ref (ad 0)), (1, .int (nI N_1007)), (2, .int (nI N_1019))]) hx hb dX12_begin_76 hl (k := 0) rfl (nI_1 _) (by decide) rfl (fun ls hl => ?_)
              refine lv_goto (tgt := 63) hx hb dX12_begin_79 (by decide) ?_
              exact ih_1025 ((j1025 + 1))  en_1029 ls H locs (by omega) (by omega) (by omega) hI_1029 hf_1029 (fun i hi => by rw [es1028_1029]; exact z_upd hi vp_bit0 (fun h9 => (show f_1028 i = rdF (en_1025 2) i from by rw [es1028]; rfl).trans (i0_1025 i h9))) (by rw [show en_1029 0 = en_1025 0 from by rw [hen_1029, va_up_ne _ _ (by decide)]]; exact i1_1025) (lv_sub hl [0, 1, 2, 3] rfl) hh
        exact loop_1025 (36 + 1) 0  en_1024 ls _ _ (Nat.le_refl _) (by omega) (by omega) hI_1024 hf_1024 (fun i h => absurd h (Nat.not_lt_zero i)) (⟨by rw [es1006_1024, es1006]; rfl, by rw [es1006_1024]; rfl, by rw [es1006_1024]; rfl, by rw [es1006_1024]; rfl, by rw [es1006_1024]; rfl, by rw [es1006_1024]; rfl⟩) (lv_sub hl [0, 1, 2, 3] rfl) hh
      · obtain rfl : r_1019 = 0 := Eq.trans hw_1019 (if_neg (fun q => hp_1019 ((wj_32 (by decide) (by decide)).mp q)))
        refine lv_if_ne (tgt := 35) hx hb dX12_begin_29 (by decide) (fun c_0 => absurd c_0 (by decide)) (fun _ => ?_)
        refine lv_bipush (v := (-2)) hx hb dX12_begin_32 (by decide) ?_
        exact hp_iretM hx hb hr rfl hlocks hh (⟨hI, hf0, (by unfold spBegin; rw [if_neg (fun q => q.2.elim c_1008 hp_1019)]), Or.inl ⟨rfl, rfl⟩⟩) dX12_begin_34
  · obtain rfl : r_1007 = 0 := Eq.trans hw_1007 (if_neg (fun q => hp_1007 ((wj_32 (by decide) (by decide)).mp q)))
    refine lv_if_eq (tgt := 32) hx hb dX12_begin_11 (by decide) (fun _ => ?_) (fun c_0 => absurd c_0 (by decide))
    refine lv_bipush (v := (-2)) hx hb dX12_begin_32 (by decide) ?_
    exact hp_iretM hx hb hr rfl hlocks hh (⟨hI, hf0, (by unfold spBegin; rw [if_neg (fun q => hp_1007 q.1)]), Or.inl ⟨rfl, rfl⟩⟩) dX12_begin_34
theorem kw_X12_begin {R : Room} {s : State} {args : Array Value} {own : String} {idx : Nat} (hts : ∀ w ∈ TB, w.before args s = true) (hl : Cond.methodLink own idx yX12_begin ∈ TB) (hR : 1 + 1 ≤ R.frames ∧ 8 + (4 + 11) + 40 * 1 ≤ R.locals) : CallW R s args own RX12 idx yX12_begin cX12_begin 4 (some .int) (Cond.code yX12_begin cX12_begin 4 (some .int) :: TB) (rmN 1) 0 0 2 := cwV 2 hts (TB_V hl tw_980 tw_981 tw_9 tw_982) rfl rfl rfl (by decide +kernel) hR
set_option maxHeartbeats 4000000 in
set_option maxRecDepth 100000 in
/-- against -/
theorem c_X12_against (l : Launch) (D : va_G) (cy : Nat → ClassId) (sz : Nat) (cs : List Nat) (ad : Nat → Nat) (en : Nat → va_E) (hI : RX cy cs ad en) (k9 la9 : Int32)   : Met l yX12_against (Cond.code yX12_against cX12_against 3 (some .int) :: TB) (rmN 1) (va_Pc [.ref (ad 0), .int k9, .int la9] (Pre D cy cs ad en sz)) (va_Qi (S := Nat → va_E) (fun r en1 => RX cy cs ad en1 ∧ (∀ c, (c ≠ 0) → en1 c = en c) ∧ r = agF (rdF (en 3) k9.toNatClampNeg) k9 la9 ∧ (r = 0 → en1 = en) ∧ KP en en1) (PostM D cs ad) (Af cs ad sz)) 0 0 (Af cs ad sz) := by
  refine Met.ofW (cc := cX12_against) (maxL := 3) (ret := (some .int)) (by decide) rfl ?_
  intro p e s m args below meth c s₁ B hml hv
  obtain ⟨rfl, hsz, hP, hK, hD0⟩ := hv
  have hx := B.exec
  have hb := B.bytes
  have hr := B.returns
  have hts : ∀ w ∈ TB, w.before _ s = true := fun w h => atoms_spec (ws := _ :: TB) B.pre w (List.mem_cons_of_mem _ h)
  have hown : s.vm.findClass RX12 = some m.cls := findClass_of_methodNamed B.named
  have hlocks := B.notSynchronized
  have hh : Hp D (Af cs ad sz) (Af cs ad sz) s.heap s.heap [] cs ad en := ⟨hP, Af_self hD0, va_S.rf⟩
  have hA : ∀ q : Nat, s.heap.size ≤ q → Af cs ad sz q := fun q h => Or.inr (by rw [hsz] at h; exact h)
  have hl := lv_entry ([.ref (ad 0), .int k9, .int la9]) (n := 3) (Nat.le_of_ble_eq_true rfl)
  rw [lg_entry_eq]
  generalize (lg_sl ([.ref (ad 0), .int k9, .int la9]) ++ List.replicate (3 - (lg_sl ([.ref (ad 0), .int k9, .int la9])).length) Slot.unset).toArray = ls at hl ⊢
  have hl : lv_has ls 3 [(0, .ref (ad 0)), (1, .int k9), (2, .int la9)] := hl
  have hf0 : ∀ c, (c ≠ 0) → en c = en c := fun _ _ => rfl
  obtain ⟨fa, hi, wd, mo, tb, dp, many, grt, lst, nou, rm, rb, pr, wo, es1030, hwd2, hwd3, hmo, htb, hwo⟩ := getr_M hI
  obtain ⟨f_1031, es1031⟩ := getr_la hI
  refine lv_iload_n hx hb dX12_against_0 rfl (lv_at hl 1 rfl) ?_
  refine lv_i2l hx hb dX12_against_1 rfl ?_
  refine lv_lconst (v := 0) hx hb dX12_against_2 (by decide) ?_
  refine lv_ldc2 hx hb hown (hts _ tw_984) dX12_against_3 ?_
  refine hp_callRi (va_runS (As := [.long k9.toInt64, .long 0, .long 3]) (rest := []) ⟨hx, hb, hml, hown, hts⟩ (c_X12_within l D cy _ cs ad en k9.toInt64 0 3) (kw_X12_within hts tw_985 ⟨by decide, by decide⟩) (preS_of hh hK) rfl rfl hl.1 rfl (lv_room (Nat.le_of_ble_eq_true rfl)) dX12_against_6 ⟨Nat.le_of_ble_eq_true rfl, Nat.le_of_ble_eq_true rfl⟩) hh hA (fun r_1032 H locs hw_1032 hh => ?_)
  rcases Decidable.em (wi k9 0 3) with hp_1032 | hp_1032
  · obtain rfl : r_1032 = 1 := Eq.trans hw_1032 (if_pos ((wj_32 (by decide) (by decide)).mpr hp_1032))
    obtain ⟨N_1032, rfl, hA_1032, hB_1032⟩ := wi_natB hp_1032 0 3 (by decide) (by decide)
    refine lv_if_ne (tgt := 14) hx hb dX12_against_9 (by decide) (fun _ => ?_) (fun c_0 => absurd c_0 (by decide))
    refine lv_iload_n hx hb dX12_against_14 rfl (lv_at hl 2 rfl) ?_
    refine lv_i2l hx hb dX12_against_15 rfl ?_
    refine lv_lconst (v := 0) hx hb dX12_against_16 (by decide) ?_
    refine lv_ldc2 hx hb hown (hts _ tw_983) dX12_against_17 ?_
    refine hp_callRi (va_runS (As := [.long la9.toInt64, .long 0, .long 2]) (rest := []) ⟨hx, hb, hml, hown, hts⟩ (c_X12_within l D cy _ cs ad en la9.toInt64 0 2) (kw_X12_within hts tw_985 ⟨by decide, by decide⟩) (preS_of hh hK) rfl rfl hl.1 rfl (lv_room (Nat.le_of_ble_eq_true rfl)) dX12_against_20 ⟨Nat.le_of_ble_eq_true rfl, Nat.le_of_ble_eq_true rfl⟩) hh hA (fun r_1033 H locs hw_1033 hh => ?_)
    rcases Decidable.em (wi la9 0 2) with hp_1033 | hp_1033
    · obtain rfl : r_1033 = 1 := Eq.trans hw_1033 (if_pos ((wj_32 (by decide) (by decide)).mpr hp_1033))
      obtain ⟨N_1033, rfl, hA_1033, hB_1033⟩ := wi_natB hp_1033 0 2 (by decide) (by decide)
      refine lv_if_ne (tgt := 29) hx hb dX12_against_23 (by decide) (fun _ => ?_) (fun c_0 => absurd c_0 (by decide))
      refine lv_aload_n hx hb dX12_against_29 rfl (lv_at hl 0 rfl) ?_
      refine hp_get hx hb hts ix12 hown hK hh (q := 0) rfl (hI.1 _ (by decide)) es1030 rfl 7 (by decide) (hts _ tw_886) (fun _ h9 => h9) rfl dX12_against_30 ?_
      refine lv_iload_n hx hb dX12_against_33 rfl (lv_at hl 1 rfl) ?_
      refine hp_iald hx hb hK hh (q := 3) rfl (hI.1 _ (by decide)) es1031 (vp_in_nI (n := N_1032) (by omega) (by decide)) dX12_against_34 ?_
      rw [nI_clamp (n := N_1032) (by omega)]
      refine lv_bipush (v := (-9)) hx hb dX12_against_35 (by decide) ?_
      refine lv_icmp_eq (tgt := 56) hx hb dX12_against_37 (by decide) (fun c_1034 => ?_) (fun c_1034 => ?_)
      · refine lv_aload_n hx hb dX12_against_56 rfl (lv_at hl 0 rfl) ?_
        refine hp_get hx hb hts ix12 hown hK hh (q := 0) rfl (hI.1 _ (by decide)) es1030 rfl 7 (by decide) (hts _ tw_886) (fun _ h9 => h9) rfl dX12_against_57 ?_
        refine lv_iload_n hx hb dX12_against_60 rfl (lv_at hl 1 rfl) ?_
        refine hp_iald hx hb hK hh (q := 3) rfl (hI.1 _ (by decide)) es1031 (vp_in_nI (n := N_1032) (by omega) (by decide)) dX12_against_61 ?_
        rw [nI_clamp (n := N_1032) (by omega)]
        refine lv_bipush (v := (-9)) hx hb dX12_against_62 (by decide) ?_
        refine lv_icmp_ne (tgt := 75) hx hb dX12_against_64 (by decide) (fun c_0 => absurd (c_1034) c_0) (fun _ => ?_)
        refine lv_aload_n hx hb dX12_against_67 rfl (lv_at hl 0 rfl) ?_
        refine lv_iconst (v := 1) hx hb dX12_against_68 (by decide) ?_
        refine hp_callMi (va_runV (As := [.int 1]) (rest := []) ⟨hx, hb, hml, hown, hts⟩ (c_X12_fails l D cy _ cs ad en (hI.1 _ (by decide)) fa hi wd mo tb dp many grt lst nou rm rb pr wo 1 es1030) (kw_X12_fails hts tw_997 ⟨by decide, by decide⟩) (preV_of hh hK (hI.1 _ (by decide)) es1030 rfl) rfl rfl hl.1 rfl (lv_room (Nat.le_of_ble_eq_true rfl)) dX12_against_69 ⟨Nat.le_of_ble_eq_true rfl, Nat.le_of_ble_eq_true rfl⟩) hh hA (fun r_1035 H locs en_1035 hw_1035 hh => ?_)
        obtain ⟨hr_1035, hen_1035⟩ := hw_1035
        have es1031_1035 : en_1035 3 = .inl (cy 0, 4, .inl f_1031) := by rw [hen_1035, va_up_ne _ _ (by decide)]; exact es1031
        have es1030_1035 : en_1035 0 = .inr (11, [.int 1, .int hi, .int (nI wd), .int (nI mo), .int (nI tb), .ref (ad 1), .ref (ad 2), .ref (ad 3), .ref (ad 4), .ref (ad 5), .ref (ad 6), .ref (ad 7), .ref (ad 8), .ref (ad 9), .int dp, .long many, .long grt, .long lst, .long nou, .ref (ad 10), .ref (ad 11), .ref (ad 12), .int rm, .long rb, .ref (ad 13), .int pr, .ref (ad 14), .ref (ad 15), .ref (ad 16), .ref (ad 17), .int (nI wo), .ref (ad 18), .ref (ad 19)]) := by rw [hen_1035]; exact va_up_self _ _ _
        have hI_1035 : RX cy cs ad en_1035 := by rw [hen_1035]; exact upr_M hI ⟨1, hi, wd, mo, tb, dp, many, grt, lst, nou, rm, rb, pr, wo, rfl, hwd2, hwd3, hmo, htb, hwo⟩
        have hf_1035 : ∀ c, (c ≠ 0) → en_1035 c = en c := fun c hc => Eq.trans (show en_1035 c = en c from by rw [hen_1035, va_up_ne _ _ (by omega)]) (hf0 c hc)
        have hkp_1035 : KP en en_1035 := KP_fv (KP_rf en) es1030 es1030_1035 hi (nI wd) (nI mo) (nI tb) pr (nI wo) rfl rfl rfl rfl rfl rfl rfl rfl rfl rfl rfl rfl
        obtain rfl : r_1035 = (-11) := hr_1035.trans (by decide)
        refine lv_goto (tgt := 76) hx hb dX12_against_72 (by decide) ?_
        exact hp_iretM hx hb hr rfl hlocks hh (⟨hI_1035, hf_1035, (by (try rw [nI_clamp (n := N_1032) (by omega)]); rw [show rdF (en 3) = f_1031 from by rw [es1031]; rfl]; unfold agF; rw [if_pos hp_1032, if_pos hp_1033, if_neg (fun q => q.1 c_1034), if_pos c_1034]), (fun q => absurd q (by decide)), hkp_1035⟩) dX12_against_76
      · refine lv_aload_n hx hb dX12_against_40 rfl (lv_at hl 0 rfl) ?_
        refine hp_get hx hb hts ix12 hown hK hh (q := 0) rfl (hI.1 _ (by decide)) es1030 rfl 7 (by decide) (hts _ tw_886) (fun _ h9 => h9) rfl dX12_against_41 ?_
        refine lv_iload_n hx hb dX12_against_44 rfl (lv_at hl 1 rfl) ?_
        refine hp_iald hx hb hK hh (q := 3) rfl (hI.1 _ (by decide)) es1031 (vp_in_nI (n := N_1032) (by omega) (by decide)) dX12_against_45 ?_
        rw [nI_clamp (n := N_1032) (by omega)]
        refine lv_iload_n hx hb dX12_against_46 rfl (lv_at hl 2 rfl) ?_
        refine lv_icmp_eq (tgt := 56) hx hb dX12_against_47 (by decide) (fun c_1036 => ?_) (fun c_1036 => ?_)
        · refine lv_aload_n hx hb dX12_against_56 rfl (lv_at hl 0 rfl) ?_
          refine hp_get hx hb hts ix12 hown hK hh (q := 0) rfl (hI.1 _ (by decide)) es1030 rfl 7 (by decide) (hts _ tw_886) (fun _ h9 => h9) rfl dX12_against_57 ?_
          refine lv_iload_n hx hb dX12_against_60 rfl (lv_at hl 1 rfl) ?_
          refine hp_iald hx hb hK hh (q := 3) rfl (hI.1 _ (by decide)) es1031 (vp_in_nI (n := N_1032) (by omega) (by decide)) dX12_against_61 ?_
          rw [nI_clamp (n := N_1032) (by omega)]
          refine lv_bipush (v := (-9)) hx hb dX12_against_62 (by decide) ?_
          refine lv_icmp_ne (tgt := 75) hx hb dX12_against_64 (by decide) (fun _ => ?_) (fun c_0 => absurd c_0 (c_1034))
          refine lv_iconst (v := 0) hx hb dX12_against_75 (by decide) ?_
          exact hp_iretM hx hb hr rfl hlocks hh (⟨hI, hf0, (by (try rw [nI_clamp (n := N_1032) (by omega)]); rw [show rdF (en 3) = f_1031 from by rw [es1031]; rfl]; unfold agF; rw [if_pos hp_1032, if_pos hp_1033, if_neg (fun q => q.2 c_1036), if_neg c_1034]), (fun _ => rfl), (KP_rf en)⟩) dX12_against_76
        · refine lv_aload_n hx hb dX12_against_50 rfl (lv_at hl 0 rfl) ?_
          refine lv_iconst (v := 2) hx hb dX12_against_51 (by decide) ?_
          refine hp_callMi (va_runV (As := [.int 2]) (rest := []) ⟨hx, hb, hml, hown, hts⟩ (c_X12_fails l D cy _ cs ad en (hI.1 _ (by decide)) fa hi wd mo tb dp many grt lst nou rm rb pr wo 2 es1030) (kw_X12_fails hts tw_997 ⟨by decide, by decide⟩) (preV_of hh hK (hI.1 _ (by decide)) es1030 rfl) rfl rfl hl.1 rfl (lv_room (Nat.le_of_ble_eq_true rfl)) dX12_against_52 ⟨Nat.le_of_ble_eq_true rfl, Nat.le_of_ble_eq_true rfl⟩) hh hA (fun r_1037 H locs en_1037 hw_1037 hh => ?_)
          obtain ⟨hr_1037, hen_1037⟩ := hw_1037
          have es1031_1037 : en_1037 3 = .inl (cy 0, 4, .inl f_1031) := by rw [hen_1037, va_up_ne _ _ (by decide)]; exact es1031
          have es1030_1037 : en_1037 0 = .inr (11, [.int 2, .int hi, .int (nI wd), .int (nI mo), .int (nI tb), .ref (ad 1), .ref (ad 2), .ref (ad 3), .ref (ad 4), .ref (ad 5), .ref (ad 6), .ref (ad 7), .ref (ad 8), .ref (ad 9), .int dp, .long many, .long grt, .long lst, .long nou, .ref (ad 10), .ref (ad 11), .ref (ad 12), .int rm, .long rb, .ref (ad 13), .int pr, .ref (ad 14), .ref (ad 15), .ref (ad 16), .ref (ad 17), .int (nI wo), .ref (ad 18), .ref (ad 19)]) := by rw [hen_1037]; exact va_up_self _ _ _
          have hI_1037 : RX cy cs ad en_1037 := by rw [hen_1037]; exact upr_M hI ⟨2, hi, wd, mo, tb, dp, many, grt, lst, nou, rm, rb, pr, wo, rfl, hwd2, hwd3, hmo, htb, hwo⟩
          have hf_1037 : ∀ c, (c ≠ 0) → en_1037 c = en c := fun c hc => Eq.trans (show en_1037 c = en c from by rw [hen_1037, va_up_ne _ _ (by omega)]) (hf0 c hc)
          have hkp_1037 : KP en en_1037 := KP_fv (KP_rf en) es1030 es1030_1037 hi (nI wd) (nI mo) (nI tb) pr (nI wo) rfl rfl rfl rfl rfl rfl rfl rfl rfl rfl rfl rfl
          obtain rfl : r_1037 = (-12) := hr_1037.trans (by decide)
          exact hp_iretM hx hb hr rfl hlocks hh (⟨hI_1037, hf_1037, (by (try rw [nI_clamp (n := N_1032) (by omega)]); rw [show rdF (en 3) = f_1031 from by rw [es1031]; rfl]; unfold agF; rw [if_pos hp_1032, if_pos hp_1033, if_pos ⟨c_1034, c_1036⟩]), (fun q => absurd q (by decide)), hkp_1037⟩) dX12_against_55
    · obtain rfl : r_1033 = 0 := Eq.trans hw_1033 (if_neg (fun q => hp_1033 ((wj_32 (by decide) (by decide)).mp q)))
      refine lv_if_ne (tgt := 29) hx hb dX12_against_23 (by decide) (fun c_0 => absurd c_0 (by decide)) (fun _ => ?_)
      refine lv_bipush (v := (-2)) hx hb dX12_against_26 (by decide) ?_
      exact hp_iretM hx hb hr rfl hlocks hh (⟨hI, hf0, (by unfold agF; rw [if_pos hp_1032, if_neg hp_1033]), (fun q => absurd q (by decide)), (KP_rf en)⟩) dX12_against_28
  · obtain rfl : r_1032 = 0 := Eq.trans hw_1032 (if_neg (fun q => hp_1032 ((wj_32 (by decide) (by decide)).mp q)))
    refine lv_if_ne (tgt := 14) hx hb dX12_against_9 (by decide) (fun c_0 => absurd c_0 (by decide)) (fun _ => ?_)
    refine lv_iconst (v := (-1)) hx hb dX12_against_12 (by decide) ?_
    exact hp_iretM hx hb hr rfl hlocks hh (⟨hI, hf0, (by unfold agF; rw [if_neg hp_1032]), (fun q => absurd q (by decide)), (KP_rf en)⟩) dX12_against_13
theorem kw_X12_against {R : Room} {s : State} {args : Array Value} {own : String} {idx : Nat} (hts : ∀ w ∈ TB, w.before args s = true) (hl : Cond.methodLink own idx yX12_against ∈ TB) (hR : 1 + 1 ≤ R.frames ∧ 8 + (3 + 11) + 40 * 1 ≤ R.locals) : CallW R s args own RX12 idx yX12_against cX12_against 3 (some .int) (Cond.code yX12_against cX12_against 3 (some .int) :: TB) (rmN 1) 0 0 2 := cwV 2 hts (TB_V hl tw_995 ts_31 tw_9 tw_996) rfl rfl rfl (by decide +kernel) hR
set_option maxHeartbeats 4000000 in
set_option maxRecDepth 100000 in
/-- table -/
theorem c_X12_table (l : Launch) (D : va_G) (cy : Nat → ClassId) (sz : Nat) (cs : List Nat) (ad : Nat → Nat) (en : Nat → va_E) (hI : RX cy cs ad en) (k9 la9 i9 : Int32)   : Met l yX12_table (Cond.code yX12_table cX12_table 6 (some .int) :: TB) (rmN 2) (va_Pc [.ref (ad 0), .int k9, .int la9, .int i9] (Pre D cy cs ad en sz)) (va_Qi (S := Nat → va_E) (fun r en1 => RX cy cs ad en1 ∧ (∀ c, (c ≠ 0 ∧ c ≠ 1) → en1 c = en c) ∧ RTB k9 la9 i9 r en en1) (PostM D cs ad) (Af cs ad sz)) 0 0 (Af cs ad sz) := by
  refine Met.ofW (cc := cX12_table) (maxL := 6) (ret := (some .int)) (by decide) rfl ?_
  intro p e s m args below meth c s₁ B hml hv
  obtain ⟨rfl, hsz, hP, hK, hD0⟩ := hv
  have hx := B.exec
  have hb := B.bytes
  have hr := B.returns
  have hts : ∀ w ∈ TB, w.before _ s = true := fun w h => atoms_spec (ws := _ :: TB) B.pre w (List.mem_cons_of_mem _ h)
  have hown : s.vm.findClass RX12 = some m.cls := findClass_of_methodNamed B.named
  have hlocks := B.notSynchronized
  have hh : Hp D (Af cs ad sz) (Af cs ad sz) s.heap s.heap [] cs ad en := ⟨hP, Af_self hD0, va_S.rf⟩
  have hA : ∀ q : Nat, s.heap.size ≤ q → Af cs ad sz q := fun q h => Or.inr (by rw [hsz] at h; exact h)
  have hl := lv_entry ([.ref (ad 0), .int k9, .int la9, .int i9]) (n := 6) (Nat.le_of_ble_eq_true rfl)
  rw [lg_entry_eq]
  generalize (lg_sl ([.ref (ad 0), .int k9, .int la9, .int i9]) ++ List.replicate (6 - (lg_sl ([.ref (ad 0), .int k9, .int la9, .int i9])).length) Slot.unset).toArray = ls at hl ⊢
  have hl : lv_has ls 6 [(0, .ref (ad 0)), (1, .int k9), (2, .int la9), (3, .int i9)] := hl
  have hf0 : ∀ c, (c ≠ 0 ∧ c ≠ 1) → en c = en c := fun _ _ => rfl
  obtain ⟨fa, hi, wd, mo, tb, dp, many, grt, lst, nou, rm, rb, pr, wo, es1038, hwd2, hwd3, hmo, htb, hwo⟩ := getr_M hI
  obtain ⟨f_1039, es1039⟩ := getr_la hI
  obtain ⟨f_1040, es1040, p0_1040⟩ := getr_sl hI
  obtain ⟨f_1041, es1041⟩ := getr_ce hI
  have hww : wd * wd ≤ 9 := mww (by omega)
  refine lv_aload_n hx hb dX12_table_0 rfl (lv_at hl 0 rfl) ?_
  refine lv_iconst (v := 0) hx hb dX12_table_1 (by decide) ?_
  refine hp_put hx hb hts ix12 tyX12 tyX12_ok nmX12 hown hK hh (q := 0) rfl (hI.1 _ (by decide)) es1038 rfl 0 (by decide) (hts _ tw_879) (fun _ h9 => h9) rfl (ty := .int) (by decide +kernel) rfl rfl (Nat.le_of_ble_eq_true rfl) dX12_table_2 (fun H locs en_1042 hen_1042 hh => ?_)
  have es1039_1042 : en_1042 3 = .inl (cy 0, 4, .inl f_1039) := by rw [hen_1042, va_up_ne _ _ (by decide)]; exact es1039
  have es1040_1042 : en_1042 4 = .inl (cy 0, 4, .inl f_1040) := by rw [hen_1042, va_up_ne _ _ (by decide)]; exact es1040
  have es1041_1042 : en_1042 5 = .inl (cy 0, 160, .inl f_1041) := by rw [hen_1042, va_up_ne _ _ (by decide)]; exact es1041
  have es1038_1042 : en_1042 0 = .inr (11, [.int 0, .int hi, .int (nI wd), .int (nI mo), .int (nI tb), .ref (ad 1), .ref (ad 2), .ref (ad 3), .ref (ad 4), .ref (ad 5), .ref (ad 6), .ref (ad 7), .ref (ad 8), .ref (ad 9), .int dp, .long many, .long grt, .long lst, .long nou, .ref (ad 10), .ref (ad 11), .ref (ad 12), .int rm, .long rb, .ref (ad 13), .int pr, .ref (ad 14), .ref (ad 15), .ref (ad 16), .ref (ad 17), .int (nI wo), .ref (ad 18), .ref (ad 19)]) := by rw [hen_1042]; exact va_up_self _ _ _
  have hI_1042 : RX cy cs ad en_1042 := by rw [hen_1042]; exact upr_M hI ⟨0, hi, wd, mo, tb, dp, many, grt, lst, nou, rm, rb, pr, wo, rfl, hwd2, hwd3, hmo, htb, hwo⟩
  have hf_1042 : ∀ c, (c ≠ 0 ∧ c ≠ 1) → en_1042 c = en c := fun c hc => Eq.trans (show en_1042 c = en c from by rw [hen_1042, va_up_ne _ _ (by omega)]) (hf0 c hc)
  have hkc1_1042 : en_1042 1 = en 1 := (show en_1042 1 = en 1 from by rw [hen_1042, va_up_ne _ _ (by decide)]).trans rfl
  have hkp_1042 : KP en en_1042 := KP_fv (KP_rf en) es1038 es1038_1042 hi (nI wd) (nI mo) (nI tb) pr (nI wo) rfl rfl rfl rfl rfl rfl rfl rfl rfl rfl rfl rfl
  refine lv_aload_n hx hb dX12_table_5 rfl (lv_at hl 0 rfl) ?_
  refine lv_iload_n hx hb dX12_table_6 rfl (lv_at hl 1 rfl) ?_
  refine lv_iload_n hx hb dX12_table_7 rfl (lv_at hl 2 rfl) ?_
  refine hp_callMi (va_runV (As := [.int k9, .int la9]) (rest := []) ⟨hx, hb, hml, hown, hts⟩ (c_X12_against l D cy _ cs ad en_1042 hI_1042 k9 la9 ) (kw_X12_against hts tw_993 ⟨by decide, by decide⟩) (preV_of hh hK (hI.1 _ (by decide)) es1038_1042 rfl) rfl rfl hl.1 rfl (lv_room (Nat.le_of_ble_eq_true rfl)) dX12_table_8 ⟨Nat.le_of_ble_eq_true rfl, Nat.le_of_ble_eq_true rfl⟩) hh hA (fun r_1043 H locs en_1043 hw_1043 hh => ?_)
  obtain ⟨hI_1043, hu_1043, hr_1043, h0_1043, hkq_1043⟩ := hw_1043
  rcases Decidable.em (r_1043 = 0) with hz_1043 | hz_1043
  · have he_1043 : en_1043 = en_1042 := h0_1043 hz_1043
    rw [he_1043] at hh
    have hag_1043 := agF_0 (hr_1043.symm.trans hz_1043)
    rw [hz_1043]
    refine lv_istore (lv' := [(4, .int 0), (0, .ref (ad 0)), (1, .int k9), (2, .int la9), (3, .int i9)]) hx hb dX12_table_11 hl (by decide) rfl (fun ls hl => ?_)
    refine lv_iload hx hb dX12_table_13 (lv_at hl 0 rfl) ?_
    refine lv_if_eq (tgt := 21) hx hb dX12_table_15 (by decide) (fun _ => ?_) (fun c_0 => absurd c_0 (by decide))
    have hag0 : agF (rdF (en 3) k9.toNatClampNeg) k9 la9 = 0 := by have h9 := hr_1043.symm.trans hz_1043; rw [show en_1042 3 = en 3 from hf_1042 3 (by omega)] at h9; exact h9
    obtain ⟨K9, rfl, -, hK9⟩ := wi_natB hag_1043.1 0 3 (by decide) (by decide)
    refine lv_iload_n hx hb dX12_table_21 rfl (lv_at hl 4 rfl) ?_
    refine lv_if_lt (tgt := 45) hx hb dX12_table_22 (by decide) (fun c_1044 => ?_) (fun c_1044 => ?_)
    · refine lv_aload_n hx hb dX12_table_45 rfl (lv_at hl 1 rfl) ?_
      refine lv_iconst (v := 3) hx hb dX12_table_46 (by decide) ?_
      refine hp_callMi (va_runV (As := [.int 3]) (rest := []) ⟨hx, hb, hml, hown, hts⟩ (c_X12_fails l D cy _ cs ad en_1042 (hI.1 _ (by decide)) 0 hi wd mo tb dp many grt lst nou rm rb pr wo 3 es1038_1042) (kw_X12_fails hts tw_997 ⟨by decide, by decide⟩) (preV_of hh hK (hI.1 _ (by decide)) es1038_1042 rfl) rfl rfl hl.1 rfl (lv_room (Nat.le_of_ble_eq_true rfl)) dX12_table_47 ⟨Nat.le_of_ble_eq_true rfl, Nat.le_of_ble_eq_true rfl⟩) hh hA (fun r_1045 H locs en_1045 hw_1045 hh => ?_)
      obtain ⟨hr_1045, hen_1045⟩ := hw_1045
      have es1039_1045 : en_1045 3 = .inl (cy 0, 4, .inl f_1039) := by rw [hen_1045, va_up_ne _ _ (by decide)]; exact es1039_1042
      have es1040_1045 : en_1045 4 = .inl (cy 0, 4, .inl f_1040) := by rw [hen_1045, va_up_ne _ _ (by decide)]; exact es1040_1042
      have es1041_1045 : en_1045 5 = .inl (cy 0, 160, .inl f_1041) := by rw [hen_1045, va_up_ne _ _ (by decide)]; exact es1041_1042
      have es1038_1045 : en_1045 0 = .inr (11, [.int 3, .int hi, .int (nI wd), .int (nI mo), .int (nI tb), .ref (ad 1), .ref (ad 2), .ref (ad 3), .ref (ad 4), .ref (ad 5), .ref (ad 6), .ref (ad 7), .ref (ad 8), .ref (ad 9), .int dp, .long many, .long grt, .long lst, .long nou, .ref (ad 10), .ref (ad 11), .ref (ad 12), .int rm, .long rb, .ref (ad 13), .int pr, .ref (ad 14), .ref (ad 15), .ref (ad 16), .ref (ad 17), .int (nI wo), .ref (ad 18), .ref (ad 19)]) := by rw [hen_1045]; exact va_up_self _ _ _
      have hI_1045 : RX cy cs ad en_1045 := by rw [hen_1045]; exact upr_M hI_1042 ⟨3, hi, wd, mo, tb, dp, many, grt, lst, nou, rm, rb, pr, wo, rfl, hwd2, hwd3, hmo, htb, hwo⟩
      have hf_1045 : ∀ c, (c ≠ 0 ∧ c ≠ 1) → en_1045 c = en c := fun c hc => Eq.trans (show en_1045 c = en_1042 c from by rw [hen_1045, va_up_ne _ _ (by omega)]) (hf_1042 c hc)
      have hkc1_1045 : en_1045 1 = en 1 := (show en_1045 1 = en_1042 1 from by rw [hen_1045, va_up_ne _ _ (by decide)]).trans hkc1_1042
      have hkp_1045 : KP en en_1045 := KP_fv hkp_1042 es1038_1042 es1038_1045 hi (nI wd) (nI mo) (nI tb) pr (nI wo) rfl rfl rfl rfl rfl rfl rfl rfl rfl rfl rfl rfl
      obtain rfl : r_1045 = (-13) := hr_1045.trans (by decide)
      exact hp_iretM hx hb hr rfl hlocks hh (⟨hI_1045, hf_1045, ⟨wd, tb, hwd2, hwd3, htb, (by rw [es1038]; rfl), (by rw [es1038]; rfl), Or.inr ⟨hag0, K9, rfl, by omega, Or.inl ⟨ns_lt c_1044, rfl, hkp_1045, hkc1_1045⟩⟩⟩⟩) dX12_table_50
    · refine lv_iload_n hx hb dX12_table_25 rfl (lv_at hl 4 rfl) ?_
      refine lv_aload_n hx hb dX12_table_26 rfl (lv_at hl 1 rfl) ?_
      refine hp_get hx hb hts ix12 hown hK hh (q := 0) rfl (hI.1 _ (by decide)) es1038_1042 rfl 8 (by decide) (hts _ tw_887) (fun _ h9 => h9) rfl dX12_table_27 ?_
      refine lv_iload_n hx hb dX12_table_30 rfl (lv_at hl 2 rfl) ?_
      refine hp_iald hx hb hK hh (q := 4) rfl (hI.1 _ (by decide)) es1040_1042 (vp_in_nI (n := K9) (by omega) (by decide)) dX12_table_31 ?_
      rw [nI_clamp (n := K9) (by omega)]
      obtain ⟨v_1046, hv_1046, hfv_1046⟩ := p0_1040 K9 (by omega)
      rw [hfv_1046]
      refine lv_aload_n hx hb dX12_table_32 rfl (lv_at hl 1 rfl) ?_
      refine hp_get hx hb hts ix12 hown hK hh (q := 0) rfl (hI.1 _ (by decide)) es1038_1042 rfl 2 (by decide) (hts _ tw_881) (fun _ h9 => h9) rfl dX12_table_33 ?_
      refine lv_aload_n hx hb dX12_table_36 rfl (lv_at hl 1 rfl) ?_
      refine hp_get hx hb hts ix12 hown hK hh (q := 0) rfl (hI.1 _ (by decide)) es1038_1042 rfl 2 (by decide) (hts _ tw_881) (fun _ h9 => h9) rfl dX12_table_37 ?_
      refine lv_imul hx hb dX12_table_40 ?_
      rw [pk_mul wd wd]
      have hw2_1047 : wd * wd ≤ 9 := mww (by omega)
      refine lv_isub hx hb dX12_table_41 ?_
      refine lv_icmp_le (tgt := 51) hx hb dX12_table_42 (by decide) (fun c_1048 => ?_) (fun c_1048 => ?_)
      · obtain ⟨I9, rfl, hI9⟩ := le_sub_nat c_1044 c_1048 (by omega) (by omega)
        refine lv_iconst (v := 0) hx hb dX12_table_51 (by decide) ?_
        refine lv_istore (lv' := [(5, .int 0), (4, .int 0), (0, .ref (ad 0)), (1, .int (nI K9)), (2, .int la9), (3, .int (nI I9))]) hx hb dX12_table_52 hl (by decide) rfl (fun ls hl => ?_)
        have loop_1049 : ∀ (fu j1049 : Nat)   (ls : Array Slot) (H : Heap) (locs : List Loc), 0 ≤ j1049 → j1049 ≤ (wd * wd) → (wd * wd) < j1049 + fu →  (∀ x, x < j1049 → wi (f_1041 (((40 * K9) + I9) + x)) (-9) 9) → lv_has ls 6 [(5, .int (nI j1049)), (4, .int 0), (0, .ref (ad 0)), (1, .int (nI K9)), (2, .int la9), (3, .int (nI I9))] → Hp D (Af cs ad sz) (Af cs ad sz) s.heap H locs cs ad en_1042 → W p l e (headSpec (Cond.code yX12_table cX12_table 6 (some .int) :: TB) (rmN 2)).room s m ([.ref (ad 0), .int (nI K9), .int la9, .int (nI I9)] : List Value).toArray below meth c H locs 0 0 (MQ below (va_Qi (S := Nat → va_E) (fun r en1 => RX cy cs ad en1 ∧ (∀ c, (c ≠ 0 ∧ c ≠ 1) → en1 c = en c) ∧ RTB (nI K9) la9 (nI I9) r en en1) (PostM D cs ad) (Af cs ad sz)) ([.ref (ad 0), .int (nI K9), .int la9, .int (nI I9)] : List Value).toArray s 0 0 (Af cs ad sz)) (F0 m 54 ls []) := by
          intro fu
          induction fu with
          | zero => intro j1049  ls H locs h0 h1 h2; exact absurd h2 (by omega)
          | succ fu ih_1049 =>
            intro j1049  ls H locs hj0_1049 hj_1049 hfu_1049 i0_1049 hl hh
            refine lv_iload hx hb dX12_table_54 (lv_at hl 0 rfl) ?_
            refine lv_aload_n hx hb dX12_table_56 rfl (lv_at hl 2 rfl) ?_
            refine hp_get hx hb hts ix12 hown hK hh (q := 0) rfl (hI.1 _ (by decide)) es1038_1042 rfl 2 (by decide) (hts _ tw_881) (fun _ h9 => h9) rfl dX12_table_57 ?_
            refine lv_aload_n hx hb dX12_table_60 rfl (lv_at hl 2 rfl) ?_
            refine hp_get hx hb hts ix12 hown hK hh (q := 0) rfl (hI.1 _ (by decide)) es1038_1042 rfl 2 (by decide) (hts _ tw_881) (fun _ h9 => h9) rfl dX12_table_61 ?_
            refine lv_imul hx hb dX12_table_64 ?_
            rw [pk_mul wd wd]
            have hw2_1050 : wd * wd ≤ 9 := mww (by omega)
            refine lv_icmp_ge (tgt := 104) hx hb dX12_table_65 (by decide) (fun c_1051 => ?_) (fun c_1051 => ?_)
            · have n_1051 : (wd * wd) ≤ j1049 := n_le (a := (wd * wd)) (b := j1049) c_1051 (by omega) (by omega)
              have hok9 : okR en K9 I9 (wd * wd) := fun x hx => by rw [show rdF (en 5) = f_1041 from by rw [es1041]; rfl]; exact i0_1049 x (by omega)
              refine lv_aload_n hx hb dX12_table_104 rfl (lv_at hl 2 rfl) ?_
              refine hp_get hx hb hts ix12 hown hK hh (q := 0) rfl (hI.1 _ (by decide)) es1038_1042 rfl 4 (by decide) (hts _ tw_883) (fun _ h9 => h9) rfl dX12_table_105 ?_
              refine lv_bipush (v := 6) hx hb dX12_table_108 (by decide) ?_
              refine lv_icmp_ne (tgt := 116) hx hb dX12_table_110 (by decide) (fun c_1052 => ?_) (fun c_1052 => ?_)
              · have n_1052 : tb ≠ 6 := n_neq (a := tb) (b := 6) c_1052 (by omega) (by decide)
                refine lv_iconst (v := 0) hx hb dX12_table_116 (by decide) ?_
                refine lv_istore (lv' := [(5, .int 0), (4, .int 0), (0, .ref (ad 0)), (1, .int (nI K9)), (2, .int la9), (3, .int (nI I9))]) hx hb dX12_table_117 hl (by decide) rfl (fun ls hl => ?_)
                have loop_1053 : ∀ (fu j1053 : Nat)  (en_1053 : Nat → va_E) (ls : Array Slot) (H : Heap) (locs : List Loc), 0 ≤ j1053 → j1053 ≤ (wd * wd) → (wd * wd) < j1053 + fu → RX cy cs ad en_1053 → (∀ c, (c ≠ 0 ∧ c ≠ 1) → en_1053 c = en c) → (∀ x, rdF (en_1053 1) x = if 9 * tb ≤ x ∧ x < 9 * tb + j1053 then rdF (en 5) (40 * K9 + I9 + (x - 9 * tb)) else rdF (en 1) x) → (KP en en_1053) → lv_has ls 6 [(5, .int (nI j1053)), (4, .int 0), (0, .ref (ad 0)), (1, .int (nI K9)), (2, .int la9), (3, .int (nI I9))] → Hp D (Af cs ad sz) (Af cs ad sz) s.heap H locs cs ad en_1053 → W p l e (headSpec (Cond.code yX12_table cX12_table 6 (some .int) :: TB) (rmN 2)).room s m ([.ref (ad 0), .int (nI K9), .int la9, .int (nI I9)] : List Value).toArray below meth c H locs 0 0 (MQ below (va_Qi (S := Nat → va_E) (fun r en1 => RX cy cs ad en1 ∧ (∀ c, (c ≠ 0 ∧ c ≠ 1) → en1 c = en c) ∧ RTB (nI K9) la9 (nI I9) r en en1) (PostM D cs ad) (Af cs ad sz)) ([.ref (ad 0), .int (nI K9), .int la9, .int (nI I9)] : List Value).toArray s 0 0 (Af cs ad sz)) (F0 m 119 ls []) := by
                  intro fu
                  induction fu with
                  | zero => intro j1053  en_1053 ls H locs h0 h1 h2; exact absurd h2 (by omega)
                  | succ fu ih_1053 =>
                    intro j1053  en_1053 ls H locs hj0_1053 hj_1053 hfu_1053 hI_1053 hf_1053 i0_1053 i1_1053 hl hh
                    refine lv_iload hx hb dX12_table_119 (lv_at hl 0 rfl) ?_
                    refine lv_aload_n hx hb dX12_table_121 rfl (lv_at hl 2 rfl) ?_
                    obtain ⟨fa_1054, hi_1054, wd_1054, mo_1054, tb_1054, dp_1054, many_1054, grt_1054, lst_1054, nou_1054, rm_1054, rb_1054, pr_1054, wo_1054, es1054, p0_1054, p1_1054, p2_1054, p3_1054, p4_1054⟩ := getr_M hI_1053
                    have hq2_1055 : wd_1054 = wd := n_eq ((show nI wd_1054 = rdI (en_1053 0) 2 from by rw [es1054]; rfl).trans (i1_1053.2.1.trans (show rdI (en 0) 2 = nI wd from by rw [es1038]; rfl))) (by omega) (by omega)
                    have hq3_1055 : mo_1054 = mo := n_eq ((show nI mo_1054 = rdI (en_1053 0) 3 from by rw [es1054]; rfl).trans (i1_1053.2.2.1.trans (show rdI (en 0) 3 = nI mo from by rw [es1038]; rfl))) (by omega) (by omega)
                    have hq4_1055 : tb_1054 = tb := n_eq ((show nI tb_1054 = rdI (en_1053 0) 4 from by rw [es1054]; rfl).trans (i1_1053.2.2.2.1.trans (show rdI (en 0) 4 = nI tb from by rw [es1038]; rfl))) (by omega) (by omega)
                    have hq30_1055 : wo_1054 = wo := n_eq ((show nI wo_1054 = rdI (en_1053 0) 30 from by rw [es1054]; rfl).trans (i1_1053.2.2.2.2.2.trans (show rdI (en 0) 30 = nI wo from by rw [es1038]; rfl))) (by omega) (by omega)
                    rw [hq2_1055, hq3_1055, hq4_1055, hq30_1055] at es1054
                    refine hp_get hx hb hts ix12 hown hK hh (q := 0) rfl (hI.1 _ (by decide)) es1054 rfl 2 (by decide) (hts _ tw_881) (fun _ h9 => h9) rfl dX12_table_122 ?_
                    refine lv_aload_n hx hb dX12_table_125 rfl (lv_at hl 2 rfl) ?_
                    refine hp_get hx hb hts ix12 hown hK hh (q := 0) rfl (hI.1 _ (by decide)) es1054 rfl 2 (by decide) (hts _ tw_881) (fun _ h9 => h9) rfl dX12_table_126 ?_
                    refine lv_imul hx hb dX12_table_129 ?_
                    rw [pk_mul wd wd]
                    have hw2_1056 : wd * wd ≤ 9 := mww (by omega)
                    refine lv_icmp_ge (tgt := 168) hx hb dX12_table_130 (by decide) (fun c_1057 => ?_) (fun c_1057 => ?_)
                    · have n_1057 : (wd * wd) ≤ j1053 := n_le (a := (wd * wd)) (b := j1053) c_1057 (by omega) (by omega)
                      refine lv_aload_n hx hb dX12_table_168 rfl (lv_at hl 2 rfl) ?_
                      refine lv_bipush (v := (-9)) hx hb dX12_table_169 (by decide) ?_
                      refine hp_put hx hb hts ix12 tyX12 tyX12_ok nmX12 hown hK hh (q := 0) rfl (hI.1 _ (by decide)) es1054 rfl 25 (by decide) (hts _ tw_904) (fun _ h9 => h9) rfl (ty := .int) (by decide +kernel) rfl rfl (Nat.le_of_ble_eq_true rfl) dX12_table_171 (fun H locs en_1058 hen_1058 hh => ?_)
                      have es1054_1058 : en_1058 0 = .inr (11, [.int fa_1054, .int hi_1054, .int (nI wd), .int (nI mo), .int (nI tb), .ref (ad 1), .ref (ad 2), .ref (ad 3), .ref (ad 4), .ref (ad 5), .ref (ad 6), .ref (ad 7), .ref (ad 8), .ref (ad 9), .int dp_1054, .long many_1054, .long grt_1054, .long lst_1054, .long nou_1054, .ref (ad 10), .ref (ad 11), .ref (ad 12), .int rm_1054, .long rb_1054, .ref (ad 13), .int (-9), .ref (ad 14), .ref (ad 15), .ref (ad 16), .ref (ad 17), .int (nI wo), .ref (ad 18), .ref (ad 19)]) := by rw [hen_1058]; exact va_up_self _ _ _
                      have hI_1058 : RX cy cs ad en_1058 := by rw [hen_1058]; exact upr_M hI_1053 ⟨fa_1054, hi_1054, wd, mo, tb, dp_1054, many_1054, grt_1054, lst_1054, nou_1054, rm_1054, rb_1054, (-9), wo, rfl, hwd2, hwd3, hmo, htb, hwo⟩
                      have hf_1058 : ∀ c, (c ≠ 0 ∧ c ≠ 1) → en_1058 c = en c := fun c hc => Eq.trans (show en_1058 c = en_1053 c from by rw [hen_1058, va_up_ne _ _ (by omega)]) (hf_1053 c hc)
                      refine lv_aload_n hx hb dX12_table_174 rfl (lv_at hl 2 rfl) ?_
                      refine lv_dup hx hb dX12_table_175 rfl ?_
                      refine hp_get hx hb hts ix12 hown hK hh (q := 0) rfl (hI.1 _ (by decide)) es1054_1058 rfl 4 (by decide) (hts _ tw_883) (fun _ h9 => h9) rfl dX12_table_176 ?_
                      refine lv_iconst (v := 1) hx hb dX12_table_179 (by decide) ?_
                      refine lv_iadd hx hb dX12_table_180 ?_
                      rw [show (1 : Int32) = nI 1 from rfl, nI_add tb 1]
                      refine hp_put hx hb hts ix12 tyX12 tyX12_ok nmX12 hown hK hh (q := 0) rfl (hI.1 _ (by decide)) es1054_1058 rfl 4 (by decide) (hts _ tw_883) (fun _ h9 => h9) rfl (ty := .int) (by decide +kernel) rfl rfl (Nat.le_of_ble_eq_true rfl) dX12_table_181 (fun H locs en_1059 hen_1059 hh => ?_)
                      have es1054_1059 : en_1059 0 = .inr (11, [.int fa_1054, .int hi_1054, .int (nI wd), .int (nI mo), .int (nI (tb + 1)), .ref (ad 1), .ref (ad 2), .ref (ad 3), .ref (ad 4), .ref (ad 5), .ref (ad 6), .ref (ad 7), .ref (ad 8), .ref (ad 9), .int dp_1054, .long many_1054, .long grt_1054, .long lst_1054, .long nou_1054, .ref (ad 10), .ref (ad 11), .ref (ad 12), .int rm_1054, .long rb_1054, .ref (ad 13), .int (-9), .ref (ad 14), .ref (ad 15), .ref (ad 16), .ref (ad 17), .int (nI wo), .ref (ad 18), .ref (ad 19)]) := by rw [hen_1059]; exact va_up_self _ _ _
                      have hI_1059 : RX cy cs ad en_1059 := by rw [hen_1059]; exact upr_M hI_1058 ⟨fa_1054, hi_1054, wd, mo, (tb + 1), dp_1054, many_1054, grt_1054, lst_1054, nou_1054, rm_1054, rb_1054, (-9), wo, rfl, hwd2, hwd3, hmo, (by omega), hwo⟩
                      have hf_1059 : ∀ c, (c ≠ 0 ∧ c ≠ 1) → en_1059 c = en c := fun c hc => Eq.trans (show en_1059 c = en_1058 c from by rw [hen_1059, va_up_ne _ _ (by omega)]) (hf_1058 c hc)
                      refine lv_aload_n hx hb dX12_table_184 rfl (lv_at hl 2 rfl) ?_
                      refine hp_get hx hb hts ix12 hown hK hh (q := 0) rfl (hI.1 _ (by decide)) es1054_1059 rfl 4 (by decide) (hts _ tw_883) (fun _ h9 => h9) rfl dX12_table_185 ?_
                      refine lv_iconst (v := 1) hx hb dX12_table_188 (by decide) ?_
                      refine lv_isub hx hb dX12_table_189 ?_
                      rw [show (1 : Int32) = nI 1 from rfl, pk_sub (a := (tb + 1)) (b := 1) (by omega)]
                      exact hp_iretM hx hb hr rfl hlocks hh (⟨hI_1059, hf_1059, ⟨wd, tb, hwd2, hwd3, htb, (by rw [es1038]; rfl), (by rw [es1038]; rfl), Or.inr ⟨hag0, K9, rfl, by omega, Or.inr ⟨I9, rfl, by rw [show rdF (en 4) K9 = nI v_1046 from by rw [show rdF (en 4) = f_1040 from by rw [es1040]; rfl]; exact hfv_1046, nI_toInt (by omega)]; omega, by omega, Or.inr (Or.inr ⟨hok9, by omega, congrArg nI (by omega), (Eq.trans (show rdI (en_1059 0) 1 = rdI (en_1053 0) 1 from by rw [es1054_1059, es1054]; rfl) i1_1053.1), (Eq.trans (show rdI (en_1059 0) 2 = rdI (en_1053 0) 2 from by rw [es1054_1059, es1054]; rfl) i1_1053.2.1), (Eq.trans (show rdI (en_1059 0) 3 = rdI (en_1053 0) 3 from by rw [es1054_1059, es1054]; rfl) i1_1053.2.2.1), (by rw [es1054_1059]; exact congrArg nI (by omega)), (by rw [es1054_1059]; rfl), (Eq.trans (show rdI (en_1059 0) 30 = rdI (en_1053 0) 30 from by rw [es1054_1059, es1054]; rfl) i1_1053.2.2.2.2.2), fun x => by rw [show en_1059 1 = en_1053 1 from by rw [hen_1059, va_up_ne _ _ (by decide), hen_1058, va_up_ne _ _ (by decide)]]; have e9 : j1053 = wd * wd := (by omega); rw [e9] at i0_1053; exact i0_1053 x⟩)⟩⟩⟩⟩) dX12_table_190
                    · have n_1057 : j1053 < (wd * wd) := n_nle (a := (wd * wd)) (b := j1053) c_1057 (by omega) (by omega)
                      refine lv_aload_n hx hb dX12_table_133 rfl (lv_at hl 2 rfl) ?_
                      refine hp_get hx hb hts ix12 hown hK hh (q := 0) rfl (hI.1 _ (by decide)) es1054 rfl 5 (by decide) (hts _ tw_884) (fun _ h9 => h9) rfl dX12_table_134 ?_
                      refine lv_bipush (v := 9) hx hb dX12_table_137 (by decide) ?_
                      refine lv_aload_n hx hb dX12_table_139 rfl (lv_at hl 2 rfl) ?_
                      refine hp_get hx hb hts ix12 hown hK hh (q := 0) rfl (hI.1 _ (by decide)) es1054 rfl 4 (by decide) (hts _ tw_883) (fun _ h9 => h9) rfl dX12_table_140 ?_
                      refine lv_imul hx hb dX12_table_143 ?_
                      rw [show (9 : Int32) = nI 9 from rfl, pk_mul 9 tb]
                      refine lv_iload hx hb dX12_table_144 (lv_at hl 0 rfl) ?_
                      refine lv_iadd hx hb dX12_table_146 ?_
                      rw [nI_add (9 * tb) j1053]
                      refine lv_aload_n hx hb dX12_table_147 rfl (lv_at hl 2 rfl) ?_
                      refine hp_get hx hb hts ix12 hown hK hh (q := 0) rfl (hI.1 _ (by decide)) es1054 rfl 9 (by decide) (hts _ tw_888) (fun _ h9 => h9) rfl dX12_table_148 ?_
                      refine lv_bipush (v := 40) hx hb dX12_table_151 (by decide) ?_
                      refine lv_iload_n hx hb dX12_table_153 rfl (lv_at hl 3 rfl) ?_
                      refine lv_imul hx hb dX12_table_154 ?_
                      rw [show (40 : Int32) = nI 40 from rfl, pk_mul 40 K9]
                      refine lv_iload_n hx hb dX12_table_155 rfl (lv_at hl 5 rfl) ?_
                      refine lv_iadd hx hb dX12_table_156 ?_
                      rw [nI_add (40 * K9) I9]
                      refine lv_iload hx hb dX12_table_157 (lv_at hl 0 rfl) ?_
                      refine lv_iadd hx hb dX12_table_159 ?_
                      rw [nI_add ((40 * K9) + I9) j1053]
                      have es1041_1060 : en_1053 5 = .inl (cy 0, 160, .inl f_1041) := (hf_1053 5 (by omega)).trans es1041
                      refine hp_iald hx hb hK hh (q := 5) rfl (hI.1 _ (by decide)) es1041_1060 (vp_in_nI (n := (((40 * K9) + I9) + j1053)) (by omega) (by decide)) dX12_table_160 ?_
                      rw [nI_clamp (n := (((40 * K9) + I9) + j1053)) (by omega)]
                      obtain ⟨f_1061, es1061⟩ := getr_E hI_1053
                      refine hp_iast hx hb hK hh (q := 1) rfl (hI.1 _ (by decide)) es1061 (vp_in_nI (n := ((9 * tb) + j1053)) (by omega) (by decide)) dX12_table_161 (fun H locs en_1062 hen_1062 hh => ?_)
                      rw [nI_clamp (n := ((9 * tb) + j1053)) (by omega)] at hen_1062
                      have es1054_1062 : en_1062 0 = .inr (11, [.int fa_1054, .int hi_1054, .int (nI wd), .int (nI mo), .int (nI tb), .ref (ad 1), .ref (ad 2), .ref (ad 3), .ref (ad 4), .ref (ad 5), .ref (ad 6), .ref (ad 7), .ref (ad 8), .ref (ad 9), .int dp_1054, .long many_1054, .long grt_1054, .long lst_1054, .long nou_1054, .ref (ad 10), .ref (ad 11), .ref (ad 12), .int rm_1054, .long rb_1054, .ref (ad 13), .int pr_1054, .ref (ad 14), .ref (ad 15), .ref (ad 16), .ref (ad 17), .int (nI wo), .ref (ad 18), .ref (ad 19)]) := by rw [hen_1062, va_up_ne _ _ (by decide)]; exact es1054
                      have es1041_1062 : en_1062 5 = .inl (cy 0, 160, .inl f_1041) := by rw [hen_1062, va_up_ne _ _ (by decide)]; exact es1041_1060
                      have es1061_1062 : en_1062 1 = .inl (cy 0, 54, .inl (upd f_1061 ((9 * tb) + j1053) (f_1041 (((40 * K9) + I9) + j1053)))) := by rw [hen_1062]; exact va_up_self _ _ _
                      have hI_1062 : RX cy cs ad en_1062 := by rw [hen_1062]; exact upr_E hI_1053 ⟨(upd f_1061 ((9 * tb) + j1053) (f_1041 (((40 * K9) + I9) + j1053))), rfl⟩
                      have hf_1062 : ∀ c, (c ≠ 0 ∧ c ≠ 1) → en_1062 c = en c := fun c hc => Eq.trans (show en_1062 c = en_1053 c from by rw [hen_1062, va_up_ne _ _ (by omega)]) (hf_1053 c hc)
                      have hkp_1062 : KP en en_1062 := KP_same i1_1053 (show en_1062 0 = en_1053 0 from by rw [hen_1062, va_up_ne _ _ (by decide)])
                      refine lv_iinc (v := (nI (j1053 + 1))) (lv' := [(5, .int (nI (j1053 + 1))), (4, .int 0), (0, .ref (ad 0)), (1, .int (nI K9)), (2, .int la9), (3, .int (nI I9))]) hx hb dX12_table_162 hl (k := 0) rfl (nI_1 _) (by decide) rfl (fun ls hl => ?_)
                      refine lv_goto (tgt := 119) hx hb dX12_table_165 (by decide) ?_
                      exact ih_1053 ((j1053 + 1))  en_1062 ls H locs (by omega) (by omega) (by omega) hI_1062 hf_1062 (fun x => by rw [es1061_1062]; have h9 := tb_upd (a := 9 * tb) (b := 40 * K9 + I9) (j := j1053) (c := rdF (en 5)) (fun x => (show f_1061 x = rdF (en_1053 1) x from by rw [es1061]; rfl).trans (i0_1053 x)) x; rw [show rdF (en 5) (40 * K9 + I9 + j1053) = f_1041 (40 * K9 + I9 + j1053) from by rw [es1041]; rfl] at h9; exact h9) (hkp_1062) (lv_sub hl [0, 1, 2, 3, 4, 5] rfl) hh
                exact loop_1053 ((wd * wd) + 1) 0  en_1042 ls _ _ (Nat.le_refl _) (by omega) (by omega) hI_1042 hf_1042 (fun x => by rw [hkc1_1042, if_neg (by omega)]) (hkp_1042) (lv_sub hl [0, 1, 2, 3, 4, 5] rfl) hh
              · have n_1052 : tb = 6 := n_eq (a := tb) (b := 6) c_1052 (by omega) (by decide)
                refine lv_bipush (v := (-4)) hx hb dX12_table_113 (by decide) ?_
                exact hp_iretM hx hb hr rfl hlocks hh (⟨hI_1042, hf_1042, ⟨wd, tb, hwd2, hwd3, htb, (by rw [es1038]; rfl), (by rw [es1038]; rfl), Or.inr ⟨hag0, K9, rfl, by omega, Or.inr ⟨I9, rfl, by rw [show rdF (en 4) K9 = nI v_1046 from by rw [show rdF (en 4) = f_1040 from by rw [es1040]; rfl]; exact hfv_1046, nI_toInt (by omega)]; omega, by omega, Or.inr (Or.inl ⟨hok9, by omega, rfl, hkp_1042, hkc1_1042⟩)⟩⟩⟩⟩) dX12_table_115
            · have n_1051 : j1049 < (wd * wd) := n_nle (a := (wd * wd)) (b := j1049) c_1051 (by omega) (by omega)
              refine lv_aload_n hx hb dX12_table_68 rfl (lv_at hl 2 rfl) ?_
              refine hp_get hx hb hts ix12 hown hK hh (q := 0) rfl (hI.1 _ (by decide)) es1038_1042 rfl 9 (by decide) (hts _ tw_888) (fun _ h9 => h9) rfl dX12_table_69 ?_
              refine lv_bipush (v := 40) hx hb dX12_table_72 (by decide) ?_
              refine lv_iload_n hx hb dX12_table_74 rfl (lv_at hl 3 rfl) ?_
              refine lv_imul hx hb dX12_table_75 ?_
              rw [show (40 : Int32) = nI 40 from rfl, pk_mul 40 K9]
              refine lv_iload_n hx hb dX12_table_76 rfl (lv_at hl 5 rfl) ?_
              refine lv_iadd hx hb dX12_table_77 ?_
              rw [nI_add (40 * K9) I9]
              refine lv_iload hx hb dX12_table_78 (lv_at hl 0 rfl) ?_
              refine lv_iadd hx hb dX12_table_80 ?_
              rw [nI_add ((40 * K9) + I9) j1049]
              refine hp_iald hx hb hK hh (q := 5) rfl (hI.1 _ (by decide)) es1041_1042 (vp_in_nI (n := (((40 * K9) + I9) + j1049)) (by omega) (by decide)) dX12_table_81 ?_
              rw [nI_clamp (n := (((40 * K9) + I9) + j1049)) (by omega)]
              refine lv_i2l hx hb dX12_table_82 rfl ?_
              refine lv_ldc2 hx hb hown (hts _ tw_1001) dX12_table_83 ?_
              refine lv_ldc2 hx hb hown (hts _ tw_1002) dX12_table_86 ?_
              refine hp_callRi (va_runS (As := [.long ((f_1041 (((40 * K9) + I9) + j1049)).toInt64), .long (-9), .long 9]) (rest := []) ⟨hx, hb, hml, hown, hts⟩ (c_X12_within l D cy _ cs ad en_1042 ((f_1041 (((40 * K9) + I9) + j1049)).toInt64) (-9) 9) (kw_X12_within hts tw_985 ⟨by decide, by decide⟩) (preS_of hh hK) rfl rfl hl.1 rfl (lv_room (Nat.le_of_ble_eq_true rfl)) dX12_table_89 ⟨Nat.le_of_ble_eq_true rfl, Nat.le_of_ble_eq_true rfl⟩) hh hA (fun r_1063 H locs hw_1063 hh => ?_)
              rcases Decidable.em (wi (f_1041 (((40 * K9) + I9) + j1049)) (-9) 9) with hp_1063 | hp_1063
              · obtain rfl : r_1063 = 1 := Eq.trans hw_1063 (if_pos ((wj_32 (by decide) (by decide)).mpr hp_1063))
                refine lv_if_ne (tgt := 98) hx hb dX12_table_92 (by decide) (fun _ => ?_) (fun c_0 => absurd c_0 (by decide))
                refine lv_iinc (v := (nI (j1049 + 1))) (lv' := [(5, .int (nI (j1049 + 1))), (4, .int 0), (0, .ref (ad 0)), (1, .int (nI K9)), (2, .int la9), (3, .int (nI I9))]) hx hb dX12_table_98 hl (k := 0) rfl (nI_1 _) (by decide) rfl (fun ls hl => ?_)
                refine lv_goto (tgt := 54) hx hb dX12_table_101 (by decide) ?_
                exact ih_1049 ((j1049 + 1))  ls H locs (by omega) (by omega) (by omega) (fun x hx => (Nat.lt_or_ge x j1049).elim (fun h => i0_1049 x h) (fun h => by have e : x = j1049 := (by omega); rw [e]; exact hp_1063)) (lv_sub hl [0, 1, 2, 3, 4, 5] rfl) hh
              · obtain rfl : r_1063 = 0 := Eq.trans hw_1063 (if_neg (fun q => hp_1063 ((wj_32 (by decide) (by decide)).mp q)))
                refine lv_if_ne (tgt := 98) hx hb dX12_table_92 (by decide) (fun c_0 => absurd c_0 (by decide)) (fun _ => ?_)
                refine lv_bipush (v := (-2)) hx hb dX12_table_95 (by decide) ?_
                exact hp_iretM hx hb hr rfl hlocks hh (⟨hI_1042, hf_1042, ⟨wd, tb, hwd2, hwd3, htb, (by rw [es1038]; rfl), (by rw [es1038]; rfl), Or.inr ⟨hag0, K9, rfl, by omega, Or.inr ⟨I9, rfl, by rw [show rdF (en 4) K9 = nI v_1046 from by rw [show rdF (en 4) = f_1040 from by rw [es1040]; rfl]; exact hfv_1046, nI_toInt (by omega)]; omega, by omega, Or.inl ⟨fun q => hp_1063 (by have h9 := q j1049 (by omega); rw [show rdF (en 5) = f_1041 from by rw [es1041]; rfl] at h9; exact h9), rfl, hkp_1042, hkc1_1042⟩⟩⟩⟩⟩) dX12_table_97
        exact loop_1049 ((wd * wd) + 1) 0  ls _ _ (Nat.le_refl _) (by omega) (by omega) (fun x h => absurd h (Nat.not_lt_zero x)) (lv_sub hl [0, 1, 2, 3, 4, 5] rfl) hh
      · refine lv_aload_n hx hb dX12_table_45 rfl (lv_at hl 1 rfl) ?_
        refine lv_iconst (v := 3) hx hb dX12_table_46 (by decide) ?_
        refine hp_callMi (va_runV (As := [.int 3]) (rest := []) ⟨hx, hb, hml, hown, hts⟩ (c_X12_fails l D cy _ cs ad en_1042 (hI.1 _ (by decide)) 0 hi wd mo tb dp many grt lst nou rm rb pr wo 3 es1038_1042) (kw_X12_fails hts tw_997 ⟨by decide, by decide⟩) (preV_of hh hK (hI.1 _ (by decide)) es1038_1042 rfl) rfl rfl hl.1 rfl (lv_room (Nat.le_of_ble_eq_true rfl)) dX12_table_47 ⟨Nat.le_of_ble_eq_true rfl, Nat.le_of_ble_eq_true rfl⟩) hh hA (fun r_1064 H locs en_1064 hw_1064 hh => ?_)
        obtain ⟨hr_1064, hen_1064⟩ := hw_1064
        have es1039_1064 : en_1064 3 = .inl (cy 0, 4, .inl f_1039) := by rw [hen_1064, va_up_ne _ _ (by decide)]; exact es1039_1042
        have es1040_1064 : en_1064 4 = .inl (cy 0, 4, .inl f_1040) := by rw [hen_1064, va_up_ne _ _ (by decide)]; exact es1040_1042
        have es1041_1064 : en_1064 5 = .inl (cy 0, 160, .inl f_1041) := by rw [hen_1064, va_up_ne _ _ (by decide)]; exact es1041_1042
        have es1038_1064 : en_1064 0 = .inr (11, [.int 3, .int hi, .int (nI wd), .int (nI mo), .int (nI tb), .ref (ad 1), .ref (ad 2), .ref (ad 3), .ref (ad 4), .ref (ad 5), .ref (ad 6), .ref (ad 7), .ref (ad 8), .ref (ad 9), .int dp, .long many, .long grt, .long lst, .long nou, .ref (ad 10), .ref (ad 11), .ref (ad 12), .int rm, .long rb, .ref (ad 13), .int pr, .ref (ad 14), .ref (ad 15), .ref (ad 16), .ref (ad 17), .int (nI wo), .ref (ad 18), .ref (ad 19)]) := by rw [hen_1064]; exact va_up_self _ _ _
        have hI_1064 : RX cy cs ad en_1064 := by rw [hen_1064]; exact upr_M hI_1042 ⟨3, hi, wd, mo, tb, dp, many, grt, lst, nou, rm, rb, pr, wo, rfl, hwd2, hwd3, hmo, htb, hwo⟩
        have hf_1064 : ∀ c, (c ≠ 0 ∧ c ≠ 1) → en_1064 c = en c := fun c hc => Eq.trans (show en_1064 c = en_1042 c from by rw [hen_1064, va_up_ne _ _ (by omega)]) (hf_1042 c hc)
        have hkc1_1064 : en_1064 1 = en 1 := (show en_1064 1 = en_1042 1 from by rw [hen_1064, va_up_ne _ _ (by decide)]).trans hkc1_1042
        have hkp_1064 : KP en en_1064 := KP_fv hkp_1042 es1038_1042 es1038_1064 hi (nI wd) (nI mo) (nI tb) pr (nI wo) rfl rfl rfl rfl rfl rfl rfl rfl rfl rfl rfl rfl
        obtain rfl : r_1064 = (-13) := hr_1064.trans (by decide)
        exact hp_iretM hx hb hr rfl hlocks hh (⟨hI_1064, hf_1064, ⟨wd, tb, hwd2, hwd3, htb, (by rw [es1038]; rfl), (by rw [es1038]; rfl), Or.inr ⟨hag0, K9, rfl, by omega, Or.inl ⟨by rw [show rdF (en 4) K9 = nI v_1046 from by rw [show rdF (en 4) = f_1040 from by rw [es1040]; rfl]; exact hfv_1046]; exact ns_gt c_1048 (by omega) (by omega), rfl, hkp_1064, hkc1_1064⟩⟩⟩⟩) dX12_table_50
  · have hI_1043a := hI_1043
    have hf_1043 : ∀ c, (c ≠ 0 ∧ c ≠ 1) → en_1043 c = en c := fun c hc => (hu_1043 c (by omega)).trans (hf_1042 c hc)
    have hkp_1043 : KP en en_1043 := KP_tr hkp_1042 hkq_1043
    have hkc1_1043 : en_1043 1 = en 1 := (hu_1043 1 (by omega)).trans hkc1_1042
    refine lv_istore (lv' := [(4, .int r_1043), (0, .ref (ad 0)), (1, .int k9), (2, .int la9), (3, .int i9)]) hx hb dX12_table_11 hl (by decide) rfl (fun ls hl => ?_)
    refine lv_iload hx hb dX12_table_13 (lv_at hl 0 rfl) ?_
    refine lv_if_eq (tgt := 21) hx hb dX12_table_15 (by decide) (fun c_0 => absurd c_0 (hz_1043)) (fun _ => ?_)
    refine lv_iload hx hb dX12_table_18 (lv_at hl 0 rfl) ?_
    have hag9 : r_1043 = agF (rdF (en 3) k9.toNatClampNeg) k9 la9 := by rw [hr_1043, show en_1042 3 = en 3 from hf_1042 3 (by omega)]
    exact hp_iretM hx hb hr rfl hlocks hh (⟨hI_1043, hf_1043, ⟨wd, tb, hwd2, hwd3, htb, (by rw [es1038]; rfl), (by rw [es1038]; rfl), Or.inl ⟨fun q => hz_1043 (hag9.trans q), hag9, hkp_1043, hkc1_1043⟩⟩⟩) dX12_table_20
theorem kw_X12_table {R : Room} {s : State} {args : Array Value} {own : String} {idx : Nat} (hts : ∀ w ∈ TB, w.before args s = true) (hl : Cond.methodLink own idx yX12_table ∈ TB) (hR : 2 + 1 ≤ R.frames ∧ 8 + (6 + 11) + 40 * 2 ≤ R.locals) : CallW R s args own RX12 idx yX12_table cX12_table 6 (some .int) (Cond.code yX12_table cX12_table 6 (some .int) :: TB) (rmN 2) 0 0 3 := cwV 3 hts (TB_V hl tw_990 tw_991 tw_9 tw_992) rfl rfl rfl (by decide +kernel) hR
set_option maxHeartbeats 4000000 in
set_option maxRecDepth 100000 in
/-- entry -/
theorem c_X12_entry (l : Launch) (D : va_G) (cy : Nat → ClassId) (sz : Nat) (cs : List Nat) (ad : Nat → Nat) (en : Nat → va_E) (hI : RX cy cs ad en) (t a b : Int32)   : Met l yX12_entry (Cond.code yX12_entry cX12_entry 4 (some .long) :: TB) (rmN 2) (va_Pc [.ref (ad 0), .int t, .int a, .int b] (Pre D cy cs ad en sz)) (va_Ql (S := Unit) (fun r _ => XEN (fun x y => rdF (en 1) (9 * x + y)) t a b (rdI (en 0) 4) (rdI (en 0) 2) r) (fun _ _ => True) (Nf sz)) 0 0 (Nf sz) := by
  refine Met.ofW (cc := cX12_entry) (maxL := 4) (ret := (some .long)) (by decide) rfl ?_
  intro p e s m args below meth c s₁ B hml hv
  obtain ⟨rfl, hsz, hP, hK, hD0⟩ := hv
  have hx := B.exec
  have hb := B.bytes
  have hr := B.returns
  have hts : ∀ w ∈ TB, w.before _ s = true := fun w h => atoms_spec (ws := _ :: TB) B.pre w (List.mem_cons_of_mem _ h)
  have hown : s.vm.findClass RX12 = some m.cls := findClass_of_methodNamed B.named
  have hlocks := B.notSynchronized
  have hh : Hp D (Nf sz) (fun _ => True) s.heap s.heap [] cs ad en := ⟨hP, hD0, va_S.rf⟩
  have hA : ∀ q : Nat, s.heap.size ≤ q → Nf sz q := fun q h => by rw [hsz] at h; exact h
  have hl := lv_entry ([.ref (ad 0), .int t, .int a, .int b]) (n := 4) (Nat.le_of_ble_eq_true rfl)
  rw [lg_entry_eq]
  generalize (lg_sl ([.ref (ad 0), .int t, .int a, .int b]) ++ List.replicate (4 - (lg_sl ([.ref (ad 0), .int t, .int a, .int b])).length) Slot.unset).toArray = ls at hl ⊢
  have hl : lv_has ls 4 [(0, .ref (ad 0)), (1, .int t), (2, .int a), (3, .int b)] := hl
  obtain ⟨fa, hi, wd, mo, tb, dp, many, grt, lst, nou, rm, rb, pr, wo, es1065, hwd2, hwd3, hmo, htb, hwo⟩ := getr_M hI
  obtain ⟨f_1066, es1066⟩ := getr_E hI
  refine lv_aload_n hx hb dX12_entry_0 rfl (lv_at hl 0 rfl) ?_
  refine lv_iload_n hx hb dX12_entry_1 rfl (lv_at hl 1 rfl) ?_
  refine hp_callRi (va_runV (As := [.int t]) (rest := []) ⟨hx, hb, hml, hown, hts⟩ (c_X12_isTable l D cy _ cs ad en hI t ) (kw_X12_isTable hts tw_1007 ⟨by decide, by decide⟩) (preV_of hh hK (hI.1 _ (by decide)) es1065 rfl) rfl rfl hl.1 rfl (lv_room (Nat.le_of_ble_eq_true rfl)) dX12_entry_2 ⟨Nat.le_of_ble_eq_true rfl, Nat.le_of_ble_eq_true rfl⟩) hh hA (fun r_1067 H locs hw_1067 hh => ?_)
  rw [show rdI (en 0) 4 = (nI tb) from by rw [es1065]; rfl, nI_toInt (n := tb) (by omega)] at hw_1067
  rcases Decidable.em (0 ≤ t.toInt ∧ t.toInt < (tb : Int)) with hp_1067 | hp_1067
  · obtain rfl : r_1067 = 1 := Eq.trans hw_1067 (if_pos hp_1067)
    obtain ⟨T_1067, rfl, hT_1067⟩ := has_nat hp_1067
    refine lv_if_eq (tgt := 39) hx hb dX12_entry_5 (by decide) (fun c_0 => absurd c_0 (by decide)) (fun _ => ?_)
    refine lv_aload_n hx hb dX12_entry_8 rfl (lv_at hl 0 rfl) ?_
    refine lv_iload_n hx hb dX12_entry_9 rfl (lv_at hl 2 rfl) ?_
    refine lv_iload_n hx hb dX12_entry_10 rfl (lv_at hl 3 rfl) ?_
    refine hp_callRi (va_runV (As := [.int a, .int b]) (rest := []) ⟨hx, hb, hml, hown, hts⟩ (c_X12_isPlace l D cy _ cs ad en hI a b ) (kw_X12_isPlace hts tw_1011 ⟨by decide, by decide⟩) (preV_of hh hK (hI.1 _ (by decide)) es1065 rfl) rfl rfl hl.1 rfl (lv_room (Nat.le_of_ble_eq_true rfl)) dX12_entry_11 ⟨Nat.le_of_ble_eq_true rfl, Nat.le_of_ble_eq_true rfl⟩) hh hA (fun r_1068 H locs hw_1068 hh => ?_)
    rw [show (rdI (en 0) 2).toInt = (wd : Int) from by rw [es1065]; exact nI_toInt (by omega)] at hw_1068
    rcases Decidable.em ((0 ≤ a.toInt ∧ a.toInt < (wd : Int)) ∧ 0 ≤ b.toInt ∧ b.toInt < (wd : Int)) with hp_1068 | hp_1068
    · obtain rfl : r_1068 = 1 := Eq.trans hw_1068 (if_pos hp_1068)
      obtain ⟨A_1068, rfl, hA_1068⟩ := has_nat hp_1068.1
      obtain ⟨B_1068, rfl, hB_1068⟩ := has_nat hp_1068.2
      refine lv_if_eq (tgt := 39) hx hb dX12_entry_14 (by decide) (fun c_0 => absurd c_0 (by decide)) (fun _ => ?_)
      refine lv_aload_n hx hb dX12_entry_17 rfl (lv_at hl 0 rfl) ?_
      refine hp_get hx hb hts ix12 hown hK hh (q := 0) rfl (hI.1 _ (by decide)) es1065 rfl 5 (by decide) (hts _ tw_884) (fun _ h9 => h9) rfl dX12_entry_18 ?_
      refine lv_bipush (v := 9) hx hb dX12_entry_21 (by decide) ?_
      refine lv_iload_n hx hb dX12_entry_23 rfl (lv_at hl 1 rfl) ?_
      refine lv_imul hx hb dX12_entry_24 ?_
      rw [show (9 : Int32) = nI 9 from rfl, pk_mul 9 T_1067]
      refine lv_aload_n hx hb dX12_entry_25 rfl (lv_at hl 0 rfl) ?_
      refine hp_get hx hb hts ix12 hown hK hh (q := 0) rfl (hI.1 _ (by decide)) es1065 rfl 2 (by decide) (hts _ tw_881) (fun _ h9 => h9) rfl dX12_entry_26 ?_
      refine lv_iload_n hx hb dX12_entry_29 rfl (lv_at hl 2 rfl) ?_
      refine lv_imul hx hb dX12_entry_30 ?_
      rw [pk_mul wd A_1068]
      refine lv_iadd hx hb dX12_entry_31 ?_
      rw [nI_add (9 * T_1067) (wd * A_1068)]
      refine lv_iload_n hx hb dX12_entry_32 rfl (lv_at hl 3 rfl) ?_
      refine lv_iadd hx hb dX12_entry_33 ?_
      rw [nI_add ((9 * T_1067) + (wd * A_1068)) B_1068]
      have hi_1069 : wd * A_1068 + B_1068 < 9 := mdr (by omega) (by omega) (by omega)
      refine hp_iald hx hb hK hh (q := 1) rfl (hI.1 _ (by decide)) es1066 (vp_in_nI (n := (((9 * T_1067) + (wd * A_1068)) + B_1068)) (by omega) (by decide)) dX12_entry_34 ?_
      rw [nI_clamp (n := (((9 * T_1067) + (wd * A_1068)) + B_1068)) (by omega)]
      refine lv_i2l hx hb dX12_entry_35 rfl ?_
      refine lv_goto (tgt := 42) hx hb dX12_entry_36 (by decide) ?_
      have hc4 : (rdI (en 0) 4).toInt = (tb : Int) := by rw [es1065]; exact nI_toInt (by omega)
      have hc2 : (rdI (en 0) 2).toInt = (wd : Int) := by rw [es1065]; exact nI_toInt (by omega)
      exact hp_lretR hx hb hr hlocks hsz hh (Or.inl ⟨⟨⟨hp_1067.1, by have := hp_1067.2; omega⟩, ⟨hp_1068.1.1, by have := hp_1068.1.2; omega⟩, ⟨hp_1068.2.1, by have := hp_1068.2.2; omega⟩⟩, (by rw [show rdI (en 0) 2 = nI wd from by rw [es1065]; rfl, nI_clamp (n := T_1067) (by omega), nI_clamp (n := A_1068) (by omega), nI_clamp (n := B_1068) (by omega), nI_clamp (n := wd) (by omega), show rdF (en 1) = f_1066 from by rw [es1066]; rfl, Nat.mul_comm A_1068 wd, Nat.add_assoc])⟩) dX12_entry_42
    · obtain rfl : r_1068 = 0 := Eq.trans hw_1068 (if_neg hp_1068)
      refine lv_if_eq (tgt := 39) hx hb dX12_entry_14 (by decide) (fun _ => ?_) (fun c_0 => absurd c_0 (by decide))
      refine lv_ldc2 hx hb hown (hts _ tw_1015) dX12_entry_39 ?_
      have hc4 : (rdI (en 0) 4).toInt = (tb : Int) := by rw [es1065]; exact nI_toInt (by omega)
      have hc2 : (rdI (en 0) 2).toInt = (wd : Int) := by rw [es1065]; exact nI_toInt (by omega)
      exact hp_lretR hx hb hr hlocks hsz hh (Or.inr ⟨fun q => hp_1068 ⟨⟨q.2.1.1, by have := q.2.1.2; omega⟩, ⟨q.2.2.1, by have := q.2.2.2; omega⟩⟩, rfl⟩) dX12_entry_42
  · obtain rfl : r_1067 = 0 := Eq.trans hw_1067 (if_neg hp_1067)
    refine lv_if_eq (tgt := 39) hx hb dX12_entry_5 (by decide) (fun _ => ?_) (fun c_0 => absurd c_0 (by decide))
    refine lv_ldc2 hx hb hown (hts _ tw_1015) dX12_entry_39 ?_
    have hc4 : (rdI (en 0) 4).toInt = (tb : Int) := by rw [es1065]; exact nI_toInt (by omega)
    have hc2 : (rdI (en 0) 2).toInt = (wd : Int) := by rw [es1065]; exact nI_toInt (by omega)
    exact hp_lretR hx hb hr hlocks hsz hh (Or.inr ⟨fun q => hp_1067 ⟨q.1.1, by have := q.1.2; omega⟩, rfl⟩) dX12_entry_42
theorem kw_X12_entry {R : Room} {s : State} {args : Array Value} {own : String} {idx : Nat} (hts : ∀ w ∈ TB, w.before args s = true) (hl : Cond.methodLink own idx yX12_entry ∈ TB) (hR : 2 + 1 ≤ R.frames ∧ 8 + (4 + 11) + 40 * 2 ≤ R.locals) : CallW R s args own RX12 idx yX12_entry cX12_entry 4 (some .long) (Cond.code yX12_entry cX12_entry 4 (some .long) :: TB) (rmN 2) 0 0 3 := cwV 3 hts (TB_V hl tw_1004 tw_1005 tw_9 tw_1006) rfl rfl rfl (by decide +kernel) hR
set_option maxHeartbeats 4000000 in
set_option maxRecDepth 100000 in
/-- may -/
theorem c_X12_may (l : Launch) (D : va_G) (cy : Nat → ClassId) (sz : Nat) (cs : List Nat) (ad : Nat → Nat) (en : Nat → va_E) (hI : RX cy cs ad en) (a b z : Int32) (hz : z = 0 ∨ z = 1)   : Met l yX12_may (Cond.code yX12_may cX12_may 5 (some .int) :: TB) (rmN 1) (va_Pc [.ref (ad 0), .int a, .int b, .int z] (Pre D cy cs ad en sz)) (va_Qi (S := Nat → va_E) (fun r en1 => RX cy cs ad en1 ∧ (∀ c, (c ≠ 2) → en1 c = en c) ∧ RMA a b z r en en1) (PostM D cs ad) (Af cs ad sz)) 0 0 (Af cs ad sz) := by
  refine Met.ofW (cc := cX12_may) (maxL := 5) (ret := (some .int)) (by decide) rfl ?_
  intro p e s m args below meth c s₁ B hml hv
  obtain ⟨rfl, hsz, hP, hK, hD0⟩ := hv
  have hx := B.exec
  have hb := B.bytes
  have hr := B.returns
  have hts : ∀ w ∈ TB, w.before _ s = true := fun w h => atoms_spec (ws := _ :: TB) B.pre w (List.mem_cons_of_mem _ h)
  have hown : s.vm.findClass RX12 = some m.cls := findClass_of_methodNamed B.named
  have hlocks := B.notSynchronized
  have hh : Hp D (Af cs ad sz) (Af cs ad sz) s.heap s.heap [] cs ad en := ⟨hP, Af_self hD0, va_S.rf⟩
  have hA : ∀ q : Nat, s.heap.size ≤ q → Af cs ad sz q := fun q h => Or.inr (by rw [hsz] at h; exact h)
  have hl := lv_entry ([.ref (ad 0), .int a, .int b, .int z]) (n := 5) (Nat.le_of_ble_eq_true rfl)
  rw [lg_entry_eq]
  generalize (lg_sl ([.ref (ad 0), .int a, .int b, .int z]) ++ List.replicate (5 - (lg_sl ([.ref (ad 0), .int a, .int b, .int z])).length) Slot.unset).toArray = ls at hl ⊢
  have hl : lv_has ls 5 [(0, .ref (ad 0)), (1, .int a), (2, .int b), (3, .int z)] := hl
  have hf0 : ∀ c, (c ≠ 2) → en c = en c := fun _ _ => rfl
  obtain ⟨fa, hi, wd, mo, tb, dp, many, grt, lst, nou, rm, rb, pr, wo, es1070, hwd2, hwd3, hmo, htb, hwo⟩ := getr_M hI
  obtain ⟨f_1071, es1071, p0_1071⟩ := getr_mn hI
  refine lv_aload_n hx hb dX12_may_0 rfl (lv_at hl 0 rfl) ?_
  refine lv_iload_n hx hb dX12_may_1 rfl (lv_at hl 1 rfl) ?_
  refine hp_callRi (va_runV (As := [.int a]) (rest := []) ⟨hx, hb, hml, hown, hts⟩ (c_X12_isTable l D cy _ cs ad en hI a ) (kw_X12_isTable hts tw_1007 ⟨by decide, by decide⟩) (preV_of hh hK (hI.1 _ (by decide)) es1070 rfl) rfl rfl hl.1 rfl (lv_room (Nat.le_of_ble_eq_true rfl)) dX12_may_2 ⟨Nat.le_of_ble_eq_true rfl, Nat.le_of_ble_eq_true rfl⟩) hh hA (fun r_1072 H locs hw_1072 hh => ?_)
  rw [show rdI (en 0) 4 = (nI tb) from by rw [es1070]; rfl, nI_toInt (n := tb) (by omega)] at hw_1072
  rcases Decidable.em (0 ≤ a.toInt ∧ a.toInt < (tb : Int)) with hp_1072 | hp_1072
  · obtain rfl : r_1072 = 1 := Eq.trans hw_1072 (if_pos hp_1072)
    obtain ⟨T_1072, rfl, hT_1072⟩ := has_nat hp_1072
    refine lv_if_eq (tgt := 16) hx hb dX12_may_5 (by decide) (fun c_0 => absurd c_0 (by decide)) (fun _ => ?_)
    refine lv_aload_n hx hb dX12_may_8 rfl (lv_at hl 0 rfl) ?_
    refine lv_iload_n hx hb dX12_may_9 rfl (lv_at hl 2 rfl) ?_
    refine hp_callRi (va_runV (As := [.int b]) (rest := []) ⟨hx, hb, hml, hown, hts⟩ (c_X12_isTable l D cy _ cs ad en hI b ) (kw_X12_isTable hts tw_1007 ⟨by decide, by decide⟩) (preV_of hh hK (hI.1 _ (by decide)) es1070 rfl) rfl rfl hl.1 rfl (lv_room (Nat.le_of_ble_eq_true rfl)) dX12_may_10 ⟨Nat.le_of_ble_eq_true rfl, Nat.le_of_ble_eq_true rfl⟩) hh hA (fun r_1073 H locs hw_1073 hh => ?_)
    rw [show rdI (en 0) 4 = (nI tb) from by rw [es1070]; rfl, nI_toInt (n := tb) (by omega)] at hw_1073
    rcases Decidable.em (0 ≤ b.toInt ∧ b.toInt < (tb : Int)) with hp_1073 | hp_1073
    · obtain rfl : r_1073 = 1 := Eq.trans hw_1073 (if_pos hp_1073)
      obtain ⟨T_1073, rfl, hT_1073⟩ := has_nat hp_1073
      refine lv_if_ne (tgt := 18) hx hb dX12_may_13 (by decide) (fun _ => ?_) (fun c_0 => absurd c_0 (by decide))
      refine lv_aload_n hx hb dX12_may_18 rfl (lv_at hl 0 rfl) ?_
      refine hp_get hx hb hts ix12 hown hK hh (q := 0) rfl (hI.1 _ (by decide)) es1070 rfl 6 (by decide) (hts _ tw_885) (fun _ h9 => h9) rfl dX12_may_19 ?_
      refine lv_bipush (v := 6) hx hb dX12_may_22 (by decide) ?_
      refine lv_iload_n hx hb dX12_may_24 rfl (lv_at hl 1 rfl) ?_
      refine lv_imul hx hb dX12_may_25 ?_
      rw [show (6 : Int32) = nI 6 from rfl, pk_mul 6 T_1072]
      refine lv_iload_n hx hb dX12_may_26 rfl (lv_at hl 2 rfl) ?_
      refine lv_iadd hx hb dX12_may_27 ?_
      rw [nI_add (6 * T_1072) T_1073]
      refine hp_zald hx hb hK hh (q := 2) rfl (hI.1 _ (by decide)) es1071 (vp_in_nI (n := ((6 * T_1072) + T_1073)) (by omega) (by decide)) dX12_may_28 ?_
      rw [nI_clamp (n := ((6 * T_1072) + T_1073)) (by omega)]
      refine lv_iload_n hx hb dX12_may_29 rfl (lv_at hl 3 rfl) ?_
      refine lv_icmp_ne (tgt := 37) hx hb dX12_may_30 (by decide) (fun c_1074 => ?_) (fun c_1074 => ?_)
      · refine lv_iconst (v := 0) hx hb dX12_may_37 (by decide) ?_
        refine lv_istore (lv' := [(4, .int 0), (0, .ref (ad 0)), (1, .int (nI T_1072)), (2, .int (nI T_1073)), (3, .int z)]) hx hb dX12_may_38 hl (by decide) rfl (fun ls hl => ?_)
        refine lv_aload_n hx hb dX12_may_40 rfl (lv_at hl 1 rfl) ?_
        refine hp_get hx hb hts ix12 hown hK hh (q := 0) rfl (hI.1 _ (by decide)) es1070 rfl 6 (by decide) (hts _ tw_885) (fun _ h9 => h9) rfl dX12_may_41 ?_
        refine lv_bipush (v := 6) hx hb dX12_may_44 (by decide) ?_
        refine lv_iload_n hx hb dX12_may_46 rfl (lv_at hl 2 rfl) ?_
        refine lv_imul hx hb dX12_may_47 ?_
        rw [show (6 : Int32) = nI 6 from rfl, pk_mul 6 T_1072]
        refine lv_iload_n hx hb dX12_may_48 rfl (lv_at hl 3 rfl) ?_
        refine lv_iadd hx hb dX12_may_49 ?_
        rw [nI_add (6 * T_1072) T_1073]
        refine lv_iload_n hx hb dX12_may_50 rfl (lv_at hl 4 rfl) ?_
        refine lv_if_ne (tgt := 58) hx hb dX12_may_51 (by decide) (fun c_1075 => ?_) (fun c_1075 => ?_)
        · refine lv_iconst (v := 0) hx hb dX12_may_58 (by decide) ?_
          refine hp_zast hx hb hK hh (q := 2) rfl (hI.1 _ (by decide)) es1071 (vp_in_nI (n := ((6 * T_1072) + T_1073)) (by omega) (by decide)) dX12_may_59 (fun H locs en_1076 hen_1076 hh => ?_)
          rw [nI_clamp (n := ((6 * T_1072) + T_1073)) (by omega)] at hen_1076
          have es1070_1076 : en_1076 0 = .inr (11, [.int fa, .int hi, .int (nI wd), .int (nI mo), .int (nI tb), .ref (ad 1), .ref (ad 2), .ref (ad 3), .ref (ad 4), .ref (ad 5), .ref (ad 6), .ref (ad 7), .ref (ad 8), .ref (ad 9), .int dp, .long many, .long grt, .long lst, .long nou, .ref (ad 10), .ref (ad 11), .ref (ad 12), .int rm, .long rb, .ref (ad 13), .int pr, .ref (ad 14), .ref (ad 15), .ref (ad 16), .ref (ad 17), .int (nI wo), .ref (ad 18), .ref (ad 19)]) := by rw [hen_1076, va_up_ne _ _ (by decide)]; exact es1070
          have es1071_1076 : en_1076 2 = .inl (cy 2, 36, .inl (upd f_1071 ((6 * T_1072) + T_1073) (vp_nar .boolean 0))) := by rw [hen_1076]; exact va_up_self _ _ _
          have hI_1076 : RX cy cs ad en_1076 := by rw [hen_1076]; exact upr_mn hI ⟨(upd f_1071 ((6 * T_1072) + T_1073) (vp_nar .boolean 0)), rfl, (bits_upd p0_1071 (Or.inl rfl))⟩
          have hf_1076 : ∀ c, (c ≠ 2) → en_1076 c = en c := fun c hc => Eq.trans (show en_1076 c = en c from by rw [hen_1076, va_up_ne _ _ (by omega)]) (hf0 c hc)
          refine lv_iload hx hb dX12_may_60 (lv_at hl 0 rfl) ?_
          have hc4 : (rdI (en 0) 4).toInt = (tb : Int) := by rw [es1070]; exact nI_toInt (by omega)
          exact hp_iretM hx hb hr rfl hlocks hh (⟨hI_1076, hf_1076, Or.inr ⟨T_1072, T_1073, rfl, rfl, by omega, by omega, ⟨hp_1072.1, by have := hp_1072.2; omega⟩, ⟨hp_1073.1, by have := hp_1073.2; omega⟩, Or.inr ⟨fun q => c_1074 ((show rdF (en 2) (6 * T_1072 + T_1073) = f_1071 (6 * T_1072 + T_1073) from by rw [es1071]; rfl).symm.trans q), rfl⟩, Or.inr ⟨c_1075, (by rw [es1071_1076, es1071]; rfl)⟩⟩⟩) dX12_may_62
        · refine lv_iconst (v := 1) hx hb dX12_may_54 (by decide) ?_
          refine lv_goto (tgt := 59) hx hb dX12_may_55 (by decide) ?_
          refine hp_zast hx hb hK hh (q := 2) rfl (hI.1 _ (by decide)) es1071 (vp_in_nI (n := ((6 * T_1072) + T_1073)) (by omega) (by decide)) dX12_may_59 (fun H locs en_1077 hen_1077 hh => ?_)
          rw [nI_clamp (n := ((6 * T_1072) + T_1073)) (by omega)] at hen_1077
          have es1070_1077 : en_1077 0 = .inr (11, [.int fa, .int hi, .int (nI wd), .int (nI mo), .int (nI tb), .ref (ad 1), .ref (ad 2), .ref (ad 3), .ref (ad 4), .ref (ad 5), .ref (ad 6), .ref (ad 7), .ref (ad 8), .ref (ad 9), .int dp, .long many, .long grt, .long lst, .long nou, .ref (ad 10), .ref (ad 11), .ref (ad 12), .int rm, .long rb, .ref (ad 13), .int pr, .ref (ad 14), .ref (ad 15), .ref (ad 16), .ref (ad 17), .int (nI wo), .ref (ad 18), .ref (ad 19)]) := by rw [hen_1077, va_up_ne _ _ (by decide)]; exact es1070
          have es1071_1077 : en_1077 2 = .inl (cy 2, 36, .inl (upd f_1071 ((6 * T_1072) + T_1073) (vp_nar .boolean 1))) := by rw [hen_1077]; exact va_up_self _ _ _
          have hI_1077 : RX cy cs ad en_1077 := by rw [hen_1077]; exact upr_mn hI ⟨(upd f_1071 ((6 * T_1072) + T_1073) (vp_nar .boolean 1)), rfl, (bits_upd p0_1071 (Or.inr rfl))⟩
          have hf_1077 : ∀ c, (c ≠ 2) → en_1077 c = en c := fun c hc => Eq.trans (show en_1077 c = en c from by rw [hen_1077, va_up_ne _ _ (by omega)]) (hf0 c hc)
          refine lv_iload hx hb dX12_may_60 (lv_at hl 0 rfl) ?_
          have hc4 : (rdI (en 0) 4).toInt = (tb : Int) := by rw [es1070]; exact nI_toInt (by omega)
          exact hp_iretM hx hb hr rfl hlocks hh (⟨hI_1077, hf_1077, Or.inr ⟨T_1072, T_1073, rfl, rfl, by omega, by omega, ⟨hp_1072.1, by have := hp_1072.2; omega⟩, ⟨hp_1073.1, by have := hp_1073.2; omega⟩, Or.inr ⟨fun q => c_1074 ((show rdF (en 2) (6 * T_1072 + T_1073) = f_1071 (6 * T_1072 + T_1073) from by rw [es1071]; rfl).symm.trans q), rfl⟩, Or.inl ⟨c_1075, (by rw [es1071_1077, es1071]; rfl)⟩⟩⟩) dX12_may_62
      · refine lv_iconst (v := 1) hx hb dX12_may_33 (by decide) ?_
        refine lv_goto (tgt := 38) hx hb dX12_may_34 (by decide) ?_
        refine lv_istore (lv' := [(4, .int 1), (0, .ref (ad 0)), (1, .int (nI T_1072)), (2, .int (nI T_1073)), (3, .int z)]) hx hb dX12_may_38 hl (by decide) rfl (fun ls hl => ?_)
        refine lv_aload_n hx hb dX12_may_40 rfl (lv_at hl 1 rfl) ?_
        refine hp_get hx hb hts ix12 hown hK hh (q := 0) rfl (hI.1 _ (by decide)) es1070 rfl 6 (by decide) (hts _ tw_885) (fun _ h9 => h9) rfl dX12_may_41 ?_
        refine lv_bipush (v := 6) hx hb dX12_may_44 (by decide) ?_
        refine lv_iload_n hx hb dX12_may_46 rfl (lv_at hl 2 rfl) ?_
        refine lv_imul hx hb dX12_may_47 ?_
        rw [show (6 : Int32) = nI 6 from rfl, pk_mul 6 T_1072]
        refine lv_iload_n hx hb dX12_may_48 rfl (lv_at hl 3 rfl) ?_
        refine lv_iadd hx hb dX12_may_49 ?_
        rw [nI_add (6 * T_1072) T_1073]
        refine lv_iload_n hx hb dX12_may_50 rfl (lv_at hl 4 rfl) ?_
        refine lv_if_ne (tgt := 58) hx hb dX12_may_51 (by decide) (fun c_1078 => ?_) (fun c_1078 => ?_)
        · refine lv_iconst (v := 0) hx hb dX12_may_58 (by decide) ?_
          refine hp_zast hx hb hK hh (q := 2) rfl (hI.1 _ (by decide)) es1071 (vp_in_nI (n := ((6 * T_1072) + T_1073)) (by omega) (by decide)) dX12_may_59 (fun H locs en_1079 hen_1079 hh => ?_)
          rw [nI_clamp (n := ((6 * T_1072) + T_1073)) (by omega)] at hen_1079
          have es1070_1079 : en_1079 0 = .inr (11, [.int fa, .int hi, .int (nI wd), .int (nI mo), .int (nI tb), .ref (ad 1), .ref (ad 2), .ref (ad 3), .ref (ad 4), .ref (ad 5), .ref (ad 6), .ref (ad 7), .ref (ad 8), .ref (ad 9), .int dp, .long many, .long grt, .long lst, .long nou, .ref (ad 10), .ref (ad 11), .ref (ad 12), .int rm, .long rb, .ref (ad 13), .int pr, .ref (ad 14), .ref (ad 15), .ref (ad 16), .ref (ad 17), .int (nI wo), .ref (ad 18), .ref (ad 19)]) := by rw [hen_1079, va_up_ne _ _ (by decide)]; exact es1070
          have es1071_1079 : en_1079 2 = .inl (cy 2, 36, .inl (upd f_1071 ((6 * T_1072) + T_1073) (vp_nar .boolean 0))) := by rw [hen_1079]; exact va_up_self _ _ _
          have hI_1079 : RX cy cs ad en_1079 := by rw [hen_1079]; exact upr_mn hI ⟨(upd f_1071 ((6 * T_1072) + T_1073) (vp_nar .boolean 0)), rfl, (bits_upd p0_1071 (Or.inl rfl))⟩
          have hf_1079 : ∀ c, (c ≠ 2) → en_1079 c = en c := fun c hc => Eq.trans (show en_1079 c = en c from by rw [hen_1079, va_up_ne _ _ (by omega)]) (hf0 c hc)
          refine lv_iload hx hb dX12_may_60 (lv_at hl 0 rfl) ?_
          have hc4 : (rdI (en 0) 4).toInt = (tb : Int) := by rw [es1070]; exact nI_toInt (by omega)
          exact hp_iretM hx hb hr rfl hlocks hh (⟨hI_1079, hf_1079, Or.inr ⟨T_1072, T_1073, rfl, rfl, by omega, by omega, ⟨hp_1072.1, by have := hp_1072.2; omega⟩, ⟨hp_1073.1, by have := hp_1073.2; omega⟩, Or.inl ⟨(show rdF (en 2) (6 * T_1072 + T_1073) = f_1071 (6 * T_1072 + T_1073) from by rw [es1071]; rfl).trans c_1074, rfl⟩, Or.inr ⟨c_1078, (by rw [es1071_1079, es1071]; rfl)⟩⟩⟩) dX12_may_62
        · refine lv_iconst (v := 1) hx hb dX12_may_54 (by decide) ?_
          refine lv_goto (tgt := 59) hx hb dX12_may_55 (by decide) ?_
          refine hp_zast hx hb hK hh (q := 2) rfl (hI.1 _ (by decide)) es1071 (vp_in_nI (n := ((6 * T_1072) + T_1073)) (by omega) (by decide)) dX12_may_59 (fun H locs en_1080 hen_1080 hh => ?_)
          rw [nI_clamp (n := ((6 * T_1072) + T_1073)) (by omega)] at hen_1080
          have es1070_1080 : en_1080 0 = .inr (11, [.int fa, .int hi, .int (nI wd), .int (nI mo), .int (nI tb), .ref (ad 1), .ref (ad 2), .ref (ad 3), .ref (ad 4), .ref (ad 5), .ref (ad 6), .ref (ad 7), .ref (ad 8), .ref (ad 9), .int dp, .long many, .long grt, .long lst, .long nou, .ref (ad 10), .ref (ad 11), .ref (ad 12), .int rm, .long rb, .ref (ad 13), .int pr, .ref (ad 14), .ref (ad 15), .ref (ad 16), .ref (ad 17), .int (nI wo), .ref (ad 18), .ref (ad 19)]) := by rw [hen_1080, va_up_ne _ _ (by decide)]; exact es1070
          have es1071_1080 : en_1080 2 = .inl (cy 2, 36, .inl (upd f_1071 ((6 * T_1072) + T_1073) (vp_nar .boolean 1))) := by rw [hen_1080]; exact va_up_self _ _ _
          have hI_1080 : RX cy cs ad en_1080 := by rw [hen_1080]; exact upr_mn hI ⟨(upd f_1071 ((6 * T_1072) + T_1073) (vp_nar .boolean 1)), rfl, (bits_upd p0_1071 (Or.inr rfl))⟩
          have hf_1080 : ∀ c, (c ≠ 2) → en_1080 c = en c := fun c hc => Eq.trans (show en_1080 c = en c from by rw [hen_1080, va_up_ne _ _ (by omega)]) (hf0 c hc)
          refine lv_iload hx hb dX12_may_60 (lv_at hl 0 rfl) ?_
          have hc4 : (rdI (en 0) 4).toInt = (tb : Int) := by rw [es1070]; exact nI_toInt (by omega)
          exact hp_iretM hx hb hr rfl hlocks hh (⟨hI_1080, hf_1080, Or.inr ⟨T_1072, T_1073, rfl, rfl, by omega, by omega, ⟨hp_1072.1, by have := hp_1072.2; omega⟩, ⟨hp_1073.1, by have := hp_1073.2; omega⟩, Or.inl ⟨(show rdF (en 2) (6 * T_1072 + T_1073) = f_1071 (6 * T_1072 + T_1073) from by rw [es1071]; rfl).trans c_1074, rfl⟩, Or.inl ⟨c_1078, (by rw [es1071_1080, es1071]; rfl)⟩⟩⟩) dX12_may_62
    · obtain rfl : r_1073 = 0 := Eq.trans hw_1073 (if_neg hp_1073)
      refine lv_if_ne (tgt := 18) hx hb dX12_may_13 (by decide) (fun c_0 => absurd c_0 (by decide)) (fun _ => ?_)
      refine lv_iconst (v := (-1)) hx hb dX12_may_16 (by decide) ?_
      have hc4 : (rdI (en 0) 4).toInt = (tb : Int) := by rw [es1070]; exact nI_toInt (by omega)
      exact hp_iretM hx hb hr rfl hlocks hh (⟨hI, hf0, Or.inl ⟨fun q => hp_1073 ⟨q.2.1, by have := q.2.2; omega⟩, rfl, rfl⟩⟩) dX12_may_17
  · obtain rfl : r_1072 = 0 := Eq.trans hw_1072 (if_neg hp_1072)
    refine lv_if_eq (tgt := 16) hx hb dX12_may_5 (by decide) (fun _ => ?_) (fun c_0 => absurd c_0 (by decide))
    refine lv_iconst (v := (-1)) hx hb dX12_may_16 (by decide) ?_
    have hc4 : (rdI (en 0) 4).toInt = (tb : Int) := by rw [es1070]; exact nI_toInt (by omega)
    exact hp_iretM hx hb hr rfl hlocks hh (⟨hI, hf0, Or.inl ⟨fun q => hp_1072 ⟨q.1.1, by have := q.1.2; omega⟩, rfl, rfl⟩⟩) dX12_may_17
theorem kw_X12_may {R : Room} {s : State} {args : Array Value} {own : String} {idx : Nat} (hts : ∀ w ∈ TB, w.before args s = true) (hl : Cond.methodLink own idx yX12_may ∈ TB) (hR : 1 + 1 ≤ R.frames ∧ 8 + (5 + 11) + 40 * 1 ≤ R.locals) : CallW R s args own RX12 idx yX12_may cX12_may 5 (some .int) (Cond.code yX12_may cX12_may 5 (some .int) :: TB) (rmN 1) 0 0 3 := cwV 3 hts (TB_V hl tw_1017 tw_1018 tw_9 tw_1019) rfl rfl rfl (by decide +kernel) hR
set_option maxHeartbeats 4000000 in
set_option maxRecDepth 100000 in
/-- isSpent -/
theorem c_X12_isSpent (l : Launch) (D : va_G) (cy : Nat → ClassId) (sz : Nat) (cs : List Nat) (ad : Nat → Nat) (en : Nat → va_E) (hI : RX cy cs ad en) (n : Nat) (hn : n ≤ 8)   : Met l yX12_isSpent (Cond.code yX12_isSpent cX12_isSpent 5 (some .boolean) :: TB) (rmN 1) (va_Pc [.ref (ad 0), .int (nI n)] (Pre D cy cs ad en sz)) (va_Qi (S := Nat → va_E) (fun r en1 => RX cy cs ad en1 ∧ (∀ c, (c ≠ 8 ∧ c ≠ 9) → en1 c = en c) ∧ (r = 0 ∨ r = 1)) (PostM D cs ad) (Af cs ad sz)) 0 0 (Af cs ad sz) := by
  refine Met.ofW (cc := cX12_isSpent) (maxL := 5) (ret := (some .boolean)) (by decide) rfl ?_
  intro p e s m args below meth c s₁ B hml hv
  obtain ⟨rfl, hsz, hP, hK, hD0⟩ := hv
  have hx := B.exec
  have hb := B.bytes
  have hr := B.returns
  have hts : ∀ w ∈ TB, w.before _ s = true := fun w h => atoms_spec (ws := _ :: TB) B.pre w (List.mem_cons_of_mem _ h)
  have hown : s.vm.findClass RX12 = some m.cls := findClass_of_methodNamed B.named
  have hlocks := B.notSynchronized
  have hh : Hp D (Af cs ad sz) (Af cs ad sz) s.heap s.heap [] cs ad en := ⟨hP, Af_self hD0, va_S.rf⟩
  have hA : ∀ q : Nat, s.heap.size ≤ q → Af cs ad sz q := fun q h => Or.inr (by rw [hsz] at h; exact h)
  have hl := lv_entry ([.ref (ad 0), .int (nI n)]) (n := 5) (Nat.le_of_ble_eq_true rfl)
  rw [lg_entry_eq]
  generalize (lg_sl ([.ref (ad 0), .int (nI n)]) ++ List.replicate (5 - (lg_sl ([.ref (ad 0), .int (nI n)])).length) Slot.unset).toArray = ls at hl ⊢
  have hl : lv_has ls 5 [(0, .ref (ad 0)), (1, .int (nI n))] := hl
  have hf0 : ∀ c, (c ≠ 8 ∧ c ≠ 9) → en c = en c := fun _ _ => rfl
  obtain ⟨fa, hi, wd, mo, tb, dp, many, grt, lst, nou, rm, rb, pr, wo, es1081, hwd2, hwd3, hmo, htb, hwo⟩ := getr_M hI
  refine lv_iconst (v := 0) hx hb dX12_isSpent_0 (by decide) ?_
  refine lv_istore_n (lv' := [(2, .int 0), (0, .ref (ad 0)), (1, .int (nI n))]) hx hb dX12_isSpent_1 rfl hl (by decide) rfl (fun ls hl => ?_)
  have loop_1082 : ∀ (fu j1082 : Nat)  (en_1082 : Nat → va_E) (ls : Array Slot) (H : Heap) (locs : List Loc), 0 ≤ j1082 → j1082 ≤ 6 → 6 < j1082 + fu → RX cy cs ad en_1082 → (∀ c, (c ≠ 8 ∧ c ≠ 9) → en_1082 c = en c) →  lv_has ls 5 [(2, .int (nI j1082)), (0, .ref (ad 0)), (1, .int (nI n))] → Hp D (Af cs ad sz) (Af cs ad sz) s.heap H locs cs ad en_1082 → W p l e (headSpec (Cond.code yX12_isSpent cX12_isSpent 5 (some .boolean) :: TB) (rmN 1)).room s m ([.ref (ad 0), .int (nI n)] : List Value).toArray below meth c H locs 0 0 (MQ below (va_Qi (S := Nat → va_E) (fun r en1 => RX cy cs ad en1 ∧ (∀ c, (c ≠ 8 ∧ c ≠ 9) → en1 c = en c) ∧ (r = 0 ∨ r = 1)) (PostM D cs ad) (Af cs ad sz)) ([.ref (ad 0), .int (nI n)] : List Value).toArray s 0 0 (Af cs ad sz)) (F0 m 2 ls []) := by
    intro fu
    induction fu with
    | zero => intro j1082  en_1082 ls H locs h0 h1 h2; exact absurd h2 (by omega)
    | succ fu ih_1082 =>
      intro j1082  en_1082 ls H locs hj0_1082 hj_1082 hfu_1082 hI_1082 hf_1082  hl hh
      refine lv_iload_n hx hb dX12_isSpent_2 rfl (lv_at hl 0 rfl) ?_
      refine lv_aload_n hx hb dX12_isSpent_3 rfl (lv_at hl 1 rfl) ?_
      have es1081_1083 : en_1082 0 = .inr (11, [.int fa, .int hi, .int (nI wd), .int (nI mo), .int (nI tb), .ref (ad 1), .ref (ad 2), .ref (ad 3), .ref (ad 4), .ref (ad 5), .ref (ad 6), .ref (ad 7), .ref (ad 8), .ref (ad 9), .int dp, .long many, .long grt, .long lst, .long nou, .ref (ad 10), .ref (ad 11), .ref (ad 12), .int rm, .long rb, .ref (ad 13), .int pr, .ref (ad 14), .ref (ad 15), .ref (ad 16), .ref (ad 17), .int (nI wo), .ref (ad 18), .ref (ad 19)]) := (hf_1082 0 (by omega)).trans es1081
      refine hp_get hx hb hts ix12 hown hK hh (q := 0) rfl (hI.1 _ (by decide)) es1081_1083 rfl 4 (by decide) (hts _ tw_883) (fun _ h9 => h9) rfl dX12_isSpent_4 ?_
      refine lv_icmp_ge (tgt := 23) hx hb dX12_isSpent_7 (by decide) (fun c_1084 => ?_) (fun c_1084 => ?_)
      · have n_1084 : tb ≤ j1082 := n_le (a := tb) (b := j1082) c_1084 (by omega) (by omega)
        refine lv_iconst (v := 1) hx hb dX12_isSpent_23 (by decide) ?_
        refine lv_istore_n (lv' := [(2, .int 1), (0, .ref (ad 0)), (1, .int (nI n))]) hx hb dX12_isSpent_24 rfl hl (by decide) rfl (fun ls hl => ?_)
        have loop_1085 : ∀ (fu j1085 : Nat)  (en_1085 : Nat → va_E) (ls : Array Slot) (H : Heap) (locs : List Loc), 1 ≤ j1085 → j1085 ≤ 8 → 8 < j1085 + fu → RX cy cs ad en_1085 → (∀ c, (c ≠ 8 ∧ c ≠ 9) → en_1085 c = en c) →  lv_has ls 5 [(2, .int (nI j1085)), (0, .ref (ad 0)), (1, .int (nI n))] → Hp D (Af cs ad sz) (Af cs ad sz) s.heap H locs cs ad en_1085 → W p l e (headSpec (Cond.code yX12_isSpent cX12_isSpent 5 (some .boolean) :: TB) (rmN 1)).room s m ([.ref (ad 0), .int (nI n)] : List Value).toArray below meth c H locs 0 0 (MQ below (va_Qi (S := Nat → va_E) (fun r en1 => RX cy cs ad en1 ∧ (∀ c, (c ≠ 8 ∧ c ≠ 9) → en1 c = en c) ∧ (r = 0 ∨ r = 1)) (PostM D cs ad) (Af cs ad sz)) ([.ref (ad 0), .int (nI n)] : List Value).toArray s 0 0 (Af cs ad sz)) (F0 m 25 ls []) := by
          intro fu
          induction fu with
          | zero => intro j1085  en_1085 ls H locs h0 h1 h2; exact absurd h2 (by omega)
          | succ fu ih_1085 =>
            intro j1085  en_1085 ls H locs hj0_1085 hj_1085 hfu_1085 hI_1085 hf_1085  hl hh
            refine lv_iload_n hx hb dX12_isSpent_25 rfl (lv_at hl 0 rfl) ?_
            refine lv_iload_n hx hb dX12_isSpent_26 rfl (lv_at hl 2 rfl) ?_
            refine lv_icmp_ge (tgt := 135) hx hb dX12_isSpent_27 (by decide) (fun c_1086 => ?_) (fun c_1086 => ?_)
            · have n_1086 : n ≤ j1085 := n_le (a := n) (b := j1085) c_1086 (by omega) (by omega)
              refine lv_lconst (v := 0) hx hb dX12_isSpent_135 (by decide) ?_
              refine lv_lstore_n (lv' := [(2, .long 0), (0, .ref (ad 0)), (1, .int (nI n))]) hx hb dX12_isSpent_136 rfl hl (by decide) rfl (fun ls hl => ?_)
              refine lv_iconst (v := 0) hx hb dX12_isSpent_137 (by decide) ?_
              refine lv_istore (lv' := [(4, .int 0), (2, .long 0), (0, .ref (ad 0)), (1, .int (nI n))]) hx hb dX12_isSpent_138 hl (by decide) rfl (fun ls hl => ?_)
              have loop_1087 : ∀ (fu j1087 : Nat) (al1087 : Int64) (en_1087 : Nat → va_E) (ls : Array Slot) (H : Heap) (locs : List Loc), 0 ≤ j1087 → j1087 ≤ 6 → 6 < j1087 + fu → RX cy cs ad en_1087 → (∀ c, (c ≠ 8 ∧ c ≠ 9) → en_1087 c = en c) →  lv_has ls 5 [(4, .int (nI j1087)), (2, .long al1087), (0, .ref (ad 0)), (1, .int (nI n))] → Hp D (Af cs ad sz) (Af cs ad sz) s.heap H locs cs ad en_1087 → W p l e (headSpec (Cond.code yX12_isSpent cX12_isSpent 5 (some .boolean) :: TB) (rmN 1)).room s m ([.ref (ad 0), .int (nI n)] : List Value).toArray below meth c H locs 0 0 (MQ below (va_Qi (S := Nat → va_E) (fun r en1 => RX cy cs ad en1 ∧ (∀ c, (c ≠ 8 ∧ c ≠ 9) → en1 c = en c) ∧ (r = 0 ∨ r = 1)) (PostM D cs ad) (Af cs ad sz)) ([.ref (ad 0), .int (nI n)] : List Value).toArray s 0 0 (Af cs ad sz)) (F0 m 140 ls []) := by
                intro fu
                induction fu with
                | zero => intro j1087 al1087 en_1087 ls H locs h0 h1 h2; exact absurd h2 (by omega)
                | succ fu ih_1087 =>
                  intro j1087 al1087 en_1087 ls H locs hj0_1087 hj_1087 hfu_1087 hI_1087 hf_1087  hl hh
                  refine lv_iload hx hb dX12_isSpent_140 (lv_at hl 0 rfl) ?_
                  refine lv_aload_n hx hb dX12_isSpent_142 rfl (lv_at hl 2 rfl) ?_
                  have es1081_1088 : en_1087 0 = .inr (11, [.int fa, .int hi, .int (nI wd), .int (nI mo), .int (nI tb), .ref (ad 1), .ref (ad 2), .ref (ad 3), .ref (ad 4), .ref (ad 5), .ref (ad 6), .ref (ad 7), .ref (ad 8), .ref (ad 9), .int dp, .long many, .long grt, .long lst, .long nou, .ref (ad 10), .ref (ad 11), .ref (ad 12), .int rm, .long rb, .ref (ad 13), .int pr, .ref (ad 14), .ref (ad 15), .ref (ad 16), .ref (ad 17), .int (nI wo), .ref (ad 18), .ref (ad 19)]) := (hf_1087 0 (by omega)).trans es1081
                  refine hp_get hx hb hts ix12 hown hK hh (q := 0) rfl (hI.1 _ (by decide)) es1081_1088 rfl 4 (by decide) (hts _ tw_883) (fun _ h9 => h9) rfl dX12_isSpent_143 ?_
                  refine lv_icmp_ge (tgt := 165) hx hb dX12_isSpent_146 (by decide) (fun c_1089 => ?_) (fun c_1089 => ?_)
                  · have n_1089 : tb ≤ j1087 := n_le (a := tb) (b := j1087) c_1089 (by omega) (by omega)
                    refine lv_lload_n hx hb dX12_isSpent_165 rfl (lv_at hl 1 rfl) ?_
                    refine lv_ldc2 hx hb hown (hts _ tw_1033) dX12_isSpent_166 ?_
                    refine W.lcmp hx hb dX12_isSpent_169 ?_
                    refine lv_if_le (tgt := 177) hx hb dX12_isSpent_170 (by decide) (fun c_1090 => ?_) (fun c_1090 => ?_)
                    · refine lv_iconst (v := 0) hx hb dX12_isSpent_177 (by decide) ?_
                      exact hp_iretM hx hb hr rfl hlocks hh (⟨hI_1087, hf_1087, Or.inl rfl⟩) dX12_isSpent_178
                    · refine lv_iconst (v := 1) hx hb dX12_isSpent_173 (by decide) ?_
                      refine lv_goto (tgt := 178) hx hb dX12_isSpent_174 (by decide) ?_
                      exact hp_iretM hx hb hr rfl hlocks hh (⟨hI_1087, hf_1087, Or.inr rfl⟩) dX12_isSpent_178
                  · have n_1089 : j1087 < tb := n_nle (a := tb) (b := j1087) c_1089 (by omega) (by omega)
                    refine lv_lload_n hx hb dX12_isSpent_149 rfl (lv_at hl 1 rfl) ?_
                    refine lv_aload_n hx hb dX12_isSpent_150 rfl (lv_at hl 2 rfl) ?_
                    refine hp_get hx hb hts ix12 hown hK hh (q := 0) rfl (hI.1 _ (by decide)) es1081_1088 rfl 12 (by decide) (hts _ tw_891) (fun _ h9 => h9) rfl dX12_isSpent_151 ?_
                    refine lv_iload hx hb dX12_isSpent_154 (lv_at hl 0 rfl) ?_
                    obtain ⟨f_1091, es1091⟩ := getr_wy hI_1087
                    refine hp_lald hx hb hK hh (q := 8) rfl (hI.1 _ (by decide)) es1091 (vp_in_nI (n := j1087) (by omega) (by decide)) dX12_isSpent_156 ?_
                    rw [nI_clamp (n := j1087) (by omega)]
                    refine lv_ladd hx hb dX12_isSpent_157 ?_
                    refine lv_lstore_n (lv' := [(2, .long (al1087 + (f_1091 j1087))), (4, .int (nI j1087)), (0, .ref (ad 0)), (1, .int (nI n))]) hx hb dX12_isSpent_158 rfl hl (by decide) rfl (fun ls hl => ?_)
                    refine lv_iinc (v := (nI (j1087 + 1))) (lv' := [(4, .int (nI (j1087 + 1))), (2, .long (al1087 + (f_1091 j1087))), (0, .ref (ad 0)), (1, .int (nI n))]) hx hb dX12_isSpent_159 hl (k := 1) rfl (nI_1 _) (by decide) rfl (fun ls hl => ?_)
                    refine lv_goto (tgt := 140) hx hb dX12_isSpent_162 (by decide) ?_
                    exact ih_1087 ((j1087 + 1)) (al1087 + (f_1091 j1087)) en_1087 ls H locs (by omega) (by omega) (by omega) hI_1087 hf_1087  (lv_sub hl [0, 1, 2, 3] rfl) hh
              exact loop_1087 (6 + 1) 0 0 en_1085 ls _ _ (Nat.le_refl _) (by omega) (by omega) hI_1085 hf_1085  (lv_sub hl [0, 1, 2, 3] rfl) hh
            · have n_1086 : j1085 < n := n_nle (a := n) (b := j1085) c_1086 (by omega) (by omega)
              refine lv_iconst (v := 0) hx hb dX12_isSpent_30 (by decide) ?_
              refine lv_istore_n (lv' := [(3, .int 0), (2, .int (nI j1085)), (0, .ref (ad 0)), (1, .int (nI n))]) hx hb dX12_isSpent_31 rfl hl (by decide) rfl (fun ls hl => ?_)
              have loop_1092 : ∀ (fu j1092 : Nat)  (en_1092 : Nat → va_E) (ls : Array Slot) (H : Heap) (locs : List Loc), 0 ≤ j1092 → j1092 ≤ 6 → 6 < j1092 + fu → RX cy cs ad en_1092 → (∀ c, (c ≠ 8 ∧ c ≠ 9) → en_1092 c = en c) →  lv_has ls 5 [(3, .int (nI j1092)), (2, .int (nI j1085)), (0, .ref (ad 0)), (1, .int (nI n))] → Hp D (Af cs ad sz) (Af cs ad sz) s.heap H locs cs ad en_1092 → W p l e (headSpec (Cond.code yX12_isSpent cX12_isSpent 5 (some .boolean) :: TB) (rmN 1)).room s m ([.ref (ad 0), .int (nI n)] : List Value).toArray below meth c H locs 0 0 (MQ below (va_Qi (S := Nat → va_E) (fun r en1 => RX cy cs ad en1 ∧ (∀ c, (c ≠ 8 ∧ c ≠ 9) → en1 c = en c) ∧ (r = 0 ∨ r = 1)) (PostM D cs ad) (Af cs ad sz)) ([.ref (ad 0), .int (nI n)] : List Value).toArray s 0 0 (Af cs ad sz)) (F0 m 32 ls []) := by
                intro fu
                induction fu with
                | zero => intro j1092  en_1092 ls H locs h0 h1 h2; exact absurd h2 (by omega)
                | succ fu ih_1092 =>
                  intro j1092  en_1092 ls H locs hj0_1092 hj_1092 hfu_1092 hI_1092 hf_1092  hl hh
                  refine lv_iload_n hx hb dX12_isSpent_32 rfl (lv_at hl 0 rfl) ?_
                  refine lv_aload_n hx hb dX12_isSpent_33 rfl (lv_at hl 2 rfl) ?_
                  have es1081_1093 : en_1092 0 = .inr (11, [.int fa, .int hi, .int (nI wd), .int (nI mo), .int (nI tb), .ref (ad 1), .ref (ad 2), .ref (ad 3), .ref (ad 4), .ref (ad 5), .ref (ad 6), .ref (ad 7), .ref (ad 8), .ref (ad 9), .int dp, .long many, .long grt, .long lst, .long nou, .ref (ad 10), .ref (ad 11), .ref (ad 12), .int rm, .long rb, .ref (ad 13), .int pr, .ref (ad 14), .ref (ad 15), .ref (ad 16), .ref (ad 17), .int (nI wo), .ref (ad 18), .ref (ad 19)]) := (hf_1092 0 (by omega)).trans es1081
                  refine hp_get hx hb hts ix12 hown hK hh (q := 0) rfl (hI.1 _ (by decide)) es1081_1093 rfl 4 (by decide) (hts _ tw_883) (fun _ h9 => h9) rfl dX12_isSpent_34 ?_
                  refine lv_icmp_ge (tgt := 101) hx hb dX12_isSpent_37 (by decide) (fun c_1094 => ?_) (fun c_1094 => ?_)
                  · have n_1094 : tb ≤ j1092 := n_le (a := tb) (b := j1092) c_1094 (by omega) (by omega)
                    refine lv_iconst (v := 0) hx hb dX12_isSpent_101 (by decide) ?_
                    refine lv_istore_n (lv' := [(3, .int 0), (2, .int (nI j1085)), (0, .ref (ad 0)), (1, .int (nI n))]) hx hb dX12_isSpent_102 rfl hl (by decide) rfl (fun ls hl => ?_)
                    have loop_1095 : ∀ (fu j1095 : Nat)  (en_1095 : Nat → va_E) (ls : Array Slot) (H : Heap) (locs : List Loc), 0 ≤ j1095 → j1095 ≤ 6 → 6 < j1095 + fu → RX cy cs ad en_1095 → (∀ c, (c ≠ 8 ∧ c ≠ 9) → en_1095 c = en c) →  lv_has ls 5 [(3, .int (nI j1095)), (2, .int (nI j1085)), (0, .ref (ad 0)), (1, .int (nI n))] → Hp D (Af cs ad sz) (Af cs ad sz) s.heap H locs cs ad en_1095 → W p l e (headSpec (Cond.code yX12_isSpent cX12_isSpent 5 (some .boolean) :: TB) (rmN 1)).room s m ([.ref (ad 0), .int (nI n)] : List Value).toArray below meth c H locs 0 0 (MQ below (va_Qi (S := Nat → va_E) (fun r en1 => RX cy cs ad en1 ∧ (∀ c, (c ≠ 8 ∧ c ≠ 9) → en1 c = en c) ∧ (r = 0 ∨ r = 1)) (PostM D cs ad) (Af cs ad sz)) ([.ref (ad 0), .int (nI n)] : List Value).toArray s 0 0 (Af cs ad sz)) (F0 m 103 ls []) := by
                      intro fu
                      induction fu with
                      | zero => intro j1095  en_1095 ls H locs h0 h1 h2; exact absurd h2 (by omega)
                      | succ fu ih_1095 =>
                        intro j1095  en_1095 ls H locs hj0_1095 hj_1095 hfu_1095 hI_1095 hf_1095  hl hh
                        refine lv_iload_n hx hb dX12_isSpent_103 rfl (lv_at hl 0 rfl) ?_
                        refine lv_aload_n hx hb dX12_isSpent_104 rfl (lv_at hl 2 rfl) ?_
                        have es1081_1096 : en_1095 0 = .inr (11, [.int fa, .int hi, .int (nI wd), .int (nI mo), .int (nI tb), .ref (ad 1), .ref (ad 2), .ref (ad 3), .ref (ad 4), .ref (ad 5), .ref (ad 6), .ref (ad 7), .ref (ad 8), .ref (ad 9), .int dp, .long many, .long grt, .long lst, .long nou, .ref (ad 10), .ref (ad 11), .ref (ad 12), .int rm, .long rb, .ref (ad 13), .int pr, .ref (ad 14), .ref (ad 15), .ref (ad 16), .ref (ad 17), .int (nI wo), .ref (ad 18), .ref (ad 19)]) := (hf_1095 0 (by omega)).trans es1081
                        refine hp_get hx hb hts ix12 hown hK hh (q := 0) rfl (hI.1 _ (by decide)) es1081_1096 rfl 4 (by decide) (hts _ tw_883) (fun _ h9 => h9) rfl dX12_isSpent_105 ?_
                        refine lv_icmp_ge (tgt := 129) hx hb dX12_isSpent_108 (by decide) (fun c_1097 => ?_) (fun c_1097 => ?_)
                        · have n_1097 : tb ≤ j1095 := n_le (a := tb) (b := j1095) c_1097 (by omega) (by omega)
                          refine lv_iinc (v := (nI (j1085 + 1))) (lv' := [(2, .int (nI (j1085 + 1))), (3, .int (nI j1095)), (0, .ref (ad 0)), (1, .int (nI n))]) hx hb dX12_isSpent_129 hl (k := 1) rfl (nI_1 _) (by decide) rfl (fun ls hl => ?_)
                          refine lv_goto (tgt := 25) hx hb dX12_isSpent_132 (by decide) ?_
                          exact ih_1085 ((j1085 + 1))  en_1095 ls H locs (by omega) (by omega) (by omega) hI_1095 hf_1095  (lv_sub hl [0, 2, 3] rfl) hh
                        · have n_1097 : j1095 < tb := n_nle (a := tb) (b := j1095) c_1097 (by omega) (by omega)
                          refine lv_aload_n hx hb dX12_isSpent_111 rfl (lv_at hl 2 rfl) ?_
                          refine hp_get hx hb hts ix12 hown hK hh (q := 0) rfl (hI.1 _ (by decide)) es1081_1096 rfl 12 (by decide) (hts _ tw_891) (fun _ h9 => h9) rfl dX12_isSpent_112 ?_
                          refine lv_iload_n hx hb dX12_isSpent_115 rfl (lv_at hl 0 rfl) ?_
                          refine lv_aload_n hx hb dX12_isSpent_116 rfl (lv_at hl 2 rfl) ?_
                          refine hp_get hx hb hts ix12 hown hK hh (q := 0) rfl (hI.1 _ (by decide)) es1081_1096 rfl 13 (by decide) (hts _ tw_892) (fun _ h9 => h9) rfl dX12_isSpent_117 ?_
                          refine lv_iload_n hx hb dX12_isSpent_120 rfl (lv_at hl 0 rfl) ?_
                          obtain ⟨f_1098, es1098⟩ := getr_mw hI_1095
                          refine hp_lald hx hb hK hh (q := 9) rfl (hI.1 _ (by decide)) es1098 (vp_in_nI (n := j1095) (by omega) (by decide)) dX12_isSpent_121 ?_
                          rw [nI_clamp (n := j1095) (by omega)]
                          obtain ⟨f_1099, es1099⟩ := getr_wy hI_1095
                          refine hp_last hx hb hK hh (q := 8) rfl (hI.1 _ (by decide)) es1099 (vp_in_nI (n := j1095) (by omega) (by decide)) dX12_isSpent_122 (fun H locs en_1100 hen_1100 hh => ?_)
                          rw [nI_clamp (n := j1095) (by omega)] at hen_1100
                          have es1081_1100 : en_1100 0 = .inr (11, [.int fa, .int hi, .int (nI wd), .int (nI mo), .int (nI tb), .ref (ad 1), .ref (ad 2), .ref (ad 3), .ref (ad 4), .ref (ad 5), .ref (ad 6), .ref (ad 7), .ref (ad 8), .ref (ad 9), .int dp, .long many, .long grt, .long lst, .long nou, .ref (ad 10), .ref (ad 11), .ref (ad 12), .int rm, .long rb, .ref (ad 13), .int pr, .ref (ad 14), .ref (ad 15), .ref (ad 16), .ref (ad 17), .int (nI wo), .ref (ad 18), .ref (ad 19)]) := by rw [hen_1100, va_up_ne _ _ (by decide)]; exact es1081_1096
                          have es1098_1100 : en_1100 9 = .inl (cy 1, 6, .inr (.inl f_1098)) := by rw [hen_1100, va_up_ne _ _ (by decide)]; exact es1098
                          have es1099_1100 : en_1100 8 = .inl (cy 1, 6, .inr (.inl (vp_updL f_1099 j1095 (f_1098 j1095)))) := by rw [hen_1100]; exact va_up_self _ _ _
                          have hI_1100 : RX cy cs ad en_1100 := by rw [hen_1100]; exact upr_wy hI_1095 ⟨(vp_updL f_1099 j1095 (f_1098 j1095)), rfl⟩
                          have hf_1100 : ∀ c, (c ≠ 8 ∧ c ≠ 9) → en_1100 c = en c := fun c hc => Eq.trans (show en_1100 c = en_1095 c from by rw [hen_1100, va_up_ne _ _ (by omega)]) (hf_1095 c hc)
                          refine lv_iinc (v := (nI (j1095 + 1))) (lv' := [(3, .int (nI (j1095 + 1))), (2, .int (nI j1085)), (0, .ref (ad 0)), (1, .int (nI n))]) hx hb dX12_isSpent_123 hl (k := 0) rfl (nI_1 _) (by decide) rfl (fun ls hl => ?_)
                          refine lv_goto (tgt := 103) hx hb dX12_isSpent_126 (by decide) ?_
                          exact ih_1095 ((j1095 + 1))  en_1100 ls H locs (by omega) (by omega) (by omega) hI_1100 hf_1100  (lv_sub hl [0, 1, 2, 3] rfl) hh
                    exact loop_1095 (6 + 1) 0  en_1092 ls _ _ (Nat.le_refl _) (by omega) (by omega) hI_1092 hf_1092  (lv_sub hl [0, 1, 2, 3] rfl) hh
                  · have n_1094 : j1092 < tb := n_nle (a := tb) (b := j1092) c_1094 (by omega) (by omega)
                    refine lv_aload_n hx hb dX12_isSpent_40 rfl (lv_at hl 2 rfl) ?_
                    refine hp_get hx hb hts ix12 hown hK hh (q := 0) rfl (hI.1 _ (by decide)) es1081_1093 rfl 13 (by decide) (hts _ tw_892) (fun _ h9 => h9) rfl dX12_isSpent_41 ?_
                    refine lv_iload_n hx hb dX12_isSpent_44 rfl (lv_at hl 0 rfl) ?_
                    refine lv_lconst (v := 0) hx hb dX12_isSpent_45 (by decide) ?_
                    obtain ⟨f_1101, es1101⟩ := getr_mw hI_1092
                    refine hp_last hx hb hK hh (q := 9) rfl (hI.1 _ (by decide)) es1101 (vp_in_nI (n := j1092) (by omega) (by decide)) dX12_isSpent_46 (fun H locs en_1102 hen_1102 hh => ?_)
                    rw [nI_clamp (n := j1092) (by omega)] at hen_1102
                    have es1081_1102 : en_1102 0 = .inr (11, [.int fa, .int hi, .int (nI wd), .int (nI mo), .int (nI tb), .ref (ad 1), .ref (ad 2), .ref (ad 3), .ref (ad 4), .ref (ad 5), .ref (ad 6), .ref (ad 7), .ref (ad 8), .ref (ad 9), .int dp, .long many, .long grt, .long lst, .long nou, .ref (ad 10), .ref (ad 11), .ref (ad 12), .int rm, .long rb, .ref (ad 13), .int pr, .ref (ad 14), .ref (ad 15), .ref (ad 16), .ref (ad 17), .int (nI wo), .ref (ad 18), .ref (ad 19)]) := by rw [hen_1102, va_up_ne _ _ (by decide)]; exact es1081_1093
                    have es1101_1102 : en_1102 9 = .inl (cy 1, 6, .inr (.inl (vp_updL f_1101 j1092 0))) := by rw [hen_1102]; exact va_up_self _ _ _
                    have hI_1102 : RX cy cs ad en_1102 := by rw [hen_1102]; exact upr_mw hI_1092 ⟨(vp_updL f_1101 j1092 0), rfl⟩
                    have hf_1102 : ∀ c, (c ≠ 8 ∧ c ≠ 9) → en_1102 c = en c := fun c hc => Eq.trans (show en_1102 c = en_1092 c from by rw [hen_1102, va_up_ne _ _ (by omega)]) (hf_1092 c hc)
                    refine lv_iconst (v := 0) hx hb dX12_isSpent_47 (by decide) ?_
                    refine lv_istore (lv' := [(4, .int 0), (3, .int (nI j1092)), (2, .int (nI j1085)), (0, .ref (ad 0)), (1, .int (nI n))]) hx hb dX12_isSpent_48 hl (by decide) rfl (fun ls hl => ?_)
                    have loop_1103 : ∀ (fu j1103 : Nat)  (en_1103 : Nat → va_E) (ls : Array Slot) (H : Heap) (locs : List Loc), 0 ≤ j1103 → j1103 ≤ 6 → 6 < j1103 + fu → RX cy cs ad en_1103 → (∀ c, (c ≠ 8 ∧ c ≠ 9) → en_1103 c = en c) →  lv_has ls 5 [(4, .int (nI j1103)), (3, .int (nI j1092)), (2, .int (nI j1085)), (0, .ref (ad 0)), (1, .int (nI n))] → Hp D (Af cs ad sz) (Af cs ad sz) s.heap H locs cs ad en_1103 → W p l e (headSpec (Cond.code yX12_isSpent cX12_isSpent 5 (some .boolean) :: TB) (rmN 1)).room s m ([.ref (ad 0), .int (nI n)] : List Value).toArray below meth c H locs 0 0 (MQ below (va_Qi (S := Nat → va_E) (fun r en1 => RX cy cs ad en1 ∧ (∀ c, (c ≠ 8 ∧ c ≠ 9) → en1 c = en c) ∧ (r = 0 ∨ r = 1)) (PostM D cs ad) (Af cs ad sz)) ([.ref (ad 0), .int (nI n)] : List Value).toArray s 0 0 (Af cs ad sz)) (F0 m 50 ls []) := by
                      intro fu
                      induction fu with
                      | zero => intro j1103  en_1103 ls H locs h0 h1 h2; exact absurd h2 (by omega)
                      | succ fu ih_1103 =>
                        intro j1103  en_1103 ls H locs hj0_1103 hj_1103 hfu_1103 hI_1103 hf_1103  hl hh
                        refine lv_iload hx hb dX12_isSpent_50 (lv_at hl 0 rfl) ?_
                        refine lv_aload_n hx hb dX12_isSpent_52 rfl (lv_at hl 3 rfl) ?_
                        have es1081_1104 : en_1103 0 = .inr (11, [.int fa, .int hi, .int (nI wd), .int (nI mo), .int (nI tb), .ref (ad 1), .ref (ad 2), .ref (ad 3), .ref (ad 4), .ref (ad 5), .ref (ad 6), .ref (ad 7), .ref (ad 8), .ref (ad 9), .int dp, .long many, .long grt, .long lst, .long nou, .ref (ad 10), .ref (ad 11), .ref (ad 12), .int rm, .long rb, .ref (ad 13), .int pr, .ref (ad 14), .ref (ad 15), .ref (ad 16), .ref (ad 17), .int (nI wo), .ref (ad 18), .ref (ad 19)]) := (hf_1103 0 (by omega)).trans es1081
                        refine hp_get hx hb hts ix12 hown hK hh (q := 0) rfl (hI.1 _ (by decide)) es1081_1104 rfl 4 (by decide) (hts _ tw_883) (fun _ h9 => h9) rfl dX12_isSpent_53 ?_
                        refine lv_icmp_ge (tgt := 95) hx hb dX12_isSpent_56 (by decide) (fun c_1105 => ?_) (fun c_1105 => ?_)
                        · have n_1105 : tb ≤ j1103 := n_le (a := tb) (b := j1103) c_1105 (by omega) (by omega)
                          refine lv_iinc (v := (nI (j1092 + 1))) (lv' := [(3, .int (nI (j1092 + 1))), (4, .int (nI j1103)), (2, .int (nI j1085)), (0, .ref (ad 0)), (1, .int (nI n))]) hx hb dX12_isSpent_95 hl (k := 1) rfl (nI_1 _) (by decide) rfl (fun ls hl => ?_)
                          refine lv_goto (tgt := 32) hx hb dX12_isSpent_98 (by decide) ?_
                          exact ih_1092 ((j1092 + 1))  en_1103 ls H locs (by omega) (by omega) (by omega) hI_1103 hf_1103  (lv_sub hl [0, 2, 3, 4] rfl) hh
                        · have n_1105 : j1103 < tb := n_nle (a := tb) (b := j1103) c_1105 (by omega) (by omega)
                          refine lv_aload_n hx hb dX12_isSpent_59 rfl (lv_at hl 3 rfl) ?_
                          refine hp_get hx hb hts ix12 hown hK hh (q := 0) rfl (hI.1 _ (by decide)) es1081_1104 rfl 13 (by decide) (hts _ tw_892) (fun _ h9 => h9) rfl dX12_isSpent_60 ?_
                          refine lv_iload_n hx hb dX12_isSpent_63 rfl (lv_at hl 1 rfl) ?_
                          refine lv_dup2_11 hx hb dX12_isSpent_64 rfl rfl ?_
                          obtain ⟨f_1106, es1106⟩ := getr_mw hI_1103
                          refine hp_lald hx hb hK hh (q := 9) rfl (hI.1 _ (by decide)) es1106 (vp_in_nI (n := j1092) (by omega) (by decide)) dX12_isSpent_65 ?_
                          rw [nI_clamp (n := j1092) (by omega)]
                          refine lv_aload_n hx hb dX12_isSpent_66 rfl (lv_at hl 3 rfl) ?_
                          refine lv_iload hx hb dX12_isSpent_67 (lv_at hl 0 rfl) ?_
                          refine lv_iload_n hx hb dX12_isSpent_69 rfl (lv_at hl 1 rfl) ?_
                          refine hp_callRi (va_runV (As := [.int (nI j1103), .int (nI j1092)]) (rest := [.long (f_1106 j1092), .int (nI j1092), .ref (ad 9)]) ⟨hx, hb, hml, hown, hts⟩ (c_X12_mayFollow l D cy _ cs ad en_1103 hI_1103 j1103 j1092 (by omega) (by omega)) (kw_X12_mayFollow hts tw_1029 ⟨by decide, by decide⟩) (preV_of hh hK (hI.1 _ (by decide)) es1081_1104 rfl) rfl rfl hl.1 rfl (lv_room (Nat.le_of_ble_eq_true rfl)) dX12_isSpent_70 ⟨Nat.le_of_ble_eq_true rfl, Nat.le_of_ble_eq_true rfl⟩) hh hA (fun r_1107 H locs hw_1107 hh => ?_)
                          rcases Decidable.em (rdF (en_1103 2) (6 * j1103 + j1092) = 0) with hp_1107 | hp_1107
                          · obtain rfl : r_1107 = 1 := Eq.trans hw_1107 (if_pos hp_1107)
                            refine lv_if_eq (tgt := 86) hx hb dX12_isSpent_73 (by decide) (fun c_0 => absurd c_0 (by decide)) (fun _ => ?_)
                            refine lv_aload_n hx hb dX12_isSpent_76 rfl (lv_at hl 3 rfl) ?_
                            refine hp_get hx hb hts ix12 hown hK hh (q := 0) rfl (hI.1 _ (by decide)) es1081_1104 rfl 12 (by decide) (hts _ tw_891) (fun _ h9 => h9) rfl dX12_isSpent_77 ?_
                            refine lv_iload hx hb dX12_isSpent_80 (lv_at hl 0 rfl) ?_
                            obtain ⟨f_1108, es1108⟩ := getr_wy hI_1103
                            refine hp_lald hx hb hK hh (q := 8) rfl (hI.1 _ (by decide)) es1108 (vp_in_nI (n := j1103) (by omega) (by decide)) dX12_isSpent_82 ?_
                            rw [nI_clamp (n := j1103) (by omega)]
                            refine lv_goto (tgt := 87) hx hb dX12_isSpent_83 (by decide) ?_
                            refine lv_ladd hx hb dX12_isSpent_87 ?_
                            refine hp_last hx hb hK hh (q := 9) rfl (hI.1 _ (by decide)) es1106 (vp_in_nI (n := j1092) (by omega) (by decide)) dX12_isSpent_88 (fun H locs en_1109 hen_1109 hh => ?_)
                            rw [nI_clamp (n := j1092) (by omega)] at hen_1109
                            have es1081_1109 : en_1109 0 = .inr (11, [.int fa, .int hi, .int (nI wd), .int (nI mo), .int (nI tb), .ref (ad 1), .ref (ad 2), .ref (ad 3), .ref (ad 4), .ref (ad 5), .ref (ad 6), .ref (ad 7), .ref (ad 8), .ref (ad 9), .int dp, .long many, .long grt, .long lst, .long nou, .ref (ad 10), .ref (ad 11), .ref (ad 12), .int rm, .long rb, .ref (ad 13), .int pr, .ref (ad 14), .ref (ad 15), .ref (ad 16), .ref (ad 17), .int (nI wo), .ref (ad 18), .ref (ad 19)]) := by rw [hen_1109, va_up_ne _ _ (by decide)]; exact es1081_1104
                            have es1108_1109 : en_1109 8 = .inl (cy 1, 6, .inr (.inl f_1108)) := by rw [hen_1109, va_up_ne _ _ (by decide)]; exact es1108
                            have es1106_1109 : en_1109 9 = .inl (cy 1, 6, .inr (.inl (vp_updL f_1106 j1092 ((f_1106 j1092) + (f_1108 j1103))))) := by rw [hen_1109]; exact va_up_self _ _ _
                            have hI_1109 : RX cy cs ad en_1109 := by rw [hen_1109]; exact upr_mw hI_1103 ⟨(vp_updL f_1106 j1092 ((f_1106 j1092) + (f_1108 j1103))), rfl⟩
                            have hf_1109 : ∀ c, (c ≠ 8 ∧ c ≠ 9) → en_1109 c = en c := fun c hc => Eq.trans (show en_1109 c = en_1103 c from by rw [hen_1109, va_up_ne _ _ (by omega)]) (hf_1103 c hc)
                            refine lv_iinc (v := (nI (j1103 + 1))) (lv' := [(4, .int (nI (j1103 + 1))), (3, .int (nI j1092)), (2, .int (nI j1085)), (0, .ref (ad 0)), (1, .int (nI n))]) hx hb dX12_isSpent_89 hl (k := 0) rfl (nI_1 _) (by decide) rfl (fun ls hl => ?_)
                            refine lv_goto (tgt := 50) hx hb dX12_isSpent_92 (by decide) ?_
                            exact ih_1103 ((j1103 + 1))  en_1109 ls H locs (by omega) (by omega) (by omega) hI_1109 hf_1109  (lv_sub hl [0, 1, 2, 3, 4] rfl) hh
                          · obtain rfl : r_1107 = 0 := Eq.trans hw_1107 (if_neg hp_1107)
                            refine lv_if_eq (tgt := 86) hx hb dX12_isSpent_73 (by decide) (fun _ => ?_) (fun c_0 => absurd c_0 (by decide))
                            refine lv_lconst (v := 0) hx hb dX12_isSpent_86 (by decide) ?_
                            refine lv_ladd hx hb dX12_isSpent_87 ?_
                            refine hp_last hx hb hK hh (q := 9) rfl (hI.1 _ (by decide)) es1106 (vp_in_nI (n := j1092) (by omega) (by decide)) dX12_isSpent_88 (fun H locs en_1110 hen_1110 hh => ?_)
                            rw [nI_clamp (n := j1092) (by omega)] at hen_1110
                            have es1081_1110 : en_1110 0 = .inr (11, [.int fa, .int hi, .int (nI wd), .int (nI mo), .int (nI tb), .ref (ad 1), .ref (ad 2), .ref (ad 3), .ref (ad 4), .ref (ad 5), .ref (ad 6), .ref (ad 7), .ref (ad 8), .ref (ad 9), .int dp, .long many, .long grt, .long lst, .long nou, .ref (ad 10), .ref (ad 11), .ref (ad 12), .int rm, .long rb, .ref (ad 13), .int pr, .ref (ad 14), .ref (ad 15), .ref (ad 16), .ref (ad 17), .int (nI wo), .ref (ad 18), .ref (ad 19)]) := by rw [hen_1110, va_up_ne _ _ (by decide)]; exact es1081_1104
                            have es1106_1110 : en_1110 9 = .inl (cy 1, 6, .inr (.inl (vp_updL f_1106 j1092 ((f_1106 j1092) + 0)))) := by rw [hen_1110]; exact va_up_self _ _ _
                            have hI_1110 : RX cy cs ad en_1110 := by rw [hen_1110]; exact upr_mw hI_1103 ⟨(vp_updL f_1106 j1092 ((f_1106 j1092) + 0)), rfl⟩
                            have hf_1110 : ∀ c, (c ≠ 8 ∧ c ≠ 9) → en_1110 c = en c := fun c hc => Eq.trans (show en_1110 c = en_1103 c from by rw [hen_1110, va_up_ne _ _ (by omega)]) (hf_1103 c hc)
                            refine lv_iinc (v := (nI (j1103 + 1))) (lv' := [(4, .int (nI (j1103 + 1))), (3, .int (nI j1092)), (2, .int (nI j1085)), (0, .ref (ad 0)), (1, .int (nI n))]) hx hb dX12_isSpent_89 hl (k := 0) rfl (nI_1 _) (by decide) rfl (fun ls hl => ?_)
                            refine lv_goto (tgt := 50) hx hb dX12_isSpent_92 (by decide) ?_
                            exact ih_1103 ((j1103 + 1))  en_1110 ls H locs (by omega) (by omega) (by omega) hI_1110 hf_1110  (lv_sub hl [0, 1, 2, 3, 4] rfl) hh
                    exact loop_1103 (6 + 1) 0  en_1102 ls _ _ (Nat.le_refl _) (by omega) (by omega) hI_1102 hf_1102  (lv_sub hl [0, 1, 2, 3, 4] rfl) hh
              exact loop_1092 (6 + 1) 0  en_1085 ls _ _ (Nat.le_refl _) (by omega) (by omega) hI_1085 hf_1085  (lv_sub hl [0, 1, 2, 3] rfl) hh
        exact loop_1085 (8 + 1) 1  en_1082 ls _ _ (Nat.le_refl _) (by omega) (by omega) hI_1082 hf_1082  (lv_sub hl [0, 1, 2] rfl) hh
      · have n_1084 : j1082 < tb := n_nle (a := tb) (b := j1082) c_1084 (by omega) (by omega)
        refine lv_aload_n hx hb dX12_isSpent_10 rfl (lv_at hl 1 rfl) ?_
        refine hp_get hx hb hts ix12 hown hK hh (q := 0) rfl (hI.1 _ (by decide)) es1081_1083 rfl 12 (by decide) (hts _ tw_891) (fun _ h9 => h9) rfl dX12_isSpent_11 ?_
        refine lv_iload_n hx hb dX12_isSpent_14 rfl (lv_at hl 0 rfl) ?_
        refine lv_lconst (v := 1) hx hb dX12_isSpent_15 (by decide) ?_
        obtain ⟨f_1111, es1111⟩ := getr_wy hI_1082
        refine hp_last hx hb hK hh (q := 8) rfl (hI.1 _ (by decide)) es1111 (vp_in_nI (n := j1082) (by omega) (by decide)) dX12_isSpent_16 (fun H locs en_1112 hen_1112 hh => ?_)
        rw [nI_clamp (n := j1082) (by omega)] at hen_1112
        have es1081_1112 : en_1112 0 = .inr (11, [.int fa, .int hi, .int (nI wd), .int (nI mo), .int (nI tb), .ref (ad 1), .ref (ad 2), .ref (ad 3), .ref (ad 4), .ref (ad 5), .ref (ad 6), .ref (ad 7), .ref (ad 8), .ref (ad 9), .int dp, .long many, .long grt, .long lst, .long nou, .ref (ad 10), .ref (ad 11), .ref (ad 12), .int rm, .long rb, .ref (ad 13), .int pr, .ref (ad 14), .ref (ad 15), .ref (ad 16), .ref (ad 17), .int (nI wo), .ref (ad 18), .ref (ad 19)]) := by rw [hen_1112, va_up_ne _ _ (by decide)]; exact es1081_1083
        have es1111_1112 : en_1112 8 = .inl (cy 1, 6, .inr (.inl (vp_updL f_1111 j1082 1))) := by rw [hen_1112]; exact va_up_self _ _ _
        have hI_1112 : RX cy cs ad en_1112 := by rw [hen_1112]; exact upr_wy hI_1082 ⟨(vp_updL f_1111 j1082 1), rfl⟩
        have hf_1112 : ∀ c, (c ≠ 8 ∧ c ≠ 9) → en_1112 c = en c := fun c hc => Eq.trans (show en_1112 c = en_1082 c from by rw [hen_1112, va_up_ne _ _ (by omega)]) (hf_1082 c hc)
        refine lv_iinc (v := (nI (j1082 + 1))) (lv' := [(2, .int (nI (j1082 + 1))), (0, .ref (ad 0)), (1, .int (nI n))]) hx hb dX12_isSpent_17 hl (k := 0) rfl (nI_1 _) (by decide) rfl (fun ls hl => ?_)
        refine lv_goto (tgt := 2) hx hb dX12_isSpent_20 (by decide) ?_
        exact ih_1082 ((j1082 + 1))  en_1112 ls H locs (by omega) (by omega) (by omega) hI_1112 hf_1112  (lv_sub hl [0, 1, 2] rfl) hh
  exact loop_1082 (6 + 1) 0  en ls _ _ (Nat.le_refl _) (by omega) (by omega) hI hf0  (lv_sub hl [0, 1, 2] rfl) hh
theorem kw_X12_isSpent {R : Room} {s : State} {args : Array Value} {own : String} {idx : Nat} (hts : ∀ w ∈ TB, w.before args s = true) (hl : Cond.methodLink own idx yX12_isSpent ∈ TB) (hR : 1 + 1 ≤ R.frames ∧ 8 + (5 + 11) + 40 * 1 ≤ R.locals) : CallW R s args own RX12 idx yX12_isSpent cX12_isSpent 5 (some .boolean) (Cond.code yX12_isSpent cX12_isSpent 5 (some .boolean) :: TB) (rmN 1) 0 0 1 := cwV 1 hts (TB_V hl tw_1027 ts_35 tw_9 tw_1028) rfl rfl rfl (by decide +kernel) hR
