set_option maxHeartbeats 4000000 in
set_option maxRecDepth 100000 in
/-- begin -/
theorem c_X12_begin (l : Launch) (D : va_G) (cy : Nat → ClassId) (sz : Nat) (cs : List Nat) (ad : Nat → Nat) (en : Nat → va_E) (hI : RX cy cs ad en) (d0 m0 : Int32)   : Met l yX12_begin (Cond.code yX12_begin cX12_begin 4 (some .int) :: TB) (rmN 1) (va_Pc [.ref (ad 0), .int d0, .int m0] (Pre D cy cs ad en sz)) (va_Qi (S := Nat → va_E) (fun r en1 => RX cy cs ad en1 ∧ (∀ c, (c ≠ 0 ∧ c ≠ 2) → en1 c = en c) ∧ r = spBegin d0 m0 ∧ ((r = -2 ∧ en1 = en) ∨ (r = 1 ∧ (rdI (en1 0) 1 = rdI (en 0) 1 ∧ rdI (en1 0) 2 = d0 ∧ rdI (en1 0) 3 = m0 ∧ rdI (en1 0) 4 = nI 0 ∧ rdI (en1 0) 25 = -9 ∧ rdI (en1 0) 30 = nI 0) ∧ ∀ i, i < 36 → rdF (en1 2) i = 0))) (PostM D cs ad) (Af cs ad sz)) 0 0 (Af cs ad sz) := by
  refine Met.ofW (cc := cX12_begin) (maxL := 4) (ret := (some .int)) (by decide) rfl ?_
  intro p e s m args below meth c s₁ B hml hv
  obtain ⟨rfl, hsz, hP, hK, hD0⟩ := hv
  have hx := B.exec
  have hb := B.bytes
  have hr := B.returns
  have hts : ∀ w ∈ TB, w.before _ s = true := fun w h => atoms_spec (ws := _ :: TB) B.pre w (List.mem_cons_of_mem _ h)
  have hown : s.vm.findClass RX12 = some m.cls := findClass_of_methodNamed B.named
  have hlocks := B.notSynchronized
  have hh : Hp D (Af cs ad sz) (Af cs ad sz) s.heap s.heap [] cs ad en := ⟨hP, Af_self hD0, va_S.rf⟩
  have hA : ∀ q : Nat, s.heap.size ≤ q → Af cs ad sz q := fun q h => Or.inr (by rw [hsz] at h; exact h)
  have hl := lv_entry ([.ref (ad 0), .int d0, .int m0]) (n := 4) (Nat.le_of_ble_eq_true rfl)
  rw [lg_entry_eq]
  generalize (lg_sl ([.ref (ad 0), .int d0, .int m0]) ++ List.replicate (4 - (lg_sl ([.ref (ad 0), .int d0, .int m0])).length) Slot.unset).toArray = ls at hl ⊢
  have hl : lv_has ls 4 [(0, .ref (ad 0)), (1, .int d0), (2, .int m0)] := hl
  have hf0 : ∀ c, (c ≠ 0 ∧ c ≠ 2) → en c = en c := fun _ _ => rfl
  obtain ⟨fa, hi, wd, mo, tb, dp, many, grt, lst, nou, rm, rb, pr, wo, es997, hwd2, hwd3, hmo, htb, hwo⟩ := getr_M hI
  refine lv_iload_n hx hb dX12_begin_0 rfl (lv_at hl 1 rfl) ?_
  refine lv_i2l hx hb dX12_begin_1 rfl ?_
  refine lv_ldc2 hx hb hown (hts _ tw_983) dX12_begin_2 ?_
  refine lv_ldc2 hx hb hown (hts _ tw_984) dX12_begin_5 ?_
  refine hp_callRi (va_runS (As := [.long d0.toInt64, .long 2, .long 3]) (rest := []) ⟨hx, hb, hml, hown, hts⟩ (c_X12_within l D cy _ cs ad en d0.toInt64 2 3) (kw_X12_within hts tw_985 ⟨by decide, by decide⟩) (preS_of hh hK) rfl rfl hl.1 rfl (lv_room (Nat.le_of_ble_eq_true rfl)) dX12_begin_8 ⟨Nat.le_of_ble_eq_true rfl, Nat.le_of_ble_eq_true rfl⟩) hh hA (fun r_998 H locs hw_998 hh => ?_)
  rcases Decidable.em (wi d0 2 3) with hp_998 | hp_998
  · obtain rfl : r_998 = 1 := Eq.trans hw_998 (if_pos ((wj_32 (by decide) (by decide)).mpr hp_998))
    obtain ⟨N_998, rfl, hA_998, hB_998⟩ := wi_natB hp_998 2 3 (by decide) (by decide)
    refine lv_if_eq (tgt := 32) hx hb dX12_begin_11 (by decide) (fun c_0 => absurd c_0 (by decide)) (fun _ => ?_)
    refine lv_iload_n hx hb dX12_begin_14 rfl (lv_at hl 2 rfl) ?_
    refine lv_if_eq (tgt := 35) hx hb dX12_begin_15 (by decide) (fun c_999 => ?_) (fun c_999 => ?_)
    · subst c_999
      refine lv_aload_n hx hb dX12_begin_35 rfl (lv_at hl 0 rfl) ?_
      refine lv_iload_n hx hb dX12_begin_36 rfl (lv_at hl 1 rfl) ?_
      refine hp_put hx hb hts ix12 tyX12 tyX12_ok nmX12 hown hK hh (q := 0) rfl (hI.1 _ (by decide)) es997 rfl 2 (by decide) (hts _ tw_881) (fun _ h9 => h9) rfl (ty := .int) (by decide +kernel) rfl rfl (Nat.le_of_ble_eq_true rfl) dX12_begin_37 (fun H locs en_1000 hen_1000 hh => ?_)
      have es997_1000 : en_1000 0 = .inr (11, [.int fa, .int hi, .int (nI N_998), .int (nI mo), .int (nI tb), .ref (ad 1), .ref (ad 2), .ref (ad 3), .ref (ad 4), .ref (ad 5), .ref (ad 6), .ref (ad 7), .ref (ad 8), .ref (ad 9), .int dp, .long many, .long grt, .long lst, .long nou, .ref (ad 10), .ref (ad 11), .ref (ad 12), .int rm, .long rb, .ref (ad 13), .int pr, .ref (ad 14), .ref (ad 15), .ref (ad 16), .ref (ad 17), .int (nI wo), .ref (ad 18), .ref (ad 19)]) := by rw [hen_1000]; exact va_up_self _ _ _
      have hI_1000 : RX cy cs ad en_1000 := by rw [hen_1000]; exact upr_M hI ⟨fa, hi, N_998, mo, tb, dp, many, grt, lst, nou, rm, rb, pr, wo, rfl, (by omega), (by omega), hmo, htb, hwo⟩
      have hf_1000 : ∀ c, (c ≠ 0 ∧ c ≠ 2) → en_1000 c = en c := fun c hc => Eq.trans (show en_1000 c = en c from by rw [hen_1000, va_up_ne _ _ (by omega)]) (hf0 c hc)
      refine lv_aload_n hx hb dX12_begin_40 rfl (lv_at hl 0 rfl) ?_
      refine lv_iload_n hx hb dX12_begin_41 rfl (lv_at hl 2 rfl) ?_
      refine hp_put hx hb hts ix12 tyX12 tyX12_ok nmX12 hown hK hh (q := 0) rfl (hI.1 _ (by decide)) es997_1000 rfl 3 (by decide) (hts _ tw_882) (fun _ h9 => h9) rfl (ty := .int) (by decide +kernel) rfl rfl (Nat.le_of_ble_eq_true rfl) dX12_begin_42 (fun H locs en_1001 hen_1001 hh => ?_)
      have es997_1001 : en_1001 0 = .inr (11, [.int fa, .int hi, .int (nI N_998), .int 0, .int (nI tb), .ref (ad 1), .ref (ad 2), .ref (ad 3), .ref (ad 4), .ref (ad 5), .ref (ad 6), .ref (ad 7), .ref (ad 8), .ref (ad 9), .int dp, .long many, .long grt, .long lst, .long nou, .ref (ad 10), .ref (ad 11), .ref (ad 12), .int rm, .long rb, .ref (ad 13), .int pr, .ref (ad 14), .ref (ad 15), .ref (ad 16), .ref (ad 17), .int (nI wo), .ref (ad 18), .ref (ad 19)]) := by rw [hen_1001]; exact va_up_self _ _ _
      have hI_1001 : RX cy cs ad en_1001 := by rw [hen_1001]; exact upr_M hI_1000 ⟨fa, hi, N_998, 0, tb, dp, many, grt, lst, nou, rm, rb, pr, wo, rfl, (by omega), (by omega), (by omega), htb, hwo⟩
      have hf_1001 : ∀ c, (c ≠ 0 ∧ c ≠ 2) → en_1001 c = en c := fun c hc => Eq.trans (show en_1001 c = en_1000 c from by rw [hen_1001, va_up_ne _ _ (by omega)]) (hf_1000 c hc)
      refine lv_aload_n hx hb dX12_begin_45 rfl (lv_at hl 0 rfl) ?_
      refine lv_iconst (v := 0) hx hb dX12_begin_46 (by decide) ?_
      refine hp_put hx hb hts ix12 tyX12 tyX12_ok nmX12 hown hK hh (q := 0) rfl (hI.1 _ (by decide)) es997_1001 rfl 4 (by decide) (hts _ tw_883) (fun _ h9 => h9) rfl (ty := .int) (by decide +kernel) rfl rfl (Nat.le_of_ble_eq_true rfl) dX12_begin_47 (fun H locs en_1002 hen_1002 hh => ?_)
      have es997_1002 : en_1002 0 = .inr (11, [.int fa, .int hi, .int (nI N_998), .int 0, .int 0, .ref (ad 1), .ref (ad 2), .ref (ad 3), .ref (ad 4), .ref (ad 5), .ref (ad 6), .ref (ad 7), .ref (ad 8), .ref (ad 9), .int dp, .long many, .long grt, .long lst, .long nou, .ref (ad 10), .ref (ad 11), .ref (ad 12), .int rm, .long rb, .ref (ad 13), .int pr, .ref (ad 14), .ref (ad 15), .ref (ad 16), .ref (ad 17), .int (nI wo), .ref (ad 18), .ref (ad 19)]) := by rw [hen_1002]; exact va_up_self _ _ _
      have hI_1002 : RX cy cs ad en_1002 := by rw [hen_1002]; exact upr_M hI_1001 ⟨fa, hi, N_998, 0, 0, dp, many, grt, lst, nou, rm, rb, pr, wo, rfl, (by omega), (by omega), (by omega), (by omega), hwo⟩
      have hf_1002 : ∀ c, (c ≠ 0 ∧ c ≠ 2) → en_1002 c = en c := fun c hc => Eq.trans (show en_1002 c = en_1001 c from by rw [hen_1002, va_up_ne _ _ (by omega)]) (hf_1001 c hc)
      refine lv_aload_n hx hb dX12_begin_50 rfl (lv_at hl 0 rfl) ?_
      refine lv_iconst (v := 0) hx hb dX12_begin_51 (by decide) ?_
      refine hp_put hx hb hts ix12 tyX12 tyX12_ok nmX12 hown hK hh (q := 0) rfl (hI.1 _ (by decide)) es997_1002 rfl 30 (by decide) (hts _ tw_909) (fun _ h9 => h9) rfl (ty := .int) (by decide +kernel) rfl rfl (Nat.le_of_ble_eq_true rfl) dX12_begin_52 (fun H locs en_1003 hen_1003 hh => ?_)
      have es997_1003 : en_1003 0 = .inr (11, [.int fa, .int hi, .int (nI N_998), .int 0, .int 0, .ref (ad 1), .ref (ad 2), .ref (ad 3), .ref (ad 4), .ref (ad 5), .ref (ad 6), .ref (ad 7), .ref (ad 8), .ref (ad 9), .int dp, .long many, .long grt, .long lst, .long nou, .ref (ad 10), .ref (ad 11), .ref (ad 12), .int rm, .long rb, .ref (ad 13), .int pr, .ref (ad 14), .ref (ad 15), .ref (ad 16), .ref (ad 17), .int 0, .ref (ad 18), .ref (ad 19)]) := by rw [hen_1003]; exact va_up_self _ _ _
      have hI_1003 : RX cy cs ad en_1003 := by rw [hen_1003]; exact upr_M hI_1002 ⟨fa, hi, N_998, 0, 0, dp, many, grt, lst, nou, rm, rb, pr, 0, rfl, (by omega), (by omega), (by omega), (by omega), (by omega)⟩
      have hf_1003 : ∀ c, (c ≠ 0 ∧ c ≠ 2) → en_1003 c = en c := fun c hc => Eq.trans (show en_1003 c = en_1002 c from by rw [hen_1003, va_up_ne _ _ (by omega)]) (hf_1002 c hc)
      refine lv_aload_n hx hb dX12_begin_55 rfl (lv_at hl 0 rfl) ?_
      refine lv_bipush (v := (-9)) hx hb dX12_begin_56 (by decide) ?_
      refine hp_put hx hb hts ix12 tyX12 tyX12_ok nmX12 hown hK hh (q := 0) rfl (hI.1 _ (by decide)) es997_1003 rfl 25 (by decide) (hts _ tw_904) (fun _ h9 => h9) rfl (ty := .int) (by decide +kernel) rfl rfl (Nat.le_of_ble_eq_true rfl) dX12_begin_58 (fun H locs en_1004 hen_1004 hh => ?_)
      have es997_1004 : en_1004 0 = .inr (11, [.int fa, .int hi, .int (nI N_998), .int 0, .int 0, .ref (ad 1), .ref (ad 2), .ref (ad 3), .ref (ad 4), .ref (ad 5), .ref (ad 6), .ref (ad 7), .ref (ad 8), .ref (ad 9), .int dp, .long many, .long grt, .long lst, .long nou, .ref (ad 10), .ref (ad 11), .ref (ad 12), .int rm, .long rb, .ref (ad 13), .int (-9), .ref (ad 14), .ref (ad 15), .ref (ad 16), .ref (ad 17), .int 0, .ref (ad 18), .ref (ad 19)]) := by rw [hen_1004]; exact va_up_self _ _ _
      have hI_1004 : RX cy cs ad en_1004 := by rw [hen_1004]; exact upr_M hI_1003 ⟨fa, hi, N_998, 0, 0, dp, many, grt, lst, nou, rm, rb, (-9), 0, rfl, (by omega), (by omega), (by omega), (by omega), (by omega)⟩
      have hf_1004 : ∀ c, (c ≠ 0 ∧ c ≠ 2) → en_1004 c = en c := fun c hc => Eq.trans (show en_1004 c = en_1003 c from by rw [hen_1004, va_up_ne _ _ (by omega)]) (hf_1003 c hc)
      refine lv_iconst (v := 0) hx hb dX12_begin_61 (by decide) ?_
      refine lv_istore_n (lv' := [(3, .int 0), (0, .ref (ad 0)), (1, .int (nI N_998)), (2, .int 0)]) hx hb dX12_begin_62 rfl hl (by decide) rfl (fun ls hl => ?_)
      have loop_1005 : ∀ (fu j1005 : Nat)  (en_1005 : Nat → va_E) (ls : Array Slot) (H : Heap) (locs : List Loc), 0 ≤ j1005 → j1005 ≤ 36 → 36 < j1005 + fu → RX cy cs ad en_1005 → (∀ c, (c ≠ 0 ∧ c ≠ 2) → en_1005 c = en c) → (∀ i, i < j1005 → rdF (en_1005 2) i = 0) → (rdI (en_1005 0) 1 = rdI (en 0) 1 ∧ rdI (en_1005 0) 2 = (nI N_998) ∧ rdI (en_1005 0) 3 = 0 ∧ rdI (en_1005 0) 4 = nI 0 ∧ rdI (en_1005 0) 25 = -9 ∧ rdI (en_1005 0) 30 = nI 0) → lv_has ls 4 [(3, .int (nI j1005)), (0, .ref (ad 0)), (1, .int (nI N_998)), (2, .int 0)] → Hp D (Af cs ad sz) (Af cs ad sz) s.heap H locs cs ad en_1005 → W p l e (headSpec (Cond.code yX12_begin cX12_begin 4 (some .int) :: TB) (rmN 1)).room s m ([.ref (ad 0), .int (nI N_998), .int 0] : List Value).toArray below meth c H locs 0 0 (MQ below (va_Qi (S := Nat → va_E) (fun r en1 => RX cy cs ad en1 ∧ (∀ c, (c ≠ 0 ∧ c ≠ 2) → en1 c = en c) ∧ r = spBegin (nI N_998) 0 ∧ ((r = -2 ∧ en1 = en) ∨ (r = 1 ∧ (rdI (en1 0) 1 = rdI (en 0) 1 ∧ rdI (en1 0) 2 = (nI N_998) ∧ rdI (en1 0) 3 = 0 ∧ rdI (en1 0) 4 = nI 0 ∧ rdI (en1 0) 25 = -9 ∧ rdI (en1 0) 30 = nI 0) ∧ ∀ i, i < 36 → rdF (en1 2) i = 0))) (PostM D cs ad) (Af cs ad sz)) ([.ref (ad 0), .int (nI N_998), .int 0] : List Value).toArray s 0 0 (Af cs ad sz)) (F0 m 63 ls []) := by
        intro fu
        induction fu with
        | zero => intro j1005  en_1005 ls H locs h0 h1 h2; exact absurd h2 (by omega)
        | succ fu ih_1005 =>
          intro j1005  en_1005 ls H locs hj0_1005 hj_1005 hfu_1005 hI_1005 hf_1005 i0_1005 i1_1005 hl hh
          refine lv_iload_n hx hb dX12_begin_63 rfl (lv_at hl 0 rfl) ?_
          refine lv_bipush (v := 36) hx hb dX12_begin_64 (by decide) ?_
          refine lv_icmp_ge (tgt := 82) hx hb dX12_begin_66 (by decide) (fun c_1006 => ?_) (fun c_1006 => ?_)
          · have n_1006 : 36 ≤ j1005 := n_le (a := 36) (b := j1005) c_1006 (by decide) (by omega)
            refine lv_iconst (v := 1) hx hb dX12_begin_82 (by decide) ?_
            exact hp_iretM hx hb hr rfl hlocks hh (⟨hI_1005, hf_1005, (by unfold spBegin; rw [if_pos ⟨hp_998, Or.inl rfl⟩]), Or.inr ⟨rfl, i1_1005, fun i hi => i0_1005 i (by omega)⟩⟩) dX12_begin_83
          · have n_1006 : j1005 < 36 := n_nle (a := 36) (b := j1005) c_1006 (by decide) (by omega)
            refine lv_aload_n hx hb dX12_begin_69 rfl (lv_at hl 1 rfl) ?_
            obtain ⟨fa_1007, hi_1007, wd_1007, mo_1007, tb_1007, dp_1007, many_1007, grt_1007, lst_1007, nou_1007, rm_1007, rb_1007, pr_1007, wo_1007, es1007, p0_1007, p1_1007, p2_1007, p3_1007, p4_1007⟩ := getr_M hI_1005
            refine hp_get hx hb hts ix12 hown hK hh (q := 0) rfl (hI.1 _ (by decide)) es1007 rfl 6 (by decide) (hts _ tw_885) (fun _ h9 => h9) rfl dX12_begin_70 ?_
            refine lv_iload_n hx hb dX12_begin_73 rfl (lv_at hl 0 rfl) ?_
            refine lv_iconst (v := 0) hx hb dX12_begin_74 (by decide) ?_
            obtain ⟨f_1008, es1008, p0_1008⟩ := getr_mn hI_1005
            refine hp_zast hx hb hK hh (q := 2) rfl (hI.1 _ (by decide)) es1008 (vp_in_nI (n := j1005) (by omega) (by decide)) dX12_begin_75 (fun H locs en_1009 hen_1009 hh => ?_)
            rw [nI_clamp (n := j1005) (by omega)] at hen_1009
            have es1007_1009 : en_1009 0 = .inr (11, [.int fa_1007, .int hi_1007, .int (nI wd_1007), .int (nI mo_1007), .int (nI tb_1007), .ref (ad 1), .ref (ad 2), .ref (ad 3), .ref (ad 4), .ref (ad 5), .ref (ad 6), .ref (ad 7), .ref (ad 8), .ref (ad 9), .int dp_1007, .long many_1007, .long grt_1007, .long lst_1007, .long nou_1007, .ref (ad 10), .ref (ad 11), .ref (ad 12), .int rm_1007, .long rb_1007, .ref (ad 13), .int pr_1007, .ref (ad 14), .ref (ad 15), .ref (ad 16), .ref (ad 17), .int (nI wo_1007), .ref (ad 18), .ref (ad 19)]) := by rw [hen_1009, va_up_ne _ _ (by decide)]; exact es1007
            have es1008_1009 : en_1009 2 = .inl (cy 2, 36, .inl (upd f_1008 j1005 (vp_nar .boolean 0))) := by rw [hen_1009]; exact va_up_self _ _ _
            have hI_1009 : RX cy cs ad en_1009 := by rw [hen_1009]; exact upr_mn hI_1005 ⟨(upd f_1008 j1005 (vp_nar .boolean 0)), rfl, (bits_upd p0_1008 (Or.inl rfl))⟩
            have hf_1009 : ∀ c, (c ≠ 0 ∧ c ≠ 2) → en_1009 c = en c := fun c hc => Eq.trans (show en_1009 c = en_1005 c from by rw [hen_1009, va_up_ne _ _ (by omega)]) (hf_1005 c hc)
            refine lv_iinc (v := (nI (j1005 + 1))) (lv' := [(3, .int (nI (j1005 + 1))), (0, .ref (ad 0)), (1, .int (nI N_998)), (2, .int 0)]) hx hb dX12_begin_76 hl (k := 0) rfl (nI_1 _) (by decide) rfl (fun ls hl => ?_)
            refine lv_goto (tgt := 63) hx hb dX12_begin_79 (by decide) ?_
            exact ih_1005 ((j1005 + 1))  en_1009 ls H locs (by omega) (by omega) (by omega) hI_1009 hf_1009 (fun i hi => by rw [es1008_1009]; exact z_upd hi vp_bit0 (fun h9 => (show f_1008 i = rdF (en_1005 2) i from by rw [es1008]; rfl).trans (i0_1005 i h9))) (by rw [show en_1009 0 = en_1005 0 from by rw [hen_1009, va_up_ne _ _ (by decide)]]; exact i1_1005) (lv_sub hl [0, 1, 2, 3] rfl) hh
      exact loop_1005 (36 + 1) 0  en_1004 ls _ _ (Nat.le_refl _) (by omega) (by omega) hI_1004 hf_1004 (fun i h => absurd h (Nat.not_lt_zero i)) (⟨by rw [es997_1004, es997]; rfl, by rw [es997_1004]; rfl, by rw [es997_1004]; rfl, by rw [es997_1004]; rfl, by rw [es997_1004]; rfl, by rw [es997_1004]; rfl⟩) (lv_sub hl [0, 1, 2, 3] rfl) hh
    · refine lv_iload_n hx hb dX12_begin_18 rfl (lv_at hl 2 rfl) ?_
      refine lv_i2l hx hb dX12_begin_19 rfl ?_
      refine lv_ldc2 hx hb hown (hts _ tw_983) dX12_begin_20 ?_
      refine lv_ldc2 hx hb hown (hts _ tw_988) dX12_begin_23 ?_
      refine hp_callRi (va_runS (As := [.long m0.toInt64, .long 2, .long 97]) (rest := []) ⟨hx, hb, hml, hown, hts⟩ (c_X12_within l D cy _ cs ad en m0.toInt64 2 97) (kw_X12_within hts tw_985 ⟨by decide, by decide⟩) (preS_of hh hK) rfl rfl hl.1 rfl (lv_room (Nat.le_of_ble_eq_true rfl)) dX12_begin_26 ⟨Nat.le_of_ble_eq_true rfl, Nat.le_of_ble_eq_true rfl⟩) hh hA (fun r_1010 H locs hw_1010 hh => ?_)
      rcases Decidable.em (wi m0 2 97) with hp_1010 | hp_1010
      · obtain rfl : r_1010 = 1 := Eq.trans hw_1010 (if_pos ((wj_32 (by decide) (by decide)).mpr hp_1010))
        obtain ⟨N_1010, rfl, hA_1010, hB_1010⟩ := wi_natB hp_1010 2 97 (by decide) (by decide)
        refine lv_if_ne (tgt := 35) hx hb dX12_begin_29 (by decide) (fun _ => ?_) (fun c_0 => absurd c_0 (by decide))
        refine lv_aload_n hx hb dX12_begin_35 rfl (lv_at hl 0 rfl) ?_
        refine lv_iload_n hx hb dX12_begin_36 rfl (lv_at hl 1 rfl) ?_
        refine hp_put hx hb hts ix12 tyX12 tyX12_ok nmX12 hown hK hh (q := 0) rfl (hI.1 _ (by decide)) es997 rfl 2 (by decide) (hts _ tw_881) (fun _ h9 => h9) rfl (ty := .int) (by decide +kernel) rfl rfl (Nat.le_of_ble_eq_true rfl) dX12_begin_37 (fun H locs en_1011 hen_1011 hh => ?_)
        have es997_1011 : en_1011 0 = .inr (11, [.int fa, .int hi, .int (nI N_998), .int (nI mo), .int (nI tb), .ref (ad 1), .ref (ad 2), .ref (ad 3), .ref (ad 4), .ref (ad 5), .ref (ad 6), .ref (ad 7), .ref (ad 8), .ref (ad 9), .int dp, .long many, .long grt, .long lst, .long nou, .ref (ad 10), .ref (ad 11), .ref (ad 12), .int rm, .long rb, .ref (ad 13), .int pr, .ref (ad 14), .ref (ad 15), .ref (ad 16), .ref (ad 17), .int (nI wo), .ref (ad 18), .ref (ad 19)]) := by rw [hen_1011]; exact va_up_self _ _ _
        have hI_1011 : RX cy cs ad en_1011 := by rw [hen_1011]; exact upr_M hI ⟨fa, hi, N_998, mo, tb, dp, many, grt, lst, nou, rm, rb, pr, wo, rfl, (by omega), (by omega), hmo, htb, hwo⟩
        have hf_1011 : ∀ c, (c ≠ 0 ∧ c ≠ 2) → en_1011 c = en c := fun c hc => Eq.trans (show en_1011 c = en c from by rw [hen_1011, va_up_ne _ _ (by omega)]) (hf0 c hc)
        refine lv_aload_n hx hb dX12_begin_40 rfl (lv_at hl 0 rfl) ?_
        refine lv_iload_n hx hb dX12_begin_41 rfl (lv_at hl 2 rfl) ?_
        refine hp_put hx hb hts ix12 tyX12 tyX12_ok nmX12 hown hK hh (q := 0) rfl (hI.1 _ (by decide)) es997_1011 rfl 3 (by decide) (hts _ tw_882) (fun _ h9 => h9) rfl (ty := .int) (by decide +kernel) rfl rfl (Nat.le_of_ble_eq_true rfl) dX12_begin_42 (fun H locs en_1012 hen_1012 hh => ?_)
        have es997_1012 : en_1012 0 = .inr (11, [.int fa, .int hi, .int (nI N_998), .int (nI N_1010), .int (nI tb), .ref (ad 1), .ref (ad 2), .ref (ad 3), .ref (ad 4), .ref (ad 5), .ref (ad 6), .ref (ad 7), .ref (ad 8), .ref (ad 9), .int dp, .long many, .long grt, .long lst, .long nou, .ref (ad 10), .ref (ad 11), .ref (ad 12), .int rm, .long rb, .ref (ad 13), .int pr, .ref (ad 14), .ref (ad 15), .ref (ad 16), .ref (ad 17), .int (nI wo), .ref (ad 18), .ref (ad 19)]) := by rw [hen_1012]; exact va_up_self _ _ _
        have hI_1012 : RX cy cs ad en_1012 := by rw [hen_1012]; exact upr_M hI_1011 ⟨fa, hi, N_998, N_1010, tb, dp, many, grt, lst, nou, rm, rb, pr, wo, rfl, (by omega), (by omega), (by omega), htb, hwo⟩
        have hf_1012 : ∀ c, (c ≠ 0 ∧ c ≠ 2) → en_1012 c = en c := fun c hc => Eq.trans (show en_1012 c = en_1011 c from by rw [hen_1012, va_up_ne _ _ (by omega)]) (hf_1011 c hc)
        refine lv_aload_n hx hb dX12_begin_45 rfl (lv_at hl 0 rfl) ?_
        refine lv_iconst (v := 0) hx hb dX12_begin_46 (by decide) ?_
        refine hp_put hx hb hts ix12 tyX12 tyX12_ok nmX12 hown hK hh (q := 0) rfl (hI.1 _ (by decide)) es997_1012 rfl 4 (by decide) (hts _ tw_883) (fun _ h9 => h9) rfl (ty := .int) (by decide +kernel) rfl rfl (Nat.le_of_ble_eq_true rfl) dX12_begin_47 (fun H locs en_1013 hen_1013 hh => ?_)
        have es997_1013 : en_1013 0 = .inr (11, [.int fa, .int hi, .int (nI N_998), .int (nI N_1010), .int 0, .ref (ad 1), .ref (ad 2), .ref (ad 3), .ref (ad 4), .ref (ad 5), .ref (ad 6), .ref (ad 7), .ref (ad 8), .ref (ad 9), .int dp, .long many, .long grt, .long lst, .long nou, .ref (ad 10), .ref (ad 11), .ref (ad 12), .int rm, .long rb, .ref (ad 13), .int pr, .ref (ad 14), .ref (ad 15), .ref (ad 16), .ref (ad 17), .int (nI wo), .ref (ad 18), .ref (ad 19)]) := by rw [hen_1013]; exact va_up_self _ _ _
        have hI_1013 : RX cy cs ad en_1013 := by rw [hen_1013]; exact upr_M hI_1012 ⟨fa, hi, N_998, N_1010, 0, dp, many, grt, lst, nou, rm, rb, pr, wo, rfl, (by omega), (by omega), (by omega), (by omega), hwo⟩
        have hf_1013 : ∀ c, (c ≠ 0 ∧ c ≠ 2) → en_1013 c = en c := fun c hc => Eq.trans (show en_1013 c = en_1012 c from by rw [hen_1013, va_up_ne _ _ (by omega)]) (hf_1012 c hc)
        refine lv_aload_n hx hb dX12_begin_50 rfl (lv_at hl 0 rfl) ?_
        refine lv_iconst (v := 0) hx hb dX12_begin_51 (by decide) ?_
        refine hp_put hx hb hts ix12 tyX12 tyX12_ok nmX12 hown hK hh (q := 0) rfl (hI.1 _ (by decide)) es997_1013 rfl 30 (by decide) (hts _ tw_909) (fun _ h9 => h9) rfl (ty := .int) (by decide +kernel) rfl rfl (Nat.le_of_ble_eq_true rfl) dX12_begin_52 (fun H locs en_1014 hen_1014 hh => ?_)
        have es997_1014 : en_1014 0 = .inr (11, [.int fa, .int hi, .int (nI N_998), .int (nI N_1010), .int 0, .ref (ad 1), .ref (ad 2), .ref (ad 3), .ref (ad 4), .ref (ad 5), .ref (ad 6), .ref (ad 7), .ref (ad 8), .ref (ad 9), .int dp, .long many, .long grt, .long lst, .long nou, .ref (ad 10), .ref (ad 11), .ref (ad 12), .int rm, .long rb, .ref (ad 13), .int pr, .ref (ad 14), .ref (ad 15), .ref (ad 16), .ref (ad 17), .int 0, .ref (ad 18), .ref (ad 19)]) := by rw [hen_1014]; exact va_up_self _ _ _
        have hI_1014 : RX cy cs ad en_1014 := by rw [hen_1014]; exact upr_M hI_1013 ⟨fa, hi, N_998, N_1010, 0, dp, many, grt, lst, nou, rm, rb, pr, 0, rfl, (by omega), (by omega), (by omega), (by omega), (by omega)⟩
        have hf_1014 : ∀ c, (c ≠ 0 ∧ c ≠ 2) → en_1014 c = en c := fun c hc => Eq.trans (show en_1014 c = en_1013 c from by rw [hen_1014, va_up_ne _ _ (by omega)]) (hf_1013 c hc)
        refine lv_aload_n hx hb dX12_begin_55 rfl (lv_at hl 0 rfl) ?_
        refine lv_bipush (v := (-9)) hx hb dX12_begin_56 (by decide) ?_
        refine hp_put hx hb hts ix12 tyX12 tyX12_ok nmX12 hown hK hh (q := 0) rfl (hI.1 _ (by decide)) es997_1014 rfl 25 (by decide) (hts _ tw_904) (fun _ h9 => h9) rfl (ty := .int) (by decide +kernel) rfl rfl (Nat.le_of_ble_eq_true rfl) dX12_begin_58 (fun H locs en_1015 hen_1015 hh => ?_)
        have es997_1015 : en_1015 0 = .inr (11, [.int fa, .int hi, .int (nI N_998), .int (nI N_1010), .int 0, .ref (ad 1), .ref (ad 2), .ref (ad 3), .ref (ad 4), .ref (ad 5), .ref (ad 6), .ref (ad 7), .ref (ad 8), .ref (ad 9), .int dp, .long many, .long grt, .long lst, .long nou, .ref (ad 10), .ref (ad 11), .ref (ad 12), .int rm, .long rb, .ref (ad 13), .int (-9), .ref (ad 14), .ref (ad 15), .ref (ad 16), .ref (ad 17), .int 0, .ref (ad 18), .ref (ad 19)]) := by rw [hen_1015]; exact va_up_self _ _ _
        have hI_1015 : RX cy cs ad en_1015 := by rw [hen_1015]; exact upr_M hI_1014 ⟨fa, hi, N_998, N_1010, 0, dp, many, grt, lst, nou, rm, rb, (-9), 0, rfl, (by omega), (by omega), (by omega), (by omega), (by omega)⟩
        have hf_1015 : ∀ c, (c ≠ 0 ∧ c ≠ 2) → en_1015 c = en c := fun c hc => Eq.trans (show en_1015 c = en_1014 c from by rw [hen_1015, va_up_ne _ _ (by omega)]) (hf_1014 c hc)
        refine lv_iconst (v := 0) hx hb dX12_begin_61 (by decide) ?_
        refine lv_istore_n (lv' := [(3, .int 0), (0, .ref (ad 0)), (1, .int (nI N_998)), (2, .int (nI N_1010))]) hx hb dX12_begin_62 rfl hl (by decide) rfl (fun ls hl => ?_)
        have loop_1016 : ∀ (fu j1016 : Nat)  (en_1016 : Nat → va_E) (ls : Array Slot) (H : Heap) (locs : List Loc), 0 ≤ j1016 → j1016 ≤ 36 → 36 < j1016 + fu → RX cy cs ad en_1016 → (∀ c, (c ≠ 0 ∧ c ≠ 2) → en_1016 c = en c) → (∀ i, i < j1016 → rdF (en_1016 2) i = 0) → (rdI (en_1016 0) 1 = rdI (en 0) 1 ∧ rdI (en_1016 0) 2 = (nI N_998) ∧ rdI (en_1016 0) 3 = (nI N_1010) ∧ rdI (en_1016 0) 4 = nI 0 ∧ rdI (en_1016 0) 25 = -9 ∧ rdI (en_1016 0) 30 = nI 0) → lv_has ls 4 [(3, .int (nI j1016)), (0, .ref (ad 0)), (1, .int (nI N_998)), (2, .int (nI N_1010))] → Hp D (Af cs ad sz) (Af cs ad sz) s.heap H locs cs ad en_1016 → W p l e (headSpec (Cond.code yX12_begin cX12_begin 4 (some .int) :: TB) (rmN 1)).room s m ([.ref (ad 0), .int (nI N_998), .int (nI N_1010)] : List Value).toArray below meth c H locs 0 0 (MQ below (va_Qi (S := Nat → va_E) (fun r en1 => RX cy cs ad en1 ∧ (∀ c, (c ≠ 0 ∧ c ≠ 2) → en1 c = en c) ∧ r = spBegin (nI N_998) (nI N_1010) ∧ ((r = -2 ∧ en1 = en) ∨ (r = 1 ∧ (rdI (en1 0) 1 = rdI (en 0) 1 ∧ rdI (en1 0) 2 = (nI N_998) ∧ rdI (en1 0) 3 = (nI N_1010) ∧ rdI (en1 0) 4 = nI 0 ∧ rdI (en1 0) 25 = -9 ∧ rdI (en1 0) 30 = nI 0) ∧ ∀ i, i < 36 → rdF (en1 2) i = 0))) (PostM D cs ad) (Af cs ad sz)) ([.ref (ad 0), .int (nI N_998), .int (nI N_1010)] : List Value).toArray s 0 0 (Af cs ad sz)) (F0 m 63 ls []) := by
          intro fu
          induction fu with
          | zero => intro j1016  en_1016 ls H locs h0 h1 h2; exact absurd h2 (by omega)
          | succ fu ih_1016 =>
            intro j1016  en_1016 ls H locs hj0_1016 hj_1016 hfu_1016 hI_1016 hf_1016 i0_1016 i1_1016 hl hh
            refine lv_iload_n hx hb dX12_begin_63 rfl (lv_at hl 0 rfl) ?_
            refine lv_bipush (v := 36) hx hb dX12_begin_64 (by decide) ?_
            refine lv_icmp_ge (tgt := 82) hx hb dX12_begin_66 (by decide) (fun c_1017 => ?_) (fun c_1017 => ?_)
            · have n_1017 : 36 ≤ j1016 := n_le (a := 36) (b := j1016) c_1017 (by decide) (by omega)
              refine lv_iconst (v := 1) hx hb dX12_begin_82 (by decide) ?_
              exact hp_iretM hx hb hr rfl hlocks hh (⟨hI_1016, hf_1016, (by unfold spBegin; rw [if_pos ⟨hp_998, Or.inr hp_1010⟩]), Or.inr ⟨rfl, i1_1016, fun i hi => i0_1016 i (by omega)⟩⟩) dX12_begin_83
            · have n_1017 : j1016 < 36 := n_nle (a := 36) (b := j1016) c_1017 (by decide) (by omega)
              refine lv_aload_n hx hb dX12_begin_69 rfl (lv_at hl 1 rfl) ?_
              obtain ⟨fa_1018, hi_1018, wd_1018, mo_1018, tb_1018, dp_1018, many_1018, grt_1018, lst_1018, nou_1018, rm_1018, rb_1018, pr_1018, wo_1018, es1018, p0_1018, p1_1018, p2_1018, p3_1018, p4_1018⟩ := getr_M hI_1016
              refine hp_get hx hb hts ix12 hown hK hh (q := 0) rfl (hI.1 _ (by decide)) es1018 rfl 6 (by decide) (hts _ tw_885) (fun _ h9 => h9) rfl dX12_begin_70 ?_
              refine lv_iload_n hx hb dX12_begin_73 rfl (lv_at hl 0 rfl) ?_
              refine lv_iconst (v := 0) hx hb dX12_begin_74 (by decide) ?_
              obtain ⟨f_1019, es1019, p0_1019⟩ := getr_mn hI_1016
              refine hp_zast hx hb hK hh (q := 2) rfl (hI.1 _ (by decide)) es1019 (vp_in_nI (n := j1016) (by omega) (by decide)) dX12_begin_75 (fun H locs en_1020 hen_1020 hh => ?_)
              rw [nI_clamp (n := j1016) (by omega)] at hen_1020
              have es1018_1020 : en_1020 0 = .inr (11, [.int fa_1018, .int hi_1018, .int (nI wd_1018), .int (nI mo_1018), .int (nI tb_1018), .ref (ad 1), .ref (ad 2), .ref (ad 3), .ref (ad 4), .ref (ad 5), .ref (ad 6), .ref (ad 7), .ref (ad 8), .ref (ad 9), .int dp_1018, .long many_1018, .long grt_1018, .long lst_1018, .long nou_1018, .ref (ad 10), .ref (ad 11), .ref (ad 12), .int rm_1018, .long rb_1018, .ref (ad 13), .int pr_1018, .ref (ad 14), .ref (ad 15), .ref (ad 16), .ref (ad 17), .int (nI wo_1018), .ref (ad 18), .ref (ad 19)]) := by rw [hen_1020, va_up_ne _ _ (by decide)]; exact es1018
              have es1019_1020 : en_1020 2 = .inl (cy 2, 36, .inl (upd f_1019 j1016 (vp_nar .boolean 0))) := by rw [hen_1020]; exact va_up_self _ _ _
              have hI_1020 : RX cy cs ad en_1020 := by rw [hen_1020]; exact upr_mn hI_1016 ⟨(upd f_1019 j1016 (vp_nar .boolean 0)), rfl, (bits_upd p0_1019 (Or.inl rfl))⟩
              have hf_1020 : ∀ c, (c ≠ 0 ∧ c ≠ 2) → en_1020 c = en c := fun c hc => Eq.trans (show en_1020 c = en_1016 c from by rw [hen_1020, va_up_ne _ _ (by omega)]) (hf_1016 c hc)
              refine lv_iinc (v := (nI (j1016 + 1))) (lv' := [(3, .int (nI (j1016 + 1))), (0, .ref (ad 0)), (1, .int (nI N_998)), (2, .int (nI N_1010))]) hx hb dX12_begin_76 hl (k := 0) rfl (nI_1 _) (by decide) rfl (fun ls hl => ?_)
              refine lv_goto (tgt := 63) hx hb dX12_begin_79 (by decide) ?_
              exact ih_1016 ((j1016 + 1))  en_1020 ls H locs (by omega) (by omega) (by omega) hI_1020 hf_1020 (fun i hi => by rw [es1019_1020]; exact z_upd hi vp_bit0 (fun h9 => (show f_1019 i = rdF (en_1016 2) i from by rw [es1019]; rfl).trans (i0_1016 i h9))) (by rw [show en_1020 0 = en_1016 0 from by rw [hen_1020, va_up_ne _ _ (by decide)]]; exact i1_1016) (lv_sub hl [0, 1, 2, 3] rfl) hh
        exact loop_1016 (36 + 1) 0  en_1015 ls _ _ (Nat.le_refl _) (by omega) (by omega) hI_1015 hf_1015 (fun i h => absurd h (Nat.not_lt_zero i)) (⟨by rw [es997_1015, es997]; rfl, by rw [es997_1015]; rfl, by rw [es997_1015]; rfl, by rw [es997_1015]; rfl, by rw [es997_1015]; rfl, by rw [es997_1015]; rfl⟩) (lv_sub hl [0, 1, 2, 3] rfl) hh
      · obtain rfl : r_1010 = 0 := Eq.trans hw_1010 (if_neg (fun q => hp_1010 ((wj_32 (by decide) (by decide)).mp q)))
        refine lv_if_ne (tgt := 35) hx hb dX12_begin_29 (by decide) (fun c_0 => absurd c_0 (by decide)) (fun _ => ?_)
        refine lv_bipush (v := (-2)) hx hb dX12_begin_32 (by decide) ?_
        exact hp_iretM hx hb hr rfl hlocks hh (⟨hI, hf0, (by unfold spBegin; rw [if_neg (fun q => q.2.elim c_999 hp_1010)]), Or.inl ⟨rfl, rfl⟩⟩) dX12_begin_34
  · obtain rfl : r_998 = 0 := Eq.trans hw_998 (if_neg (fun q => hp_998 ((wj_32 (by decide) (by decide)).mp q)))
    refine lv_if_eq (tgt := 32) hx hb dX12_begin_11 (by decide) (fun _ => ?_) (fun c_0 => absurd c_0 (by decide))
    refine lv_bipush (v := (-2)) hx hb dX12_begin_32 (by decide) ?_
    exact hp_iretM hx hb hr rfl hlocks hh (⟨hI, hf0, (by unfold spBegin; rw [if_neg (fun q => hp_998 q.1)]), Or.inl ⟨rfl, rfl⟩⟩) dX12_begin_34
theorem kw_X12_begin {R : Room} {s : State} {args : Array Value} {own : String} {idx : Nat} (hts : ∀ w ∈ TB, w.before args s = true) (hl : Cond.methodLink own idx yX12_begin ∈ TB) (hR : 1 + 1 ≤ R.frames ∧ 8 + (4 + 11) + 40 * 1 ≤ R.locals) : CallW R s args own RX12 idx yX12_begin cX12_begin 4 (some .int) (Cond.code yX12_begin cX12_begin 4 (some .int) :: TB) (rmN 1) 0 0 2 := cwV 2 hts (TB_V hl tw_980 tw_981 tw_9 tw_982) rfl rfl rfl (by decide +kernel) hR
set_option maxHeartbeats 4000000 in
set_option maxRecDepth 100000 in
/-- against -/
theorem c_X12_against (l : Launch) (D : va_G) (cy : Nat → ClassId) (sz : Nat) (cs : List Nat) (ad : Nat → Nat) (en : Nat → va_E) (hI : RX cy cs ad en) (k9 la9 : Int32)   : Met l yX12_against (Cond.code yX12_against cX12_against 3 (some .int) :: TB) (rmN 1) (va_Pc [.ref (ad 0), .int k9, .int la9] (Pre D cy cs ad en sz)) (va_Qi (S := Nat → va_E) (fun r en1 => RX cy cs ad en1 ∧ (∀ c, (c ≠ 0) → en1 c = en c) ∧ r = agF (rdF (en 3) k9.toNatClampNeg) k9 la9 ∧ (r = 0 → en1 = en) ∧ KP en en1) (PostM D cs ad) (Af cs ad sz)) 0 0 (Af cs ad sz) := by
  refine Met.ofW (cc := cX12_against) (maxL := 3) (ret := (some .int)) (by decide) rfl ?_
  intro p e s m args below meth c s₁ B hml hv
  obtain ⟨rfl, hsz, hP, hK, hD0⟩ := hv
  have hx := B.exec
  have hb := B.bytes
  have hr := B.returns
  have hts : ∀ w ∈ TB, w.before _ s = true := fun w h => atoms_spec (ws := _ :: TB) B.pre w (List.mem_cons_of_mem _ h)
  have hown : s.vm.findClass RX12 = some m.cls := findClass_of_methodNamed B.named
  have hlocks := B.notSynchronized
  have hh : Hp D (Af cs ad sz) (Af cs ad sz) s.heap s.heap [] cs ad en := ⟨hP, Af_self hD0, va_S.rf⟩
  have hA : ∀ q : Nat, s.heap.size ≤ q → Af cs ad sz q := fun q h => Or.inr (by rw [hsz] at h; exact h)
  have hl := lv_entry ([.ref (ad 0), .int k9, .int la9]) (n := 3) (Nat.le_of_ble_eq_true rfl)
  rw [lg_entry_eq]
  generalize (lg_sl ([.ref (ad 0), .int k9, .int la9]) ++ List.replicate (3 - (lg_sl ([.ref (ad 0), .int k9, .int la9])).length) Slot.unset).toArray = ls at hl ⊢
  have hl : lv_has ls 3 [(0, .ref (ad 0)), (1, .int k9), (2, .int la9)] := hl
  have hf0 : ∀ c, (c ≠ 0) → en c = en c := fun _ _ => rfl
  obtain ⟨fa, hi, wd, mo, tb, dp, many, grt, lst, nou, rm, rb, pr, wo, es1021, hwd2, hwd3, hmo, htb, hwo⟩ := getr_M hI
  obtain ⟨f_1022, es1022⟩ := getr_la hI
  refine lv_iload_n hx hb dX12_against_0 rfl (lv_at hl 1 rfl) ?_
  refine lv_i2l hx hb dX12_against_1 rfl ?_
  refine lv_lconst (v := 0) hx hb dX12_against_2 (by decide) ?_
  refine lv_ldc2 hx hb hown (hts _ tw_984) dX12_against_3 ?_
  refine hp_callRi (va_runS (As := [.long k9.toInt64, .long 0, .long 3]) (rest := []) ⟨hx, hb, hml, hown, hts⟩ (c_X12_within l D cy _ cs ad en k9.toInt64 0 3) (kw_X12_within hts tw_985 ⟨by decide, by decide⟩) (preS_of hh hK) rfl rfl hl.1 rfl (lv_room (Nat.le_of_ble_eq_true rfl)) dX12_against_6 ⟨Nat.le_of_ble_eq_true rfl, Nat.le_of_ble_eq_true rfl⟩) hh hA (fun r_1023 H locs hw_1023 hh => ?_)
  rcases Decidable.em (wi k9 0 3) with hp_1023 | hp_1023
  · obtain rfl : r_1023 = 1 := Eq.trans hw_1023 (if_pos ((wj_32 (by decide) (by decide)).mpr hp_1023))
    obtain ⟨N_1023, rfl, hA_1023, hB_1023⟩ := wi_natB hp_1023 0 3 (by decide) (by decide)
    refine lv_if_ne (tgt := 14) hx hb dX12_against_9 (by decide) (fun _ => ?_) (fun c_0 => absurd c_0 (by decide))
    refine lv_iload_n hx hb dX12_against_14 rfl (lv_at hl 2 rfl) ?_
    refine lv_i2l hx hb dX12_against_15 rfl ?_
    refine lv_lconst (v := 0) hx hb dX12_against_16 (by decide) ?_
    refine lv_ldc2 hx hb hown (hts _ tw_983) dX12_against_17 ?_
    refine hp_callRi (va_runS (As := [.long la9.toInt64, .long 0, .long 2]) (rest := []) ⟨hx, hb, hml, hown, hts⟩ (c_X12_within l D cy _ cs ad en la9.toInt64 0 2) (kw_X12_within hts tw_985 ⟨by decide, by decide⟩) (preS_of hh hK) rfl rfl hl.1 rfl (lv_room (Nat.le_of_ble_eq_true rfl)) dX12_against_20 ⟨Nat.le_of_ble_eq_true rfl, Nat.le_of_ble_eq_true rfl⟩) hh hA (fun r_1024 H locs hw_1024 hh => ?_)
    rcases Decidable.em (wi la9 0 2) with hp_1024 | hp_1024
    · obtain rfl : r_1024 = 1 := Eq.trans hw_1024 (if_pos ((wj_32 (by decide) (by decide)).mpr hp_1024))
      obtain ⟨N_1024, rfl, hA_1024, hB_1024⟩ := wi_natB hp_1024 0 2 (by decide) (by decide)
      refine lv_if_ne (tgt := 29) hx hb dX12_against_23 (by decide) (fun _ => ?_) (fun c_0 => absurd c_0 (by decide))
      refine lv_aload_n hx hb dX12_against_29 rfl (lv_at hl 0 rfl) ?_
      refine hp_get hx hb hts ix12 hown hK hh (q := 0) rfl (hI.1 _ (by decide)) es1021 rfl 7 (by decide) (hts _ tw_886) (fun _ h9 => h9) rfl dX12_against_30 ?_
      refine lv_iload_n hx hb dX12_against_33 rfl (lv_at hl 1 rfl) ?_
      refine hp_iald hx hb hK hh (q := 3) rfl (hI.1 _ (by decide)) es1022 (vp_in_nI (n := N_1023) (by omega) (by decide)) dX12_against_34 ?_
      rw [nI_clamp (n := N_1023) (by omega)]
      refine lv_bipush (v := (-9)) hx hb dX12_against_35 (by decide) ?_
      refine lv_icmp_eq (tgt := 56) hx hb dX12_against_37 (by decide) (fun c_1025 => ?_) (fun c_1025 => ?_)
      · refine lv_aload_n hx hb dX12_against_56 rfl (lv_at hl 0 rfl) ?_
        refine hp_get hx hb hts ix12 hown hK hh (q := 0) rfl (hI.1 _ (by decide)) es1021 rfl 7 (by decide) (hts _ tw_886) (fun _ h9 => h9) rfl dX12_against_57 ?_
        refine lv_iload_n hx hb dX12_against_60 rfl (lv_at hl 1 rfl) ?_
        refine hp_iald hx hb hK hh (q := 3) rfl (hI.1 _ (by decide)) es1022 (vp_in_nI (n := N_1023) (by omega) (by decide)) dX12_against_61 ?_
        rw [nI_clamp (n := N_1023) (by omega)]
        refine lv_bipush (v := (-9)) hx hb dX12_against_62 (by decide) ?_
        refine lv_icmp_ne (tgt := 75) hx hb dX12_against_64 (by decide) (fun c_0 => absurd (c_1025) c_0) (fun _ => ?_)
        refine lv_aload_n hx hb dX12_against_67 rfl (lv_at hl 0 rfl) ?_
        refine lv_iconst (v := 1) hx hb dX12_against_68 (by decide) ?_
        refine hp_callMi (va_runV (As := [.int 1]) (rest := []) ⟨hx, hb, hml, hown, hts⟩ (c_X12_fails l D cy _ cs ad en (hI.1 _ (by decide)) fa hi wd mo tb dp many grt lst nou rm rb pr wo 1 es1021) (kw_X12_fails hts tw_997 ⟨by decide, by decide⟩) (preV_of hh hK (hI.1 _ (by decide)) es1021 rfl) rfl rfl hl.1 rfl (lv_room (Nat.le_of_ble_eq_true rfl)) dX12_against_69 ⟨Nat.le_of_ble_eq_true rfl, Nat.le_of_ble_eq_true rfl⟩) hh hA (fun r_1026 H locs en_1026 hw_1026 hh => ?_)
        obtain ⟨hr_1026, hen_1026⟩ := hw_1026
        have es1022_1026 : en_1026 3 = .inl (cy 0, 4, .inl f_1022) := by rw [hen_1026, va_up_ne _ _ (by decide)]; exact es1022
        have es1021_1026 : en_1026 0 = .inr (11, [.int 1, .int hi, .int (nI wd), .int (nI mo), .int (nI tb), .ref (ad 1), .ref (ad 2), .ref (ad 3), .ref (ad 4), .ref (ad 5), .ref (ad 6), .ref (ad 7), .ref (ad 8), .ref (ad 9), .int dp, .long many, .long grt, .long lst, .long nou, .ref (ad 10), .ref (ad 11), .ref (ad 12), .int rm, .long rb, .ref (ad 13), .int pr, .ref (ad 14), .ref (ad 15), .ref (ad 16), .ref (ad 17), .int (nI wo), .ref (ad 18), .ref (ad 19)]) := by rw [hen_1026]; exact va_up_self _ _ _
        have hI_1026 : RX cy cs ad en_1026 := by rw [hen_1026]; exact upr_M hI ⟨1, hi, wd, mo, tb, dp, many, grt, lst, nou, rm, rb, pr, wo, rfl, hwd2, hwd3, hmo, htb, hwo⟩
        have hf_1026 : ∀ c, (c ≠ 0) → en_1026 c = en c := fun c hc => Eq.trans (show en_1026 c = en c from by rw [hen_1026, va_up_ne _ _ (by omega)]) (hf0 c hc)
        have hkp_1026 : KP en en_1026 := KP_fv (KP_rf en) es1021 es1021_1026 hi (nI wd) (nI mo) (nI tb) pr (nI wo) rfl rfl rfl rfl rfl rfl rfl rfl rfl rfl rfl rfl
        obtain rfl : r_1026 = (-11) := hr_1026.trans (by decide)
        refine lv_goto (tgt := 76) hx hb dX12_against_72 (by decide) ?_
        exact hp_iretM hx hb hr rfl hlocks hh (⟨hI_1026, hf_1026, (by (try rw [nI_clamp (n := N_1023) (by omega)]); rw [show rdF (en 3) = f_1022 from by rw [es1022]; rfl]; unfold agF; rw [if_pos hp_1023, if_pos hp_1024, if_neg (fun q => q.1 c_1025), if_pos c_1025]), (fun q => absurd q (by decide)), hkp_1026⟩) dX12_against_76
      · refine lv_aload_n hx hb dX12_against_40 rfl (lv_at hl 0 rfl) ?_
        refine hp_get hx hb hts ix12 hown hK hh (q := 0) rfl (hI.1 _ (by decide)) es1021 rfl 7 (by decide) (hts _ tw_886) (fun _ h9 => h9) rfl dX12_against_41 ?_
        refine lv_iload_n hx hb dX12_against_44 rfl (lv_at hl 1 rfl) ?_
        refine hp_iald hx hb hK hh (q := 3) rfl (hI.1 _ (by decide)) es1022 (vp_in_nI (n := N_1023) (by omega) (by decide)) dX12_against_45 ?_
        rw [nI_clamp (n := N_1023) (by omega)]
        refine lv_iload_n hx hb dX12_against_46 rfl (lv_at hl 2 rfl) ?_
        refine lv_icmp_eq (tgt := 56) hx hb dX12_against_47 (by decide) (fun c_1027 => ?_) (fun c_1027 => ?_)
        · refine lv_aload_n hx hb dX12_against_56 rfl (lv_at hl 0 rfl) ?_
          refine hp_get hx hb hts ix12 hown hK hh (q := 0) rfl (hI.1 _ (by decide)) es1021 rfl 7 (by decide) (hts _ tw_886) (fun _ h9 => h9) rfl dX12_against_57 ?_
          refine lv_iload_n hx hb dX12_against_60 rfl (lv_at hl 1 rfl) ?_
          refine hp_iald hx hb hK hh (q := 3) rfl (hI.1 _ (by decide)) es1022 (vp_in_nI (n := N_1023) (by omega) (by decide)) dX12_against_61 ?_
          rw [nI_clamp (n := N_1023) (by omega)]
          refine lv_bipush (v := (-9)) hx hb dX12_against_62 (by decide) ?_
          refine lv_icmp_ne (tgt := 75) hx hb dX12_against_64 (by decide) (fun _ => ?_) (fun c_0 => absurd c_0 (c_1025))
          refine lv_iconst (v := 0) hx hb dX12_against_75 (by decide) ?_
          exact hp_iretM hx hb hr rfl hlocks hh (⟨hI, hf0, (by (try rw [nI_clamp (n := N_1023) (by omega)]); rw [show rdF (en 3) = f_1022 from by rw [es1022]; rfl]; unfold agF; rw [if_pos hp_1023, if_pos hp_1024, if_neg (fun q => q.2 c_1027), if_neg c_1025]), (fun _ => rfl), (KP_rf en)⟩) dX12_against_76
        · refine lv_aload_n hx hb dX12_against_50 rfl (lv_at hl 0 rfl) ?_
          refine lv_iconst (v := 2) hx hb dX12_against_51 (by decide) ?_
          refine hp_callMi (va_runV (As := [.int 2]) (rest := []) ⟨hx, hb, hml, hown, hts⟩ (c_X12_fails l D cy _ cs ad en (hI.1 _ (by decide)) fa hi wd mo tb dp many grt lst nou rm rb pr wo 2 es1021) (kw_X12_fails hts tw_997 ⟨by decide, by decide⟩) (preV_of hh hK (hI.1 _ (by decide)) es1021 rfl) rfl rfl hl.1 rfl (lv_room (Nat.le_of_ble_eq_true rfl)) dX12_against_52 ⟨Nat.le_of_ble_eq_true rfl, Nat.le_of_ble_eq_true rfl⟩) hh hA (fun r_1028 H locs en_1028 hw_1028 hh => ?_)
          obtain ⟨hr_1028, hen_1028⟩ := hw_1028
          have es1022_1028 : en_1028 3 = .inl (cy 0, 4, .inl f_1022) := by rw [hen_1028, va_up_ne _ _ (by decide)]; exact es1022
          have es1021_1028 : en_1028 0 = .inr (11, [.int 2, .int hi, .int (nI wd), .int (nI mo), .int (nI tb), .ref (ad 1), .ref (ad 2), .ref (ad 3), .ref (ad 4), .ref (ad 5), .ref (ad 6), .ref (ad 7), .ref (ad 8), .ref (ad 9), .int dp, .long many, .long grt, .long lst, .long nou, .ref (ad 10), .ref (ad 11), .ref (ad 12), .int rm, .long rb, .ref (ad 13), .int pr, .ref (ad 14), .ref (ad 15), .ref (ad 16), .ref (ad 17), .int (nI wo), .ref (ad 18), .ref (ad 19)]) := by rw [hen_1028]; exact va_up_self _ _ _
          have hI_1028 : RX cy cs ad en_1028 := by rw [hen_1028]; exact upr_M hI ⟨2, hi, wd, mo, tb, dp, many, grt, lst, nou, rm, rb, pr, wo, rfl, hwd2, hwd3, hmo, htb, hwo⟩
          have hf_1028 : ∀ c, (c ≠ 0) → en_1028 c = en c := fun c hc => Eq.trans (show en_1028 c = en c from by rw [hen_1028, va_up_ne _ _ (by omega)]) (hf0 c hc)
          have hkp_1028 : KP en en_1028 := KP_fv (KP_rf en) es1021 es1021_1028 hi (nI wd) (nI mo) (nI tb) pr (nI wo) rfl rfl rfl rfl rfl rfl rfl rfl rfl rfl rfl rfl
          obtain rfl : r_1028 = (-12) := hr_1028.trans (by decide)
          exact hp_iretM hx hb hr rfl hlocks hh (⟨hI_1028, hf_1028, (by (try rw [nI_clamp (n := N_1023) (by omega)]); rw [show rdF (en 3) = f_1022 from by rw [es1022]; rfl]; unfold agF; rw [if_pos hp_1023, if_pos hp_1024, if_pos ⟨c_1025, c_1027⟩]), (fun q => absurd q (by decide)), hkp_1028⟩) dX12_against_55
    · obtain rfl : r_1024 = 0 := Eq.trans hw_1024 (if_neg (fun q => hp_1024 ((wj_32 (by decide) (by decide)).mp q)))
      refine lv_if_ne (tgt := 29) hx hb dX12_against_23 (by decide) (fun c_0 => absurd c_0 (by decide)) (fun _ => ?_)
      refine lv_bipush (v := (-2)) hx hb dX12_against_26 (by decide) ?_
      exact hp_iretM hx hb hr rfl hlocks hh (⟨hI, hf0, (by unfold agF; rw [if_pos hp_1023, if_neg hp_1024]), (fun q => absurd q (by decide)), (KP_rf en)⟩) dX12_against_28
  · obtain rfl : r_1023 = 0 := Eq.trans hw_1023 (if_neg (fun q => hp_1023 ((wj_32 (by decide) (by decide)).mp q)))
    refine lv_if_ne (tgt := 14) hx hb dX12_against_9 (by decide) (fun c_0 => absurd c_0 (by decide)) (fun _ => ?_)
    refine lv_iconst (v := (-1)) hx hb dX12_against_12 (by decide) ?_
    exact hp_iretM hx hb hr rfl hlocks hh (⟨hI, hf0, (by unfold agF; rw [if_neg hp_1023]), (fun q => absurd q (by decide)), (KP_rf en)⟩) dX12_against_13
theorem kw_X12_against {R : Room} {s : State} {args : Array Value} {own : String} {idx : Nat} (hts : ∀ w ∈ TB, w.before args s = true) (hl : Cond.methodLink own idx yX12_against ∈ TB) (hR : 1 + 1 ≤ R.frames ∧ 8 + (3 + 11) + 40 * 1 ≤ R.locals) : CallW R s args own RX12 idx yX12_against cX12_against 3 (some .int) (Cond.code yX12_against cX12_against 3 (some .int) :: TB) (rmN 1) 0 0 2 := cwV 2 hts (TB_V hl tw_995 ts_31 tw_9 tw_996) rfl rfl rfl (by decide +kernel) hR
set_option maxHeartbeats 4000000 in
set_option maxRecDepth 100000 in
/-- table -/
theorem c_X12_table (l : Launch) (D : va_G) (cy : Nat → ClassId) (sz : Nat) (cs : List Nat) (ad : Nat → Nat) (en : Nat → va_E) (hI : RX cy cs ad en) (k9 la9 i9 : Int32)   : Met l yX12_table (Cond.code yX12_table cX12_table 6 (some .int) :: TB) (rmN 2) (va_Pc [.ref (ad 0), .int k9, .int la9, .int i9] (Pre D cy cs ad en sz)) (va_Qi (S := Nat → va_E) (fun r en1 => RX cy cs ad en1 ∧ (∀ c, (c ≠ 0 ∧ c ≠ 1) → en1 c = en c) ∧ RTB k9 la9 i9 r en en1) (PostM D cs ad) (Af cs ad sz)) 0 0 (Af cs ad sz) := by
  refine Met.ofW (cc := cX12_table) (maxL := 6) (ret := (some .int)) (by decide) rfl ?_
  intro p e s m args below meth c s₁ B hml hv
  obtain ⟨rfl, hsz, hP, hK, hD0⟩ := hv
  have hx := B.exec
  have hb := B.bytes
  have hr := B.returns
  have hts : ∀ w ∈ TB, w.before _ s = true := fun w h => atoms_spec (ws := _ :: TB) B.pre w (List.mem_cons_of_mem _ h)
  have hown : s.vm.findClass RX12 = some m.cls := findClass_of_methodNamed B.named
  have hlocks := B.notSynchronized
  have hh : Hp D (Af cs ad sz) (Af cs ad sz) s.heap s.heap [] cs ad en := ⟨hP, Af_self hD0, va_S.rf⟩
  have hA : ∀ q : Nat, s.heap.size ≤ q → Af cs ad sz q := fun q h => Or.inr (by rw [hsz] at h; exact h)
  have hl := lv_entry ([.ref (ad 0), .int k9, .int la9, .int i9]) (n := 6) (Nat.le_of_ble_eq_true rfl)
  rw [lg_entry_eq]
  generalize (lg_sl ([.ref (ad 0), .int k9, .int la9, .int i9]) ++ List.replicate (6 - (lg_sl ([.ref (ad 0), .int k9, .int la9, .int i9])).length) Slot.unset).toArray = ls at hl ⊢
  have hl : lv_has ls 6 [(0, .ref (ad 0)), (1, .int k9), (2, .int la9), (3, .int i9)] := hl
  have hf0 : ∀ c, (c ≠ 0 ∧ c ≠ 1) → en c = en c := fun _ _ => rfl
  obtain ⟨fa, hi, wd, mo, tb, dp, many, grt, lst, nou, rm, rb, pr, wo, es1029, hwd2, hwd3, hmo, htb, hwo⟩ := getr_M hI
  obtain ⟨f_1030, es1030⟩ := getr_la hI
  obtain ⟨f_1031, es1031, p0_1031⟩ := getr_sl hI
  obtain ⟨f_1032, es1032⟩ := getr_ce hI
  have hww : wd * wd ≤ 9 := mww (by omega)
  refine lv_aload_n hx hb dX12_table_0 rfl (lv_at hl 0 rfl) ?_
  refine lv_iconst (v := 0) hx hb dX12_table_1 (by decide) ?_
  refine hp_put hx hb hts ix12 tyX12 tyX12_ok nmX12 hown hK hh (q := 0) rfl (hI.1 _ (by decide)) es1029 rfl 0 (by decide) (hts _ tw_879) (fun _ h9 => h9) rfl (ty := .int) (by decide +kernel) rfl rfl (Nat.le_of_ble_eq_true rfl) dX12_table_2 (fun H locs en_1033 hen_1033 hh => ?_)
  have es1030_1033 : en_1033 3 = .inl (cy 0, 4, .inl f_1030) := by rw [hen_1033, va_up_ne _ _ (by decide)]; exact es1030
  have es1031_1033 : en_1033 4 = .inl (cy 0, 4, .inl f_1031) := by rw [hen_1033, va_up_ne _ _ (by decide)]; exact es1031
  have es1032_1033 : en_1033 5 = .inl (cy 0, 160, .inl f_1032) := by rw [hen_1033, va_up_ne _ _ (by decide)]; exact es1032
  have es1029_1033 : en_1033 0 = .inr (11, [.int 0, .int hi, .int (nI wd), .int (nI mo), .int (nI tb), .ref (ad 1), .ref (ad 2), .ref (ad 3), .ref (ad 4), .ref (ad 5), .ref (ad 6), .ref (ad 7), .ref (ad 8), .ref (ad 9), .int dp, .long many, .long grt, .long lst, .long nou, .ref (ad 10), .ref (ad 11), .ref (ad 12), .int rm, .long rb, .ref (ad 13), .int pr, .ref (ad 14), .ref (ad 15), .ref (ad 16), .ref (ad 17), .int (nI wo), .ref (ad 18), .ref (ad 19)]) := by rw [hen_1033]; exact va_up_self _ _ _
  have hI_1033 : RX cy cs ad en_1033 := by rw [hen_1033]; exact upr_M hI ⟨0, hi, wd, mo, tb, dp, many, grt, lst, nou, rm, rb, pr, wo, rfl, hwd2, hwd3, hmo, htb, hwo⟩
  have hf_1033 : ∀ c, (c ≠ 0 ∧ c ≠ 1) → en_1033 c = en c := fun c hc => Eq.trans (show en_1033 c = en c from by rw [hen_1033, va_up_ne _ _ (by omega)]) (hf0 c hc)
  have hkc1_1033 : en_1033 1 = en 1 := (show en_1033 1 = en 1 from by rw [hen_1033, va_up_ne _ _ (by decide)]).trans rfl
  have hkp_1033 : KP en en_1033 := KP_fv (KP_rf en) es1029 es1029_1033 hi (nI wd) (nI mo) (nI tb) pr (nI wo) rfl rfl rfl rfl rfl rfl rfl rfl rfl rfl rfl rfl
  refine lv_aload_n hx hb dX12_table_5 rfl (lv_at hl 0 rfl) ?_
  refine lv_iload_n hx hb dX12_table_6 rfl (lv_at hl 1 rfl) ?_
  refine lv_iload_n hx hb dX12_table_7 rfl (lv_at hl 2 rfl) ?_
  refine hp_callMi (va_runV (As := [.int k9, .int la9]) (rest := []) ⟨hx, hb, hml, hown, hts⟩ (c_X12_against l D cy _ cs ad en_1033 hI_1033 k9 la9 ) (kw_X12_against hts tw_993 ⟨by decide, by decide⟩) (preV_of hh hK (hI.1 _ (by decide)) es1029_1033 rfl) rfl rfl hl.1 rfl (lv_room (Nat.le_of_ble_eq_true rfl)) dX12_table_8 ⟨Nat.le_of_ble_eq_true rfl, Nat.le_of_ble_eq_true rfl⟩) hh hA (fun r_1034 H locs en_1034 hw_1034 hh => ?_)
  obtain ⟨hI_1034, hu_1034, hr_1034, h0_1034, hkq_1034⟩ := hw_1034
  rcases Decidable.em (r_1034 = 0) with hz_1034 | hz_1034
  · have he_1034 : en_1034 = en_1033 := h0_1034 hz_1034
    rw [he_1034] at hh
    have hag_1034 := agF_0 (hr_1034.symm.trans hz_1034)
    rw [hz_1034]
    refine lv_istore (lv' := [(4, .int 0), (0, .ref (ad 0)), (1, .int k9), (2, .int la9), (3, .int i9)]) hx hb dX12_table_11 hl (by decide) rfl (fun ls hl => ?_)
    refine lv_iload hx hb dX12_table_13 (lv_at hl 0 rfl) ?_
    refine lv_if_eq (tgt := 21) hx hb dX12_table_15 (by decide) (fun _ => ?_) (fun c_0 => absurd c_0 (by decide))
    have hag0 : agF (rdF (en 3) k9.toNatClampNeg) k9 la9 = 0 := by have h9 := hr_1034.symm.trans hz_1034; rw [show en_1033 3 = en 3 from hf_1033 3 (by omega)] at h9; exact h9
    obtain ⟨K9, rfl, -, hK9⟩ := wi_natB hag_1034.1 0 3 (by decide) (by decide)
    refine lv_iload_n hx hb dX12_table_21 rfl (lv_at hl 4 rfl) ?_
    refine lv_if_lt (tgt := 45) hx hb dX12_table_22 (by decide) (fun c_1035 => ?_) (fun c_1035 => ?_)
    · refine lv_aload_n hx hb dX12_table_45 rfl (lv_at hl 1 rfl) ?_
      refine lv_iconst (v := 3) hx hb dX12_table_46 (by decide) ?_
      refine hp_callMi (va_runV (As := [.int 3]) (rest := []) ⟨hx, hb, hml, hown, hts⟩ (c_X12_fails l D cy _ cs ad en_1033 (hI.1 _ (by decide)) 0 hi wd mo tb dp many grt lst nou rm rb pr wo 3 es1029_1033) (kw_X12_fails hts tw_997 ⟨by decide, by decide⟩) (preV_of hh hK (hI.1 _ (by decide)) es1029_1033 rfl) rfl rfl hl.1 rfl (lv_room (Nat.le_of_ble_eq_true rfl)) dX12_table_47 ⟨Nat.le_of_ble_eq_true rfl, Nat.le_of_ble_eq_true rfl⟩) hh hA (fun r_1036 H locs en_1036 hw_1036 hh => ?_)
      obtain ⟨hr_1036, hen_1036⟩ := hw_1036
      have es1030_1036 : en_1036 3 = .inl (cy 0, 4, .inl f_1030) := by rw [hen_1036, va_up_ne _ _ (by decide)]; exact es1030_1033
      have es1031_1036 : en_1036 4 = .inl (cy 0, 4, .inl f_1031) := by rw [hen_1036, va_up_ne _ _ (by decide)]; exact es1031_1033
      have es1032_1036 : en_1036 5 = .inl (cy 0, 160, .inl f_1032) := by rw [hen_1036, va_up_ne _ _ (by decide)]; exact es1032_1033
      have es1029_1036 : en_1036 0 = .inr (11, [.int 3, .int hi, .int (nI wd), .int (nI mo), .int (nI tb), .ref (ad 1), .ref (ad 2), .ref (ad 3), .ref (ad 4), .ref (ad 5), .ref (ad 6), .ref (ad 7), .ref (ad 8), .ref (ad 9), .int dp, .long many, .long grt, .long lst, .long nou, .ref (ad 10), .ref (ad 11), .ref (ad 12), .int rm, .long rb, .ref (ad 13), .int pr, .ref (ad 14), .ref (ad 15), .ref (ad 16), .ref (ad 17), .int (nI wo), .ref (ad 18), .ref (ad 19)]) := by rw [hen_1036]; exact va_up_self _ _ _
      have hI_1036 : RX cy cs ad en_1036 := by rw [hen_1036]; exact upr_M hI_1033 ⟨3, hi, wd, mo, tb, dp, many, grt, lst, nou, rm, rb, pr, wo, rfl, hwd2, hwd3, hmo, htb, hwo⟩
      have hf_1036 : ∀ c, (c ≠ 0 ∧ c ≠ 1) → en_1036 c = en c := fun c hc => Eq.trans (show en_1036 c = en_1033 c from by rw [hen_1036, va_up_ne _ _ (by omega)]) (hf_1033 c hc)
      have hkc1_1036 : en_1036 1 = en 1 := (show en_1036 1 = en_1033 1 from by rw [hen_1036, va_up_ne _ _ (by decide)]).trans hkc1_1033
      have hkp_1036 : KP en en_1036 := KP_fv hkp_1033 es1029_1033 es1029_1036 hi (nI wd) (nI mo) (nI tb) pr (nI wo) rfl rfl rfl rfl rfl rfl rfl rfl rfl rfl rfl rfl
      obtain rfl : r_1036 = (-13) := hr_1036.trans (by decide)
      exact hp_iretM hx hb hr rfl hlocks hh (⟨hI_1036, hf_1036, ⟨wd, tb, hwd2, hwd3, htb, (by rw [es1029]; rfl), (by rw [es1029]; rfl), Or.inr ⟨hag0, K9, rfl, by omega, Or.inl ⟨ns_lt c_1035, rfl, hkp_1036, hkc1_1036⟩⟩⟩⟩) dX12_table_50
    · refine lv_iload_n hx hb dX12_table_25 rfl (lv_at hl 4 rfl) ?_
      refine lv_aload_n hx hb dX12_table_26 rfl (lv_at hl 1 rfl) ?_
      refine hp_get hx hb hts ix12 hown hK hh (q := 0) rfl (hI.1 _ (by decide)) es1029_1033 rfl 8 (by decide) (hts _ tw_887) (fun _ h9 => h9) rfl dX12_table_27 ?_
      refine lv_iload_n hx hb dX12_table_30 rfl (lv_at hl 2 rfl) ?_
      refine hp_iald hx hb hK hh (q := 4) rfl (hI.1 _ (by decide)) es1031_1033 (vp_in_nI (n := K9) (by omega) (by decide)) dX12_table_31 ?_
      rw [nI_clamp (n := K9) (by omega)]
      obtain ⟨v_1037, hv_1037, hfv_1037⟩ := p0_1031 K9 (by omega)
      rw [hfv_1037]
      refine lv_aload_n hx hb dX12_table_32 rfl (lv_at hl 1 rfl) ?_
      refine hp_get hx hb hts ix12 hown hK hh (q := 0) rfl (hI.1 _ (by decide)) es1029_1033 rfl 2 (by decide) (hts _ tw_881) (fun _ h9 => h9) rfl dX12_table_33 ?_
      refine lv_aload_n hx hb dX12_table_36 rfl (lv_at hl 1 rfl) ?_
      refine hp_get hx hb hts ix12 hown hK hh (q := 0) rfl (hI.1 _ (by decide)) es1029_1033 rfl 2 (by decide) (hts _ tw_881) (fun _ h9 => h9) rfl dX12_table_37 ?_
      refine lv_imul hx hb dX12_table_40 ?_
      rw [pk_mul wd wd]
      have hw2_1038 : wd * wd ≤ 9 := mww (by omega)
      refine lv_isub hx hb dX12_table_41 ?_
      refine lv_icmp_le (tgt := 51) hx hb dX12_table_42 (by decide) (fun c_1039 => ?_) (fun c_1039 => ?_)
      · obtain ⟨I9, rfl, hI9⟩ := le_sub_nat c_1035 c_1039 (by omega) (by omega)
        refine lv_iconst (v := 0) hx hb dX12_table_51 (by decide) ?_
        refine lv_istore (lv' := [(5, .int 0), (4, .int 0), (0, .ref (ad 0)), (1, .int (nI K9)), (2, .int la9), (3, .int (nI I9))]) hx hb dX12_table_52 hl (by decide) rfl (fun ls hl => ?_)
        have loop_1040 : ∀ (fu j1040 : Nat)   (ls : Array Slot) (H : Heap) (locs : List Loc), 0 ≤ j1040 → j1040 ≤ (wd * wd) → (wd * wd) < j1040 + fu →  (∀ x, x < j1040 → wi (f_1032 (((40 * K9) + I9) + x)) (-9) 9) → lv_has ls 6 [(5, .int (nI j1040)), (4, .int 0), (0, .ref (ad 0)), (1, .int (nI K9)), (2, .int la9), (3, .int (nI I9))] → Hp D (Af cs ad sz) (Af cs ad sz) s.heap H locs cs ad en_1033 → W p l e (headSpec (Cond.code yX12_table cX12_table 6 (some .int) :: TB) (rmN 2)).room s m ([.ref (ad 0), .int (nI K9), .int la9, .int (nI I9)] : List Value).toArray below meth c H locs 0 0 (MQ below (va_Qi (S := Nat → va_E) (fun r en1 => RX cy cs ad en1 ∧ (∀ c, (c ≠ 0 ∧ c ≠ 1) → en1 c = en c) ∧ RTB (nI K9) la9 (nI I9) r en en1) (PostM D cs ad) (Af cs ad sz)) ([.ref (ad 0), .int (nI K9), .int la9, .int (nI I9)] : List Value).toArray s 0 0 (Af cs ad sz)) (F0 m 54 ls []) := by
          intro fu
          induction fu with
          | zero => intro j1040  ls H locs h0 h1 h2; exact absurd h2 (by omega)
          | succ fu ih_1040 =>
            intro j1040  ls H locs hj0_1040 hj_1040 hfu_1040 i0_1040 hl hh
            refine lv_iload hx hb dX12_table_54 (lv_at hl 0 rfl) ?_
            refine lv_aload_n hx hb dX12_table_56 rfl (lv_at hl 2 rfl) ?_
            refine hp_get hx hb hts ix12 hown hK hh (q := 0) rfl (hI.1 _ (by decide)) es1029_1033 rfl 2 (by decide) (hts _ tw_881) (fun _ h9 => h9) rfl dX12_table_57 ?_
            refine lv_aload_n hx hb dX12_table_60 rfl (lv_at hl 2 rfl) ?_
            refine hp_get hx hb hts ix12 hown hK hh (q := 0) rfl (hI.1 _ (by decide)) es1029_1033 rfl 2 (by decide) (hts _ tw_881) (fun _ h9 => h9) rfl dX12_table_61 ?_
            refine lv_imul hx hb dX12_table_64 ?_
            rw [pk_mul wd wd]
            have hw2_1041 : wd * wd ≤ 9 := mww (by omega)
            refine lv_icmp_ge (tgt := 104) hx hb dX12_table_65 (by decide) (fun c_1042 => ?_) (fun c_1042 => ?_)
            · have n_1042 : (wd * wd) ≤ j1040 := n_le (a := (wd * wd)) (b := j1040) c_1042 (by omega) (by omega)
              have hok9 : okR en K9 I9 (wd * wd) := fun x hx => by rw [show rdF (en 5) = f_1032 from by rw [es1032]; rfl]; exact i0_1040 x (by omega)
              refine lv_aload_n hx hb dX12_table_104 rfl (lv_at hl 2 rfl) ?_
              refine hp_get hx hb hts ix12 hown hK hh (q := 0) rfl (hI.1 _ (by decide)) es1029_1033 rfl 4 (by decide) (hts _ tw_883) (fun _ h9 => h9) rfl dX12_table_105 ?_
              refine lv_bipush (v := 6) hx hb dX12_table_108 (by decide) ?_
              refine lv_icmp_ne (tgt := 116) hx hb dX12_table_110 (by decide) (fun c_1043 => ?_) (fun c_1043 => ?_)
              · have n_1043 : tb ≠ 6 := n_neq (a := tb) (b := 6) c_1043 (by omega) (by decide)
                refine lv_iconst (v := 0) hx hb dX12_table_116 (by decide) ?_
                refine lv_istore (lv' := [(5, .int 0), (4, .int 0), (0, .ref (ad 0)), (1, .int (nI K9)), (2, .int la9), (3, .int (nI I9))]) hx hb dX12_table_117 hl (by decide) rfl (fun ls hl => ?_)
                have loop_1044 : ∀ (fu j1044 : Nat)  (en_1044 : Nat → va_E) (ls : Array Slot) (H : Heap) (locs : List Loc), 0 ≤ j1044 → j1044 ≤ (wd * wd) → (wd * wd) < j1044 + fu → RX cy cs ad en_1044 → (∀ c, (c ≠ 0 ∧ c ≠ 1) → en_1044 c = en c) → (∀ x, rdF (en_1044 1) x = if 9 * tb ≤ x ∧ x < 9 * tb + j1044 then rdF (en 5) (40 * K9 + I9 + (x - 9 * tb)) else rdF (en 1) x) → (KP en en_1044) → lv_has ls 6 [(5, .int (nI j1044)), (4, .int 0), (0, .ref (ad 0)), (1, .int (nI K9)), (2, .int la9), (3, .int (nI I9))] → Hp D (Af cs ad sz) (Af cs ad sz) s.heap H locs cs ad en_1044 → W p l e (headSpec (Cond.code yX12_table cX12_table 6 (some .int) :: TB) (rmN 2)).room s m ([.ref (ad 0), .int (nI K9), .int la9, .int (nI I9)] : List Value).toArray below meth c H locs 0 0 (MQ below (va_Qi (S := Nat → va_E) (fun r en1 => RX cy cs ad en1 ∧ (∀ c, (c ≠ 0 ∧ c ≠ 1) → en1 c = en c) ∧ RTB (nI K9) la9 (nI I9) r en en1) (PostM D cs ad) (Af cs ad sz)) ([.ref (ad 0), .int (nI K9), .int la9, .int (nI I9)] : List Value).toArray s 0 0 (Af cs ad sz)) (F0 m 119 ls []) := by
                  intro fu
                  induction fu with
                  | zero => intro j1044  en_1044 ls H locs h0 h1 h2; exact absurd h2 (by omega)
                  | succ fu ih_1044 =>
                    intro j1044  en_1044 ls H locs hj0_1044 hj_1044 hfu_1044 hI_1044 hf_1044 i0_1044 i1_1044 hl hh
                    refine lv_iload hx hb dX12_table_119 (lv_at hl 0 rfl) ?_
                    refine lv_aload_n hx hb dX12_table_121 rfl (lv_at hl 2 rfl) ?_
                    obtain ⟨fa_1045, hi_1045, wd_1045, mo_1045, tb_1045, dp_1045, many_1045, grt_1045, lst_1045, nou_1045, rm_1045, rb_1045, pr_1045, wo_1045, es1045, p0_1045, p1_1045, p2_1045, p3_1045, p4_1045⟩ := getr_M hI_1044
                    have hq2_1046 : wd_1045 = wd := n_eq ((show nI wd_1045 = rdI (en_1044 0) 2 from by rw [es1045]; rfl).trans (i1_1044.2.1.trans (show rdI (en 0) 2 = nI wd from by rw [es1029]; rfl))) (by omega) (by omega)
                    have hq3_1046 : mo_1045 = mo := n_eq ((show nI mo_1045 = rdI (en_1044 0) 3 from by rw [es1045]; rfl).trans (i1_1044.2.2.1.trans (show rdI (en 0) 3 = nI mo from by rw [es1029]; rfl))) (by omega) (by omega)
                    have hq4_1046 : tb_1045 = tb := n_eq ((show nI tb_1045 = rdI (en_1044 0) 4 from by rw [es1045]; rfl).trans (i1_1044.2.2.2.1.trans (show rdI (en 0) 4 = nI tb from by rw [es1029]; rfl))) (by omega) (by omega)
                    have hq30_1046 : wo_1045 = wo := n_eq ((show nI wo_1045 = rdI (en_1044 0) 30 from by rw [es1045]; rfl).trans (i1_1044.2.2.2.2.2.trans (show rdI (en 0) 30 = nI wo from by rw [es1029]; rfl))) (by omega) (by omega)
                    rw [hq2_1046, hq3_1046, hq4_1046, hq30_1046] at es1045
                    refine hp_get hx hb hts ix12 hown hK hh (q := 0) rfl (hI.1 _ (by decide)) es1045 rfl 2 (by decide) (hts _ tw_881) (fun _ h9 => h9) rfl dX12_table_122 ?_
                    refine lv_aload_n hx hb dX12_table_125 rfl (lv_at hl 2 rfl) ?_
                    refine hp_get hx hb hts ix12 hown hK hh (q := 0) rfl (hI.1 _ (by decide)) es1045 rfl 2 (by decide) (hts _ tw_881) (fun _ h9 => h9) rfl dX12_table_126 ?_
                    refine lv_imul hx hb dX12_table_129 ?_
                    rw [pk_mul wd wd]
                    have hw2_1047 : wd * wd ≤ 9 := mww (by omega)
                    refine lv_icmp_ge (tgt := 168) hx hb dX12_table_130 (by decide) (fun c_1048 => ?_) (fun c_1048 => ?_)
                    · have n_1048 : (wd * wd) ≤ j1044 := n_le (a := (wd * wd)) (b := j1044) c_1048 (by omega) (by omega)
                      refine lv_aload_n hx hb dX12_table_168 rfl (lv_at hl 2 rfl) ?_
                      refine lv_bipush (v := (-9)) hx hb dX12_table_169 (by decide) ?_
                      refine hp_put hx hb hts ix12 tyX12 tyX12_ok nmX12 hown hK hh (q := 0) rfl (hI.1 _ (by decide)) es1045 rfl 25 (by decide) (hts _ tw_904) (fun _ h9 => h9) rfl (ty := .int) (by decide +kernel) rfl rfl (Nat.le_of_ble_eq_true rfl) dX12_table_171 (fun H locs en_1049 hen_1049 hh => ?_)
                      have es1045_1049 : en_1049 0 = .inr (11, [.int fa_1045, .int hi_1045, .int (nI wd), .int (nI mo), .int (nI tb), .ref (ad 1), .ref (ad 2), .ref (ad 3), .ref (ad 4), .ref (ad 5), .ref (ad 6), .ref (ad 7), .ref (ad 8), .ref (ad 9), .int dp_1045, .long many_1045, .long grt_1045, .long lst_1045, .long nou_1045, .ref (ad 10), .ref (ad 11), .ref (ad 12), .int rm_1045, .long rb_1045, .ref (ad 13), .int (-9), .ref (ad 14), .ref (ad 15), .ref (ad 16), .ref (ad 17), .int (nI wo), .ref (ad 18), .ref (ad 19)]) := by rw [hen_1049]; exact va_up_self _ _ _
                      have hI_1049 : RX cy cs ad en_1049 := by rw [hen_1049]; exact upr_M hI_1044 ⟨fa_1045, hi_1045, wd, mo, tb, dp_1045, many_1045, grt_1045, lst_1045, nou_1045, rm_1045, rb_1045, (-9), wo, rfl, hwd2, hwd3, hmo, htb, hwo⟩
                      have hf_1049 : ∀ c, (c ≠ 0 ∧ c ≠ 1) → en_1049 c = en c := fun c hc => Eq.trans (show en_1049 c = en_1044 c from by rw [hen_1049, va_up_ne _ _ (by omega)]) (hf_1044 c hc)
                      refine lv_aload_n hx hb dX12_table_174 rfl (lv_at hl 2 rfl) ?_
                      refine lv_dup hx hb dX12_table_175 rfl ?_
                      refine hp_get hx hb hts ix12 hown hK hh (q := 0) rfl (hI.1 _ (by decide)) es1045_1049 rfl 4 (by decide) (hts _ tw_883) (fun _ h9 => h9) rfl dX12_table_176 ?_
                      refine lv_iconst (v := 1) hx hb dX12_table_179 (by decide) ?_
                      refine lv_iadd hx hb dX12_table_180 ?_
                      rw [show (1 : Int32) = nI 1 from rfl, nI_add tb 1]
                      refine hp_put hx hb hts ix12 tyX12 tyX12_ok nmX12 hown hK hh (q := 0) rfl (hI.1 _ (by decide)) es1045_1049 rfl 4 (by decide) (hts _ tw_883) (fun _ h9 => h9) rfl (ty := .int) (by decide +kernel) rfl rfl (Nat.le_of_ble_eq_true rfl) dX12_table_181 (fun H locs en_1050 hen_1050 hh => ?_)
                      have es1045_1050 : en_1050 0 = .inr (11, [.int fa_1045, .int hi_1045, .int (nI wd), .int (nI mo), .int (nI (tb + 1)), .ref (ad 1), .ref (ad 2), .ref (ad 3), .ref (ad 4), .ref (ad 5), .ref (ad 6), .ref (ad 7), .ref (ad 8), .ref (ad 9), .int dp_1045, .long many_1045, .long grt_1045, .long lst_1045, .long nou_1045, .ref (ad 10), .ref (ad 11), .ref (ad 12), .int rm_1045, .long rb_1045, .ref (ad 13), .int (-9), .ref (ad 14), .ref (ad 15), .ref (ad 16), .ref (ad 17), .int (nI wo), .ref (ad 18), .ref (ad 19)]) := by rw [hen_1050]; exact va_up_self _ _ _
                      have hI_1050 : RX cy cs ad en_1050 := by rw [hen_1050]; exact upr_M hI_1049 ⟨fa_1045, hi_1045, wd, mo, (tb + 1), dp_1045, many_1045, grt_1045, lst_1045, nou_1045, rm_1045, rb_1045, (-9), wo, rfl, hwd2, hwd3, hmo, (by omega), hwo⟩
                      have hf_1050 : ∀ c, (c ≠ 0 ∧ c ≠ 1) → en_1050 c = en c := fun c hc => Eq.trans (show en_1050 c = en_1049 c from by rw [hen_1050, va_up_ne _ _ (by omega)]) (hf_1049 c hc)
                      refine lv_aload_n hx hb dX12_table_184 rfl (lv_at hl 2 rfl) ?_
                      refine hp_get hx hb hts ix12 hown hK hh (q := 0) rfl (hI.1 _ (by decide)) es1045_1050 rfl 4 (by decide) (hts _ tw_883) (fun _ h9 => h9) rfl dX12_table_185 ?_
                      refine lv_iconst (v := 1) hx hb dX12_table_188 (by decide) ?_
                      refine lv_isub hx hb dX12_table_189 ?_
                      rw [show (1 : Int32) = nI 1 from rfl, pk_sub (a := (tb + 1)) (b := 1) (by omega)]
                      exact hp_iretM hx hb hr rfl hlocks hh (⟨hI_1050, hf_1050, ⟨wd, tb, hwd2, hwd3, htb, (by rw [es1029]; rfl), (by rw [es1029]; rfl), Or.inr ⟨hag0, K9, rfl, by omega, Or.inr ⟨I9, rfl, by rw [show rdF (en 4) K9 = nI v_1037 from by rw [show rdF (en 4) = f_1031 from by rw [es1031]; rfl]; exact hfv_1037, nI_toInt (by omega)]; omega, by omega, Or.inr (Or.inr ⟨hok9, by omega, congrArg nI (by omega), (Eq.trans (show rdI (en_1050 0) 1 = rdI (en_1044 0) 1 from by rw [es1045_1050, es1045]; rfl) i1_1044.1), (Eq.trans (show rdI (en_1050 0) 2 = rdI (en_1044 0) 2 from by rw [es1045_1050, es1045]; rfl) i1_1044.2.1), (Eq.trans (show rdI (en_1050 0) 3 = rdI (en_1044 0) 3 from by rw [es1045_1050, es1045]; rfl) i1_1044.2.2.1), (by rw [es1045_1050]; exact congrArg nI (by omega)), (by rw [es1045_1050]; rfl), (Eq.trans (show rdI (en_1050 0) 30 = rdI (en_1044 0) 30 from by rw [es1045_1050, es1045]; rfl) i1_1044.2.2.2.2.2), fun x => by rw [show en_1050 1 = en_1044 1 from by rw [hen_1050, va_up_ne _ _ (by decide), hen_1049, va_up_ne _ _ (by decide)]]; have e9 : j1044 = wd * wd := (by omega); rw [e9] at i0_1044; exact i0_1044 x⟩)⟩⟩⟩⟩) dX12_table_190
                    · have n_1048 : j1044 < (wd * wd) := n_nle (a := (wd * wd)) (b := j1044) c_1048 (by omega) (by omega)
                      refine lv_aload_n hx hb dX12_table_133 rfl (lv_at hl 2 rfl) ?_
                      refine hp_get hx hb hts ix12 hown hK hh (q := 0) rfl (hI.1 _ (by decide)) es1045 rfl 5 (by decide) (hts _ tw_884) (fun _ h9 => h9) rfl dX12_table_134 ?_
                      refine lv_bipush (v := 9) hx hb dX12_table_137 (by decide) ?_
                      refine lv_aload_n hx hb dX12_table_139 rfl (lv_at hl 2 rfl) ?_
                      refine hp_get hx hb hts ix12 hown hK hh (q := 0) rfl (hI.1 _ (by decide)) es1045 rfl 4 (by decide) (hts _ tw_883) (fun _ h9 => h9) rfl dX12_table_140 ?_
                      refine lv_imul hx hb dX12_table_143 ?_
                      rw [show (9 : Int32) = nI 9 from rfl, pk_mul 9 tb]
                      refine lv_iload hx hb dX12_table_144 (lv_at hl 0 rfl) ?_
                      refine lv_iadd hx hb dX12_table_146 ?_
                      rw [nI_add (9 * tb) j1044]
                      refine lv_aload_n hx hb dX12_table_147 rfl (lv_at hl 2 rfl) ?_
                      refine hp_get hx hb hts ix12 hown hK hh (q := 0) rfl (hI.1 _ (by decide)) es1045 rfl 9 (by decide) (hts _ tw_888) (fun _ h9 => h9) rfl dX12_table_148 ?_
                      refine lv_bipush (v := 40) hx hb dX12_table_151 (by decide) ?_
                      refine lv_iload_n hx hb dX12_table_153 rfl (lv_at hl 3 rfl) ?_
                      refine lv_imul hx hb dX12_table_154 ?_
                      rw [show (40 : Int32) = nI 40 from rfl, pk_mul 40 K9]
                      refine lv_iload_n hx hb dX12_table_155 rfl (lv_at hl 5 rfl) ?_
                      refine lv_iadd hx hb dX12_table_156 ?_
                      rw [nI_add (40 * K9) I9]
                      refine lv_iload hx hb dX12_table_157 (lv_at hl 0 rfl) ?_
                      refine lv_iadd hx hb dX12_table_159 ?_
                      rw [nI_add ((40 * K9) + I9) j1044]
                      have es1032_1051 : en_1044 5 = .inl (cy 0, 160, .inl f_1032) := (hf_1044 5 (by omega)).trans es1032
                      refine hp_iald hx hb hK hh (q := 5) rfl (hI.1 _ (by decide)) es1032_1051 (vp_in_nI (n := (((40 * K9) + I9) + j1044)) (by omega) (by decide)) dX12_table_160 ?_
                      rw [nI_clamp (n := (((40 * K9) + I9) + j1044)) (by omega)]
                      obtain ⟨f_1052, es1052⟩ := getr_E hI_1044
                      refine hp_iast hx hb hK hh (q := 1) rfl (hI.1 _ (by decide)) es1052 (vp_in_nI (n := ((9 * tb) + j1044)) (by omega) (by decide)) dX12_table_161 (fun H locs en_1053 hen_1053 hh => ?_)
                      rw [nI_clamp (n := ((9 * tb) + j1044)) (by omega)] at hen_1053
                      have es1045_1053 : en_1053 0 = .inr (11, [.int fa_1045, .int hi_1045, .int (nI wd), .int (nI mo), .int (nI tb), .ref (ad 1), .ref (ad 2), .ref (ad 3), .ref (ad 4), .ref (ad 5), .ref (ad 6), .ref (ad 7), .ref (ad 8), .ref (ad 9), .int dp_1045, .long many_1045, .long grt_1045, .long lst_1045, .long nou_1045, .ref (ad 10), .ref (ad 11), .ref (ad 12), .int rm_1045, .long rb_1045, .ref (ad 13), .int pr_1045, .ref (ad 14), .ref (ad 15), .ref (ad 16), .ref (ad 17), .int (nI wo), .ref (ad 18), .ref (ad 19)]) := by rw [hen_1053, va_up_ne _ _ (by decide)]; exact es1045
                      have es1032_1053 : en_1053 5 = .inl (cy 0, 160, .inl f_1032) := by rw [hen_1053, va_up_ne _ _ (by decide)]; exact es1032_1051
                      have es1052_1053 : en_1053 1 = .inl (cy 0, 54, .inl (upd f_1052 ((9 * tb) + j1044) (f_1032 (((40 * K9) + I9) + j1044)))) := by rw [hen_1053]; exact va_up_self _ _ _
                      have hI_1053 : RX cy cs ad en_1053 := by rw [hen_1053]; exact upr_E hI_1044 ⟨(upd f_1052 ((9 * tb) + j1044) (f_1032 (((40 * K9) + I9) + j1044))), rfl⟩
                      have hf_1053 : ∀ c, (c ≠ 0 ∧ c ≠ 1) → en_1053 c = en c := fun c hc => Eq.trans (show en_1053 c = en_1044 c from by rw [hen_1053, va_up_ne _ _ (by omega)]) (hf_1044 c hc)
                      have hkp_1053 : KP en en_1053 := KP_same i1_1044 (show en_1053 0 = en_1044 0 from by rw [hen_1053, va_up_ne _ _ (by decide)])
                      refine lv_iinc (v := (nI (j1044 + 1))) (lv' := [(5, .int (nI (j1044 + 1))), (4, .int 0), (0, .ref (ad 0)), (1, .int (nI K9)), (2, .int la9), (3, .int (nI I9))]) hx hb dX12_table_162 hl (k := 0) rfl (nI_1 _) (by decide) rfl (fun ls hl => ?_)
                      refine lv_goto (tgt := 119) hx hb dX12_table_165 (by decide) ?_
                      exact ih_1044 ((j1044 + 1))  en_1053 ls H locs (by omega) (by omega) (by omega) hI_1053 hf_1053 (fun x => by rw [es1052_1053]; have h9 := tb_upd (a := 9 * tb) (b := 40 * K9 + I9) (j := j1044) (c := rdF (en 5)) (fun x => (show f_1052 x = rdF (en_1044 1) x from by rw [es1052]; rfl).trans (i0_1044 x)) x; rw [show rdF (en 5) (40 * K9 + I9 + j1044) = f_1032 (40 * K9 + I9 + j1044) from by rw [es1032]; rfl] at h9; exact h9) (hkp_1053) (lv_sub hl [0, 1, 2, 3, 4, 5] rfl) hh
                exact loop_1044 ((wd * wd) + 1) 0  en_1033 ls _ _ (Nat.le_refl _) (by omega) (by omega) hI_1033 hf_1033 (fun x => by rw [hkc1_1033, if_neg (by omega)]) (hkp_1033) (lv_sub hl [0, 1, 2, 3, 4, 5] rfl) hh
              · have n_1043 : tb = 6 := n_eq (a := tb) (b := 6) c_1043 (by omega) (by decide)
                refine lv_bipush (v := (-4)) hx hb dX12_table_113 (by decide) ?_
                exact hp_iretM hx hb hr rfl hlocks hh (⟨hI_1033, hf_1033, ⟨wd, tb, hwd2, hwd3, htb, (by rw [es1029]; rfl), (by rw [es1029]; rfl), Or.inr ⟨hag0, K9, rfl, by omega, Or.inr ⟨I9, rfl, by rw [show rdF (en 4) K9 = nI v_1037 from by rw [show rdF (en 4) = f_1031 from by rw [es1031]; rfl]; exact hfv_1037, nI_toInt (by omega)]; omega, by omega, Or.inr (Or.inl ⟨hok9, by omega, rfl, hkp_1033, hkc1_1033⟩)⟩⟩⟩⟩) dX12_table_115
            · have n_1042 : j1040 < (wd * wd) := n_nle (a := (wd * wd)) (b := j1040) c_1042 (by omega) (by omega)
              refine lv_aload_n hx hb dX12_table_68 rfl (lv_at hl 2 rfl) ?_
              refine hp_get hx hb hts ix12 hown hK hh (q := 0) rfl (hI.1 _ (by decide)) es1029_1033 rfl 9 (by decide) (hts _ tw_888) (fun _ h9 => h9) rfl dX12_table_69 ?_
              refine lv_bipush (v := 40) hx hb dX12_table_72 (by decide) ?_
              refine lv_iload_n hx hb dX12_table_74 rfl (lv_at hl 3 rfl) ?_
              refine lv_imul hx hb dX12_table_75 ?_
              rw [show (40 : Int32) = nI 40 from rfl, pk_mul 40 K9]
              refine lv_iload_n hx hb dX12_table_76 rfl (lv_at hl 5 rfl) ?_
              refine lv_iadd hx hb dX12_table_77 ?_
              rw [nI_add (40 * K9) I9]
              refine lv_iload hx hb dX12_table_78 (lv_at hl 0 rfl) ?_
              refine lv_iadd hx hb dX12_table_80 ?_
              rw [nI_add ((40 * K9) + I9) j1040]
              refine hp_iald hx hb hK hh (q := 5) rfl (hI.1 _ (by decide)) es1032_1033 (vp_in_nI (n := (((40 * K9) + I9) + j1040)) (by omega) (by decide)) dX12_table_81 ?_
              rw [nI_clamp (n := (((40 * K9) + I9) + j1040)) (by omega)]
              refine lv_i2l hx hb dX12_table_82 rfl ?_
              refine lv_ldc2 hx hb hown (hts _ tw_1001) dX12_table_83 ?_
              refine lv_ldc2 hx hb hown (hts _ tw_1002) dX12_table_86 ?_
              refine hp_callRi (va_runS (As := [.long ((f_1032 (((40 * K9) + I9) + j1040)).toInt64), .long (-9), .long 9]) (rest := []) ⟨hx, hb, hml, hown, hts⟩ (c_X12_within l D cy _ cs ad en_1033 ((f_1032 (((40 * K9) + I9) + j1040)).toInt64) (-9) 9) (kw_X12_within hts tw_985 ⟨by decide, by decide⟩) (preS_of hh hK) rfl rfl hl.1 rfl (lv_room (Nat.le_of_ble_eq_true rfl)) dX12_table_89 ⟨Nat.le_of_ble_eq_true rfl, Nat.le_of_ble_eq_true rfl⟩) hh hA (fun r_1054 H locs hw_1054 hh => ?_)
              rcases Decidable.em (wi (f_1032 (((40 * K9) + I9) + j1040)) (-9) 9) with hp_1054 | hp_1054
              · obtain rfl : r_1054 = 1 := Eq.trans hw_1054 (if_pos ((wj_32 (by decide) (by decide)).mpr hp_1054))
                refine lv_if_ne (tgt := 98) hx hb dX12_table_92 (by decide) (fun _ => ?_) (fun c_0 => absurd c_0 (by decide))
                refine lv_iinc (v := (nI (j1040 + 1))) (lv' := [(5, .int (nI (j1040 + 1))), (4, .int 0), (0, .ref (ad 0)), (1, .int (nI K9)), (2, .int la9), (3, .int (nI I9))]) hx hb dX12_table_98 hl (k := 0) rfl (nI_1 _) (by decide) rfl (fun ls hl => ?_)
                refine lv_goto (tgt := 54) hx hb dX12_table_101 (by decide) ?_
                exact ih_1040 ((j1040 + 1))  ls H locs (by omega) (by omega) (by omega) (fun x hx => (Nat.lt_or_ge x j1040).elim (fun h => i0_1040 x h) (fun h => by have e : x = j1040 := (by omega); rw [e]; exact hp_1054)) (lv_sub hl [0, 1, 2, 3, 4, 5] rfl) hh
              · obtain rfl : r_1054 = 0 := Eq.trans hw_1054 (if_neg (fun q => hp_1054 ((wj_32 (by decide) (by decide)).mp q)))
                refine lv_if_ne (tgt := 98) hx hb dX12_table_92 (by decide) (fun c_0 => absurd c_0 (by decide)) (fun _ => ?_)
                refine lv_bipush (v := (-2)) hx hb dX12_table_95 (by decide) ?_
                exact hp_iretM hx hb hr rfl hlocks hh (⟨hI_1033, hf_1033, ⟨wd, tb, hwd2, hwd3, htb, (by rw [es1029]; rfl), (by rw [es1029]; rfl), Or.inr ⟨hag0, K9, rfl, by omega, Or.inr ⟨I9, rfl, by rw [show rdF (en 4) K9 = nI v_1037 from by rw [show rdF (en 4) = f_1031 from by rw [es1031]; rfl]; exact hfv_1037, nI_toInt (by omega)]; omega, by omega, Or.inl ⟨fun q => hp_1054 (by have h9 := q j1040 (by omega); rw [show rdF (en 5) = f_1032 from by rw [es1032]; rfl] at h9; exact h9), rfl, hkp_1033, hkc1_1033⟩⟩⟩⟩⟩) dX12_table_97
        exact loop_1040 ((wd * wd) + 1) 0  ls _ _ (Nat.le_refl _) (by omega) (by omega) (fun x h => absurd h (Nat.not_lt_zero x)) (lv_sub hl [0, 1, 2, 3, 4, 5] rfl) hh
      · refine lv_aload_n hx hb dX12_table_45 rfl (lv_at hl 1 rfl) ?_
        refine lv_iconst (v := 3) hx hb dX12_table_46 (by decide) ?_
        refine hp_callMi (va_runV (As := [.int 3]) (rest := []) ⟨hx, hb, hml, hown, hts⟩ (c_X12_fails l D cy _ cs ad en_1033 (hI.1 _ (by decide)) 0 hi wd mo tb dp many grt lst nou rm rb pr wo 3 es1029_1033) (kw_X12_fails hts tw_997 ⟨by decide, by decide⟩) (preV_of hh hK (hI.1 _ (by decide)) es1029_1033 rfl) rfl rfl hl.1 rfl (lv_room (Nat.le_of_ble_eq_true rfl)) dX12_table_47 ⟨Nat.le_of_ble_eq_true rfl, Nat.le_of_ble_eq_true rfl⟩) hh hA (fun r_1055 H locs en_1055 hw_1055 hh => ?_)
        obtain ⟨hr_1055, hen_1055⟩ := hw_1055
        have es1030_1055 : en_1055 3 = .inl (cy 0, 4, .inl f_1030) := by rw [hen_1055, va_up_ne _ _ (by decide)]; exact es1030_1033
        have es1031_1055 : en_1055 4 = .inl (cy 0, 4, .inl f_1031) := by rw [hen_1055, va_up_ne _ _ (by decide)]; exact es1031_1033
        have es1032_1055 : en_1055 5 = .inl (cy 0, 160, .inl f_1032) := by rw [hen_1055, va_up_ne _ _ (by decide)]; exact es1032_1033
        have es1029_1055 : en_1055 0 = .inr (11, [.int 3, .int hi, .int (nI wd), .int (nI mo), .int (nI tb), .ref (ad 1), .ref (ad 2), .ref (ad 3), .ref (ad 4), .ref (ad 5), .ref (ad 6), .ref (ad 7), .ref (ad 8), .ref (ad 9), .int dp, .long many, .long grt, .long lst, .long nou, .ref (ad 10), .ref (ad 11), .ref (ad 12), .int rm, .long rb, .ref (ad 13), .int pr, .ref (ad 14), .ref (ad 15), .ref (ad 16), .ref (ad 17), .int (nI wo), .ref (ad 18), .ref (ad 19)]) := by rw [hen_1055]; exact va_up_self _ _ _
        have hI_1055 : RX cy cs ad en_1055 := by rw [hen_1055]; exact upr_M hI_1033 ⟨3, hi, wd, mo, tb, dp, many, grt, lst, nou, rm, rb, pr, wo, rfl, hwd2, hwd3, hmo, htb, hwo⟩
        have hf_1055 : ∀ c, (c ≠ 0 ∧ c ≠ 1) → en_1055 c = en c := fun c hc => Eq.trans (show en_1055 c = en_1033 c from by rw [hen_1055, va_up_ne _ _ (by omega)]) (hf_1033 c hc)
        have hkc1_1055 : en_1055 1 = en 1 := (show en_1055 1 = en_1033 1 from by rw [hen_1055, va_up_ne _ _ (by decide)]).trans hkc1_1033
        have hkp_1055 : KP en en_1055 := KP_fv hkp_1033 es1029_1033 es1029_1055 hi (nI wd) (nI mo) (nI tb) pr (nI wo) rfl rfl rfl rfl rfl rfl rfl rfl rfl rfl rfl rfl
        obtain rfl : r_1055 = (-13) := hr_1055.trans (by decide)
        exact hp_iretM hx hb hr rfl hlocks hh (⟨hI_1055, hf_1055, ⟨wd, tb, hwd2, hwd3, htb, (by rw [es1029]; rfl), (by rw [es1029]; rfl), Or.inr ⟨hag0, K9, rfl, by omega, Or.inl ⟨by rw [show rdF (en 4) K9 = nI v_1037 from by rw [show rdF (en 4) = f_1031 from by rw [es1031]; rfl]; exact hfv_1037]; exact ns_gt c_1039 (by omega) (by omega), rfl, hkp_1055, hkc1_1055⟩⟩⟩⟩) dX12_table_50
  · have hI_1034a := hI_1034
    have hf_1034 : ∀ c, (c ≠ 0 ∧ c ≠ 1) → en_1034 c = en c := fun c hc => (hu_1034 c (by omega)).trans (hf_1033 c hc)
    have hkp_1034 : KP en en_1034 := KP_tr hkp_1033 hkq_1034
    have hkc1_1034 : en_1034 1 = en 1 := (hu_1034 1 (by omega)).trans hkc1_1033
    refine lv_istore (lv' := [(4, .int r_1034), (0, .ref (ad 0)), (1, .int k9), (2, .int la9), (3, .int i9)]) hx hb dX12_table_11 hl (by decide) rfl (fun ls hl => ?_)
    refine lv_iload hx hb dX12_table_13 (lv_at hl 0 rfl) ?_
    refine lv_if_eq (tgt := 21) hx hb dX12_table_15 (by decide) (fun c_0 => absurd c_0 (hz_1034)) (fun _ => ?_)
    refine lv_iload hx hb dX12_table_18 (lv_at hl 0 rfl) ?_
    have hag9 : r_1034 = agF (rdF (en 3) k9.toNatClampNeg) k9 la9 := by rw [hr_1034, show en_1033 3 = en 3 from hf_1033 3 (by omega)]
    exact hp_iretM hx hb hr rfl hlocks hh (⟨hI_1034, hf_1034, ⟨wd, tb, hwd2, hwd3, htb, (by rw [es1029]; rfl), (by rw [es1029]; rfl), Or.inl ⟨fun q => hz_1034 (hag9.trans q), hag9, hkp_1034, hkc1_1034⟩⟩⟩) dX12_table_20
theorem kw_X12_table {R : Room} {s : State} {args : Array Value} {own : String} {idx : Nat} (hts : ∀ w ∈ TB, w.before args s = true) (hl : Cond.methodLink own idx yX12_table ∈ TB) (hR : 2 + 1 ≤ R.frames ∧ 8 + (6 + 11) + 40 * 2 ≤ R.locals) : CallW R s args own RX12 idx yX12_table cX12_table 6 (some .int) (Cond.code yX12_table cX12_table 6 (some .int) :: TB) (rmN 2) 0 0 3 := cwV 3 hts (TB_V hl tw_990 tw_991 tw_9 tw_992) rfl rfl rfl (by decide +kernel) hR
set_option maxHeartbeats 4000000 in
set_option maxRecDepth 100000 in
/-- entry -/
theorem c_X12_entry (l : Launch) (D : va_G) (cy : Nat → ClassId) (sz : Nat) (cs : List Nat) (ad : Nat → Nat) (en : Nat → va_E) (hI : RX cy cs ad en) (t a b : Int32)   : Met l yX12_entry (Cond.code yX12_entry cX12_entry 4 (some .long) :: TB) (rmN 2) (va_Pc [.ref (ad 0), .int t, .int a, .int b] (Pre D cy cs ad en sz)) (va_Ql (S := Unit) (fun r _ => XEN (fun x y => rdF (en 1) (9 * x + y)) t a b (rdI (en 0) 4) (rdI (en 0) 2) r) (fun _ _ => True) (Nf sz)) 0 0 (Nf sz) := by
  refine Met.ofW (cc := cX12_entry) (maxL := 4) (ret := (some .long)) (by decide) rfl ?_
  intro p e s m args below meth c s₁ B hml hv
  obtain ⟨rfl, hsz, hP, hK, hD0⟩ := hv
  have hx := B.exec
  have hb := B.bytes
  have hr := B.returns
  have hts : ∀ w ∈ TB, w.before _ s = true := fun w h => atoms_spec (ws := _ :: TB) B.pre w (List.mem_cons_of_mem _ h)
  have hown : s.vm.findClass RX12 = some m.cls := findClass_of_methodNamed B.named
  have hlocks := B.notSynchronized
  have hh : Hp D (Nf sz) (fun _ => True) s.heap s.heap [] cs ad en := ⟨hP, hD0, va_S.rf⟩
  have hA : ∀ q : Nat, s.heap.size ≤ q → Nf sz q := fun q h => by rw [hsz] at h; exact h
  have hl := lv_entry ([.ref (ad 0), .int t, .int a, .int b]) (n := 4) (Nat.le_of_ble_eq_true rfl)
  rw [lg_entry_eq]
  generalize (lg_sl ([.ref (ad 0), .int t, .int a, .int b]) ++ List.replicate (4 - (lg_sl ([.ref (ad 0), .int t, .int a, .int b])).length) Slot.unset).toArray = ls at hl ⊢
  have hl : lv_has ls 4 [(0, .ref (ad 0)), (1, .int t), (2, .int a), (3, .int b)] := hl
  obtain ⟨fa, hi, wd, mo, tb, dp, many, grt, lst, nou, rm, rb, pr, wo, es1056, hwd2, hwd3, hmo, htb, hwo⟩ := getr_M hI
  obtain ⟨f_1057, es1057⟩ := getr_E hI
  refine lv_aload_n hx hb dX12_entry_0 rfl (lv_at hl 0 rfl) ?_
  refine lv_iload_n hx hb dX12_entry_1 rfl (lv_at hl 1 rfl) ?_
  refine hp_callRi (va_runV (As := [.int t]) (rest := []) ⟨hx, hb, hml, hown, hts⟩ (c_X12_isTable l D cy _ cs ad en hI t ) (kw_X12_isTable hts tw_1007 ⟨by decide, by decide⟩) (preV_of hh hK (hI.1 _ (by decide)) es1056 rfl) rfl rfl hl.1 rfl (lv_room (Nat.le_of_ble_eq_true rfl)) dX12_entry_2 ⟨Nat.le_of_ble_eq_true rfl, Nat.le_of_ble_eq_true rfl⟩) hh hA (fun r_1058 H locs hw_1058 hh => ?_)
  rw [show rdI (en 0) 4 = (nI tb) from by rw [es1056]; rfl, nI_toInt (n := tb) (by omega)] at hw_1058
  rcases Decidable.em (0 ≤ t.toInt ∧ t.toInt < (tb : Int)) with hp_1058 | hp_1058
  · obtain rfl : r_1058 = 1 := Eq.trans hw_1058 (if_pos hp_1058)
    obtain ⟨T_1058, rfl, hT_1058⟩ := has_nat hp_1058
    refine lv_if_eq (tgt := 39) hx hb dX12_entry_5 (by decide) (fun c_0 => absurd c_0 (by decide)) (fun _ => ?_)
    refine lv_aload_n hx hb dX12_entry_8 rfl (lv_at hl 0 rfl) ?_
    refine lv_iload_n hx hb dX12_entry_9 rfl (lv_at hl 2 rfl) ?_
    refine lv_iload_n hx hb dX12_entry_10 rfl (lv_at hl 3 rfl) ?_
    refine hp_callRi (va_runV (As := [.int a, .int b]) (rest := []) ⟨hx, hb, hml, hown, hts⟩ (c_X12_isPlace l D cy _ cs ad en hI a b ) (kw_X12_isPlace hts tw_1011 ⟨by decide, by decide⟩) (preV_of hh hK (hI.1 _ (by decide)) es1056 rfl) rfl rfl hl.1 rfl (lv_room (Nat.le_of_ble_eq_true rfl)) dX12_entry_11 ⟨Nat.le_of_ble_eq_true rfl, Nat.le_of_ble_eq_true rfl⟩) hh hA (fun r_1059 H locs hw_1059 hh => ?_)
    rw [show (rdI (en 0) 2).toInt = (wd : Int) from by rw [es1056]; exact nI_toInt (by omega)] at hw_1059
    rcases Decidable.em ((0 ≤ a.toInt ∧ a.toInt < (wd : Int)) ∧ 0 ≤ b.toInt ∧ b.toInt < (wd : Int)) with hp_1059 | hp_1059
    · obtain rfl : r_1059 = 1 := Eq.trans hw_1059 (if_pos hp_1059)
      obtain ⟨A_1059, rfl, hA_1059⟩ := has_nat hp_1059.1
      obtain ⟨B_1059, rfl, hB_1059⟩ := has_nat hp_1059.2
      refine lv_if_eq (tgt := 39) hx hb dX12_entry_14 (by decide) (fun c_0 => absurd c_0 (by decide)) (fun _ => ?_)
      refine lv_aload_n hx hb dX12_entry_17 rfl (lv_at hl 0 rfl) ?_
      refine hp_get hx hb hts ix12 hown hK hh (q := 0) rfl (hI.1 _ (by decide)) es1056 rfl 5 (by decide) (hts _ tw_884) (fun _ h9 => h9) rfl dX12_entry_18 ?_
      refine lv_bipush (v := 9) hx hb dX12_entry_21 (by decide) ?_
      refine lv_iload_n hx hb dX12_entry_23 rfl (lv_at hl 1 rfl) ?_
      refine lv_imul hx hb dX12_entry_24 ?_
      rw [show (9 : Int32) = nI 9 from rfl, pk_mul 9 T_1058]
      refine lv_aload_n hx hb dX12_entry_25 rfl (lv_at hl 0 rfl) ?_
      refine hp_get hx hb hts ix12 hown hK hh (q := 0) rfl (hI.1 _ (by decide)) es1056 rfl 2 (by decide) (hts _ tw_881) (fun _ h9 => h9) rfl dX12_entry_26 ?_
      refine lv_iload_n hx hb dX12_entry_29 rfl (lv_at hl 2 rfl) ?_
      refine lv_imul hx hb dX12_entry_30 ?_
      rw [pk_mul wd A_1059]
      refine lv_iadd hx hb dX12_entry_31 ?_
      rw [nI_add (9 * T_1058) (wd * A_1059)]
      refine lv_iload_n hx hb dX12_entry_32 rfl (lv_at hl 3 rfl) ?_
      refine lv_iadd hx hb dX12_entry_33 ?_
      rw [nI_add ((9 * T_1058) + (wd * A_1059)) B_1059]
      have hi_1060 : wd * A_1059 + B_1059 < 9 := mdr (by omega) (by omega) (by omega)
      refine hp_iald hx hb hK hh (q := 1) rfl (hI.1 _ (by decide)) es1057 (vp_in_nI (n := (((9 * T_1058) + (wd * A_1059)) + B_1059)) (by omega) (by decide)) dX12_entry_34 ?_
      rw [nI_clamp (n := (((9 * T_1058) + (wd * A_1059)) + B_1059)) (by omega)]
      refine lv_i2l hx hb dX12_entry_35 rfl ?_
      refine lv_goto (tgt := 42) hx hb dX12_entry_36 (by decide) ?_
      have hc4 : (rdI (en 0) 4).toInt = (tb : Int) := by rw [es1056]; exact nI_toInt (by omega)
      have hc2 : (rdI (en 0) 2).toInt = (wd : Int) := by rw [es1056]; exact nI_toInt (by omega)
      exact hp_lretR hx hb hr hlocks hsz hh (Or.inl ⟨⟨⟨hp_1058.1, by have := hp_1058.2; omega⟩, ⟨hp_1059.1.1, by have := hp_1059.1.2; omega⟩, ⟨hp_1059.2.1, by have := hp_1059.2.2; omega⟩⟩, (by rw [show rdI (en 0) 2 = nI wd from by rw [es1056]; rfl, nI_clamp (n := T_1058) (by omega), nI_clamp (n := A_1059) (by omega), nI_clamp (n := B_1059) (by omega), nI_clamp (n := wd) (by omega), show rdF (en 1) = f_1057 from by rw [es1057]; rfl, Nat.mul_comm A_1059 wd, Nat.add_assoc])⟩) dX12_entry_42
    · obtain rfl : r_1059 = 0 := Eq.trans hw_1059 (if_neg hp_1059)
      refine lv_if_eq (tgt := 39) hx hb dX12_entry_14 (by decide) (fun _ => ?_) (fun c_0 => absurd c_0 (by decide))
      refine lv_ldc2 hx hb hown (hts _ tw_1015) dX12_entry_39 ?_
      have hc4 : (rdI (en 0) 4).toInt = (tb : Int) := by rw [es1056]; exact nI_toInt (by omega)
      have hc2 : (rdI (en 0) 2).toInt = (wd : Int) := by rw [es1056]; exact nI_toInt (by omega)
      exact hp_lretR hx hb hr hlocks hsz hh (Or.inr ⟨fun q => hp_1059 ⟨⟨q.2.1.1, by have := q.2.1.2; omega⟩, ⟨q.2.2.1, by have := q.2.2.2; omega⟩⟩, rfl⟩) dX12_entry_42
  · obtain rfl : r_1058 = 0 := Eq.trans hw_1058 (if_neg hp_1058)
    refine lv_if_eq (tgt := 39) hx hb dX12_entry_5 (by decide) (fun _ => ?_) (fun c_0 => absurd c_0 (by decide))
    refine lv_ldc2 hx hb hown (hts _ tw_1015) dX12_entry_39 ?_
    have hc4 : (rdI (en 0) 4).toInt = (tb : Int) := by rw [es1056]; exact nI_toInt (by omega)
    have hc2 : (rdI (en 0) 2).toInt = (wd : Int) := by rw [es1056]; exact nI_toInt (by omega)
    exact hp_lretR hx hb hr hlocks hsz hh (Or.inr ⟨fun q => hp_1058 ⟨q.1.1, by have := q.1.2; omega⟩, rfl⟩) dX12_entry_42
theorem kw_X12_entry {R : Room} {s : State} {args : Array Value} {own : String} {idx : Nat} (hts : ∀ w ∈ TB, w.before args s = true) (hl : Cond.methodLink own idx yX12_entry ∈ TB) (hR : 2 + 1 ≤ R.frames ∧ 8 + (4 + 11) + 40 * 2 ≤ R.locals) : CallW R s args own RX12 idx yX12_entry cX12_entry 4 (some .long) (Cond.code yX12_entry cX12_entry 4 (some .long) :: TB) (rmN 2) 0 0 3 := cwV 3 hts (TB_V hl tw_1004 tw_1005 tw_9 tw_1006) rfl rfl rfl (by decide +kernel) hR
set_option maxHeartbeats 4000000 in
set_option maxRecDepth 100000 in
/-- may -/
theorem c_X12_may (l : Launch) (D : va_G) (cy : Nat → ClassId) (sz : Nat) (cs : List Nat) (ad : Nat → Nat) (en : Nat → va_E) (hI : RX cy cs ad en) (a b z : Int32) (hz : z = 0 ∨ z = 1)   : Met l yX12_may (Cond.code yX12_may cX12_may 5 (some .int) :: TB) (rmN 1) (va_Pc [.ref (ad 0), .int a, .int b, .int z] (Pre D cy cs ad en sz)) (va_Qi (S := Nat → va_E) (fun r en1 => RX cy cs ad en1 ∧ (∀ c, (c ≠ 2) → en1 c = en c) ∧ RMA a b z r en en1) (PostM D cs ad) (Af cs ad sz)) 0 0 (Af cs ad sz) := by
  refine Met.ofW (cc := cX12_may) (maxL := 5) (ret := (some .int)) (by decide) rfl ?_
  intro p e s m args below meth c s₁ B hml hv
  obtain ⟨rfl, hsz, hP, hK, hD0⟩ := hv
  have hx := B.exec
  have hb := B.bytes
  have hr := B.returns
  have hts : ∀ w ∈ TB, w.before _ s = true := fun w h => atoms_spec (ws := _ :: TB) B.pre w (List.mem_cons_of_mem _ h)
  have hown : s.vm.findClass RX12 = some m.cls := findClass_of_methodNamed B.named
  have hlocks := B.notSynchronized
  have hh : Hp D (Af cs ad sz) (Af cs ad sz) s.heap s.heap [] cs ad en := ⟨hP, Af_self hD0, va_S.rf⟩
  have hA : ∀ q : Nat, s.heap.size ≤ q → Af cs ad sz q := fun q h => Or.inr (by rw [hsz] at h; exact h)
  have hl := lv_entry ([.ref (ad 0), .int a, .int b, .int z]) (n := 5) (Nat.le_of_ble_eq_true rfl)
  rw [lg_entry_eq]
  generalize (lg_sl ([.ref (ad 0), .int a, .int b, .int z]) ++ List.replicate (5 - (lg_sl ([.ref (ad 0), .int a, .int b, .int z])).length) Slot.unset).toArray = ls at hl ⊢
  have hl : lv_has ls 5 [(0, .ref (ad 0)), (1, .int a), (2, .int b), (3, .int z)] := hl
  have hf0 : ∀ c, (c ≠ 2) → en c = en c := fun _ _ => rfl
  obtain ⟨fa, hi, wd, mo, tb, dp, many, grt, lst, nou, rm, rb, pr, wo, es1061, hwd2, hwd3, hmo, htb, hwo⟩ := getr_M hI
  obtain ⟨f_1062, es1062, p0_1062⟩ := getr_mn hI
  refine lv_aload_n hx hb dX12_may_0 rfl (lv_at hl 0 rfl) ?_
  refine lv_iload_n hx hb dX12_may_1 rfl (lv_at hl 1 rfl) ?_
  refine hp_callRi (va_runV (As := [.int a]) (rest := []) ⟨hx, hb, hml, hown, hts⟩ (c_X12_isTable l D cy _ cs ad en hI a ) (kw_X12_isTable hts tw_1007 ⟨by decide, by decide⟩) (preV_of hh hK (hI.1 _ (by decide)) es1061 rfl) rfl rfl hl.1 rfl (lv_room (Nat.le_of_ble_eq_true rfl)) dX12_may_2 ⟨Nat.le_of_ble_eq_true rfl, Nat.le_of_ble_eq_true rfl⟩) hh hA (fun r_1063 H locs hw_1063 hh => ?_)
  rw [show rdI (en 0) 4 = (nI tb) from by rw [es1061]; rfl, nI_toInt (n := tb) (by omega)] at hw_1063
  rcases Decidable.em (0 ≤ a.toInt ∧ a.toInt < (tb : Int)) with hp_1063 | hp_1063
  · obtain rfl : r_1063 = 1 := Eq.trans hw_1063 (if_pos hp_1063)
    obtain ⟨T_1063, rfl, hT_1063⟩ := has_nat hp_1063
    refine lv_if_eq (tgt := 16) hx hb dX12_may_5 (by decide) (fun c_0 => absurd c_0 (by decide)) (fun _ => ?_)
    refine lv_aload_n hx hb dX12_may_8 rfl (lv_at hl 0 rfl) ?_
    refine lv_iload_n hx hb dX12_may_9 rfl (lv_at hl 2 rfl) ?_
    refine hp_callRi (va_runV (As := [.int b]) (rest := []) ⟨hx, hb, hml, hown, hts⟩ (c_X12_isTable l D cy _ cs ad en hI b ) (kw_X12_isTable hts tw_1007 ⟨by decide, by decide⟩) (preV_of hh hK (hI.1 _ (by decide)) es1061 rfl) rfl rfl hl.1 rfl (lv_room (Nat.le_of_ble_eq_true rfl)) dX12_may_10 ⟨Nat.le_of_ble_eq_true rfl, Nat.le_of_ble_eq_true rfl⟩) hh hA (fun r_1064 H locs hw_1064 hh => ?_)
    rw [show rdI (en 0) 4 = (nI tb) from by rw [es1061]; rfl, nI_toInt (n := tb) (by omega)] at hw_1064
    rcases Decidable.em (0 ≤ b.toInt ∧ b.toInt < (tb : Int)) with hp_1064 | hp_1064
    · obtain rfl : r_1064 = 1 := Eq.trans hw_1064 (if_pos hp_1064)
      obtain ⟨T_1064, rfl, hT_1064⟩ := has_nat hp_1064
      refine lv_if_ne (tgt := 18) hx hb dX12_may_13 (by decide) (fun _ => ?_) (fun c_0 => absurd c_0 (by decide))
      refine lv_aload_n hx hb dX12_may_18 rfl (lv_at hl 0 rfl) ?_
      refine hp_get hx hb hts ix12 hown hK hh (q := 0) rfl (hI.1 _ (by decide)) es1061 rfl 6 (by decide) (hts _ tw_885) (fun _ h9 => h9) rfl dX12_may_19 ?_
      refine lv_bipush (v := 6) hx hb dX12_may_22 (by decide) ?_
      refine lv_iload_n hx hb dX12_may_24 rfl (lv_at hl 1 rfl) ?_
      refine lv_imul hx hb dX12_may_25 ?_
      rw [show (6 : Int32) = nI 6 from rfl, pk_mul 6 T_1063]
      refine lv_iload_n hx hb dX12_may_26 rfl (lv_at hl 2 rfl) ?_
      refine lv_iadd hx hb dX12_may_27 ?_
      rw [nI_add (6 * T_1063) T_1064]
      refine hp_zald hx hb hK hh (q := 2) rfl (hI.1 _ (by decide)) es1062 (vp_in_nI (n := ((6 * T_1063) + T_1064)) (by omega) (by decide)) dX12_may_28 ?_
      rw [nI_clamp (n := ((6 * T_1063) + T_1064)) (by omega)]
      refine lv_iload_n hx hb dX12_may_29 rfl (lv_at hl 3 rfl) ?_
      refine lv_icmp_ne (tgt := 37) hx hb dX12_may_30 (by decide) (fun c_1065 => ?_) (fun c_1065 => ?_)
      · refine lv_iconst (v := 0) hx hb dX12_may_37 (by decide) ?_
        refine lv_istore (lv' := [(4, .int 0), (0, .ref (ad 0)), (1, .int (nI T_1063)), (2, .int (nI T_1064)), (3, .int z)]) hx hb dX12_may_38 hl (by decide) rfl (fun ls hl => ?_)
        refine lv_aload_n hx hb dX12_may_40 rfl (lv_at hl 1 rfl) ?_
        refine hp_get hx hb hts ix12 hown hK hh (q := 0) rfl (hI.1 _ (by decide)) es1061 rfl 6 (by decide) (hts _ tw_885) (fun _ h9 => h9) rfl dX12_may_41 ?_
        refine lv_bipush (v := 6) hx hb dX12_may_44 (by decide) ?_
        refine lv_iload_n hx hb dX12_may_46 rfl (lv_at hl 2 rfl) ?_
        refine lv_imul hx hb dX12_may_47 ?_
        rw [show (6 : Int32) = nI 6 from rfl, pk_mul 6 T_1063]
        refine lv_iload_n hx hb dX12_may_48 rfl (lv_at hl 3 rfl) ?_
        refine lv_iadd hx hb dX12_may_49 ?_
        rw [nI_add (6 * T_1063) T_1064]
        refine lv_iload_n hx hb dX12_may_50 rfl (lv_at hl 4 rfl) ?_
        refine lv_if_ne (tgt := 58) hx hb dX12_may_51 (by decide) (fun c_1066 => ?_) (fun c_1066 => ?_)
        · refine lv_iconst (v := 0) hx hb dX12_may_58 (by decide) ?_
          refine hp_zast hx hb hK hh (q := 2) rfl (hI.1 _ (by decide)) es1062 (vp_in_nI (n := ((6 * T_1063) + T_1064)) (by omega) (by decide)) dX12_may_59 (fun H locs en_1067 hen_1067 hh => ?_)
          rw [nI_clamp (n := ((6 * T_1063) + T_1064)) (by omega)] at hen_1067
          have es1061_1067 : en_1067 0 = .inr (11, [.int fa, .int hi, .int (nI wd), .int (nI mo), .int (nI tb), .ref (ad 1), .ref (ad 2), .ref (ad 3), .ref (ad 4), .ref (ad 5), .ref (ad 6), .ref (ad 7), .ref (ad 8), .ref (ad 9), .int dp, .long many, .long grt, .long lst, .long nou, .ref (ad 10), .ref (ad 11), .ref (ad 12), .int rm, .long rb, .ref (ad 13), .int pr, .ref (ad 14), .ref (ad 15), .ref (ad 16), .ref (ad 17), .int (nI wo), .ref (ad 18), .ref (ad 19)]) := by rw [hen_1067, va_up_ne _ _ (by decide)]; exact es1061
          have es1062_1067 : en_1067 2 = .inl (cy 2, 36, .inl (upd f_1062 ((6 * T_1063) + T_1064) (vp_nar .boolean 0))) := by rw [hen_1067]; exact va_up_self _ _ _
          have hI_1067 : RX cy cs ad en_1067 := by rw [hen_1067]; exact upr_mn hI ⟨(upd f_1062 ((6 * T_1063) + T_1064) (vp_nar .boolean 0)), rfl, (bits_upd p0_1062 (Or.inl rfl))⟩
          have hf_1067 : ∀ c, (c ≠ 2) → en_1067 c = en c := fun c hc => Eq.trans (show en_1067 c = en c from by rw [hen_1067, va_up_ne _ _ (by omega)]) (hf0 c hc)
          refine lv_iload hx hb dX12_may_60 (lv_at hl 0 rfl) ?_
          have hc4 : (rdI (en 0) 4).toInt = (tb : Int) := by rw [es1061]; exact nI_toInt (by omega)
          exact hp_iretM hx hb hr rfl hlocks hh (⟨hI_1067, hf_1067, Or.inr ⟨T_1063, T_1064, rfl, rfl, by omega, by omega, ⟨hp_1063.1, by have := hp_1063.2; omega⟩, ⟨hp_1064.1, by have := hp_1064.2; omega⟩, Or.inr ⟨fun q => c_1065 ((show rdF (en 2) (6 * T_1063 + T_1064) = f_1062 (6 * T_1063 + T_1064) from by rw [es1062]; rfl).symm.trans q), rfl⟩, Or.inr ⟨c_1066, (by rw [es1062_1067, es1062]; rfl)⟩⟩⟩) dX12_may_62
        · refine lv_iconst (v := 1) hx hb dX12_may_54 (by decide) ?_
          refine lv_goto (tgt := 59) hx hb dX12_may_55 (by decide) ?_
          refine hp_zast hx hb hK hh (q := 2) rfl (hI.1 _ (by decide)) es1062 (vp_in_nI (n := ((6 * T_1063) + T_1064)) (by omega) (by decide)) dX12_may_59 (fun H locs en_1068 hen_1068 hh => ?_)
          rw [nI_clamp (n := ((6 * T_1063) + T_1064)) (by omega)] at hen_1068
          have es1061_1068 : en_1068 0 = .inr (11, [.int fa, .int hi, .int (nI wd), .int (nI mo), .int (nI tb), .ref (ad 1), .ref (ad 2), .ref (ad 3), .ref (ad 4), .ref (ad 5), .ref (ad 6), .ref (ad 7), .ref (ad 8), .ref (ad 9), .int dp, .long many, .long grt, .long lst, .long nou, .ref (ad 10), .ref (ad 11), .ref (ad 12), .int rm, .long rb, .ref (ad 13), .int pr, .ref (ad 14), .ref (ad 15), .ref (ad 16), .ref (ad 17), .int (nI wo), .ref (ad 18), .ref (ad 19)]) := by rw [hen_1068, va_up_ne _ _ (by decide)]; exact es1061
          have es1062_1068 : en_1068 2 = .inl (cy 2, 36, .inl (upd f_1062 ((6 * T_1063) + T_1064) (vp_nar .boolean 1))) := by rw [hen_1068]; exact va_up_self _ _ _
          have hI_1068 : RX cy cs ad en_1068 := by rw [hen_1068]; exact upr_mn hI ⟨(upd f_1062 ((6 * T_1063) + T_1064) (vp_nar .boolean 1)), rfl, (bits_upd p0_1062 (Or.inr rfl))⟩
          have hf_1068 : ∀ c, (c ≠ 2) → en_1068 c = en c := fun c hc => Eq.trans (show en_1068 c = en c from by rw [hen_1068, va_up_ne _ _ (by omega)]) (hf0 c hc)
          refine lv_iload hx hb dX12_may_60 (lv_at hl 0 rfl) ?_
          have hc4 : (rdI (en 0) 4).toInt = (tb : Int) := by rw [es1061]; exact nI_toInt (by omega)
          exact hp_iretM hx hb hr rfl hlocks hh (⟨hI_1068, hf_1068, Or.inr ⟨T_1063, T_1064, rfl, rfl, by omega, by omega, ⟨hp_1063.1, by have := hp_1063.2; omega⟩, ⟨hp_1064.1, by have := hp_1064.2; omega⟩, Or.inr ⟨fun q => c_1065 ((show rdF (en 2) (6 * T_1063 + T_1064) = f_1062 (6 * T_1063 + T_1064) from by rw [es1062]; rfl).symm.trans q), rfl⟩, Or.inl ⟨c_1066, (by rw [es1062_1068, es1062]; rfl)⟩⟩⟩) dX12_may_62
      · refine lv_iconst (v := 1) hx hb dX12_may_33 (by decide) ?_
        refine lv_goto (tgt := 38) hx hb dX12_may_34 (by decide) ?_
        refine lv_istore (lv' := [(4, .int 1), (0, .ref (ad 0)), (1, .int (nI T_1063)), (2, .int (nI T_1064)), (3, .int z)]) hx hb dX12_may_38 hl (by decide) rfl (fun ls hl => ?_)
        refine lv_aload_n hx hb dX12_may_40 rfl (lv_at hl 1 rfl) ?_
        refine hp_get hx hb hts ix12 hown hK hh (q := 0) rfl (hI.1 _ (by decide)) es1061 rfl 6 (by decide) (hts _ tw_885) (fun _ h9 => h9) rfl dX12_may_41 ?_
        refine lv_bipush (v := 6) hx hb dX12_may_44 (by decide) ?_
        refine lv_iload_n hx hb dX12_may_46 rfl (lv_at hl 2 rfl) ?_
        refine lv_imul hx hb dX12_may_47 ?_
        rw [show (6 : Int32) = nI 6 from rfl, pk_mul 6 T_1063]
        refine lv_iload_n hx hb dX12_may_48 rfl (lv_at hl 3 rfl) ?_
        refine lv_iadd hx hb dX12_may_49 ?_
        rw [nI_add (6 * T_1063) T_1064]
        refine lv_iload_n hx hb dX12_may_50 rfl (lv_at hl 4 rfl) ?_
        refine lv_if_ne (tgt := 58) hx hb dX12_may_51 (by decide) (fun c_1069 => ?_) (fun c_1069 => ?_)
        · refine lv_iconst (v := 0) hx hb dX12_may_58 (by decide) ?_
          refine hp_zast hx hb hK hh (q := 2) rfl (hI.1 _ (by decide)) es1062 (vp_in_nI (n := ((6 * T_1063) + T_1064)) (by omega) (by decide)) dX12_may_59 (fun H locs en_1070 hen_1070 hh => ?_)
          rw [nI_clamp (n := ((6 * T_1063) + T_1064)) (by omega)] at hen_1070
          have es1061_1070 : en_1070 0 = .inr (11, [.int fa, .int hi, .int (nI wd), .int (nI mo), .int (nI tb), .ref (ad 1), .ref (ad 2), .ref (ad 3), .ref (ad 4), .ref (ad 5), .ref (ad 6), .ref (ad 7), .ref (ad 8), .ref (ad 9), .int dp, .long many, .long grt, .long lst, .long nou, .ref (ad 10), .ref (ad 11), .ref (ad 12), .int rm, .long rb, .ref (ad 13), .int pr, .ref (ad 14), .ref (ad 15), .ref (ad 16), .ref (ad 17), .int (nI wo), .ref (ad 18), .ref (ad 19)]) := by rw [hen_1070, va_up_ne _ _ (by decide)]; exact es1061
          have es1062_1070 : en_1070 2 = .inl (cy 2, 36, .inl (upd f_1062 ((6 * T_1063) + T_1064) (vp_nar .boolean 0))) := by rw [hen_1070]; exact va_up_self _ _ _
          have hI_1070 : RX cy cs ad en_1070 := by rw [hen_1070]; exact upr_mn hI ⟨(upd f_1062 ((6 * T_1063) + T_1064) (vp_nar .boolean 0)), rfl, (bits_upd p0_1062 (Or.inl rfl))⟩
          have hf_1070 : ∀ c, (c ≠ 2) → en_1070 c = en c := fun c hc => Eq.trans (show en_1070 c = en c from by rw [hen_1070, va_up_ne _ _ (by omega)]) (hf0 c hc)
          refine lv_iload hx hb dX12_may_60 (lv_at hl 0 rfl) ?_
          have hc4 : (rdI (en 0) 4).toInt = (tb : Int) := by rw [es1061]; exact nI_toInt (by omega)
          exact hp_iretM hx hb hr rfl hlocks hh (⟨hI_1070, hf_1070, Or.inr ⟨T_1063, T_1064, rfl, rfl, by omega, by omega, ⟨hp_1063.1, by have := hp_1063.2; omega⟩, ⟨hp_1064.1, by have := hp_1064.2; omega⟩, Or.inl ⟨(show rdF (en 2) (6 * T_1063 + T_1064) = f_1062 (6 * T_1063 + T_1064) from by rw [es1062]; rfl).trans c_1065, rfl⟩, Or.inr ⟨c_1069, (by rw [es1062_1070, es1062]; rfl)⟩⟩⟩) dX12_may_62
        · refine lv_iconst (v := 1) hx hb dX12_may_54 (by decide) ?_
          refine lv_goto (tgt := 59) hx hb dX12_may_55 (by decide) ?_
          refine hp_zast hx hb hK hh (q := 2) rfl (hI.1 _ (by decide)) es1062 (vp_in_nI (n := ((6 * T_1063) + T_1064)) (by omega) (by decide)) dX12_may_59 (fun H locs en_1071 hen_1071 hh => ?_)
          rw [nI_clamp (n := ((6 * T_1063) + T_1064)) (by omega)] at hen_1071
          have es1061_1071 : en_1071 0 = .inr (11, [.int fa, .int hi, .int (nI wd), .int (nI mo), .int (nI tb), .ref (ad 1), .ref (ad 2), .ref (ad 3), .ref (ad 4), .ref (ad 5), .ref (ad 6), .ref (ad 7), .ref (ad 8), .ref (ad 9), .int dp, .long many, .long grt, .long lst, .long nou, .ref (ad 10), .ref (ad 11), .ref (ad 12), .int rm, .long rb, .ref (ad 13), .int pr, .ref (ad 14), .ref (ad 15), .ref (ad 16), .ref (ad 17), .int (nI wo), .ref (ad 18), .ref (ad 19)]) := by rw [hen_1071, va_up_ne _ _ (by decide)]; exact es1061
          have es1062_1071 : en_1071 2 = .inl (cy 2, 36, .inl (upd f_1062 ((6 * T_1063) + T_1064) (vp_nar .boolean 1))) := by rw [hen_1071]; exact va_up_self _ _ _
          have hI_1071 : RX cy cs ad en_1071 := by rw [hen_1071]; exact upr_mn hI ⟨(upd f_1062 ((6 * T_1063) + T_1064) (vp_nar .boolean 1)), rfl, (bits_upd p0_1062 (Or.inr rfl))⟩
          have hf_1071 : ∀ c, (c ≠ 2) → en_1071 c = en c := fun c hc => Eq.trans (show en_1071 c = en c from by rw [hen_1071, va_up_ne _ _ (by omega)]) (hf0 c hc)
          refine lv_iload hx hb dX12_may_60 (lv_at hl 0 rfl) ?_
          have hc4 : (rdI (en 0) 4).toInt = (tb : Int) := by rw [es1061]; exact nI_toInt (by omega)
          exact hp_iretM hx hb hr rfl hlocks hh (⟨hI_1071, hf_1071, Or.inr ⟨T_1063, T_1064, rfl, rfl, by omega, by omega, ⟨hp_1063.1, by have := hp_1063.2; omega⟩, ⟨hp_1064.1, by have := hp_1064.2; omega⟩, Or.inl ⟨(show rdF (en 2) (6 * T_1063 + T_1064) = f_1062 (6 * T_1063 + T_1064) from by rw [es1062]; rfl).trans c_1065, rfl⟩, Or.inl ⟨c_1069, (by rw [es1062_1071, es1062]; rfl)⟩⟩⟩) dX12_may_62
    · obtain rfl : r_1064 = 0 := Eq.trans hw_1064 (if_neg hp_1064)
      refine lv_if_ne (tgt := 18) hx hb dX12_may_13 (by decide) (fun c_0 => absurd c_0 (by decide)) (fun _ => ?_)
      refine lv_iconst (v := (-1)) hx hb dX12_may_16 (by decide) ?_
      have hc4 : (rdI (en 0) 4).toInt = (tb : Int) := by rw [es1061]; exact nI_toInt (by omega)
      exact hp_iretM hx hb hr rfl hlocks hh (⟨hI, hf0, Or.inl ⟨fun q => hp_1064 ⟨q.2.1, by have := q.2.2; omega⟩, rfl, rfl⟩⟩) dX12_may_17
  · obtain rfl : r_1063 = 0 := Eq.trans hw_1063 (if_neg hp_1063)
    refine lv_if_eq (tgt := 16) hx hb dX12_may_5 (by decide) (fun _ => ?_) (fun c_0 => absurd c_0 (by decide))
    refine lv_iconst (v := (-1)) hx hb dX12_may_16 (by decide) ?_
    have hc4 : (rdI (en 0) 4).toInt = (tb : Int) := by rw [es1061]; exact nI_toInt (by omega)
    exact hp_iretM hx hb hr rfl hlocks hh (⟨hI, hf0, Or.inl ⟨fun q => hp_1063 ⟨q.1.1, by have := q.1.2; omega⟩, rfl, rfl⟩⟩) dX12_may_17
theorem kw_X12_may {R : Room} {s : State} {args : Array Value} {own : String} {idx : Nat} (hts : ∀ w ∈ TB, w.before args s = true) (hl : Cond.methodLink own idx yX12_may ∈ TB) (hR : 1 + 1 ≤ R.frames ∧ 8 + (5 + 11) + 40 * 1 ≤ R.locals) : CallW R s args own RX12 idx yX12_may cX12_may 5 (some .int) (Cond.code yX12_may cX12_may 5 (some .int) :: TB) (rmN 1) 0 0 3 := cwV 3 hts (TB_V hl tw_1017 tw_1018 tw_9 tw_1019) rfl rfl rfl (by decide +kernel) hR
set_option maxHeartbeats 4000000 in
set_option maxRecDepth 100000 in
/-- isSpent -/
theorem c_X12_isSpent (l : Launch) (D : va_G) (cy : Nat → ClassId) (sz : Nat) (cs : List Nat) (ad : Nat → Nat) (en : Nat → va_E) (hI : RX cy cs ad en) (n : Nat) (hn1 : 1 ≤ n) (hn : n ≤ 8)   : Met l yX12_isSpent (Cond.code yX12_isSpent cX12_isSpent 5 (some .boolean) :: TB) (rmN 1) (va_Pc [.ref (ad 0), .int (nI n)] (Pre D cy cs ad en sz)) (va_Qi (S := Nat → va_E) (fun r en1 => RX cy cs ad en1 ∧ (∀ c, (c ≠ 8 ∧ c ≠ 9) → en1 c = en c) ∧ bI r (20000 < SPN en n)) (PostM D cs ad) (Af cs ad sz)) 0 0 (Af cs ad sz) := by
  refine Met.ofW (cc := cX12_isSpent) (maxL := 5) (ret := (some .boolean)) (by decide) rfl ?_
  intro p e s m args below meth c s₁ B hml hv
  obtain ⟨rfl, hsz, hP, hK, hD0⟩ := hv
  have hx := B.exec
  have hb := B.bytes
  have hr := B.returns
  have hts : ∀ w ∈ TB, w.before _ s = true := fun w h => atoms_spec (ws := _ :: TB) B.pre w (List.mem_cons_of_mem _ h)
  have hown : s.vm.findClass RX12 = some m.cls := findClass_of_methodNamed B.named
  have hlocks := B.notSynchronized
  have hh : Hp D (Af cs ad sz) (Af cs ad sz) s.heap s.heap [] cs ad en := ⟨hP, Af_self hD0, va_S.rf⟩
  have hA : ∀ q : Nat, s.heap.size ≤ q → Af cs ad sz q := fun q h => Or.inr (by rw [hsz] at h; exact h)
  have hl := lv_entry ([.ref (ad 0), .int (nI n)]) (n := 5) (Nat.le_of_ble_eq_true rfl)
  rw [lg_entry_eq]
  generalize (lg_sl ([.ref (ad 0), .int (nI n)]) ++ List.replicate (5 - (lg_sl ([.ref (ad 0), .int (nI n)])).length) Slot.unset).toArray = ls at hl ⊢
  have hl : lv_has ls 5 [(0, .ref (ad 0)), (1, .int (nI n))] := hl
  have hf0 : ∀ c, (c ≠ 8 ∧ c ≠ 9) → en c = en c := fun _ _ => rfl
  obtain ⟨fa, hi, wd, mo, tb, dp, many, grt, lst, nou, rm, rb, pr, wo, es1072, hwd2, hwd3, hmo, htb, hwo⟩ := getr_M hI
  refine lv_iconst (v := 0) hx hb dX12_isSpent_0 (by decide) ?_
  refine lv_istore_n (lv' := [(2, .int 0), (0, .ref (ad 0)), (1, .int (nI n))]) hx hb dX12_isSpent_1 rfl hl (by decide) rfl (fun ls hl => ?_)
  have loop_1073 : ∀ (fu j1073 : Nat)  (en_1073 : Nat → va_E) (ls : Array Slot) (H : Heap) (locs : List Loc), 0 ≤ j1073 → j1073 ≤ tb → tb < j1073 + fu → RX cy cs ad en_1073 → (∀ c, (c ≠ 8 ∧ c ≠ 9) → en_1073 c = en c) → (∀ x, x < j1073 → rdL (en_1073 8) x = nL (ew tb (alR (rdF (en 2))) 0 x)) → lv_has ls 5 [(2, .int (nI j1073)), (0, .ref (ad 0)), (1, .int (nI n))] → Hp D (Af cs ad sz) (Af cs ad sz) s.heap H locs cs ad en_1073 → W p l e (headSpec (Cond.code yX12_isSpent cX12_isSpent 5 (some .boolean) :: TB) (rmN 1)).room s m ([.ref (ad 0), .int (nI n)] : List Value).toArray below meth c H locs 0 0 (MQ below (va_Qi (S := Nat → va_E) (fun r en1 => RX cy cs ad en1 ∧ (∀ c, (c ≠ 8 ∧ c ≠ 9) → en1 c = en c) ∧ bI r (20000 < SPN en n)) (PostM D cs ad) (Af cs ad sz)) ([.ref (ad 0), .int (nI n)] : List Value).toArray s 0 0 (Af cs ad sz)) (F0 m 2 ls []) := by
    intro fu
    induction fu with
    | zero => intro j1073  en_1073 ls H locs h0 h1 h2; exact absurd h2 (by omega)
    | succ fu ih_1073 =>
      intro j1073  en_1073 ls H locs hj0_1073 hj_1073 hfu_1073 hI_1073 hf_1073 i0_1073 hl hh
      refine lv_iload_n hx hb dX12_isSpent_2 rfl (lv_at hl 0 rfl) ?_
      refine lv_aload_n hx hb dX12_isSpent_3 rfl (lv_at hl 1 rfl) ?_
      have es1072_1074 : en_1073 0 = .inr (11, [.int fa, .int hi, .int (nI wd), .int (nI mo), .int (nI tb), .ref (ad 1), .ref (ad 2), .ref (ad 3), .ref (ad 4), .ref (ad 5), .ref (ad 6), .ref (ad 7), .ref (ad 8), .ref (ad 9), .int dp, .long many, .long grt, .long lst, .long nou, .ref (ad 10), .ref (ad 11), .ref (ad 12), .int rm, .long rb, .ref (ad 13), .int pr, .ref (ad 14), .ref (ad 15), .ref (ad 16), .ref (ad 17), .int (nI wo), .ref (ad 18), .ref (ad 19)]) := (hf_1073 0 (by omega)).trans es1072
      refine hp_get hx hb hts ix12 hown hK hh (q := 0) rfl (hI.1 _ (by decide)) es1072_1074 rfl 4 (by decide) (hts _ tw_883) (fun _ h9 => h9) rfl dX12_isSpent_4 ?_
      refine lv_icmp_ge (tgt := 23) hx hb dX12_isSpent_7 (by decide) (fun c_1075 => ?_) (fun c_1075 => ?_)
      · have n_1075 : tb ≤ j1073 := n_le (a := tb) (b := j1073) c_1075 (by omega) (by omega)
        refine lv_iconst (v := 1) hx hb dX12_isSpent_23 (by decide) ?_
        refine lv_istore_n (lv' := [(2, .int 1), (0, .ref (ad 0)), (1, .int (nI n))]) hx hb dX12_isSpent_24 rfl hl (by decide) rfl (fun ls hl => ?_)
        have loop_1076 : ∀ (fu j1076 : Nat)  (en_1076 : Nat → va_E) (ls : Array Slot) (H : Heap) (locs : List Loc), 1 ≤ j1076 → j1076 ≤ n → n < j1076 + fu → RX cy cs ad en_1076 → (∀ c, (c ≠ 8 ∧ c ≠ 9) → en_1076 c = en c) → (∀ x, x < tb → rdL (en_1076 8) x = nL (ew tb (alR (rdF (en 2))) (j1076 - 1) x)) → lv_has ls 5 [(2, .int (nI j1076)), (0, .ref (ad 0)), (1, .int (nI n))] → Hp D (Af cs ad sz) (Af cs ad sz) s.heap H locs cs ad en_1076 → W p l e (headSpec (Cond.code yX12_isSpent cX12_isSpent 5 (some .boolean) :: TB) (rmN 1)).room s m ([.ref (ad 0), .int (nI n)] : List Value).toArray below meth c H locs 0 0 (MQ below (va_Qi (S := Nat → va_E) (fun r en1 => RX cy cs ad en1 ∧ (∀ c, (c ≠ 8 ∧ c ≠ 9) → en1 c = en c) ∧ bI r (20000 < SPN en n)) (PostM D cs ad) (Af cs ad sz)) ([.ref (ad 0), .int (nI n)] : List Value).toArray s 0 0 (Af cs ad sz)) (F0 m 25 ls []) := by
          intro fu
          induction fu with
          | zero => intro j1076  en_1076 ls H locs h0 h1 h2; exact absurd h2 (by omega)
          | succ fu ih_1076 =>
            intro j1076  en_1076 ls H locs hj0_1076 hj_1076 hfu_1076 hI_1076 hf_1076 i0_1076 hl hh
            refine lv_iload_n hx hb dX12_isSpent_25 rfl (lv_at hl 0 rfl) ?_
            refine lv_iload_n hx hb dX12_isSpent_26 rfl (lv_at hl 2 rfl) ?_
            refine lv_icmp_ge (tgt := 135) hx hb dX12_isSpent_27 (by decide) (fun c_1077 => ?_) (fun c_1077 => ?_)
            · have n_1077 : n ≤ j1076 := n_le (a := n) (b := j1076) c_1077 (by omega) (by omega)
              refine lv_lconst (v := 0) hx hb dX12_isSpent_135 (by decide) ?_
              refine lv_lstore_n (lv' := [(2, .long 0), (0, .ref (ad 0)), (1, .int (nI n))]) hx hb dX12_isSpent_136 rfl hl (by decide) rfl (fun ls hl => ?_)
              refine lv_iconst (v := 0) hx hb dX12_isSpent_137 (by decide) ?_
              refine lv_istore (lv' := [(4, .int 0), (2, .long 0), (0, .ref (ad 0)), (1, .int (nI n))]) hx hb dX12_isSpent_138 hl (by decide) rfl (fun ls hl => ?_)
              have loop_1078 : ∀ (fu j1078 : Nat) (al1078 : Int64) (en_1078 : Nat → va_E) (ls : Array Slot) (H : Heap) (locs : List Loc), 0 ≤ j1078 → j1078 ≤ tb → tb < j1078 + fu → RX cy cs ad en_1078 → (∀ c, (c ≠ 8 ∧ c ≠ 9) → en_1078 c = en c) → (al1078 = nL (sumN (fun b => ew tb (alR (rdF (en 2))) (n - 1) b) j1078)) → (∀ x, x < tb → rdL (en_1078 8) x = nL (ew tb (alR (rdF (en 2))) (n - 1) x)) → lv_has ls 5 [(4, .int (nI j1078)), (2, .long al1078), (0, .ref (ad 0)), (1, .int (nI n))] → Hp D (Af cs ad sz) (Af cs ad sz) s.heap H locs cs ad en_1078 → W p l e (headSpec (Cond.code yX12_isSpent cX12_isSpent 5 (some .boolean) :: TB) (rmN 1)).room s m ([.ref (ad 0), .int (nI n)] : List Value).toArray below meth c H locs 0 0 (MQ below (va_Qi (S := Nat → va_E) (fun r en1 => RX cy cs ad en1 ∧ (∀ c, (c ≠ 8 ∧ c ≠ 9) → en1 c = en c) ∧ bI r (20000 < SPN en n)) (PostM D cs ad) (Af cs ad sz)) ([.ref (ad 0), .int (nI n)] : List Value).toArray s 0 0 (Af cs ad sz)) (F0 m 140 ls []) := by
                intro fu
                induction fu with
                | zero => intro j1078 al1078 en_1078 ls H locs h0 h1 h2; exact absurd h2 (by omega)
                | succ fu ih_1078 =>
                  intro j1078 al1078 en_1078 ls H locs hj0_1078 hj_1078 hfu_1078 hI_1078 hf_1078 i0_1078 i1_1078 hl hh
                  refine lv_iload hx hb dX12_isSpent_140 (lv_at hl 0 rfl) ?_
                  refine lv_aload_n hx hb dX12_isSpent_142 rfl (lv_at hl 2 rfl) ?_
                  have es1072_1079 : en_1078 0 = .inr (11, [.int fa, .int hi, .int (nI wd), .int (nI mo), .int (nI tb), .ref (ad 1), .ref (ad 2), .ref (ad 3), .ref (ad 4), .ref (ad 5), .ref (ad 6), .ref (ad 7), .ref (ad 8), .ref (ad 9), .int dp, .long many, .long grt, .long lst, .long nou, .ref (ad 10), .ref (ad 11), .ref (ad 12), .int rm, .long rb, .ref (ad 13), .int pr, .ref (ad 14), .ref (ad 15), .ref (ad 16), .ref (ad 17), .int (nI wo), .ref (ad 18), .ref (ad 19)]) := (hf_1078 0 (by omega)).trans es1072
                  refine hp_get hx hb hts ix12 hown hK hh (q := 0) rfl (hI.1 _ (by decide)) es1072_1079 rfl 4 (by decide) (hts _ tw_883) (fun _ h9 => h9) rfl dX12_isSpent_143 ?_
                  refine lv_icmp_ge (tgt := 165) hx hb dX12_isSpent_146 (by decide) (fun c_1080 => ?_) (fun c_1080 => ?_)
                  · have n_1080 : tb ≤ j1078 := n_le (a := tb) (b := j1078) c_1080 (by omega) (by omega)
                    refine lv_lload_n hx hb dX12_isSpent_165 rfl (lv_at hl 1 rfl) ?_
                    refine lv_ldc2 hx hb hown (hts _ tw_1033) dX12_isSpent_166 ?_
                    refine W.lcmp hx hb dX12_isSpent_169 ?_
                    refine lv_if_le (tgt := 177) hx hb dX12_isSpent_170 (by decide) (fun c_1081 => ?_) (fun c_1081 => ?_)
                    · refine lv_iconst (v := 0) hx hb dX12_isSpent_177 (by decide) ?_
                      have hq4 : (rdI (en 0) 4).toNatClampNeg = tb := by rw [show rdI (en 0) 4 = nI tb from by rw [es1072]; rfl]; exact nI_clamp (by omega)
                      have hsp : al1078.toInt = ((sumN (fun t => bw tb (alR (rdF (en 2))) (n - 1) t) tb : Nat) : Int) := by have e9 : j1078 = tb := (by omega); rw [e9] at i0_1078; exact SP_iff i0_1078 (by omega) (by omega)
                      exact hp_iretM hx hb hr rfl hlocks hh (⟨hI_1078, hf_1078, Or.inr ⟨rfl, by unfold SPN; rw [hq4]; have h9 := g_le c_1081; rw [hsp, show (20000 : Int64).toInt = 20000 from by decide] at h9; omega⟩⟩) dX12_isSpent_178
                    · refine lv_iconst (v := 1) hx hb dX12_isSpent_173 (by decide) ?_
                      refine lv_goto (tgt := 178) hx hb dX12_isSpent_174 (by decide) ?_
                      have hq4 : (rdI (en 0) 4).toNatClampNeg = tb := by rw [show rdI (en 0) 4 = nI tb from by rw [es1072]; rfl]; exact nI_clamp (by omega)
                      have hsp : al1078.toInt = ((sumN (fun t => bw tb (alR (rdF (en 2))) (n - 1) t) tb : Nat) : Int) := by have e9 : j1078 = tb := (by omega); rw [e9] at i0_1078; exact SP_iff i0_1078 (by omega) (by omega)
                      exact hp_iretM hx hb hr rfl hlocks hh (⟨hI_1078, hf_1078, Or.inl ⟨rfl, by unfold SPN; rw [hq4]; have h9 := g_nle c_1081; rw [hsp, show (20000 : Int64).toInt = 20000 from by decide] at h9; omega⟩⟩) dX12_isSpent_178
                  · have n_1080 : j1078 < tb := n_nle (a := tb) (b := j1078) c_1080 (by omega) (by omega)
                    refine lv_lload_n hx hb dX12_isSpent_149 rfl (lv_at hl 1 rfl) ?_
                    refine lv_aload_n hx hb dX12_isSpent_150 rfl (lv_at hl 2 rfl) ?_
                    refine hp_get hx hb hts ix12 hown hK hh (q := 0) rfl (hI.1 _ (by decide)) es1072_1079 rfl 12 (by decide) (hts _ tw_891) (fun _ h9 => h9) rfl dX12_isSpent_151 ?_
                    refine lv_iload hx hb dX12_isSpent_154 (lv_at hl 0 rfl) ?_
                    obtain ⟨f_1082, es1082⟩ := getr_wy hI_1078
                    refine hp_lald hx hb hK hh (q := 8) rfl (hI.1 _ (by decide)) es1082 (vp_in_nI (n := j1078) (by omega) (by decide)) dX12_isSpent_156 ?_
                    rw [nI_clamp (n := j1078) (by omega)]
                    refine lv_ladd hx hb dX12_isSpent_157 ?_
                    refine lv_lstore_n (lv' := [(2, .long (al1078 + (f_1082 j1078))), (4, .int (nI j1078)), (0, .ref (ad 0)), (1, .int (nI n))]) hx hb dX12_isSpent_158 rfl hl (by decide) rfl (fun ls hl => ?_)
                    refine lv_iinc (v := (nI (j1078 + 1))) (lv' := [(4, .int (nI (j1078 + 1))), (2, .long (al1078 + (f_1082 j1078))), (0, .ref (ad 0)), (1, .int (nI n))]) hx hb dX12_isSpent_159 hl (k := 1) rfl (nI_1 _) (by decide) rfl (fun ls hl => ?_)
                    refine lv_goto (tgt := 140) hx hb dX12_isSpent_162 (by decide) ?_
                    exact ih_1078 ((j1078 + 1)) (al1078 + (f_1082 j1078)) en_1078 ls H locs (by omega) (by omega) (by omega) hI_1078 hf_1078 (by rw [i0_1078]; exact WS_s ((show f_1082 j1078 = rdL (en_1078 8) j1078 from by rw [es1082]; rfl).trans (i1_1078 j1078 (by omega)))) (i1_1078) (lv_sub hl [0, 1, 2, 3] rfl) hh
              exact loop_1078 (tb + 1) 0 0 en_1076 ls _ _ (Nat.le_refl _) (by omega) (by omega) hI_1076 hf_1076 (rfl) (by have e9 : j1076 = n := (by omega); have h9 := i0_1076; rw [e9] at h9; exact h9) (lv_sub hl [0, 1, 2, 3] rfl) hh
            · have n_1077 : j1076 < n := n_nle (a := n) (b := j1076) c_1077 (by omega) (by omega)
              refine lv_iconst (v := 0) hx hb dX12_isSpent_30 (by decide) ?_
              refine lv_istore_n (lv' := [(3, .int 0), (2, .int (nI j1076)), (0, .ref (ad 0)), (1, .int (nI n))]) hx hb dX12_isSpent_31 rfl hl (by decide) rfl (fun ls hl => ?_)
              have loop_1083 : ∀ (fu j1083 : Nat)  (en_1083 : Nat → va_E) (ls : Array Slot) (H : Heap) (locs : List Loc), 0 ≤ j1083 → j1083 ≤ tb → tb < j1083 + fu → RX cy cs ad en_1083 → (∀ c, (c ≠ 8 ∧ c ≠ 9) → en_1083 c = en c) → (∀ x, x < tb → rdL (en_1083 8) x = nL (ew tb (alR (rdF (en 2))) (j1076 - 1) x)) → (∀ x, x < j1083 → rdL (en_1083 9) x = nL (ew tb (alR (rdF (en 2))) j1076 x)) → lv_has ls 5 [(3, .int (nI j1083)), (2, .int (nI j1076)), (0, .ref (ad 0)), (1, .int (nI n))] → Hp D (Af cs ad sz) (Af cs ad sz) s.heap H locs cs ad en_1083 → W p l e (headSpec (Cond.code yX12_isSpent cX12_isSpent 5 (some .boolean) :: TB) (rmN 1)).room s m ([.ref (ad 0), .int (nI n)] : List Value).toArray below meth c H locs 0 0 (MQ below (va_Qi (S := Nat → va_E) (fun r en1 => RX cy cs ad en1 ∧ (∀ c, (c ≠ 8 ∧ c ≠ 9) → en1 c = en c) ∧ bI r (20000 < SPN en n)) (PostM D cs ad) (Af cs ad sz)) ([.ref (ad 0), .int (nI n)] : List Value).toArray s 0 0 (Af cs ad sz)) (F0 m 32 ls []) := by
                intro fu
                induction fu with
                | zero => intro j1083  en_1083 ls H locs h0 h1 h2; exact absurd h2 (by omega)
                | succ fu ih_1083 =>
                  intro j1083  en_1083 ls H locs hj0_1083 hj_1083 hfu_1083 hI_1083 hf_1083 i0_1083 i1_1083 hl hh
                  refine lv_iload_n hx hb dX12_isSpent_32 rfl (lv_at hl 0 rfl) ?_
                  refine lv_aload_n hx hb dX12_isSpent_33 rfl (lv_at hl 2 rfl) ?_
                  have es1072_1084 : en_1083 0 = .inr (11, [.int fa, .int hi, .int (nI wd), .int (nI mo), .int (nI tb), .ref (ad 1), .ref (ad 2), .ref (ad 3), .ref (ad 4), .ref (ad 5), .ref (ad 6), .ref (ad 7), .ref (ad 8), .ref (ad 9), .int dp, .long many, .long grt, .long lst, .long nou, .ref (ad 10), .ref (ad 11), .ref (ad 12), .int rm, .long rb, .ref (ad 13), .int pr, .ref (ad 14), .ref (ad 15), .ref (ad 16), .ref (ad 17), .int (nI wo), .ref (ad 18), .ref (ad 19)]) := (hf_1083 0 (by omega)).trans es1072
                  refine hp_get hx hb hts ix12 hown hK hh (q := 0) rfl (hI.1 _ (by decide)) es1072_1084 rfl 4 (by decide) (hts _ tw_883) (fun _ h9 => h9) rfl dX12_isSpent_34 ?_
                  refine lv_icmp_ge (tgt := 101) hx hb dX12_isSpent_37 (by decide) (fun c_1085 => ?_) (fun c_1085 => ?_)
                  · have n_1085 : tb ≤ j1083 := n_le (a := tb) (b := j1083) c_1085 (by omega) (by omega)
                    refine lv_iconst (v := 0) hx hb dX12_isSpent_101 (by decide) ?_
                    refine lv_istore_n (lv' := [(3, .int 0), (2, .int (nI j1076)), (0, .ref (ad 0)), (1, .int (nI n))]) hx hb dX12_isSpent_102 rfl hl (by decide) rfl (fun ls hl => ?_)
                    have loop_1086 : ∀ (fu j1086 : Nat)  (en_1086 : Nat → va_E) (ls : Array Slot) (H : Heap) (locs : List Loc), 0 ≤ j1086 → j1086 ≤ tb → tb < j1086 + fu → RX cy cs ad en_1086 → (∀ c, (c ≠ 8 ∧ c ≠ 9) → en_1086 c = en c) → (∀ x, x < j1086 → rdL (en_1086 8) x = nL (ew tb (alR (rdF (en 2))) j1076 x)) → (∀ x, x < tb → rdL (en_1086 9) x = nL (ew tb (alR (rdF (en 2))) j1076 x)) → lv_has ls 5 [(3, .int (nI j1086)), (2, .int (nI j1076)), (0, .ref (ad 0)), (1, .int (nI n))] → Hp D (Af cs ad sz) (Af cs ad sz) s.heap H locs cs ad en_1086 → W p l e (headSpec (Cond.code yX12_isSpent cX12_isSpent 5 (some .boolean) :: TB) (rmN 1)).room s m ([.ref (ad 0), .int (nI n)] : List Value).toArray below meth c H locs 0 0 (MQ below (va_Qi (S := Nat → va_E) (fun r en1 => RX cy cs ad en1 ∧ (∀ c, (c ≠ 8 ∧ c ≠ 9) → en1 c = en c) ∧ bI r (20000 < SPN en n)) (PostM D cs ad) (Af cs ad sz)) ([.ref (ad 0), .int (nI n)] : List Value).toArray s 0 0 (Af cs ad sz)) (F0 m 103 ls []) := by
                      intro fu
                      induction fu with
                      | zero => intro j1086  en_1086 ls H locs h0 h1 h2; exact absurd h2 (by omega)
                      | succ fu ih_1086 =>
                        intro j1086  en_1086 ls H locs hj0_1086 hj_1086 hfu_1086 hI_1086 hf_1086 i0_1086 i1_1086 hl hh
                        refine lv_iload_n hx hb dX12_isSpent_103 rfl (lv_at hl 0 rfl) ?_
                        refine lv_aload_n hx hb dX12_isSpent_104 rfl (lv_at hl 2 rfl) ?_
                        have es1072_1087 : en_1086 0 = .inr (11, [.int fa, .int hi, .int (nI wd), .int (nI mo), .int (nI tb), .ref (ad 1), .ref (ad 2), .ref (ad 3), .ref (ad 4), .ref (ad 5), .ref (ad 6), .ref (ad 7), .ref (ad 8), .ref (ad 9), .int dp, .long many, .long grt, .long lst, .long nou, .ref (ad 10), .ref (ad 11), .ref (ad 12), .int rm, .long rb, .ref (ad 13), .int pr, .ref (ad 14), .ref (ad 15), .ref (ad 16), .ref (ad 17), .int (nI wo), .ref (ad 18), .ref (ad 19)]) := (hf_1086 0 (by omega)).trans es1072
                        refine hp_get hx hb hts ix12 hown hK hh (q := 0) rfl (hI.1 _ (by decide)) es1072_1087 rfl 4 (by decide) (hts _ tw_883) (fun _ h9 => h9) rfl dX12_isSpent_105 ?_
                        refine lv_icmp_ge (tgt := 129) hx hb dX12_isSpent_108 (by decide) (fun c_1088 => ?_) (fun c_1088 => ?_)
                        · have n_1088 : tb ≤ j1086 := n_le (a := tb) (b := j1086) c_1088 (by omega) (by omega)
                          refine lv_iinc (v := (nI (j1076 + 1))) (lv' := [(2, .int (nI (j1076 + 1))), (3, .int (nI j1086)), (0, .ref (ad 0)), (1, .int (nI n))]) hx hb dX12_isSpent_129 hl (k := 1) rfl (nI_1 _) (by decide) rfl (fun ls hl => ?_)
                          refine lv_goto (tgt := 25) hx hb dX12_isSpent_132 (by decide) ?_
                          exact ih_1076 ((j1076 + 1))  en_1086 ls H locs (by omega) (by omega) (by omega) hI_1086 hf_1086 (fun x hx => by rw [show j1076 + 1 - 1 = j1076 by omega]; exact i0_1086 x (by omega)) (lv_sub hl [0, 2, 3] rfl) hh
                        · have n_1088 : j1086 < tb := n_nle (a := tb) (b := j1086) c_1088 (by omega) (by omega)
                          refine lv_aload_n hx hb dX12_isSpent_111 rfl (lv_at hl 2 rfl) ?_
                          refine hp_get hx hb hts ix12 hown hK hh (q := 0) rfl (hI.1 _ (by decide)) es1072_1087 rfl 12 (by decide) (hts _ tw_891) (fun _ h9 => h9) rfl dX12_isSpent_112 ?_
                          refine lv_iload_n hx hb dX12_isSpent_115 rfl (lv_at hl 0 rfl) ?_
                          refine lv_aload_n hx hb dX12_isSpent_116 rfl (lv_at hl 2 rfl) ?_
                          refine hp_get hx hb hts ix12 hown hK hh (q := 0) rfl (hI.1 _ (by decide)) es1072_1087 rfl 13 (by decide) (hts _ tw_892) (fun _ h9 => h9) rfl dX12_isSpent_117 ?_
                          refine lv_iload_n hx hb dX12_isSpent_120 rfl (lv_at hl 0 rfl) ?_
                          obtain ⟨f_1089, es1089⟩ := getr_mw hI_1086
                          refine hp_lald hx hb hK hh (q := 9) rfl (hI.1 _ (by decide)) es1089 (vp_in_nI (n := j1086) (by omega) (by decide)) dX12_isSpent_121 ?_
                          rw [nI_clamp (n := j1086) (by omega)]
                          obtain ⟨f_1090, es1090⟩ := getr_wy hI_1086
                          refine hp_last hx hb hK hh (q := 8) rfl (hI.1 _ (by decide)) es1090 (vp_in_nI (n := j1086) (by omega) (by decide)) dX12_isSpent_122 (fun H locs en_1091 hen_1091 hh => ?_)
                          rw [nI_clamp (n := j1086) (by omega)] at hen_1091
                          have es1072_1091 : en_1091 0 = .inr (11, [.int fa, .int hi, .int (nI wd), .int (nI mo), .int (nI tb), .ref (ad 1), .ref (ad 2), .ref (ad 3), .ref (ad 4), .ref (ad 5), .ref (ad 6), .ref (ad 7), .ref (ad 8), .ref (ad 9), .int dp, .long many, .long grt, .long lst, .long nou, .ref (ad 10), .ref (ad 11), .ref (ad 12), .int rm, .long rb, .ref (ad 13), .int pr, .ref (ad 14), .ref (ad 15), .ref (ad 16), .ref (ad 17), .int (nI wo), .ref (ad 18), .ref (ad 19)]) := by rw [hen_1091, va_up_ne _ _ (by decide)]; exact es1072_1087
                          have es1089_1091 : en_1091 9 = .inl (cy 1, 6, .inr (.inl f_1089)) := by rw [hen_1091, va_up_ne _ _ (by decide)]; exact es1089
                          have es1090_1091 : en_1091 8 = .inl (cy 1, 6, .inr (.inl (vp_updL f_1090 j1086 (f_1089 j1086)))) := by rw [hen_1091]; exact va_up_self _ _ _
                          have hI_1091 : RX cy cs ad en_1091 := by rw [hen_1091]; exact upr_wy hI_1086 ⟨(vp_updL f_1090 j1086 (f_1089 j1086)), rfl⟩
                          have hf_1091 : ∀ c, (c ≠ 8 ∧ c ≠ 9) → en_1091 c = en c := fun c hc => Eq.trans (show en_1091 c = en_1086 c from by rw [hen_1091, va_up_ne _ _ (by omega)]) (hf_1086 c hc)
                          refine lv_iinc (v := (nI (j1086 + 1))) (lv' := [(3, .int (nI (j1086 + 1))), (2, .int (nI j1076)), (0, .ref (ad 0)), (1, .int (nI n))]) hx hb dX12_isSpent_123 hl (k := 0) rfl (nI_1 _) (by decide) rfl (fun ls hl => ?_)
                          refine lv_goto (tgt := 103) hx hb dX12_isSpent_126 (by decide) ?_
                          exact ih_1086 ((j1086 + 1))  en_1091 ls H locs (by omega) (by omega) (by omega) hI_1091 hf_1091 (fun x hx => by rw [es1090_1091]; exact WY_up (fun y hy => (show f_1090 y = rdL (en_1086 8) y from by rw [es1090]; rfl).trans (i0_1086 y hy)) ((show f_1089 j1086 = rdL (en_1086 9) j1086 from by rw [es1089]; rfl).trans (i1_1086 j1086 (by omega))) x hx) (fun x hx => by rw [show en_1091 9 = en_1086 9 from by rw [hen_1091, va_up_ne _ _ (by decide)]]; exact i1_1086 x hx) (lv_sub hl [0, 1, 2, 3] rfl) hh
                    exact loop_1086 (tb + 1) 0  en_1083 ls _ _ (Nat.le_refl _) (by omega) (by omega) hI_1083 hf_1083 (fun x h => absurd h (Nat.not_lt_zero x)) (fun x hx => i1_1083 x (by omega)) (lv_sub hl [0, 1, 2, 3] rfl) hh
                  · have n_1085 : j1083 < tb := n_nle (a := tb) (b := j1083) c_1085 (by omega) (by omega)
                    refine lv_aload_n hx hb dX12_isSpent_40 rfl (lv_at hl 2 rfl) ?_
                    refine hp_get hx hb hts ix12 hown hK hh (q := 0) rfl (hI.1 _ (by decide)) es1072_1084 rfl 13 (by decide) (hts _ tw_892) (fun _ h9 => h9) rfl dX12_isSpent_41 ?_
                    refine lv_iload_n hx hb dX12_isSpent_44 rfl (lv_at hl 0 rfl) ?_
                    refine lv_lconst (v := 0) hx hb dX12_isSpent_45 (by decide) ?_
                    obtain ⟨f_1092, es1092⟩ := getr_mw hI_1083
                    refine hp_last hx hb hK hh (q := 9) rfl (hI.1 _ (by decide)) es1092 (vp_in_nI (n := j1083) (by omega) (by decide)) dX12_isSpent_46 (fun H locs en_1093 hen_1093 hh => ?_)
                    rw [nI_clamp (n := j1083) (by omega)] at hen_1093
                    have es1072_1093 : en_1093 0 = .inr (11, [.int fa, .int hi, .int (nI wd), .int (nI mo), .int (nI tb), .ref (ad 1), .ref (ad 2), .ref (ad 3), .ref (ad 4), .ref (ad 5), .ref (ad 6), .ref (ad 7), .ref (ad 8), .ref (ad 9), .int dp, .long many, .long grt, .long lst, .long nou, .ref (ad 10), .ref (ad 11), .ref (ad 12), .int rm, .long rb, .ref (ad 13), .int pr, .ref (ad 14), .ref (ad 15), .ref (ad 16), .ref (ad 17), .int (nI wo), .ref (ad 18), .ref (ad 19)]) := by rw [hen_1093, va_up_ne _ _ (by decide)]; exact es1072_1084
                    have es1092_1093 : en_1093 9 = .inl (cy 1, 6, .inr (.inl (vp_updL f_1092 j1083 0))) := by rw [hen_1093]; exact va_up_self _ _ _
                    have hI_1093 : RX cy cs ad en_1093 := by rw [hen_1093]; exact upr_mw hI_1083 ⟨(vp_updL f_1092 j1083 0), rfl⟩
                    have hf_1093 : ∀ c, (c ≠ 8 ∧ c ≠ 9) → en_1093 c = en c := fun c hc => Eq.trans (show en_1093 c = en_1083 c from by rw [hen_1093, va_up_ne _ _ (by omega)]) (hf_1083 c hc)
                    refine lv_iconst (v := 0) hx hb dX12_isSpent_47 (by decide) ?_
                    refine lv_istore (lv' := [(4, .int 0), (3, .int (nI j1083)), (2, .int (nI j1076)), (0, .ref (ad 0)), (1, .int (nI n))]) hx hb dX12_isSpent_48 hl (by decide) rfl (fun ls hl => ?_)
                    have loop_1094 : ∀ (fu j1094 : Nat)  (en_1094 : Nat → va_E) (ls : Array Slot) (H : Heap) (locs : List Loc), 0 ≤ j1094 → j1094 ≤ tb → tb < j1094 + fu → RX cy cs ad en_1094 → (∀ c, (c ≠ 8 ∧ c ≠ 9) → en_1094 c = en c) → (∀ x, x < tb → rdL (en_1094 8) x = nL (ew tb (alR (rdF (en 2))) (j1076 - 1) x)) → (∀ x, x < j1083 → rdL (en_1094 9) x = nL (ew tb (alR (rdF (en 2))) j1076 x)) → (rdL (en_1094 9) j1083 = nL (sumN (fun u => if (alR (rdF (en 2))) u j1083 then ew tb (alR (rdF (en 2))) (j1076 - 1) u else 0) j1094)) → lv_has ls 5 [(4, .int (nI j1094)), (3, .int (nI j1083)), (2, .int (nI j1076)), (0, .ref (ad 0)), (1, .int (nI n))] → Hp D (Af cs ad sz) (Af cs ad sz) s.heap H locs cs ad en_1094 → W p l e (headSpec (Cond.code yX12_isSpent cX12_isSpent 5 (some .boolean) :: TB) (rmN 1)).room s m ([.ref (ad 0), .int (nI n)] : List Value).toArray below meth c H locs 0 0 (MQ below (va_Qi (S := Nat → va_E) (fun r en1 => RX cy cs ad en1 ∧ (∀ c, (c ≠ 8 ∧ c ≠ 9) → en1 c = en c) ∧ bI r (20000 < SPN en n)) (PostM D cs ad) (Af cs ad sz)) ([.ref (ad 0), .int (nI n)] : List Value).toArray s 0 0 (Af cs ad sz)) (F0 m 50 ls []) := by
                      intro fu
                      induction fu with
                      | zero => intro j1094  en_1094 ls H locs h0 h1 h2; exact absurd h2 (by omega)
                      | succ fu ih_1094 =>
                        intro j1094  en_1094 ls H locs hj0_1094 hj_1094 hfu_1094 hI_1094 hf_1094 i0_1094 i1_1094 i2_1094 hl hh
                        refine lv_iload hx hb dX12_isSpent_50 (lv_at hl 0 rfl) ?_
                        refine lv_aload_n hx hb dX12_isSpent_52 rfl (lv_at hl 3 rfl) ?_
                        have es1072_1095 : en_1094 0 = .inr (11, [.int fa, .int hi, .int (nI wd), .int (nI mo), .int (nI tb), .ref (ad 1), .ref (ad 2), .ref (ad 3), .ref (ad 4), .ref (ad 5), .ref (ad 6), .ref (ad 7), .ref (ad 8), .ref (ad 9), .int dp, .long many, .long grt, .long lst, .long nou, .ref (ad 10), .ref (ad 11), .ref (ad 12), .int rm, .long rb, .ref (ad 13), .int pr, .ref (ad 14), .ref (ad 15), .ref (ad 16), .ref (ad 17), .int (nI wo), .ref (ad 18), .ref (ad 19)]) := (hf_1094 0 (by omega)).trans es1072
                        refine hp_get hx hb hts ix12 hown hK hh (q := 0) rfl (hI.1 _ (by decide)) es1072_1095 rfl 4 (by decide) (hts _ tw_883) (fun _ h9 => h9) rfl dX12_isSpent_53 ?_
                        refine lv_icmp_ge (tgt := 95) hx hb dX12_isSpent_56 (by decide) (fun c_1096 => ?_) (fun c_1096 => ?_)
                        · have n_1096 : tb ≤ j1094 := n_le (a := tb) (b := j1094) c_1096 (by omega) (by omega)
                          refine lv_iinc (v := (nI (j1083 + 1))) (lv' := [(3, .int (nI (j1083 + 1))), (4, .int (nI j1094)), (2, .int (nI j1076)), (0, .ref (ad 0)), (1, .int (nI n))]) hx hb dX12_isSpent_95 hl (k := 1) rfl (nI_1 _) (by decide) rfl (fun ls hl => ?_)
                          refine lv_goto (tgt := 32) hx hb dX12_isSpent_98 (by decide) ?_
                          exact ih_1083 ((j1083 + 1))  en_1094 ls H locs (by omega) (by omega) (by omega) hI_1094 hf_1094 (i0_1094) (fun x hx => (Nat.lt_or_ge x j1083).elim (fun h => i1_1094 x h) (fun h => by have e : x = j1083 := (by omega); have e9 : j1094 = tb := (by omega); rw [e]; rw [e9] at i2_1094; exact i2_1094.trans (congrArg nL (ew_s (by omega)).symm))) (lv_sub hl [0, 2, 3, 4] rfl) hh
                        · have n_1096 : j1094 < tb := n_nle (a := tb) (b := j1094) c_1096 (by omega) (by omega)
                          refine lv_aload_n hx hb dX12_isSpent_59 rfl (lv_at hl 3 rfl) ?_
                          refine hp_get hx hb hts ix12 hown hK hh (q := 0) rfl (hI.1 _ (by decide)) es1072_1095 rfl 13 (by decide) (hts _ tw_892) (fun _ h9 => h9) rfl dX12_isSpent_60 ?_
                          refine lv_iload_n hx hb dX12_isSpent_63 rfl (lv_at hl 1 rfl) ?_
                          refine lv_dup2_11 hx hb dX12_isSpent_64 rfl rfl ?_
                          obtain ⟨f_1097, es1097⟩ := getr_mw hI_1094
                          refine hp_lald hx hb hK hh (q := 9) rfl (hI.1 _ (by decide)) es1097 (vp_in_nI (n := j1083) (by omega) (by decide)) dX12_isSpent_65 ?_
                          rw [nI_clamp (n := j1083) (by omega)]
                          refine lv_aload_n hx hb dX12_isSpent_66 rfl (lv_at hl 3 rfl) ?_
                          refine lv_iload hx hb dX12_isSpent_67 (lv_at hl 0 rfl) ?_
                          refine lv_iload_n hx hb dX12_isSpent_69 rfl (lv_at hl 1 rfl) ?_
                          refine hp_callRi (va_runV (As := [.int (nI j1094), .int (nI j1083)]) (rest := [.long (f_1097 j1083), .int (nI j1083), .ref (ad 9)]) ⟨hx, hb, hml, hown, hts⟩ (c_X12_mayFollow l D cy _ cs ad en_1094 hI_1094 j1094 j1083 (by omega) (by omega)) (kw_X12_mayFollow hts tw_1029 ⟨by decide, by decide⟩) (preV_of hh hK (hI.1 _ (by decide)) es1072_1095 rfl) rfl rfl hl.1 rfl (lv_room (Nat.le_of_ble_eq_true rfl)) dX12_isSpent_70 ⟨Nat.le_of_ble_eq_true rfl, Nat.le_of_ble_eq_true rfl⟩) hh hA (fun r_1098 H locs hw_1098 hh => ?_)
                          rcases Decidable.em (rdF (en_1094 2) (6 * j1094 + j1083) = 0) with hp_1098 | hp_1098
                          · obtain rfl : r_1098 = 1 := Eq.trans hw_1098 (if_pos hp_1098)
                            refine lv_if_eq (tgt := 86) hx hb dX12_isSpent_73 (by decide) (fun c_0 => absurd c_0 (by decide)) (fun _ => ?_)
                            refine lv_aload_n hx hb dX12_isSpent_76 rfl (lv_at hl 3 rfl) ?_
                            refine hp_get hx hb hts ix12 hown hK hh (q := 0) rfl (hI.1 _ (by decide)) es1072_1095 rfl 12 (by decide) (hts _ tw_891) (fun _ h9 => h9) rfl dX12_isSpent_77 ?_
                            refine lv_iload hx hb dX12_isSpent_80 (lv_at hl 0 rfl) ?_
                            obtain ⟨f_1099, es1099⟩ := getr_wy hI_1094
                            refine hp_lald hx hb hK hh (q := 8) rfl (hI.1 _ (by decide)) es1099 (vp_in_nI (n := j1094) (by omega) (by decide)) dX12_isSpent_82 ?_
                            rw [nI_clamp (n := j1094) (by omega)]
                            refine lv_goto (tgt := 87) hx hb dX12_isSpent_83 (by decide) ?_
                            refine lv_ladd hx hb dX12_isSpent_87 ?_
                            refine hp_last hx hb hK hh (q := 9) rfl (hI.1 _ (by decide)) es1097 (vp_in_nI (n := j1083) (by omega) (by decide)) dX12_isSpent_88 (fun H locs en_1100 hen_1100 hh => ?_)
                            rw [nI_clamp (n := j1083) (by omega)] at hen_1100
                            have es1072_1100 : en_1100 0 = .inr (11, [.int fa, .int hi, .int (nI wd), .int (nI mo), .int (nI tb), .ref (ad 1), .ref (ad 2), .ref (ad 3), .ref (ad 4), .ref (ad 5), .ref (ad 6), .ref (ad 7), .ref (ad 8), .ref (ad 9), .int dp, .long many, .long grt, .long lst, .long nou, .ref (ad 10), .ref (ad 11), .ref (ad 12), .int rm, .long rb, .ref (ad 13), .int pr, .ref (ad 14), .ref (ad 15), .ref (ad 16), .ref (ad 17), .int (nI wo), .ref (ad 18), .ref (ad 19)]) := by rw [hen_1100, va_up_ne _ _ (by decide)]; exact es1072_1095
                            have es1099_1100 : en_1100 8 = .inl (cy 1, 6, .inr (.inl f_1099)) := by rw [hen_1100, va_up_ne _ _ (by decide)]; exact es1099
                            have es1097_1100 : en_1100 9 = .inl (cy 1, 6, .inr (.inl (vp_updL f_1097 j1083 ((f_1097 j1083) + (f_1099 j1094))))) := by rw [hen_1100]; exact va_up_self _ _ _
                            have hI_1100 : RX cy cs ad en_1100 := by rw [hen_1100]; exact upr_mw hI_1094 ⟨(vp_updL f_1097 j1083 ((f_1097 j1083) + (f_1099 j1094))), rfl⟩
                            have hf_1100 : ∀ c, (c ≠ 8 ∧ c ≠ 9) → en_1100 c = en c := fun c hc => Eq.trans (show en_1100 c = en_1094 c from by rw [hen_1100, va_up_ne _ _ (by omega)]) (hf_1094 c hc)
                            refine lv_iinc (v := (nI (j1094 + 1))) (lv' := [(4, .int (nI (j1094 + 1))), (3, .int (nI j1083)), (2, .int (nI j1076)), (0, .ref (ad 0)), (1, .int (nI n))]) hx hb dX12_isSpent_89 hl (k := 0) rfl (nI_1 _) (by decide) rfl (fun ls hl => ?_)
                            refine lv_goto (tgt := 50) hx hb dX12_isSpent_92 (by decide) ?_
                            exact ih_1094 ((j1094 + 1))  en_1100 ls H locs (by omega) (by omega) (by omega) hI_1100 hf_1100 (fun x hx => by rw [show en_1100 8 = en_1094 8 from by rw [hen_1100, va_up_ne _ _ (by decide)]]; exact i0_1094 x hx) (fun x hx => by rw [es1097_1100]; exact WY_un (fun y hy => (show f_1097 y = rdL (en_1094 9) y from by rw [es1097]; rfl).trans (i1_1094 y hy)) (Nat.le_refl _) x hx) (by rw [es1097_1100]; refine pk_uLs.trans ?_; rw [show f_1097 j1083 = _ from (show f_1097 j1083 = rdL (en_1094 9) j1083 from by rw [es1097]; rfl).trans i2_1094]; exact WS_s ((show f_1099 j1094 = rdL (en_1094 8) j1094 from by rw [es1099]; rfl).trans ((i0_1094 j1094 (by omega)).trans (congrArg nL (if_pos (decide_eq_true (by rw [← hf_1094 2 (by omega)]; exact hp_1098))).symm)))) (lv_sub hl [0, 1, 2, 3, 4] rfl) hh
                          · obtain rfl : r_1098 = 0 := Eq.trans hw_1098 (if_neg hp_1098)
                            refine lv_if_eq (tgt := 86) hx hb dX12_isSpent_73 (by decide) (fun _ => ?_) (fun c_0 => absurd c_0 (by decide))
                            refine lv_lconst (v := 0) hx hb dX12_isSpent_86 (by decide) ?_
                            refine lv_ladd hx hb dX12_isSpent_87 ?_
                            refine hp_last hx hb hK hh (q := 9) rfl (hI.1 _ (by decide)) es1097 (vp_in_nI (n := j1083) (by omega) (by decide)) dX12_isSpent_88 (fun H locs en_1101 hen_1101 hh => ?_)
                            rw [nI_clamp (n := j1083) (by omega)] at hen_1101
                            have es1072_1101 : en_1101 0 = .inr (11, [.int fa, .int hi, .int (nI wd), .int (nI mo), .int (nI tb), .ref (ad 1), .ref (ad 2), .ref (ad 3), .ref (ad 4), .ref (ad 5), .ref (ad 6), .ref (ad 7), .ref (ad 8), .ref (ad 9), .int dp, .long many, .long grt, .long lst, .long nou, .ref (ad 10), .ref (ad 11), .ref (ad 12), .int rm, .long rb, .ref (ad 13), .int pr, .ref (ad 14), .ref (ad 15), .ref (ad 16), .ref (ad 17), .int (nI wo), .ref (ad 18), .ref (ad 19)]) := by rw [hen_1101, va_up_ne _ _ (by decide)]; exact es1072_1095
                            have es1097_1101 : en_1101 9 = .inl (cy 1, 6, .inr (.inl (vp_updL f_1097 j1083 ((f_1097 j1083) + 0)))) := by rw [hen_1101]; exact va_up_self _ _ _
                            have hI_1101 : RX cy cs ad en_1101 := by rw [hen_1101]; exact upr_mw hI_1094 ⟨(vp_updL f_1097 j1083 ((f_1097 j1083) + 0)), rfl⟩
                            have hf_1101 : ∀ c, (c ≠ 8 ∧ c ≠ 9) → en_1101 c = en c := fun c hc => Eq.trans (show en_1101 c = en_1094 c from by rw [hen_1101, va_up_ne _ _ (by omega)]) (hf_1094 c hc)
                            refine lv_iinc (v := (nI (j1094 + 1))) (lv' := [(4, .int (nI (j1094 + 1))), (3, .int (nI j1083)), (2, .int (nI j1076)), (0, .ref (ad 0)), (1, .int (nI n))]) hx hb dX12_isSpent_89 hl (k := 0) rfl (nI_1 _) (by decide) rfl (fun ls hl => ?_)
                            refine lv_goto (tgt := 50) hx hb dX12_isSpent_92 (by decide) ?_
                            exact ih_1094 ((j1094 + 1))  en_1101 ls H locs (by omega) (by omega) (by omega) hI_1101 hf_1101 (fun x hx => by rw [show en_1101 8 = en_1094 8 from by rw [hen_1101, va_up_ne _ _ (by decide)]]; exact i0_1094 x hx) (fun x hx => by rw [es1097_1101]; exact WY_un (fun y hy => (show f_1097 y = rdL (en_1094 9) y from by rw [es1097]; rfl).trans (i1_1094 y hy)) (Nat.le_refl _) x hx) (by rw [es1097_1101]; refine pk_uLs.trans ?_; rw [show f_1097 j1083 = _ from (show f_1097 j1083 = rdL (en_1094 9) j1083 from by rw [es1097]; rfl).trans i2_1094]; exact WS_s ((congrArg nL (if_neg (fun q => hp_1098 (by rw [hf_1094 2 (by omega)]; exact of_decide_eq_true (p := rdF (en 2) (6 * j1094 + j1083) = 0) q)))).symm)) (lv_sub hl [0, 1, 2, 3, 4] rfl) hh
                    exact loop_1094 (tb + 1) 0  en_1093 ls _ _ (Nat.le_refl _) (by omega) (by omega) hI_1093 hf_1093 (fun x hx => by rw [show en_1093 8 = en_1083 8 from by rw [hen_1093, va_up_ne _ _ (by decide)]]; exact i0_1083 x hx) (fun x hx => by rw [es1092_1093]; exact WY_un (fun y hy => (show f_1092 y = rdL (en_1083 9) y from by rw [es1092]; rfl).trans (i1_1083 y hy)) (Nat.le_refl _) x hx) (by rw [es1092_1093]; exact pk_uLs) (lv_sub hl [0, 1, 2, 3, 4] rfl) hh
              exact loop_1083 (tb + 1) 0  en_1076 ls _ _ (Nat.le_refl _) (by omega) (by omega) hI_1076 hf_1076 (i0_1076) (fun x h => absurd h (Nat.not_lt_zero x)) (lv_sub hl [0, 1, 2, 3] rfl) hh
        exact loop_1076 (n + 1) 1  en_1073 ls _ _ (Nat.le_refl _) (by omega) (by omega) hI_1073 hf_1073 (fun x hx => i0_1073 x (by omega)) (lv_sub hl [0, 1, 2] rfl) hh
      · have n_1075 : j1073 < tb := n_nle (a := tb) (b := j1073) c_1075 (by omega) (by omega)
        refine lv_aload_n hx hb dX12_isSpent_10 rfl (lv_at hl 1 rfl) ?_
        refine hp_get hx hb hts ix12 hown hK hh (q := 0) rfl (hI.1 _ (by decide)) es1072_1074 rfl 12 (by decide) (hts _ tw_891) (fun _ h9 => h9) rfl dX12_isSpent_11 ?_
        refine lv_iload_n hx hb dX12_isSpent_14 rfl (lv_at hl 0 rfl) ?_
        refine lv_lconst (v := 1) hx hb dX12_isSpent_15 (by decide) ?_
        obtain ⟨f_1102, es1102⟩ := getr_wy hI_1073
        refine hp_last hx hb hK hh (q := 8) rfl (hI.1 _ (by decide)) es1102 (vp_in_nI (n := j1073) (by omega) (by decide)) dX12_isSpent_16 (fun H locs en_1103 hen_1103 hh => ?_)
        rw [nI_clamp (n := j1073) (by omega)] at hen_1103
        have es1072_1103 : en_1103 0 = .inr (11, [.int fa, .int hi, .int (nI wd), .int (nI mo), .int (nI tb), .ref (ad 1), .ref (ad 2), .ref (ad 3), .ref (ad 4), .ref (ad 5), .ref (ad 6), .ref (ad 7), .ref (ad 8), .ref (ad 9), .int dp, .long many, .long grt, .long lst, .long nou, .ref (ad 10), .ref (ad 11), .ref (ad 12), .int rm, .long rb, .ref (ad 13), .int pr, .ref (ad 14), .ref (ad 15), .ref (ad 16), .ref (ad 17), .int (nI wo), .ref (ad 18), .ref (ad 19)]) := by rw [hen_1103, va_up_ne _ _ (by decide)]; exact es1072_1074
        have es1102_1103 : en_1103 8 = .inl (cy 1, 6, .inr (.inl (vp_updL f_1102 j1073 1))) := by rw [hen_1103]; exact va_up_self _ _ _
        have hI_1103 : RX cy cs ad en_1103 := by rw [hen_1103]; exact upr_wy hI_1073 ⟨(vp_updL f_1102 j1073 1), rfl⟩
        have hf_1103 : ∀ c, (c ≠ 8 ∧ c ≠ 9) → en_1103 c = en c := fun c hc => Eq.trans (show en_1103 c = en_1073 c from by rw [hen_1103, va_up_ne _ _ (by omega)]) (hf_1073 c hc)
        refine lv_iinc (v := (nI (j1073 + 1))) (lv' := [(2, .int (nI (j1073 + 1))), (0, .ref (ad 0)), (1, .int (nI n))]) hx hb dX12_isSpent_17 hl (k := 0) rfl (nI_1 _) (by decide) rfl (fun ls hl => ?_)
        refine lv_goto (tgt := 2) hx hb dX12_isSpent_20 (by decide) ?_
        exact ih_1073 ((j1073 + 1))  en_1103 ls H locs (by omega) (by omega) (by omega) hI_1103 hf_1103 (fun x hx => by rw [es1102_1103]; exact WY_up (fun y hy => (show f_1102 y = rdL (en_1073 8) y from by rw [es1102]; rfl).trans (i0_1073 y hy)) rfl x hx) (lv_sub hl [0, 1, 2] rfl) hh
  exact loop_1073 (tb + 1) 0  en ls _ _ (Nat.le_refl _) (by omega) (by omega) hI hf0 (fun x h => absurd h (Nat.not_lt_zero x)) (lv_sub hl [0, 1, 2] rfl) hh
theorem kw_X12_isSpent {R : Room} {s : State} {args : Array Value} {own : String} {idx : Nat} (hts : ∀ w ∈ TB, w.before args s = true) (hl : Cond.methodLink own idx yX12_isSpent ∈ TB) (hR : 1 + 1 ≤ R.frames ∧ 8 + (5 + 11) + 40 * 1 ≤ R.locals) : CallW R s args own RX12 idx yX12_isSpent cX12_isSpent 5 (some .boolean) (Cond.code yX12_isSpent cX12_isSpent 5 (some .boolean) :: TB) (rmN 1) 0 0 1 := cwV 1 hts (TB_V hl tw_1027 ts_35 tw_9 tw_1028) rfl rfl rfl (by decide +kernel) hR
