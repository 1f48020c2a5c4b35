set_option maxHeartbeats 4000000 in
set_option maxRecDepth 100000 in
/-- multiply -/
theorem c_X8_multiply (l : Launch) (D : va_G) (cy : Nat → ClassId) (sz : Nat) (cs : List Nat) (ad : Nat → Nat) (en : Nat → va_E) (hm1 : 1 ∈ cs) (cnt d mm : Nat) (hcnt : cnt ≤ 6) (hd2 : 2 ≤ d) (hd3 : d ≤ 3) (hmm : mm ≤ 97) (qa qb qc : Nat) (hqa : qa ∈ cs) (hqb : qb ∈ cs) (hqc : qc ∈ cs) (hac : qa ≠ qc) (hbc : qb ≠ qc) (h1c : 1 ≠ qc) (fa fb fc : Nat → Int64) (e1 : en 1 = .inr (7, [.ref (ad 2), .ref (ad 3), .ref (ad 10), .ref (ad 11), .int (nI cnt), .int (nI d), .int (nI mm)])) (eqa : en qa = .inl (cy 1, 9, .inr (.inl fa))) (eqb : en qb = .inl (cy 1, 9, .inr (.inl fb))) (eqc : en qc = .inl (cy 1, 9, .inr (.inl fc)))  : Met l yX8_multiply (Cond.code yX8_multiply cX8_multiply 9 none :: TB) (rmN 1) (va_Pc [.ref (ad 1), .ref (ad qa), .ref (ad qb), .ref (ad qc)] (Pre D cy cs ad en sz)) (va_Qv (S := Nat → va_E) (fun en1 => ∃ g : Nat → Int64, en1 = va_up en qc (.inl (cy 1, 9, .inr (.inl g))) ∧ mulP d mm fa fb fc g (d * d)) (PostM D cs ad) (Af cs ad sz)) 0 0 (Af cs ad sz) := by
  refine Met.ofW (cc := cX8_multiply) (maxL := 9) (ret := none) (by decide) rfl ?_
  intro p e s m args below meth c s₁ B hml hv
  obtain ⟨rfl, hsz, hP, hK, hD0⟩ := hv
  have hx := B.exec
  have hb := B.bytes
  have hr := B.returns
  have hts : ∀ w ∈ TB, w.before _ s = true := fun w h => atoms_spec (ws := _ :: TB) B.pre w (List.mem_cons_of_mem _ h)
  have hown : s.vm.findClass RX8 = some m.cls := findClass_of_methodNamed B.named
  have hlocks := B.notSynchronized
  have hh : Hp D (Af cs ad sz) (Af cs ad sz) s.heap s.heap [] cs ad en := ⟨hP, Af_self hD0, va_S.rf⟩
  have hA : ∀ q : Nat, s.heap.size ≤ q → Af cs ad sz q := fun q h => Or.inr (by rw [hsz] at h; exact h)
  have hl := lv_entry ([.ref (ad 1), .ref (ad qa), .ref (ad qb), .ref (ad qc)]) (n := 9) (Nat.le_of_ble_eq_true rfl)
  rw [lg_entry_eq]
  generalize (lg_sl ([.ref (ad 1), .ref (ad qa), .ref (ad qb), .ref (ad qc)]) ++ List.replicate (9 - (lg_sl ([.ref (ad 1), .ref (ad qa), .ref (ad qb), .ref (ad qc)])).length) Slot.unset).toArray = ls at hl ⊢
  have hl : lv_has ls 9 [(0, .ref (ad 1)), (1, .ref (ad qa)), (2, .ref (ad qb)), (3, .ref (ad qc))] := hl
  refine lv_iconst (v := 0) hx hb dX8_multiply_0 (by decide) ?_
  refine lv_istore (lv' := [(4, .int 0), (0, .ref (ad 1)), (1, .ref (ad qa)), (2, .ref (ad qb)), (3, .ref (ad qc))]) hx hb dX8_multiply_1 hl (by decide) rfl (fun ls hl => ?_)
  have loop_24 : ∀ (fu j24 : Nat)  (g24 : Nat → Int64) (en_24 : Nat → va_E) (ls : Array Slot) (H : Heap) (locs : List Loc), 0 ≤ j24 → j24 ≤ d → d < j24 + fu → en_24 = va_up en qc (.inl (cy 1, 9, .inr (.inl g24))) → (mulP d mm fa fb fc g24 (j24 * d)) → lv_has ls 9 [(4, .int (nI j24)), (0, .ref (ad 1)), (1, .ref (ad qa)), (2, .ref (ad qb)), (3, .ref (ad qc))] → Hp D (Af cs ad sz) (Af cs ad sz) s.heap H locs cs ad en_24 → W p l e (headSpec (Cond.code yX8_multiply cX8_multiply 9 none :: TB) (rmN 1)).room s m ([.ref (ad 1), .ref (ad qa), .ref (ad qb), .ref (ad qc)] : List Value).toArray below meth c H locs 0 0 (MQ below (va_Qv (S := Nat → va_E) (fun en1 => ∃ g : Nat → Int64, en1 = va_up en qc (.inl (cy 1, 9, .inr (.inl g))) ∧ mulP d mm fa fb fc g (d * d)) (PostM D cs ad) (Af cs ad sz)) ([.ref (ad 1), .ref (ad qa), .ref (ad qb), .ref (ad qc)] : List Value).toArray s 0 0 (Af cs ad sz)) (F0 m 3 ls []) := by
    intro fu
    induction fu with
    | zero => intro j24  g24 en_24 ls H locs h0 h1 h2; exact absurd h2 (by omega)
    | succ fu ih_24 =>
      intro j24  g24 en_24 ls H locs hj0_24 hj_24 hfu_24 hen_24 i0_24 hl hh
      have e1_24 : en_24 1 = .inr (7, [.ref (ad 2), .ref (ad 3), .ref (ad 10), .ref (ad 11), .int (nI cnt), .int (nI d), .int (nI mm)]) := by rw [hen_24, va_up_ne _ _ (by omega)]; exact e1
      have eqa_24 : en_24 qa = .inl (cy 1, 9, .inr (.inl fa)) := by rw [hen_24, va_up_ne _ _ (by omega)]; exact eqa
      have eqb_24 : en_24 qb = .inl (cy 1, 9, .inr (.inl fb)) := by rw [hen_24, va_up_ne _ _ (by omega)]; exact eqb
      have eqc_24 : en_24 qc = .inl (cy 1, 9, .inr (.inl g24)) := by rw [hen_24]; exact va_up_self _ _ _
      refine lv_iload hx hb dX8_multiply_3 (lv_at hl 0 rfl) ?_
      refine lv_aload_n hx hb dX8_multiply_5 rfl (lv_at hl 1 rfl) ?_
      refine hp_get hx hb hts ix8 hown hK hh (q := 1) rfl hm1 e1_24 rfl 5 (by decide) (hts _ tw_44) (fun _ h9 => h9) rfl dX8_multiply_6 ?_
      refine lv_icmp_ge (tgt := 105) hx hb dX8_multiply_9 (by decide) (fun c_25 => ?_) (fun c_25 => ?_)
      · have n_25 : d ≤ j24 := n_le (a := d) (b := j24) c_25 (by omega) (by omega)
        exact hp_vretM hx hb hr hlocks hh (⟨g24, hen_24, by have e : j24 = d := (by omega); rw [e] at i0_24; exact i0_24⟩) dX8_multiply_105
      · have n_25 : j24 < d := n_nle (a := d) (b := j24) c_25 (by omega) (by omega)
        refine lv_iconst (v := 0) hx hb dX8_multiply_12 (by decide) ?_
        refine lv_istore (lv' := [(5, .int 0), (4, .int (nI j24)), (0, .ref (ad 1)), (1, .ref (ad qa)), (2, .ref (ad qb)), (3, .ref (ad qc))]) hx hb dX8_multiply_13 hl (by decide) rfl (fun ls hl => ?_)
        have loop_26 : ∀ (fu j26 : Nat)  (g26 : Nat → Int64) (en_26 : Nat → va_E) (ls : Array Slot) (H : Heap) (locs : List Loc), 0 ≤ j26 → j26 ≤ d → d < j26 + fu → en_26 = va_up en_24 qc (.inl (cy 1, 9, .inr (.inl g26))) → (mulP d mm fa fb fc g26 (j24 * d + j26)) → lv_has ls 9 [(5, .int (nI j26)), (4, .int (nI j24)), (0, .ref (ad 1)), (1, .ref (ad qa)), (2, .ref (ad qb)), (3, .ref (ad qc))] → Hp D (Af cs ad sz) (Af cs ad sz) s.heap H locs cs ad en_26 → W p l e (headSpec (Cond.code yX8_multiply cX8_multiply 9 none :: TB) (rmN 1)).room s m ([.ref (ad 1), .ref (ad qa), .ref (ad qb), .ref (ad qc)] : List Value).toArray below meth c H locs 0 0 (MQ below (va_Qv (S := Nat → va_E) (fun en1 => ∃ g : Nat → Int64, en1 = va_up en qc (.inl (cy 1, 9, .inr (.inl g))) ∧ mulP d mm fa fb fc g (d * d)) (PostM D cs ad) (Af cs ad sz)) ([.ref (ad 1), .ref (ad qa), .ref (ad qb), .ref (ad qc)] : List Value).toArray s 0 0 (Af cs ad sz)) (F0 m 15 ls []) := by
          intro fu
          induction fu with
          | zero => intro j26  g26 en_26 ls H locs h0 h1 h2; exact absurd h2 (by omega)
          | succ fu ih_26 =>
            intro j26  g26 en_26 ls H locs hj0_26 hj_26 hfu_26 hen_26 i0_26 hl hh
            have e1_26 : en_26 1 = .inr (7, [.ref (ad 2), .ref (ad 3), .ref (ad 10), .ref (ad 11), .int (nI cnt), .int (nI d), .int (nI mm)]) := by rw [hen_26, va_up_ne _ _ (by omega)]; exact e1_24
            have eqa_26 : en_26 qa = .inl (cy 1, 9, .inr (.inl fa)) := by rw [hen_26, va_up_ne _ _ (by omega)]; exact eqa_24
            have eqb_26 : en_26 qb = .inl (cy 1, 9, .inr (.inl fb)) := by rw [hen_26, va_up_ne _ _ (by omega)]; exact eqb_24
            have eqc_26 : en_26 qc = .inl (cy 1, 9, .inr (.inl g26)) := by rw [hen_26]; exact va_up_self _ _ _
            refine lv_iload hx hb dX8_multiply_15 (lv_at hl 0 rfl) ?_
            refine lv_aload_n hx hb dX8_multiply_17 rfl (lv_at hl 2 rfl) ?_
            refine hp_get hx hb hts ix8 hown hK hh (q := 1) rfl hm1 e1_26 rfl 5 (by decide) (hts _ tw_44) (fun _ h9 => h9) rfl dX8_multiply_18 ?_
            refine lv_icmp_ge (tgt := 99) hx hb dX8_multiply_21 (by decide) (fun c_27 => ?_) (fun c_27 => ?_)
            · have n_27 : d ≤ j26 := n_le (a := d) (b := j26) c_27 (by omega) (by omega)
              refine lv_iinc (v := (nI (j24 + 1))) (lv' := [(4, .int (nI (j24 + 1))), (5, .int (nI j26)), (0, .ref (ad 1)), (1, .ref (ad qa)), (2, .ref (ad qb)), (3, .ref (ad qc))]) hx hb dX8_multiply_99 hl (k := 1) rfl (nI_1 _) (by decide) rfl (fun ls hl => ?_)
              refine lv_goto (tgt := 3) hx hb dX8_multiply_102 (by decide) ?_
              exact ih_24 ((j24 + 1))  _ en_26 ls H locs (by omega) (by omega) (by omega) (by rw [hen_26, hen_24, bx_uu]; try rfl) (mulP_r (by omega) i0_26) (lv_sub hl [0, 2, 3, 4, 5] rfl) hh
            · have n_27 : j26 < d := n_nle (a := d) (b := j26) c_27 (by omega) (by omega)
              refine lv_lconst (v := 0) hx hb dX8_multiply_24 (by decide) ?_
              refine lv_lstore (lv' := [(6, .long 0), (5, .int (nI j26)), (4, .int (nI j24)), (0, .ref (ad 1)), (1, .ref (ad qa)), (2, .ref (ad qb)), (3, .ref (ad qc))]) hx hb dX8_multiply_25 hl (by decide) rfl (fun ls hl => ?_)
              refine lv_iconst (v := 0) hx hb dX8_multiply_27 (by decide) ?_
              refine lv_istore (lv' := [(8, .int 0), (6, .long 0), (5, .int (nI j26)), (4, .int (nI j24)), (0, .ref (ad 1)), (1, .ref (ad qa)), (2, .ref (ad qb)), (3, .ref (ad qc))]) hx hb dX8_multiply_28 hl (by decide) rfl (fun ls hl => ?_)
              have loop_28 : ∀ (fu j28 : Nat) (ac28 : Int64)  (ls : Array Slot) (H : Heap) (locs : List Loc), 0 ≤ j28 → j28 ≤ d → d < j28 + fu → (ac28 = sumTo (fun k => fa (j24 * d + k) * fb (k * d + j26)) j28) → lv_has ls 9 [(8, .int (nI j28)), (6, .long ac28), (5, .int (nI j26)), (4, .int (nI j24)), (0, .ref (ad 1)), (1, .ref (ad qa)), (2, .ref (ad qb)), (3, .ref (ad qc))] → Hp D (Af cs ad sz) (Af cs ad sz) s.heap H locs cs ad en_26 → W p l e (headSpec (Cond.code yX8_multiply cX8_multiply 9 none :: TB) (rmN 1)).room s m ([.ref (ad 1), .ref (ad qa), .ref (ad qb), .ref (ad qc)] : List Value).toArray below meth c H locs 0 0 (MQ below (va_Qv (S := Nat → va_E) (fun en1 => ∃ g : Nat → Int64, en1 = va_up en qc (.inl (cy 1, 9, .inr (.inl g))) ∧ mulP d mm fa fb fc g (d * d)) (PostM D cs ad) (Af cs ad sz)) ([.ref (ad 1), .ref (ad qa), .ref (ad qb), .ref (ad qc)] : List Value).toArray s 0 0 (Af cs ad sz)) (F0 m 30 ls []) := by
                intro fu
                induction fu with
                | zero => intro j28 ac28 ls H locs h0 h1 h2; exact absurd h2 (by omega)
                | succ fu ih_28 =>
                  intro j28 ac28 ls H locs hj0_28 hj_28 hfu_28 i0_28 hl hh
                  refine lv_iload hx hb dX8_multiply_30 (lv_at hl 0 rfl) ?_
                  refine lv_aload_n hx hb dX8_multiply_32 rfl (lv_at hl 4 rfl) ?_
                  refine hp_get hx hb hts ix8 hown hK hh (q := 1) rfl hm1 e1_26 rfl 5 (by decide) (hts _ tw_44) (fun _ h9 => h9) rfl dX8_multiply_33 ?_
                  refine lv_icmp_ge (tgt := 75) hx hb dX8_multiply_36 (by decide) (fun c_29 => ?_) (fun c_29 => ?_)
                  · have n_29 : d ≤ j28 := n_le (a := d) (b := j28) c_29 (by omega) (by omega)
                    refine lv_aload_n hx hb dX8_multiply_75 rfl (lv_at hl 7 rfl) ?_
                    refine lv_iload hx hb dX8_multiply_76 (lv_at hl 3 rfl) ?_
                    refine lv_aload_n hx hb dX8_multiply_78 rfl (lv_at hl 4 rfl) ?_
                    refine hp_get hx hb hts ix8 hown hK hh (q := 1) rfl hm1 e1_26 rfl 5 (by decide) (hts _ tw_44) (fun _ h9 => h9) rfl dX8_multiply_79 ?_
                    refine lv_imul hx hb dX8_multiply_82 ?_
                    rw [pk_mul j24 d]
                    refine lv_iload hx hb dX8_multiply_83 (lv_at hl 2 rfl) ?_
                    refine lv_iadd hx hb dX8_multiply_85 ?_
                    rw [nI_add (j24 * d) j26]
                    refine lv_aload_n hx hb dX8_multiply_86 rfl (lv_at hl 4 rfl) ?_
                    refine lv_lload hx hb dX8_multiply_87 (lv_at hl 1 rfl) ?_
                    refine hp_callRl (va_runV (As := [.long ac28]) (rest := [.int (nI ((j24 * d) + j26)), .ref (ad qc)]) ⟨hx, hb, hml, hown, hts⟩ (c_X8_restOf l D cy _ cs ad en_26 hm1 cnt d mm hcnt hd2 hd3 hmm ac28 e1_26) (kw_X8_restOf hts tw_348 ⟨by decide, by decide⟩) (preV_of hh hK hm1 e1_26 rfl) rfl rfl hl.1 rfl (lv_room (Nat.le_of_ble_eq_true rfl)) dX8_multiply_89 ⟨Nat.le_of_ble_eq_true rfl, Nat.le_of_ble_eq_true rfl⟩) hh hA (fun r_30 H locs hw_30 hh => ?_)
                    obtain rfl : r_30 = (restL mm ac28) := hw_30
                    have hi_31 : ((j24 * d) + j26) < 9 := md3 (by omega) (by omega) hd3
                    refine hp_last hx hb hK hh (q := qc) rfl hqc eqc_26 (vp_in_nI (n := ((j24 * d) + j26)) (by omega) (by decide)) dX8_multiply_92 (fun H locs en_32 hen_32 hh => ?_)
                    rw [nI_clamp (n := ((j24 * d) + j26)) (by omega)] at hen_32
                    have e1_32 : en_32 1 = .inr (7, [.ref (ad 2), .ref (ad 3), .ref (ad 10), .ref (ad 11), .int (nI cnt), .int (nI d), .int (nI mm)]) := by rw [hen_32, va_up_ne _ _ (by omega)]; exact e1_26
                    have eqa_32 : en_32 qa = .inl (cy 1, 9, .inr (.inl fa)) := by rw [hen_32, va_up_ne _ _ (by omega)]; exact eqa_26
                    have eqb_32 : en_32 qb = .inl (cy 1, 9, .inr (.inl fb)) := by rw [hen_32, va_up_ne _ _ (by omega)]; exact eqb_26
                    have eqc_32 : en_32 qc = .inl (cy 1, 9, .inr (.inl (vp_updL g26 ((j24 * d) + j26) (restL mm ac28)))) := by rw [hen_32]; exact va_up_self _ _ _
                    refine lv_iinc (v := (nI (j26 + 1))) (lv' := [(5, .int (nI (j26 + 1))), (8, .int (nI j28)), (6, .long ac28), (4, .int (nI j24)), (0, .ref (ad 1)), (1, .ref (ad qa)), (2, .ref (ad qb)), (3, .ref (ad qc))]) hx hb dX8_multiply_93 hl (k := 2) rfl (nI_1 _) (by decide) rfl (fun ls hl => ?_)
                    refine lv_goto (tgt := 15) hx hb dX8_multiply_96 (by decide) ?_
                    exact ih_26 ((j26 + 1))  _ en_32 ls H locs (by omega) (by omega) (by omega) (by rw [hen_32, hen_26, bx_uu]; try rfl) (by have e : j28 = d := (by omega); rw [e] at i0_28; rw [i0_28]; exact mulP_s (by omega) (by omega) i0_26) (lv_sub hl [0, 3, 4, 5, 6, 7] rfl) hh
                  · have n_29 : j28 < d := n_nle (a := d) (b := j28) c_29 (by omega) (by omega)
                    refine lv_lload hx hb dX8_multiply_39 (lv_at hl 1 rfl) ?_
                    refine lv_aload_n hx hb dX8_multiply_41 rfl (lv_at hl 5 rfl) ?_
                    refine lv_iload hx hb dX8_multiply_42 (lv_at hl 3 rfl) ?_
                    refine lv_aload_n hx hb dX8_multiply_44 rfl (lv_at hl 4 rfl) ?_
                    refine hp_get hx hb hts ix8 hown hK hh (q := 1) rfl hm1 e1_26 rfl 5 (by decide) (hts _ tw_44) (fun _ h9 => h9) rfl dX8_multiply_45 ?_
                    refine lv_imul hx hb dX8_multiply_48 ?_
                    rw [pk_mul j24 d]
                    refine lv_iload hx hb dX8_multiply_49 (lv_at hl 0 rfl) ?_
                    refine lv_iadd hx hb dX8_multiply_51 ?_
                    rw [nI_add (j24 * d) j28]
                    have hi_33 : ((j24 * d) + j28) < 9 := md3 (by omega) (by omega) hd3
                    refine hp_lald hx hb hK hh (q := qa) rfl hqa eqa_26 (vp_in_nI (n := ((j24 * d) + j28)) (by omega) (by decide)) dX8_multiply_52 ?_
                    rw [nI_clamp (n := ((j24 * d) + j28)) (by omega)]
                    refine lv_aload_n hx hb dX8_multiply_53 rfl (lv_at hl 6 rfl) ?_
                    refine lv_iload hx hb dX8_multiply_54 (lv_at hl 0 rfl) ?_
                    refine lv_aload_n hx hb dX8_multiply_56 rfl (lv_at hl 4 rfl) ?_
                    refine hp_get hx hb hts ix8 hown hK hh (q := 1) rfl hm1 e1_26 rfl 5 (by decide) (hts _ tw_44) (fun _ h9 => h9) rfl dX8_multiply_57 ?_
                    refine lv_imul hx hb dX8_multiply_60 ?_
                    rw [pk_mul j28 d]
                    refine lv_iload hx hb dX8_multiply_61 (lv_at hl 2 rfl) ?_
                    refine lv_iadd hx hb dX8_multiply_63 ?_
                    rw [nI_add (j28 * d) j26]
                    have hi_34 : ((j28 * d) + j26) < 9 := md3 (by omega) (by omega) hd3
                    refine hp_lald hx hb hK hh (q := qb) rfl hqb eqb_26 (vp_in_nI (n := ((j28 * d) + j26)) (by omega) (by decide)) dX8_multiply_64 ?_
                    rw [nI_clamp (n := ((j28 * d) + j26)) (by omega)]
                    refine lv_lmul hx hb dX8_multiply_65 ?_
                    refine lv_ladd hx hb dX8_multiply_66 ?_
                    refine lv_lstore (lv' := [(6, .long (ac28 + ((fa ((j24 * d) + j28)) * (fb ((j28 * d) + j26))))), (8, .int (nI j28)), (5, .int (nI j26)), (4, .int (nI j24)), (0, .ref (ad 1)), (1, .ref (ad qa)), (2, .ref (ad qb)), (3, .ref (ad qc))]) hx hb dX8_multiply_67 hl (by decide) rfl (fun ls hl => ?_)
                    refine lv_iinc (v := (nI (j28 + 1))) (lv' := [(8, .int (nI (j28 + 1))), (6, .long (ac28 + ((fa ((j24 * d) + j28)) * (fb ((j28 * d) + j26))))), (5, .int (nI j26)), (4, .int (nI j24)), (0, .ref (ad 1)), (1, .ref (ad qa)), (2, .ref (ad qb)), (3, .ref (ad qc))]) hx hb dX8_multiply_69 hl (k := 1) rfl (nI_1 _) (by decide) rfl (fun ls hl => ?_)
                    refine lv_goto (tgt := 30) hx hb dX8_multiply_72 (by decide) ?_
                    exact ih_28 ((j28 + 1)) (ac28 + ((fa ((j24 * d) + j28)) * (fb ((j28 * d) + j26)))) ls H locs (by omega) (by omega) (by omega) (by rw [i0_28]; rfl) (lv_sub hl [0, 1, 2, 3, 4, 5, 6, 7] rfl) hh
              exact loop_28 (d + 1) 0 0 ls _ _ (Nat.le_refl _) (by omega) (by omega) (rfl) (lv_sub hl [0, 1, 2, 3, 4, 5, 6, 7] rfl) hh
        exact loop_26 (d + 1) 0  g24 en_24 ls _ _ (Nat.le_refl _) (by omega) (by omega) (va_up_id eqc_24).symm (by rw [Nat.add_zero]; exact i0_24) (lv_sub hl [0, 1, 2, 3, 4, 5] rfl) hh
  exact loop_24 (d + 1) 0  fc en ls _ _ (Nat.le_refl _) (by omega) (by omega) (va_up_id eqc).symm (by rw [Nat.zero_mul]; exact mulP_0) (lv_sub hl [0, 1, 2, 3, 4] rfl) hh
theorem kw_X8_multiply {R : Room} {s : State} {args : Array Value} {own : String} {idx : Nat} (hts : ∀ w ∈ TB, w.before args s = true) (hl : Cond.methodLink own idx yX8_multiply ∈ TB) (hR : 1 + 1 ≤ R.frames ∧ 8 + (9 + 11) + 40 * 1 ≤ R.locals) : CallW R s args own RX8 idx yX8_multiply cX8_multiply 9 none (Cond.code yX8_multiply cX8_multiply 9 none :: TB) (rmN 1) 0 0 3 := cwV 3 hts (TB_V hl tw_538 tw_539 tw_2 tw_540) rfl rfl rfl (by decide +kernel) hR
set_option maxHeartbeats 4000000 in
set_option maxRecDepth 100000 in
/-- norm -/
theorem c_X8_norm (l : Launch) (D : va_G) (cy : Nat → ClassId) (sz : Nat) (cs : List Nat) (ad : Nat → Nat) (en : Nat → va_E) (hm1 : 1 ∈ cs) (cnt d mm : Nat) (hcnt : cnt ≤ 6) (hd2 : 2 ≤ d) (hd3 : d ≤ 3) (hmm : mm ≤ 97) (q : Nat) (hq : q ∈ cs) (fa : Nat → Int64) (e1 : en 1 = .inr (7, [.ref (ad 2), .ref (ad 3), .ref (ad 10), .ref (ad 11), .int (nI cnt), .int (nI d), .int (nI mm)])) (eq : en q = .inl (cy 1, 9, .inr (.inl fa)))  : Met l yX8_norm (Cond.code yX8_norm cX8_norm 8 (some .long) :: TB) (rmN 1) (va_Pc [.ref (ad 1), .ref (ad q)] (Pre D cy cs ad en sz)) (va_Ql (S := Unit) (fun r _ => r = normT d fa d) (fun _ _ => True) (Nf sz)) 0 0 (Nf sz) := by
  refine Met.ofW (cc := cX8_norm) (maxL := 8) (ret := (some .long)) (by decide) rfl ?_
  intro p e s m args below meth c s₁ B hml hv
  obtain ⟨rfl, hsz, hP, hK, hD0⟩ := hv
  have hx := B.exec
  have hb := B.bytes
  have hr := B.returns
  have hts : ∀ w ∈ TB, w.before _ s = true := fun w h => atoms_spec (ws := _ :: TB) B.pre w (List.mem_cons_of_mem _ h)
  have hown : s.vm.findClass RX8 = some m.cls := findClass_of_methodNamed B.named
  have hlocks := B.notSynchronized
  have hh : Hp D (Nf sz) (fun _ => True) s.heap s.heap [] cs ad en := ⟨hP, hD0, va_S.rf⟩
  have hA : ∀ q : Nat, s.heap.size ≤ q → Nf sz q := fun q h => by rw [hsz] at h; exact h
  have hl := lv_entry ([.ref (ad 1), .ref (ad q)]) (n := 8) (Nat.le_of_ble_eq_true rfl)
  rw [lg_entry_eq]
  generalize (lg_sl ([.ref (ad 1), .ref (ad q)]) ++ List.replicate (8 - (lg_sl ([.ref (ad 1), .ref (ad q)])).length) Slot.unset).toArray = ls at hl ⊢
  have hl : lv_has ls 8 [(0, .ref (ad 1)), (1, .ref (ad q))] := hl
  refine lv_lconst (v := 0) hx hb dX8_norm_0 (by decide) ?_
  refine lv_lstore_n (lv' := [(2, .long 0), (0, .ref (ad 1)), (1, .ref (ad q))]) hx hb dX8_norm_1 rfl hl (by decide) rfl (fun ls hl => ?_)
  refine lv_iconst (v := 0) hx hb dX8_norm_2 (by decide) ?_
  refine lv_istore (lv' := [(4, .int 0), (2, .long 0), (0, .ref (ad 1)), (1, .ref (ad q))]) hx hb dX8_norm_3 hl (by decide) rfl (fun ls hl => ?_)
  have loop_35 : ∀ (fu j35 : Nat) (mx35 : Int64)  (ls : Array Slot) (H : Heap) (locs : List Loc), 0 ≤ j35 → j35 ≤ d → d < j35 + fu → (mx35 = normT d fa j35) → lv_has ls 8 [(4, .int (nI j35)), (2, .long mx35), (0, .ref (ad 1)), (1, .ref (ad q))] → Hp D (Nf sz) (fun _ => True) s.heap H locs cs ad en → W p l e (headSpec (Cond.code yX8_norm cX8_norm 8 (some .long) :: TB) (rmN 1)).room s m ([.ref (ad 1), .ref (ad q)] : List Value).toArray below meth c H locs 0 0 (MQ below (va_Ql (S := Unit) (fun r _ => r = normT d fa d) (fun _ _ => True) (Nf sz)) ([.ref (ad 1), .ref (ad q)] : List Value).toArray s 0 0 (Nf sz)) (F0 m 5 ls []) := by
    intro fu
    induction fu with
    | zero => intro j35 mx35 ls H locs h0 h1 h2; exact absurd h2 (by omega)
    | succ fu ih_35 =>
      intro j35 mx35 ls H locs hj0_35 hj_35 hfu_35 i0_35 hl hh
      refine lv_iload hx hb dX8_norm_5 (lv_at hl 0 rfl) ?_
      refine lv_aload_n hx hb dX8_norm_7 rfl (lv_at hl 2 rfl) ?_
      refine hp_get hx hb hts ix8 hown hK hh (q := 1) rfl hm1 e1 rfl 5 (by decide) (hts _ tw_44) (fun _ h9 => h9) rfl dX8_norm_8 ?_
      refine lv_icmp_ge (tgt := 68) hx hb dX8_norm_11 (by decide) (fun c_36 => ?_) (fun c_36 => ?_)
      · have n_36 : d ≤ j35 := n_le (a := d) (b := j35) c_36 (by omega) (by omega)
        refine lv_lload_n hx hb dX8_norm_68 rfl (lv_at hl 1 rfl) ?_
        exact hp_lretR hx hb hr hlocks hsz hh (by have e : j35 = d := (by omega); rw [e] at i0_35; exact i0_35) dX8_norm_69
      · have n_36 : j35 < d := n_nle (a := d) (b := j35) c_36 (by omega) (by omega)
        refine lv_lconst (v := 0) hx hb dX8_norm_14 (by decide) ?_
        refine lv_lstore (lv' := [(5, .long 0), (4, .int (nI j35)), (2, .long mx35), (0, .ref (ad 1)), (1, .ref (ad q))]) hx hb dX8_norm_15 hl (by decide) rfl (fun ls hl => ?_)
        refine lv_iconst (v := 0) hx hb dX8_norm_17 (by decide) ?_
        refine lv_istore (lv' := [(7, .int 0), (5, .long 0), (4, .int (nI j35)), (2, .long mx35), (0, .ref (ad 1)), (1, .ref (ad q))]) hx hb dX8_norm_18 hl (by decide) rfl (fun ls hl => ?_)
        have loop_37 : ∀ (fu j37 : Nat) (ac37 : Int64)  (ls : Array Slot) (H : Heap) (locs : List Loc), 0 ≤ j37 → j37 ≤ d → d < j37 + fu → (ac37 = sumTo (fun c => absL (fa (j35 * d + c))) j37) → lv_has ls 8 [(7, .int (nI j37)), (5, .long ac37), (4, .int (nI j35)), (2, .long mx35), (0, .ref (ad 1)), (1, .ref (ad q))] → Hp D (Nf sz) (fun _ => True) s.heap H locs cs ad en → W p l e (headSpec (Cond.code yX8_norm cX8_norm 8 (some .long) :: TB) (rmN 1)).room s m ([.ref (ad 1), .ref (ad q)] : List Value).toArray below meth c H locs 0 0 (MQ below (va_Ql (S := Unit) (fun r _ => r = normT d fa d) (fun _ _ => True) (Nf sz)) ([.ref (ad 1), .ref (ad q)] : List Value).toArray s 0 0 (Nf sz)) (F0 m 20 ls []) := by
          intro fu
          induction fu with
          | zero => intro j37 ac37 ls H locs h0 h1 h2; exact absurd h2 (by omega)
          | succ fu ih_37 =>
            intro j37 ac37 ls H locs hj0_37 hj_37 hfu_37 i0_37 hl hh
            refine lv_iload hx hb dX8_norm_20 (lv_at hl 0 rfl) ?_
            refine lv_aload_n hx hb dX8_norm_22 rfl (lv_at hl 4 rfl) ?_
            refine hp_get hx hb hts ix8 hown hK hh (q := 1) rfl hm1 e1 rfl 5 (by decide) (hts _ tw_44) (fun _ h9 => h9) rfl dX8_norm_23 ?_
            refine lv_icmp_ge (tgt := 55) hx hb dX8_norm_26 (by decide) (fun c_38 => ?_) (fun c_38 => ?_)
            · have n_38 : d ≤ j37 := n_le (a := d) (b := j37) c_38 (by omega) (by omega)
              refine lv_lload_n hx hb dX8_norm_55 rfl (lv_at hl 3 rfl) ?_
              refine lv_lload hx hb dX8_norm_56 (lv_at hl 1 rfl) ?_
              refine va_mmax_long hx hb (hml.trans hl.1.symm) hown (hts _ tw_491) (hts _ tw_492) (hts _ tw_11) (hts _ tw_493) (Nat.le_of_ble_eq_true rfl) (Nat.le_of_ble_eq_true rfl) (Nat.le_of_ble_eq_true rfl) (Nat.le_of_ble_eq_true rfl) dX8_norm_58 ?_
              refine W.eq (g2 := F0 m 61 ls [.long (maxL mx35 ac37)]) rfl ?_
              refine lv_lstore_n (lv' := [(2, .long (maxL mx35 ac37)), (7, .int (nI j37)), (5, .long ac37), (4, .int (nI j35)), (0, .ref (ad 1)), (1, .ref (ad q))]) hx hb dX8_norm_61 rfl hl (by decide) rfl (fun ls hl => ?_)
              refine lv_iinc (v := (nI (j35 + 1))) (lv' := [(4, .int (nI (j35 + 1))), (2, .long (maxL mx35 ac37)), (7, .int (nI j37)), (5, .long ac37), (0, .ref (ad 1)), (1, .ref (ad q))]) hx hb dX8_norm_62 hl (k := 3) rfl (nI_1 _) (by decide) rfl (fun ls hl => ?_)
              refine lv_goto (tgt := 5) hx hb dX8_norm_65 (by decide) ?_
              exact ih_35 ((j35 + 1)) (maxL mx35 ac37) ls H locs (by omega) (by omega) (by omega) (by have e : j37 = d := (by omega); rw [e] at i0_37; rw [i0_35, i0_37]; rfl) (lv_sub hl [0, 1, 4, 5] rfl) hh
            · have n_38 : j37 < d := n_nle (a := d) (b := j37) c_38 (by omega) (by omega)
              refine lv_lload hx hb dX8_norm_29 (lv_at hl 1 rfl) ?_
              refine lv_aload_n hx hb dX8_norm_31 rfl (lv_at hl 5 rfl) ?_
              refine lv_iload hx hb dX8_norm_32 (lv_at hl 2 rfl) ?_
              refine lv_aload_n hx hb dX8_norm_34 rfl (lv_at hl 4 rfl) ?_
              refine hp_get hx hb hts ix8 hown hK hh (q := 1) rfl hm1 e1 rfl 5 (by decide) (hts _ tw_44) (fun _ h9 => h9) rfl dX8_norm_35 ?_
              refine lv_imul hx hb dX8_norm_38 ?_
              rw [pk_mul j35 d]
              refine lv_iload hx hb dX8_norm_39 (lv_at hl 0 rfl) ?_
              refine lv_iadd hx hb dX8_norm_41 ?_
              rw [nI_add (j35 * d) j37]
              have hi_39 : ((j35 * d) + j37) < 9 := md3 (by omega) (by omega) hd3
              refine hp_lald hx hb hK hh (q := q) rfl hq eq (vp_in_nI (n := ((j35 * d) + j37)) (by omega) (by decide)) dX8_norm_42 ?_
              rw [nI_clamp (n := ((j35 * d) + j37)) (by omega)]
              refine va_mabs_long hx hb (hml.trans hl.1.symm) hown (hts _ tw_488) (hts _ tw_489) (hts _ tw_11) (hts _ tw_490) (Nat.le_of_ble_eq_true rfl) (Nat.le_of_ble_eq_true rfl) (Nat.le_of_ble_eq_true rfl) (Nat.le_of_ble_eq_true rfl) dX8_norm_43 ?_
              refine W.eq (g2 := F0 m 46 ls [.long (absL (fa ((j35 * d) + j37))), .long ac37]) rfl ?_
              refine lv_ladd hx hb dX8_norm_46 ?_
              refine lv_lstore (lv' := [(5, .long (ac37 + (absL (fa ((j35 * d) + j37))))), (7, .int (nI j37)), (4, .int (nI j35)), (2, .long mx35), (0, .ref (ad 1)), (1, .ref (ad q))]) hx hb dX8_norm_47 hl (by decide) rfl (fun ls hl => ?_)
              refine lv_iinc (v := (nI (j37 + 1))) (lv' := [(7, .int (nI (j37 + 1))), (5, .long (ac37 + (absL (fa ((j35 * d) + j37))))), (4, .int (nI j35)), (2, .long mx35), (0, .ref (ad 1)), (1, .ref (ad q))]) hx hb dX8_norm_49 hl (k := 1) rfl (nI_1 _) (by decide) rfl (fun ls hl => ?_)
              refine lv_goto (tgt := 20) hx hb dX8_norm_52 (by decide) ?_
              exact ih_37 ((j37 + 1)) (ac37 + (absL (fa ((j35 * d) + j37)))) ls H locs (by omega) (by omega) (by omega) (by rw [i0_37]; rfl) (lv_sub hl [0, 1, 2, 3, 4, 5] rfl) hh
        exact loop_37 (d + 1) 0 0 ls _ _ (Nat.le_refl _) (by omega) (by omega) (rfl) (lv_sub hl [0, 1, 2, 3, 4, 5] rfl) hh
  exact loop_35 (d + 1) 0 0 ls _ _ (Nat.le_refl _) (by omega) (by omega) (rfl) (lv_sub hl [0, 1, 2, 3] rfl) hh
theorem kw_X8_norm {R : Room} {s : State} {args : Array Value} {own : String} {idx : Nat} (hts : ∀ w ∈ TB, w.before args s = true) (hl : Cond.methodLink own idx yX8_norm ∈ TB) (hR : 1 + 1 ≤ R.frames ∧ 8 + (8 + 11) + 40 * 1 ≤ R.locals) : CallW R s args own RX8 idx yX8_norm cX8_norm 8 (some .long) (Cond.code yX8_norm cX8_norm 8 (some .long) :: TB) (rmN 1) 0 0 1 := cwV 1 hts (TB_V hl tw_485 tw_486 tw_2 tw_487) rfl rfl rfl (by decide +kernel) hR
