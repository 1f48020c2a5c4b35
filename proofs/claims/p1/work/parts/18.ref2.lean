set_option maxHeartbeats 4000000 in
set_option maxRecDepth 100000 in
/-- beginLevels, wide 2 -/
theorem c_X12_beginLevels (l : Launch) (D : va_G) (cy : Nat → ClassId) (sz : Nat) (cs : List Nat) (ad : Nat → Nat) (en : Nat → va_E) (hcs : ∀ c, c < 20 → c ∈ cs) (m_fault : Int32) (m_history : Int32) (m_modulus : Int32) (m_depth : Int32) (m_many : Int64) (m_greatest : Int64) (m_least : Int64) (m_noughts : Int64) (m_ringMany : Int32) (m_ringBest : Int64) (m_products : Int32) (m_words : Int32) (g6 : Nat → Int64) (mz : en 0 = .inr (11, [.int m_fault, .int m_history, .int 2, .int m_modulus, .int 0, .ref (ad 1), .ref (ad 2), .ref (ad 3), .ref (ad 4), .ref (ad 5), .ref (ad 6), .ref (ad 7), .ref (ad 8), .ref (ad 9), .int m_depth, .long m_many, .long m_greatest, .long m_least, .long m_noughts, .ref (ad 10), .ref (ad 11), .ref (ad 12), .int m_ringMany, .long m_ringBest, .ref (ad 13), .int m_products, .ref (ad 14), .ref (ad 15), .ref (ad 16), .ref (ad 17), .int m_words, .ref (ad 18), .ref (ad 19)])) (m6 : en 6 = .inl (cy 1, 117, .inr (.inl g6)))  : Met l yX12_beginLevels (Cond.code yX12_beginLevels cX12_beginLevels 3 none :: TB) (rmN 0) (va_Pc [.ref (ad 0)] (Pre D cy cs ad en sz)) (va_Qv (S := Nat → va_E) (fun en1 => ∃ g : Nat → Int64, en1 = va_up en 6 (.inl (cy 1, 117, .inr (.inl g)))) (PostM D cs ad) (Af cs ad sz)) 0 0 (Af cs ad sz) := by
  refine Met.ofW (cc := cX12_beginLevels) (maxL := 3) (ret := none) (by decide) rfl ?_
  intro p e s m args below meth c s₁ B hml hv
  obtain ⟨rfl, hsz, hP, hK, hD0⟩ := hv
  have hx := B.exec
  have hb := B.bytes
  have hr := B.returns
  have hts : ∀ w ∈ TB, w.before _ s = true := fun w h => atoms_spec (ws := _ :: TB) B.pre w (List.mem_cons_of_mem _ h)
  have hown : s.vm.findClass RX12 = some m.cls := findClass_of_methodNamed B.named
  have hlocks := B.notSynchronized
  have hh : Hp D (Af cs ad sz) (Af cs ad sz) s.heap s.heap [] cs ad en := ⟨hP, Af_self hD0, va_S.rf⟩
  have hA : ∀ q : Nat, s.heap.size ≤ q → Af cs ad sz q := fun q h => Or.inr (by rw [hsz] at h; exact h)
  have hl := lv_entry ([.ref (ad 0)]) (n := 3) (Nat.le_of_ble_eq_true rfl)
  rw [lg_entry_eq]
  generalize (lg_sl ([.ref (ad 0)]) ++ List.replicate (3 - (lg_sl ([.ref (ad 0)])).length) Slot.unset).toArray = ls at hl ⊢
  have hl : lv_has ls 3 [(0, .ref (ad 0))] := hl
  refine lv_iconst (v := 0) hx hb dX12_beginLevels_0 (by decide) ?_
  refine lv_istore_n (lv' := [(1, .int 0), (0, .ref (ad 0))]) hx hb dX12_beginLevels_1 rfl hl (by decide) rfl (fun ls hl => ?_)
  refine lv_iload_n hx hb dX12_beginLevels_2 rfl (lv_at hl 0 rfl) ?_
  refine lv_aload_n hx hb dX12_beginLevels_3 rfl (lv_at hl 1 rfl) ?_
  refine hp_get hx hb hts ix12 hown hK hh (q := 0) rfl (hcs _ (by decide)) mz rfl 2 (by decide) (hts _ tw_881) (fun _ h9 => h9) rfl dX12_beginLevels_4 ?_
  refine lv_icmp_ge (tgt := 55) hx hb dX12_beginLevels_7 (by decide) (fun c_0 => absurd c_0 (by decide)) (fun _ => ?_)
  refine lv_iconst (v := 0) hx hb dX12_beginLevels_10 (by decide) ?_
  refine lv_istore_n (lv' := [(2, .int 0), (1, .int 0), (0, .ref (ad 0))]) hx hb dX12_beginLevels_11 rfl hl (by decide) rfl (fun ls hl => ?_)
  refine lv_iload_n hx hb dX12_beginLevels_12 rfl (lv_at hl 0 rfl) ?_
  refine lv_aload_n hx hb dX12_beginLevels_13 rfl (lv_at hl 2 rfl) ?_
  refine hp_get hx hb hts ix12 hown hK hh (q := 0) rfl (hcs _ (by decide)) mz rfl 2 (by decide) (hts _ tw_881) (fun _ h9 => h9) rfl dX12_beginLevels_14 ?_
  refine lv_icmp_ge (tgt := 49) hx hb dX12_beginLevels_17 (by decide) (fun c_0 => absurd c_0 (by decide)) (fun _ => ?_)
  refine lv_aload_n hx hb dX12_beginLevels_20 rfl (lv_at hl 2 rfl) ?_
  refine hp_get hx hb hts ix12 hown hK hh (q := 0) rfl (hcs _ (by decide)) mz rfl 10 (by decide) (hts _ tw_889) (fun _ h9 => h9) rfl dX12_beginLevels_21 ?_
  refine lv_aload_n hx hb dX12_beginLevels_24 rfl (lv_at hl 2 rfl) ?_
  refine hp_get hx hb hts ix12 hown hK hh (q := 0) rfl (hcs _ (by decide)) mz rfl 2 (by decide) (hts _ tw_881) (fun _ h9 => h9) rfl dX12_beginLevels_25 ?_
  refine lv_iload_n hx hb dX12_beginLevels_28 rfl (lv_at hl 1 rfl) ?_
  refine lv_imul hx hb dX12_beginLevels_29 ?_
  rw [show (2 : Int32) * 0 = 0 by decide]
  refine lv_iload_n hx hb dX12_beginLevels_30 rfl (lv_at hl 0 rfl) ?_
  refine lv_iadd hx hb dX12_beginLevels_31 ?_
  rw [show (0 : Int32) + 0 = 0 by decide]
  refine lv_iload_n hx hb dX12_beginLevels_32 rfl (lv_at hl 1 rfl) ?_
  refine lv_iload_n hx hb dX12_beginLevels_33 rfl (lv_at hl 0 rfl) ?_
  refine lv_icmp_ne (tgt := 41) hx hb dX12_beginLevels_34 (by decide) (fun c_0 => absurd c_0 (by decide)) (fun _ => ?_)
  refine lv_lconst (v := 1) hx hb dX12_beginLevels_37 (by decide) ?_
  refine lv_goto (tgt := 42) hx hb dX12_beginLevels_38 (by decide) ?_
  refine hp_last hx hb hK hh (q := 6) rfl (hcs _ (by decide)) m6 (vp_in_iff.mpr (by decide)) dX12_beginLevels_42 (fun H locs en_198 hen_198 hh => ?_)
  have mz_198 : en_198 0 = .inr (11, [.int m_fault, .int m_history, .int 2, .int m_modulus, .int 0, .ref (ad 1), .ref (ad 2), .ref (ad 3), .ref (ad 4), .ref (ad 5), .ref (ad 6), .ref (ad 7), .ref (ad 8), .ref (ad 9), .int m_depth, .long m_many, .long m_greatest, .long m_least, .long m_noughts, .ref (ad 10), .ref (ad 11), .ref (ad 12), .int m_ringMany, .long m_ringBest, .ref (ad 13), .int m_products, .ref (ad 14), .ref (ad 15), .ref (ad 16), .ref (ad 17), .int m_words, .ref (ad 18), .ref (ad 19)]) := by rw [hen_198, va_up_ne _ _ (by decide)]; exact mz
  have m6_198 : en_198 6 = .inl (cy 1, 117, .inr (.inl (vp_updL g6 (0 : Int32).toNatClampNeg 1))) := by rw [hen_198]; exact va_up_self _ _ _
  refine lv_iinc (v := 1) (lv' := [(2, .int 1), (1, .int 0), (0, .ref (ad 0))]) hx hb dX12_beginLevels_43 hl (k := 0) rfl (by decide) (by decide) rfl (fun ls hl => ?_)
  refine lv_goto (tgt := 12) hx hb dX12_beginLevels_46 (by decide) ?_
  refine lv_iload_n hx hb dX12_beginLevels_12 rfl (lv_at hl 0 rfl) ?_
  refine lv_aload_n hx hb dX12_beginLevels_13 rfl (lv_at hl 2 rfl) ?_
  refine hp_get hx hb hts ix12 hown hK hh (q := 0) rfl (hcs _ (by decide)) mz_198 rfl 2 (by decide) (hts _ tw_881) (fun _ h9 => h9) rfl dX12_beginLevels_14 ?_
  refine lv_icmp_ge (tgt := 49) hx hb dX12_beginLevels_17 (by decide) (fun c_0 => absurd c_0 (by decide)) (fun _ => ?_)
  refine lv_aload_n hx hb dX12_beginLevels_20 rfl (lv_at hl 2 rfl) ?_
  refine hp_get hx hb hts ix12 hown hK hh (q := 0) rfl (hcs _ (by decide)) mz_198 rfl 10 (by decide) (hts _ tw_889) (fun _ h9 => h9) rfl dX12_beginLevels_21 ?_
  refine lv_aload_n hx hb dX12_beginLevels_24 rfl (lv_at hl 2 rfl) ?_
  refine hp_get hx hb hts ix12 hown hK hh (q := 0) rfl (hcs _ (by decide)) mz_198 rfl 2 (by decide) (hts _ tw_881) (fun _ h9 => h9) rfl dX12_beginLevels_25 ?_
  refine lv_iload_n hx hb dX12_beginLevels_28 rfl (lv_at hl 1 rfl) ?_
  refine lv_imul hx hb dX12_beginLevels_29 ?_
  rw [show (2 : Int32) * 0 = 0 by decide]
  refine lv_iload_n hx hb dX12_beginLevels_30 rfl (lv_at hl 0 rfl) ?_
  refine lv_iadd hx hb dX12_beginLevels_31 ?_
  rw [show (0 : Int32) + 1 = 1 by decide]
  refine lv_iload_n hx hb dX12_beginLevels_32 rfl (lv_at hl 1 rfl) ?_
  refine lv_iload_n hx hb dX12_beginLevels_33 rfl (lv_at hl 0 rfl) ?_
  refine lv_icmp_ne (tgt := 41) hx hb dX12_beginLevels_34 (by decide) (fun _ => ?_) (fun c_0 => absurd c_0 (by decide))
  refine lv_lconst (v := 0) hx hb dX12_beginLevels_41 (by decide) ?_
  refine hp_last hx hb hK hh (q := 6) rfl (hcs _ (by decide)) m6_198 (vp_in_iff.mpr (by decide)) dX12_beginLevels_42 (fun H locs en_199 hen_199 hh => ?_)
  have mz_199 : en_199 0 = .inr (11, [.int m_fault, .int m_history, .int 2, .int m_modulus, .int 0, .ref (ad 1), .ref (ad 2), .ref (ad 3), .ref (ad 4), .ref (ad 5), .ref (ad 6), .ref (ad 7), .ref (ad 8), .ref (ad 9), .int m_depth, .long m_many, .long m_greatest, .long m_least, .long m_noughts, .ref (ad 10), .ref (ad 11), .ref (ad 12), .int m_ringMany, .long m_ringBest, .ref (ad 13), .int m_products, .ref (ad 14), .ref (ad 15), .ref (ad 16), .ref (ad 17), .int m_words, .ref (ad 18), .ref (ad 19)]) := by rw [hen_199, va_up_ne _ _ (by decide)]; exact mz_198
  have m6_199 : en_199 6 = .inl (cy 1, 117, .inr (.inl (vp_updL (vp_updL g6 (0 : Int32).toNatClampNeg 1) (1 : Int32).toNatClampNeg 0))) := by rw [hen_199]; exact va_up_self _ _ _
  refine lv_iinc (v := 2) (lv' := [(2, .int 2), (1, .int 0), (0, .ref (ad 0))]) hx hb dX12_beginLevels_43 hl (k := 0) rfl (by decide) (by decide) rfl (fun ls hl => ?_)
  refine lv_goto (tgt := 12) hx hb dX12_beginLevels_46 (by decide) ?_
  refine lv_iload_n hx hb dX12_beginLevels_12 rfl (lv_at hl 0 rfl) ?_
  refine lv_aload_n hx hb dX12_beginLevels_13 rfl (lv_at hl 2 rfl) ?_
  refine hp_get hx hb hts ix12 hown hK hh (q := 0) rfl (hcs _ (by decide)) mz_199 rfl 2 (by decide) (hts _ tw_881) (fun _ h9 => h9) rfl dX12_beginLevels_14 ?_
  refine lv_icmp_ge (tgt := 49) hx hb dX12_beginLevels_17 (by decide) (fun _ => ?_) (fun c_0 => absurd c_0 (by decide))
  refine lv_iinc (v := 1) (lv' := [(1, .int 1), (2, .int 2), (0, .ref (ad 0))]) hx hb dX12_beginLevels_49 hl (k := 1) rfl (by decide) (by decide) rfl (fun ls hl => ?_)
  refine lv_goto (tgt := 2) hx hb dX12_beginLevels_52 (by decide) ?_
  refine lv_iload_n hx hb dX12_beginLevels_2 rfl (lv_at hl 0 rfl) ?_
  refine lv_aload_n hx hb dX12_beginLevels_3 rfl (lv_at hl 2 rfl) ?_
  refine hp_get hx hb hts ix12 hown hK hh (q := 0) rfl (hcs _ (by decide)) mz_199 rfl 2 (by decide) (hts _ tw_881) (fun _ h9 => h9) rfl dX12_beginLevels_4 ?_
  refine lv_icmp_ge (tgt := 55) hx hb dX12_beginLevels_7 (by decide) (fun c_0 => absurd c_0 (by decide)) (fun _ => ?_)
  refine lv_iconst (v := 0) hx hb dX12_beginLevels_10 (by decide) ?_
  refine lv_istore_n (lv' := [(2, .int 0), (1, .int 1), (0, .ref (ad 0))]) hx hb dX12_beginLevels_11 rfl hl (by decide) rfl (fun ls hl => ?_)
  refine lv_iload_n hx hb dX12_beginLevels_12 rfl (lv_at hl 0 rfl) ?_
  refine lv_aload_n hx hb dX12_beginLevels_13 rfl (lv_at hl 2 rfl) ?_
  refine hp_get hx hb hts ix12 hown hK hh (q := 0) rfl (hcs _ (by decide)) mz_199 rfl 2 (by decide) (hts _ tw_881) (fun _ h9 => h9) rfl dX12_beginLevels_14 ?_
  refine lv_icmp_ge (tgt := 49) hx hb dX12_beginLevels_17 (by decide) (fun c_0 => absurd c_0 (by decide)) (fun _ => ?_)
  refine lv_aload_n hx hb dX12_beginLevels_20 rfl (lv_at hl 2 rfl) ?_
  refine hp_get hx hb hts ix12 hown hK hh (q := 0) rfl (hcs _ (by decide)) mz_199 rfl 10 (by decide) (hts _ tw_889) (fun _ h9 => h9) rfl dX12_beginLevels_21 ?_
  refine lv_aload_n hx hb dX12_beginLevels_24 rfl (lv_at hl 2 rfl) ?_
  refine hp_get hx hb hts ix12 hown hK hh (q := 0) rfl (hcs _ (by decide)) mz_199 rfl 2 (by decide) (hts _ tw_881) (fun _ h9 => h9) rfl dX12_beginLevels_25 ?_
  refine lv_iload_n hx hb dX12_beginLevels_28 rfl (lv_at hl 1 rfl) ?_
  refine lv_imul hx hb dX12_beginLevels_29 ?_
  rw [show (2 : Int32) * 1 = 2 by decide]
  refine lv_iload_n hx hb dX12_beginLevels_30 rfl (lv_at hl 0 rfl) ?_
  refine lv_iadd hx hb dX12_beginLevels_31 ?_
  rw [show (2 : Int32) + 0 = 2 by decide]
  refine lv_iload_n hx hb dX12_beginLevels_32 rfl (lv_at hl 1 rfl) ?_
  refine lv_iload_n hx hb dX12_beginLevels_33 rfl (lv_at hl 0 rfl) ?_
  refine lv_icmp_ne (tgt := 41) hx hb dX12_beginLevels_34 (by decide) (fun _ => ?_) (fun c_0 => absurd c_0 (by decide))
  refine lv_lconst (v := 0) hx hb dX12_beginLevels_41 (by decide) ?_
  refine hp_last hx hb hK hh (q := 6) rfl (hcs _ (by decide)) m6_199 (vp_in_iff.mpr (by decide)) dX12_beginLevels_42 (fun H locs en_200 hen_200 hh => ?_)
  have mz_200 : en_200 0 = .inr (11, [.int m_fault, .int m_history, .int 2, .int m_modulus, .int 0, .ref (ad 1), .ref (ad 2), .ref (ad 3), .ref (ad 4), .ref (ad 5), .ref (ad 6), .ref (ad 7), .ref (ad 8), .ref (ad 9), .int m_depth, .long m_many, .long m_greatest, .long m_least, .long m_noughts, .ref (ad 10), .ref (ad 11), .ref (ad 12), .int m_ringMany, .long m_ringBest, .ref (ad 13), .int m_products, .ref (ad 14), .ref (ad 15), .ref (ad 16), .ref (ad 17), .int m_words, .ref (ad 18), .ref (ad 19)]) := by rw [hen_200, va_up_ne _ _ (by decide)]; exact mz_199
  have m6_200 : en_200 6 = .inl (cy 1, 117, .inr (.inl (vp_updL (vp_updL (vp_updL g6 (0 : Int32).toNatClampNeg 1) (1 : Int32).toNatClampNeg 0) (2 : Int32).toNatClampNeg 0))) := by rw [hen_200]; exact va_up_self _ _ _
  refine lv_iinc (v := 1) (lv' := [(2, .int 1), (1, .int 1), (0, .ref (ad 0))]) hx hb dX12_beginLevels_43 hl (k := 0) rfl (by decide) (by decide) rfl (fun ls hl => ?_)
  refine lv_goto (tgt := 12) hx hb dX12_beginLevels_46 (by decide) ?_
  refine lv_iload_n hx hb dX12_beginLevels_12 rfl (lv_at hl 0 rfl) ?_
  refine lv_aload_n hx hb dX12_beginLevels_13 rfl (lv_at hl 2 rfl) ?_
  refine hp_get hx hb hts ix12 hown hK hh (q := 0) rfl (hcs _ (by decide)) mz_200 rfl 2 (by decide) (hts _ tw_881) (fun _ h9 => h9) rfl dX12_beginLevels_14 ?_
  refine lv_icmp_ge (tgt := 49) hx hb dX12_beginLevels_17 (by decide) (fun c_0 => absurd c_0 (by decide)) (fun _ => ?_)
  refine lv_aload_n hx hb dX12_beginLevels_20 rfl (lv_at hl 2 rfl) ?_
  refine hp_get hx hb hts ix12 hown hK hh (q := 0) rfl (hcs _ (by decide)) mz_200 rfl 10 (by decide) (hts _ tw_889) (fun _ h9 => h9) rfl dX12_beginLevels_21 ?_
  refine lv_aload_n hx hb dX12_beginLevels_24 rfl (lv_at hl 2 rfl) ?_
  refine hp_get hx hb hts ix12 hown hK hh (q := 0) rfl (hcs _ (by decide)) mz_200 rfl 2 (by decide) (hts _ tw_881) (fun _ h9 => h9) rfl dX12_beginLevels_25 ?_
  refine lv_iload_n hx hb dX12_beginLevels_28 rfl (lv_at hl 1 rfl) ?_
  refine lv_imul hx hb dX12_beginLevels_29 ?_
  rw [show (2 : Int32) * 1 = 2 by decide]
  refine lv_iload_n hx hb dX12_beginLevels_30 rfl (lv_at hl 0 rfl) ?_
  refine lv_iadd hx hb dX12_beginLevels_31 ?_
  rw [show (2 : Int32) + 1 = 3 by decide]
  refine lv_iload_n hx hb dX12_beginLevels_32 rfl (lv_at hl 1 rfl) ?_
  refine lv_iload_n hx hb dX12_beginLevels_33 rfl (lv_at hl 0 rfl) ?_
  refine lv_icmp_ne (tgt := 41) hx hb dX12_beginLevels_34 (by decide) (fun c_0 => absurd c_0 (by decide)) (fun _ => ?_)
  refine lv_lconst (v := 1) hx hb dX12_beginLevels_37 (by decide) ?_
  refine lv_goto (tgt := 42) hx hb dX12_beginLevels_38 (by decide) ?_
  refine hp_last hx hb hK hh (q := 6) rfl (hcs _ (by decide)) m6_200 (vp_in_iff.mpr (by decide)) dX12_beginLevels_42 (fun H locs en_201 hen_201 hh => ?_)
  have mz_201 : en_201 0 = .inr (11, [.int m_fault, .int m_history, .int 2, .int m_modulus, .int 0, .ref (ad 1), .ref (ad 2), .ref (ad 3), .ref (ad 4), .ref (ad 5), .ref (ad 6), .ref (ad 7), .ref (ad 8), .ref (ad 9), .int m_depth, .long m_many, .long m_greatest, .long m_least, .long m_noughts, .ref (ad 10), .ref (ad 11), .ref (ad 12), .int m_ringMany, .long m_ringBest, .ref (ad 13), .int m_products, .ref (ad 14), .ref (ad 15), .ref (ad 16), .ref (ad 17), .int m_words, .ref (ad 18), .ref (ad 19)]) := by rw [hen_201, va_up_ne _ _ (by decide)]; exact mz_200
  have m6_201 : en_201 6 = .inl (cy 1, 117, .inr (.inl (vp_updL (vp_updL (vp_updL (vp_updL g6 (0 : Int32).toNatClampNeg 1) (1 : Int32).toNatClampNeg 0) (2 : Int32).toNatClampNeg 0) (3 : Int32).toNatClampNeg 1))) := by rw [hen_201]; exact va_up_self _ _ _
  refine lv_iinc (v := 2) (lv' := [(2, .int 2), (1, .int 1), (0, .ref (ad 0))]) hx hb dX12_beginLevels_43 hl (k := 0) rfl (by decide) (by decide) rfl (fun ls hl => ?_)
  refine lv_goto (tgt := 12) hx hb dX12_beginLevels_46 (by decide) ?_
  refine lv_iload_n hx hb dX12_beginLevels_12 rfl (lv_at hl 0 rfl) ?_
  refine lv_aload_n hx hb dX12_beginLevels_13 rfl (lv_at hl 2 rfl) ?_
  refine hp_get hx hb hts ix12 hown hK hh (q := 0) rfl (hcs _ (by decide)) mz_201 rfl 2 (by decide) (hts _ tw_881) (fun _ h9 => h9) rfl dX12_beginLevels_14 ?_
  refine lv_icmp_ge (tgt := 49) hx hb dX12_beginLevels_17 (by decide) (fun _ => ?_) (fun c_0 => absurd c_0 (by decide))
  refine lv_iinc (v := 2) (lv' := [(1, .int 2), (2, .int 2), (0, .ref (ad 0))]) hx hb dX12_beginLevels_49 hl (k := 1) rfl (by decide) (by decide) rfl (fun ls hl => ?_)
  refine lv_goto (tgt := 2) hx hb dX12_beginLevels_52 (by decide) ?_
  refine lv_iload_n hx hb dX12_beginLevels_2 rfl (lv_at hl 0 rfl) ?_
  refine lv_aload_n hx hb dX12_beginLevels_3 rfl (lv_at hl 2 rfl) ?_
  refine hp_get hx hb hts ix12 hown hK hh (q := 0) rfl (hcs _ (by decide)) mz_201 rfl 2 (by decide) (hts _ tw_881) (fun _ h9 => h9) rfl dX12_beginLevels_4 ?_
  refine lv_icmp_ge (tgt := 55) hx hb dX12_beginLevels_7 (by decide) (fun _ => ?_) (fun c_0 => absurd c_0 (by decide))
  exact hp_vretM hx hb hr hlocks hh (⟨_, by rw [hen_201, hen_200, hen_199, hen_198, bx_uu, bx_uu, bx_uu]; try rfl⟩) dX12_beginLevels_55
theorem kw_X12_beginLevels {R : Room} {s : State} {args : Array Value} {own : String} {idx : Nat} (hts : ∀ w ∈ TB, w.before args s = true) (hl : Cond.methodLink own idx yX12_beginLevels ∈ TB) (hR : 0 + 1 ≤ R.frames ∧ 8 + (3 + 11) + 40 * 0 ≤ R.locals) : CallW R s args own RX12 idx yX12_beginLevels cX12_beginLevels 3 none (Cond.code yX12_beginLevels cX12_beginLevels 3 none :: TB) (rmN 0) 0 0 0 := cwV 0 hts (TB_V hl tw_1044 ts_39 tw_9 tw_1045) rfl rfl rfl (by decide +kernel) hR
set_option maxHeartbeats 4000000 in
set_option maxRecDepth 100000 in
/-- beginWords, wide 2 -/
theorem c_X12_beginWords (l : Launch) (D : va_G) (cy : Nat → ClassId) (sz : Nat) (cs : List Nat) (ad : Nat → Nat) (en : Nat → va_E) (hcs : ∀ c, c < 20 → c ∈ cs) (m_fault : Int32) (m_history : Int32) (m_modulus : Int32) (m_depth : Int32) (m_many : Int64) (m_greatest : Int64) (m_least : Int64) (m_noughts : Int64) (m_ringMany : Int32) (m_ringBest : Int64) (m_products : Int32) (m_words : Int32) (g6 : Nat → Int64) (g7 : Nat → Int32) (mz : en 0 = .inr (11, [.int m_fault, .int m_history, .int 2, .int m_modulus, .int 0, .ref (ad 1), .ref (ad 2), .ref (ad 3), .ref (ad 4), .ref (ad 5), .ref (ad 6), .ref (ad 7), .ref (ad 8), .ref (ad 9), .int m_depth, .long m_many, .long m_greatest, .long m_least, .long m_noughts, .ref (ad 10), .ref (ad 11), .ref (ad 12), .int m_ringMany, .long m_ringBest, .ref (ad 13), .int m_products, .ref (ad 14), .ref (ad 15), .ref (ad 16), .ref (ad 17), .int m_words, .ref (ad 18), .ref (ad 19)])) (m6 : en 6 = .inl (cy 1, 117, .inr (.inl g6))) (m7 : en 7 = .inl (cy 0, 13, .inl g7))  : Met l yX12_beginWords (Cond.code yX12_beginWords cX12_beginWords 1 none :: TB) (rmN 1) (va_Pc [.ref (ad 0)] (Pre D cy cs ad en sz)) (va_Qv (S := Nat → va_E) (fun en1 => en1 0 = .inr (11, [.int m_fault, .int m_history, .int 2, .int m_modulus, .int 0, .ref (ad 1), .ref (ad 2), .ref (ad 3), .ref (ad 4), .ref (ad 5), .ref (ad 6), .ref (ad 7), .ref (ad 8), .ref (ad 9), .int 0, .long m_many, .long m_greatest, .long m_least, .long m_noughts, .ref (ad 10), .ref (ad 11), .ref (ad 12), .int m_ringMany, .long m_ringBest, .ref (ad 13), .int m_products, .ref (ad 14), .ref (ad 15), .ref (ad 16), .ref (ad 17), .int m_words, .ref (ad 18), .ref (ad 19)]) ∧ (∃ g : Nat → Int64, en1 6 = .inl (cy 1, 117, .inr (.inl g))) ∧ (∃ h : Nat → Int32, en1 7 = .inl (cy 0, 13, .inl h) ∧ h 0 = -1) ∧ ∀ c, c ≠ 0 → c ≠ 6 → c ≠ 7 → en1 c = en c) (PostM D cs ad) (Af cs ad sz)) 0 0 (Af cs ad sz) := by
  refine Met.ofW (cc := cX12_beginWords) (maxL := 1) (ret := none) (by decide) rfl ?_
  intro p e s m args below meth c s₁ B hml hv
  obtain ⟨rfl, hsz, hP, hK, hD0⟩ := hv
  have hx := B.exec
  have hb := B.bytes
  have hr := B.returns
  have hts : ∀ w ∈ TB, w.before _ s = true := fun w h => atoms_spec (ws := _ :: TB) B.pre w (List.mem_cons_of_mem _ h)
  have hown : s.vm.findClass RX12 = some m.cls := findClass_of_methodNamed B.named
  have hlocks := B.notSynchronized
  have hh : Hp D (Af cs ad sz) (Af cs ad sz) s.heap s.heap [] cs ad en := ⟨hP, Af_self hD0, va_S.rf⟩
  have hA : ∀ q : Nat, s.heap.size ≤ q → Af cs ad sz q := fun q h => Or.inr (by rw [hsz] at h; exact h)
  have hl := lv_entry ([.ref (ad 0)]) (n := 1) (Nat.le_of_ble_eq_true rfl)
  rw [lg_entry_eq]
  generalize (lg_sl ([.ref (ad 0)]) ++ List.replicate (1 - (lg_sl ([.ref (ad 0)])).length) Slot.unset).toArray = ls at hl ⊢
  have hl : lv_has ls 1 [(0, .ref (ad 0))] := hl
  refine lv_aload_n hx hb dX12_beginWords_0 rfl (lv_at hl 0 rfl) ?_
  refine hp_callMv (va_runV (As := []) (rest := []) ⟨hx, hb, hml, hown, hts⟩ (c_X12_beginLevels l D cy _ cs ad en hcs m_fault m_history m_modulus m_depth m_many m_greatest m_least m_noughts m_ringMany m_ringBest m_products m_words g6 mz m6 ) (kw_X12_beginLevels hts tw_1042 ⟨by decide, by decide⟩) (preV_of hh hK (hcs _ (by decide)) mz rfl) rfl rfl hl.1 rfl (lv_room (Nat.le_of_ble_eq_true rfl)) dX12_beginWords_1 ⟨Nat.le_of_ble_eq_true rfl, Nat.le_of_ble_eq_true rfl⟩) hh hA (fun H locs en_202 hw_202 hh => ?_)
  obtain ⟨g_202, hen_202⟩ := hw_202
  have mz_202 : en_202 0 = .inr (11, [.int m_fault, .int m_history, .int 2, .int m_modulus, .int 0, .ref (ad 1), .ref (ad 2), .ref (ad 3), .ref (ad 4), .ref (ad 5), .ref (ad 6), .ref (ad 7), .ref (ad 8), .ref (ad 9), .int m_depth, .long m_many, .long m_greatest, .long m_least, .long m_noughts, .ref (ad 10), .ref (ad 11), .ref (ad 12), .int m_ringMany, .long m_ringBest, .ref (ad 13), .int m_products, .ref (ad 14), .ref (ad 15), .ref (ad 16), .ref (ad 17), .int m_words, .ref (ad 18), .ref (ad 19)]) := by rw [hen_202, va_up_ne _ _ (by decide)]; exact mz
  have m7_202 : en_202 7 = .inl (cy 0, 13, .inl g7) := by rw [hen_202, va_up_ne _ _ (by decide)]; exact m7
  have m6_202 : en_202 6 = .inl (cy 1, 117, .inr (.inl g_202)) := by rw [hen_202]; exact va_up_self _ _ _
  refine lv_aload_n hx hb dX12_beginWords_4 rfl (lv_at hl 0 rfl) ?_
  refine lv_iconst (v := 0) hx hb dX12_beginWords_5 (by decide) ?_
  refine hp_put hx hb hts ix12 tyX12 tyX12_ok nmX12 hown hK hh (q := 0) rfl (hcs _ (by decide)) mz_202 rfl 14 (by decide) (hts _ tw_893) (fun _ h9 => h9) rfl (ty := .int) (by decide +kernel) rfl rfl (Nat.le_of_ble_eq_true rfl) dX12_beginWords_6 (fun H locs en_203 hen_203 hh => ?_)
  have m7_203 : en_203 7 = .inl (cy 0, 13, .inl g7) := by rw [hen_203, va_up_ne _ _ (by decide)]; exact m7_202
  have m6_203 : en_203 6 = .inl (cy 1, 117, .inr (.inl g_202)) := by rw [hen_203, va_up_ne _ _ (by decide)]; exact m6_202
  have mz_203 : en_203 0 = .inr (11, [.int m_fault, .int m_history, .int 2, .int m_modulus, .int 0, .ref (ad 1), .ref (ad 2), .ref (ad 3), .ref (ad 4), .ref (ad 5), .ref (ad 6), .ref (ad 7), .ref (ad 8), .ref (ad 9), .int 0, .long m_many, .long m_greatest, .long m_least, .long m_noughts, .ref (ad 10), .ref (ad 11), .ref (ad 12), .int m_ringMany, .long m_ringBest, .ref (ad 13), .int m_products, .ref (ad 14), .ref (ad 15), .ref (ad 16), .ref (ad 17), .int m_words, .ref (ad 18), .ref (ad 19)]) := by rw [hen_203]; exact va_up_self _ _ _
  refine lv_aload_n hx hb dX12_beginWords_9 rfl (lv_at hl 0 rfl) ?_
  refine hp_get hx hb hts ix12 hown hK hh (q := 0) rfl (hcs _ (by decide)) mz_203 rfl 11 (by decide) (hts _ tw_890) (fun _ h9 => h9) rfl dX12_beginWords_10 ?_
  refine lv_iconst (v := 0) hx hb dX12_beginWords_13 (by decide) ?_
  refine lv_iconst (v := (-1)) hx hb dX12_beginWords_14 (by decide) ?_
  refine hp_iast hx hb hK hh (q := 7) rfl (hcs _ (by decide)) m7_203 (vp_in_iff.mpr (by decide)) dX12_beginWords_15 (fun H locs en_204 hen_204 hh => ?_)
  have m6_204 : en_204 6 = .inl (cy 1, 117, .inr (.inl g_202)) := by rw [hen_204, va_up_ne _ _ (by decide)]; exact m6_203
  have mz_204 : en_204 0 = .inr (11, [.int m_fault, .int m_history, .int 2, .int m_modulus, .int 0, .ref (ad 1), .ref (ad 2), .ref (ad 3), .ref (ad 4), .ref (ad 5), .ref (ad 6), .ref (ad 7), .ref (ad 8), .ref (ad 9), .int 0, .long m_many, .long m_greatest, .long m_least, .long m_noughts, .ref (ad 10), .ref (ad 11), .ref (ad 12), .int m_ringMany, .long m_ringBest, .ref (ad 13), .int m_products, .ref (ad 14), .ref (ad 15), .ref (ad 16), .ref (ad 17), .int m_words, .ref (ad 18), .ref (ad 19)]) := by rw [hen_204, va_up_ne _ _ (by decide)]; exact mz_203
  have m7_204 : en_204 7 = .inl (cy 0, 13, .inl (upd g7 (0 : Int32).toNatClampNeg (-1))) := by rw [hen_204]; exact va_up_self _ _ _
  exact hp_vretM hx hb hr hlocks hh (⟨mz_204, ⟨_, m6_204⟩, ⟨_, m7_204, rfl⟩, (fun c h0 h1 h2 => by rw [hen_204, va_up_ne _ _ h2, hen_203, va_up_ne _ _ h0, hen_202, va_up_ne _ _ h1])⟩) dX12_beginWords_16
theorem kw_X12_beginWords {R : Room} {s : State} {args : Array Value} {own : String} {idx : Nat} (hts : ∀ w ∈ TB, w.before args s = true) (hl : Cond.methodLink own idx yX12_beginWords ∈ TB) (hR : 1 + 1 ≤ R.frames ∧ 8 + (1 + 11) + 40 * 1 ≤ R.locals) : CallW R s args own RX12 idx yX12_beginWords cX12_beginWords 1 none (Cond.code yX12_beginWords cX12_beginWords 1 none :: TB) (rmN 1) 0 0 0 := cwV 0 hts (TB_V hl tw_1040 ts_38 tw_9 tw_1041) rfl rfl rfl (by decide +kernel) hR
set_option maxHeartbeats 4000000 in
set_option maxRecDepth 100000 in
/-- next, no TABLES -/
theorem c_X12_next (l : Launch) (D : va_G) (cy : Nat → ClassId) (sz : Nat) (cs : List Nat) (ad : Nat → Nat) (en : Nat → va_E) (hcs : ∀ c, c < 20 → c ∈ cs) (m_fault : Int32) (m_history : Int32) (m_modulus : Int32) (m_many : Int64) (m_greatest : Int64) (m_least : Int64) (m_noughts : Int64) (m_ringMany : Int32) (m_ringBest : Int64) (m_products : Int32) (m_words : Int32) (g7 : Nat → Int32) (hk7 : g7 0 = -1) (n : Int32) (hn : wi n 1 8) (mz : en 0 = .inr (11, [.int m_fault, .int m_history, .int 2, .int m_modulus, .int 0, .ref (ad 1), .ref (ad 2), .ref (ad 3), .ref (ad 4), .ref (ad 5), .ref (ad 6), .ref (ad 7), .ref (ad 8), .ref (ad 9), .int 0, .long m_many, .long m_greatest, .long m_least, .long m_noughts, .ref (ad 10), .ref (ad 11), .ref (ad 12), .int m_ringMany, .long m_ringBest, .ref (ad 13), .int m_products, .ref (ad 14), .ref (ad 15), .ref (ad 16), .ref (ad 17), .int m_words, .ref (ad 18), .ref (ad 19)])) (m7 : en 7 = .inl (cy 0, 13, .inl g7))  : Met l yX12_next (Cond.code yX12_next cX12_next 2 (some .boolean) :: TB) (rmN 0) (va_Pc [.ref (ad 0), .int n] (Pre D cy cs ad en sz)) (va_Qi (S := Nat → va_E) (fun r en1 => r = 0 ∧ en1 0 = .inr (11, [.int m_fault, .int m_history, .int 2, .int m_modulus, .int 0, .ref (ad 1), .ref (ad 2), .ref (ad 3), .ref (ad 4), .ref (ad 5), .ref (ad 6), .ref (ad 7), .ref (ad 8), .ref (ad 9), .int (-1), .long m_many, .long m_greatest, .long m_least, .long m_noughts, .ref (ad 10), .ref (ad 11), .ref (ad 12), .int m_ringMany, .long m_ringBest, .ref (ad 13), .int m_products, .ref (ad 14), .ref (ad 15), .ref (ad 16), .ref (ad 17), .int m_words, .ref (ad 18), .ref (ad 19)]) ∧ (∃ h : Nat → Int32, en1 7 = .inl (cy 0, 13, .inl h)) ∧ ∀ c, c ≠ 0 → c ≠ 7 → en1 c = en c) (PostM D cs ad) (Af cs ad sz)) 0 0 (Af cs ad sz) := by
  refine Met.ofW (cc := cX12_next) (maxL := 2) (ret := (some .boolean)) (by decide) rfl ?_
  intro p e s m args below meth c s₁ B hml hv
  obtain ⟨rfl, hsz, hP, hK, hD0⟩ := hv
  have hx := B.exec
  have hb := B.bytes
  have hr := B.returns
  have hts : ∀ w ∈ TB, w.before _ s = true := fun w h => atoms_spec (ws := _ :: TB) B.pre w (List.mem_cons_of_mem _ h)
  have hown : s.vm.findClass RX12 = some m.cls := findClass_of_methodNamed B.named
  have hlocks := B.notSynchronized
  have hh : Hp D (Af cs ad sz) (Af cs ad sz) s.heap s.heap [] cs ad en := ⟨hP, Af_self hD0, va_S.rf⟩
  have hA : ∀ q : Nat, s.heap.size ≤ q → Af cs ad sz q := fun q h => Or.inr (by rw [hsz] at h; exact h)
  have hl := lv_entry ([.ref (ad 0), .int n]) (n := 2) (Nat.le_of_ble_eq_true rfl)
  rw [lg_entry_eq]
  generalize (lg_sl ([.ref (ad 0), .int n]) ++ List.replicate (2 - (lg_sl ([.ref (ad 0), .int n])).length) Slot.unset).toArray = ls at hl ⊢
  have hl : lv_has ls 2 [(0, .ref (ad 0)), (1, .int n)] := hl
  refine lv_aload_n hx hb dX12_next_0 rfl (lv_at hl 0 rfl) ?_
  refine hp_get hx hb hts ix12 hown hK hh (q := 0) rfl (hcs _ (by decide)) mz rfl 14 (by decide) (hts _ tw_893) (fun _ h9 => h9) rfl dX12_next_1 ?_
  refine lv_iload_n hx hb dX12_next_4 rfl (lv_at hl 1 rfl) ?_
  refine lv_icmp_ne (tgt := 18) hx hb dX12_next_5 (by decide) (fun _ => ?_) (fun c_0 => absurd c_0 (fun q => absurd (wi_pos hn) (by rw [← q]; decide)))
  refine lv_aload_n hx hb dX12_next_18 rfl (lv_at hl 0 rfl) ?_
  refine hp_get hx hb hts ix12 hown hK hh (q := 0) rfl (hcs _ (by decide)) mz rfl 14 (by decide) (hts _ tw_893) (fun _ h9 => h9) rfl dX12_next_19 ?_
  refine lv_if_lt (tgt := 183) hx hb dX12_next_22 (by decide) (fun c_0 => absurd c_0 (by decide)) (fun _ => ?_)
  refine lv_aload_n hx hb dX12_next_25 rfl (lv_at hl 0 rfl) ?_
  refine hp_get hx hb hts ix12 hown hK hh (q := 0) rfl (hcs _ (by decide)) mz rfl 11 (by decide) (hts _ tw_890) (fun _ h9 => h9) rfl dX12_next_26 ?_
  refine lv_aload_n hx hb dX12_next_29 rfl (lv_at hl 0 rfl) ?_
  refine hp_get hx hb hts ix12 hown hK hh (q := 0) rfl (hcs _ (by decide)) mz rfl 14 (by decide) (hts _ tw_893) (fun _ h9 => h9) rfl dX12_next_30 ?_
  refine lv_dup2_11 hx hb dX12_next_33 rfl rfl ?_
  refine hp_iald hx hb hK hh (q := 7) rfl (hcs _ (by decide)) m7 (vp_in_iff.mpr (by decide)) dX12_next_34 ?_
  rw [show g7 (0 : Int32).toNatClampNeg = (-1) from hk7]
  refine lv_iconst (v := 1) hx hb dX12_next_35 (by decide) ?_
  refine lv_iadd hx hb dX12_next_36 ?_
  rw [show ((-1) : Int32) + 1 = 0 by decide]
  refine hp_iast hx hb hK hh (q := 7) rfl (hcs _ (by decide)) m7 (vp_in_iff.mpr (by decide)) dX12_next_37 (fun H locs en_205 hen_205 hh => ?_)
  have mz_205 : en_205 0 = .inr (11, [.int m_fault, .int m_history, .int 2, .int m_modulus, .int 0, .ref (ad 1), .ref (ad 2), .ref (ad 3), .ref (ad 4), .ref (ad 5), .ref (ad 6), .ref (ad 7), .ref (ad 8), .ref (ad 9), .int 0, .long m_many, .long m_greatest, .long m_least, .long m_noughts, .ref (ad 10), .ref (ad 11), .ref (ad 12), .int m_ringMany, .long m_ringBest, .ref (ad 13), .int m_products, .ref (ad 14), .ref (ad 15), .ref (ad 16), .ref (ad 17), .int m_words, .ref (ad 18), .ref (ad 19)]) := by rw [hen_205, va_up_ne _ _ (by decide)]; exact mz
  have m7_205 : en_205 7 = .inl (cy 0, 13, .inl (upd g7 (0 : Int32).toNatClampNeg 0)) := by rw [hen_205]; exact va_up_self _ _ _
  refine lv_aload_n hx hb dX12_next_38 rfl (lv_at hl 0 rfl) ?_
  refine hp_get hx hb hts ix12 hown hK hh (q := 0) rfl (hcs _ (by decide)) mz_205 rfl 11 (by decide) (hts _ tw_890) (fun _ h9 => h9) rfl dX12_next_39 ?_
  refine lv_aload_n hx hb dX12_next_42 rfl (lv_at hl 0 rfl) ?_
  refine hp_get hx hb hts ix12 hown hK hh (q := 0) rfl (hcs _ (by decide)) mz_205 rfl 14 (by decide) (hts _ tw_893) (fun _ h9 => h9) rfl dX12_next_43 ?_
  refine hp_iald hx hb hK hh (q := 7) rfl (hcs _ (by decide)) m7_205 (vp_in_iff.mpr (by decide)) dX12_next_46 ?_
  rw [show (upd g7 (0 : Int32).toNatClampNeg 0) (0 : Int32).toNatClampNeg = 0 from rfl]
  refine lv_aload_n hx hb dX12_next_47 rfl (lv_at hl 0 rfl) ?_
  refine hp_get hx hb hts ix12 hown hK hh (q := 0) rfl (hcs _ (by decide)) mz_205 rfl 4 (by decide) (hts _ tw_883) (fun _ h9 => h9) rfl dX12_next_48 ?_
  refine lv_icmp_ge (tgt := 104) hx hb dX12_next_51 (by decide) (fun _ => ?_) (fun c_0 => absurd c_0 (by decide))
  refine lv_aload_n hx hb dX12_next_104 rfl (lv_at hl 0 rfl) ?_
  refine hp_get hx hb hts ix12 hown hK hh (q := 0) rfl (hcs _ (by decide)) mz_205 rfl 11 (by decide) (hts _ tw_890) (fun _ h9 => h9) rfl dX12_next_105 ?_
  refine lv_aload_n hx hb dX12_next_108 rfl (lv_at hl 0 rfl) ?_
  refine hp_get hx hb hts ix12 hown hK hh (q := 0) rfl (hcs _ (by decide)) mz_205 rfl 14 (by decide) (hts _ tw_893) (fun _ h9 => h9) rfl dX12_next_109 ?_
  refine hp_iald hx hb hK hh (q := 7) rfl (hcs _ (by decide)) m7_205 (vp_in_iff.mpr (by decide)) dX12_next_112 ?_
  rw [show (upd g7 (0 : Int32).toNatClampNeg 0) (0 : Int32).toNatClampNeg = 0 from rfl]
  refine lv_aload_n hx hb dX12_next_113 rfl (lv_at hl 0 rfl) ?_
  refine hp_get hx hb hts ix12 hown hK hh (q := 0) rfl (hcs _ (by decide)) mz_205 rfl 4 (by decide) (hts _ tw_883) (fun _ h9 => h9) rfl dX12_next_114 ?_
  refine lv_icmp_lt (tgt := 133) hx hb dX12_next_117 (by decide) (fun c_0 => absurd c_0 (by decide)) (fun _ => ?_)
  refine lv_aload_n hx hb dX12_next_120 rfl (lv_at hl 0 rfl) ?_
  refine lv_dup hx hb dX12_next_121 rfl ?_
  refine hp_get hx hb hts ix12 hown hK hh (q := 0) rfl (hcs _ (by decide)) mz_205 rfl 14 (by decide) (hts _ tw_893) (fun _ h9 => h9) rfl dX12_next_122 ?_
  refine lv_iconst (v := 1) hx hb dX12_next_125 (by decide) ?_
  refine lv_isub hx hb dX12_next_126 ?_
  rw [show (0 : Int32) - 1 = (-1) by decide]
  refine hp_put hx hb hts ix12 tyX12 tyX12_ok nmX12 hown hK hh (q := 0) rfl (hcs _ (by decide)) mz_205 rfl 14 (by decide) (hts _ tw_893) (fun _ h9 => h9) rfl (ty := .int) (by decide +kernel) rfl rfl (Nat.le_of_ble_eq_true rfl) dX12_next_127 (fun H locs en_206 hen_206 hh => ?_)
  have m7_206 : en_206 7 = .inl (cy 0, 13, .inl (upd g7 (0 : Int32).toNatClampNeg 0)) := by rw [hen_206, va_up_ne _ _ (by decide)]; exact m7_205
  have mz_206 : en_206 0 = .inr (11, [.int m_fault, .int m_history, .int 2, .int m_modulus, .int 0, .ref (ad 1), .ref (ad 2), .ref (ad 3), .ref (ad 4), .ref (ad 5), .ref (ad 6), .ref (ad 7), .ref (ad 8), .ref (ad 9), .int (-1), .long m_many, .long m_greatest, .long m_least, .long m_noughts, .ref (ad 10), .ref (ad 11), .ref (ad 12), .int m_ringMany, .long m_ringBest, .ref (ad 13), .int m_products, .ref (ad 14), .ref (ad 15), .ref (ad 16), .ref (ad 17), .int m_words, .ref (ad 18), .ref (ad 19)]) := by rw [hen_206]; exact va_up_self _ _ _
  refine lv_goto (tgt := 18) hx hb dX12_next_130 (by decide) ?_
  refine lv_aload_n hx hb dX12_next_18 rfl (lv_at hl 0 rfl) ?_
  refine hp_get hx hb hts ix12 hown hK hh (q := 0) rfl (hcs _ (by decide)) mz_206 rfl 14 (by decide) (hts _ tw_893) (fun _ h9 => h9) rfl dX12_next_19 ?_
  refine lv_if_lt (tgt := 183) hx hb dX12_next_22 (by decide) (fun _ => ?_) (fun c_0 => absurd c_0 (by decide))
  refine lv_iconst (v := 0) hx hb dX12_next_183 (by decide) ?_
  exact hp_iretM hx hb hr rfl hlocks hh (⟨rfl, mz_206, ⟨_, m7_206⟩, (fun c h0 h1 => by rw [hen_206, va_up_ne _ _ h0, hen_205, va_up_ne _ _ h1])⟩) dX12_next_184
theorem kw_X12_next {R : Room} {s : State} {args : Array Value} {own : String} {idx : Nat} (hts : ∀ w ∈ TB, w.before args s = true) (hl : Cond.methodLink own idx yX12_next ∈ TB) (hR : 0 + 1 ≤ R.frames ∧ 8 + (2 + 11) + 40 * 0 ≤ R.locals) : CallW R s args own RX12 idx yX12_next cX12_next 2 (some .boolean) (Cond.code yX12_next cX12_next 2 (some .boolean) :: TB) (rmN 0) 0 0 1 := cwV 1 hts (TB_V hl tw_1048 ts_40 tw_9 tw_1049) rfl rfl rfl (by decide +kernel) hR
set_option maxHeartbeats 4000000 in
set_option maxRecDepth 100000 in
/-- isSpent, no TABLES -/
theorem c_X12_isSpent (l : Launch) (D : va_G) (cy : Nat → ClassId) (sz : Nat) (cs : List Nat) (ad : Nat → Nat) (en : Nat → va_E) (hcs : ∀ c, c < 20 → c ∈ cs) (m_fault : Int32) (m_history : Int32) (m_modulus : Int32) (m_depth : Int32) (m_many : Int64) (m_greatest : Int64) (m_least : Int64) (m_noughts : Int64) (m_ringMany : Int32) (m_ringBest : Int64) (m_products : Int32) (m_words : Int32) (n : Int32) (hn : wi n 1 8) (mz : en 0 = .inr (11, [.int m_fault, .int m_history, .int 2, .int m_modulus, .int 0, .ref (ad 1), .ref (ad 2), .ref (ad 3), .ref (ad 4), .ref (ad 5), .ref (ad 6), .ref (ad 7), .ref (ad 8), .ref (ad 9), .int m_depth, .long m_many, .long m_greatest, .long m_least, .long m_noughts, .ref (ad 10), .ref (ad 11), .ref (ad 12), .int m_ringMany, .long m_ringBest, .ref (ad 13), .int m_products, .ref (ad 14), .ref (ad 15), .ref (ad 16), .ref (ad 17), .int m_words, .ref (ad 18), .ref (ad 19)]))  : Met l yX12_isSpent (Cond.code yX12_isSpent cX12_isSpent 5 (some .boolean) :: TB) (rmN 1) (va_Pc [.ref (ad 0), .int n] (Pre D cy cs ad en sz)) (va_Qi (S := Unit) (fun r _ => r = 0) (fun _ _ => True) (Nf sz)) 0 0 (Nf sz) := by
  refine Met.ofW (cc := cX12_isSpent) (maxL := 5) (ret := (some .boolean)) (by decide) rfl ?_
  intro p e s m args below meth c s₁ B hml hv
  obtain ⟨rfl, hsz, hP, hK, hD0⟩ := hv
  have hx := B.exec
  have hb := B.bytes
  have hr := B.returns
  have hts : ∀ w ∈ TB, w.before _ s = true := fun w h => atoms_spec (ws := _ :: TB) B.pre w (List.mem_cons_of_mem _ h)
  have hown : s.vm.findClass RX12 = some m.cls := findClass_of_methodNamed B.named
  have hlocks := B.notSynchronized
  have hh : Hp D (Nf sz) (fun _ => True) s.heap s.heap [] cs ad en := ⟨hP, hD0, va_S.rf⟩
  have hA : ∀ q : Nat, s.heap.size ≤ q → Nf sz q := fun q h => by rw [hsz] at h; exact h
  have hl := lv_entry ([.ref (ad 0), .int n]) (n := 5) (Nat.le_of_ble_eq_true rfl)
  rw [lg_entry_eq]
  generalize (lg_sl ([.ref (ad 0), .int n]) ++ List.replicate (5 - (lg_sl ([.ref (ad 0), .int n])).length) Slot.unset).toArray = ls at hl ⊢
  have hl : lv_has ls 5 [(0, .ref (ad 0)), (1, .int n)] := hl
  refine lv_iconst (v := 0) hx hb dX12_isSpent_0 (by decide) ?_
  refine lv_istore_n (lv' := [(2, .int 0), (0, .ref (ad 0)), (1, .int n)]) hx hb dX12_isSpent_1 rfl hl (by decide) rfl (fun ls hl => ?_)
  refine lv_iload_n hx hb dX12_isSpent_2 rfl (lv_at hl 0 rfl) ?_
  refine lv_aload_n hx hb dX12_isSpent_3 rfl (lv_at hl 1 rfl) ?_
  refine hp_get hx hb hts ix12 hown hK hh (q := 0) rfl (hcs _ (by decide)) mz rfl 4 (by decide) (hts _ tw_883) (fun _ h9 => h9) rfl dX12_isSpent_4 ?_
  refine lv_icmp_ge (tgt := 23) hx hb dX12_isSpent_7 (by decide) (fun _ => ?_) (fun c_0 => absurd c_0 (by decide))
  refine lv_iconst (v := 1) hx hb dX12_isSpent_23 (by decide) ?_
  refine lv_istore_n (lv' := [(2, .int 1), (0, .ref (ad 0)), (1, .int n)]) hx hb dX12_isSpent_24 rfl hl (by decide) rfl (fun ls hl => ?_)
  obtain ⟨N, hN, hN1, hN8⟩ := wi_nat hn
  have h8 : (8 : Int32).toInt = 8 := by decide
  have loop_207 : ∀ (fu j : Nat) (ls : Array Slot) (H : Heap) (locs : List Loc), j ≤ N → N < j + fu → lv_has ls 5 [(2, .int (nI j)), (0, .ref (ad 0)), (1, .int n)] → Hp D (Nf sz) (fun _ => True) s.heap H locs cs ad en → W p l e (headSpec (Cond.code yX12_isSpent cX12_isSpent 5 (some .boolean) :: TB) (rmN 1)).room s m ([.ref (ad 0), .int n] : List Value).toArray below meth c H locs 0 0 (MQ below (va_Qi (S := Unit) (fun r _ => r = 0) (fun _ _ => True) (Nf sz)) ([.ref (ad 0), .int n] : List Value).toArray s 0 0 (Nf sz)) (F0 m 25 ls []) := by
    intro fu
    induction fu with
    | zero => intro j ls H locs h1 h2; exact absurd h2 (by omega)
    | succ fu ih =>
      intro j ls H locs hj hn hl hh
      rcases Nat.lt_or_ge j N with hjN | hjN
      · refine lv_iload_n hx hb dX12_isSpent_25 rfl (lv_at hl 0 rfl) ?_
        refine lv_iload_n hx hb dX12_isSpent_26 rfl (lv_at hl 2 rfl) ?_
        refine lv_icmp_ge (tgt := 135) hx hb dX12_isSpent_27 (by decide) (fun c_0 => absurd c_0 (nge_of hN hjN (by omega))) (fun _ => ?_)
        refine lv_iconst (v := 0) hx hb dX12_isSpent_30 (by decide) ?_
        refine lv_istore_n (lv' := [(3, .int 0), (2, .int (nI j)), (0, .ref (ad 0)), (1, .int n)]) hx hb dX12_isSpent_31 rfl hl (by decide) rfl (fun ls hl => ?_)
        refine lv_iload_n hx hb dX12_isSpent_32 rfl (lv_at hl 0 rfl) ?_
        refine lv_aload_n hx hb dX12_isSpent_33 rfl (lv_at hl 2 rfl) ?_
        refine hp_get hx hb hts ix12 hown hK hh (q := 0) rfl (hcs _ (by decide)) mz rfl 4 (by decide) (hts _ tw_883) (fun _ h9 => h9) rfl dX12_isSpent_34 ?_
        refine lv_icmp_ge (tgt := 101) hx hb dX12_isSpent_37 (by decide) (fun _ => ?_) (fun c_0 => absurd c_0 (by decide))
        refine lv_iconst (v := 0) hx hb dX12_isSpent_101 (by decide) ?_
        refine lv_istore_n (lv' := [(3, .int 0), (2, .int (nI j)), (0, .ref (ad 0)), (1, .int n)]) hx hb dX12_isSpent_102 rfl hl (by decide) rfl (fun ls hl => ?_)
        refine lv_iload_n hx hb dX12_isSpent_103 rfl (lv_at hl 0 rfl) ?_
        refine lv_aload_n hx hb dX12_isSpent_104 rfl (lv_at hl 2 rfl) ?_
        refine hp_get hx hb hts ix12 hown hK hh (q := 0) rfl (hcs _ (by decide)) mz rfl 4 (by decide) (hts _ tw_883) (fun _ h9 => h9) rfl dX12_isSpent_105 ?_
        refine lv_icmp_ge (tgt := 129) hx hb dX12_isSpent_108 (by decide) (fun _ => ?_) (fun c_0 => absurd c_0 (by decide))
        refine lv_iinc (v := nI (j + 1)) (lv' := [(2, .int (nI (j + 1))), (3, .int 0), (0, .ref (ad 0)), (1, .int n)]) hx hb dX12_isSpent_129 hl (k := 1) rfl (nI_1 _) (by decide) rfl (fun ls hl => ?_)
        refine lv_goto (tgt := 25) hx hb dX12_isSpent_132 (by decide) ?_
        exact ih (j + 1) ls H locs (by omega) (by omega) (lv_sub hl [0, 2, 3] rfl) hh
      · refine lv_iload_n hx hb dX12_isSpent_25 rfl (lv_at hl 0 rfl) ?_
        refine lv_iload_n hx hb dX12_isSpent_26 rfl (lv_at hl 2 rfl) ?_
        refine lv_icmp_ge (tgt := 135) hx hb dX12_isSpent_27 (by decide) (fun _ => ?_) (fun c_0 => absurd (ge_of hN hjN (by omega)) c_0)
        refine lv_lconst (v := 0) hx hb dX12_isSpent_135 (by decide) ?_
        refine lv_lstore_n (lv' := [(2, .long 0), (0, .ref (ad 0)), (1, .int n)]) hx hb dX12_isSpent_136 rfl hl (by decide) rfl (fun ls hl => ?_)
        refine lv_iconst (v := 0) hx hb dX12_isSpent_137 (by decide) ?_
        refine lv_istore (lv' := [(4, .int 0), (2, .long 0), (0, .ref (ad 0)), (1, .int n)]) hx hb dX12_isSpent_138 hl (by decide) rfl (fun ls hl => ?_)
        refine lv_iload hx hb dX12_isSpent_140 (lv_at hl 0 rfl) ?_
        refine lv_aload_n hx hb dX12_isSpent_142 rfl (lv_at hl 2 rfl) ?_
        refine hp_get hx hb hts ix12 hown hK hh (q := 0) rfl (hcs _ (by decide)) mz rfl 4 (by decide) (hts _ tw_883) (fun _ h9 => h9) rfl dX12_isSpent_143 ?_
        refine lv_icmp_ge (tgt := 165) hx hb dX12_isSpent_146 (by decide) (fun _ => ?_) (fun c_0 => absurd c_0 (by decide))
        refine lv_lload_n hx hb dX12_isSpent_165 rfl (lv_at hl 1 rfl) ?_
        refine lv_ldc2 hx hb hown (hts _ tw_1033) dX12_isSpent_166 ?_
        refine W.lcmp hx hb dX12_isSpent_169 ?_
        rw [show lg_cmp 0 20000 = (-1) by decide]
        refine lv_if_le (tgt := 177) hx hb dX12_isSpent_170 (by decide) (fun _ => ?_) (fun c_0 => absurd c_0 (by decide))
        refine lv_iconst (v := 0) hx hb dX12_isSpent_177 (by decide) ?_
        exact hp_iretR hx hb hr rfl hlocks hsz hh (rfl) dX12_isSpent_178
  exact loop_207 (N + 1) 1 ls _ _ (by omega) (by omega) (lv_sub hl [0, 1, 2] rfl) hh
theorem kw_X12_isSpent {R : Room} {s : State} {args : Array Value} {own : String} {idx : Nat} (hts : ∀ w ∈ TB, w.before args s = true) (hl : Cond.methodLink own idx yX12_isSpent ∈ TB) (hR : 1 + 1 ≤ R.frames ∧ 8 + (5 + 11) + 40 * 1 ≤ R.locals) : CallW R s args own RX12 idx yX12_isSpent cX12_isSpent 5 (some .boolean) (Cond.code yX12_isSpent cX12_isSpent 5 (some .boolean) :: TB) (rmN 1) 0 0 1 := cwV 1 hts (TB_V hl tw_1027 ts_35 tw_9 tw_1028) rfl rfl rfl (by decide +kernel) hR
set_option maxHeartbeats 4000000 in
set_option maxRecDepth 100000 in
/-- goThrough, no TABLES -/
theorem c_X12_goThrough (l : Launch) (D : va_G) (cy : Nat → ClassId) (sz : Nat) (cs : List Nat) (ad : Nat → Nat) (en : Nat → va_E) (hcs : ∀ c, c < 20 → c ∈ cs) (m_fault : Int32) (m_history : Int32) (m_modulus : Int32) (m_depth : Int32) (m_many : Int64) (m_greatest : Int64) (m_least : Int64) (m_noughts : Int64) (m_ringMany : Int32) (m_ringBest : Int64) (m_products : Int32) (m_words : Int32) (g6 : Nat → Int64) (g7 : Nat → Int32) (n : Int32) (hn : wi n 1 8) (mz : en 0 = .inr (11, [.int m_fault, .int m_history, .int 2, .int m_modulus, .int 0, .ref (ad 1), .ref (ad 2), .ref (ad 3), .ref (ad 4), .ref (ad 5), .ref (ad 6), .ref (ad 7), .ref (ad 8), .ref (ad 9), .int m_depth, .long m_many, .long m_greatest, .long m_least, .long m_noughts, .ref (ad 10), .ref (ad 11), .ref (ad 12), .int m_ringMany, .long m_ringBest, .ref (ad 13), .int m_products, .ref (ad 14), .ref (ad 15), .ref (ad 16), .ref (ad 17), .int m_words, .ref (ad 18), .ref (ad 19)])) (m6 : en 6 = .inl (cy 1, 117, .inr (.inl g6))) (m7 : en 7 = .inl (cy 0, 13, .inl g7))  : Met l yX12_goThrough (Cond.code yX12_goThrough cX12_goThrough 5 none :: TB) (rmN 2) (va_Pc [.ref (ad 0), .int n] (Pre D cy cs ad en sz)) (va_Qv (S := Nat → va_E) (fun en1 => en1 0 = .inr (11, [.int m_fault, .int m_history, .int 2, .int m_modulus, .int 0, .ref (ad 1), .ref (ad 2), .ref (ad 3), .ref (ad 4), .ref (ad 5), .ref (ad 6), .ref (ad 7), .ref (ad 8), .ref (ad 9), .int (-1), .long 0, .long (-9223372036854775808), .long (-9223372036854775808), .long 0, .ref (ad 10), .ref (ad 11), .ref (ad 12), .int m_ringMany, .long m_ringBest, .ref (ad 13), .int m_products, .ref (ad 14), .ref (ad 15), .ref (ad 16), .ref (ad 17), .int m_words, .ref (ad 18), .ref (ad 19)])) (PostM D cs ad) (Af cs ad sz)) 0 0 (Af cs ad sz) := by
  refine Met.ofW (cc := cX12_goThrough) (maxL := 5) (ret := none) (by decide) rfl ?_
  intro p e s m args below meth c s₁ B hml hv
  obtain ⟨rfl, hsz, hP, hK, hD0⟩ := hv
  have hx := B.exec
  have hb := B.bytes
  have hr := B.returns
  have hts : ∀ w ∈ TB, w.before _ s = true := fun w h => atoms_spec (ws := _ :: TB) B.pre w (List.mem_cons_of_mem _ h)
  have hown : s.vm.findClass RX12 = some m.cls := findClass_of_methodNamed B.named
  have hlocks := B.notSynchronized
  have hh : Hp D (Af cs ad sz) (Af cs ad sz) s.heap s.heap [] cs ad en := ⟨hP, Af_self hD0, va_S.rf⟩
  have hA : ∀ q : Nat, s.heap.size ≤ q → Af cs ad sz q := fun q h => Or.inr (by rw [hsz] at h; exact h)
  have hl := lv_entry ([.ref (ad 0), .int n]) (n := 5) (Nat.le_of_ble_eq_true rfl)
  rw [lg_entry_eq]
  generalize (lg_sl ([.ref (ad 0), .int n]) ++ List.replicate (5 - (lg_sl ([.ref (ad 0), .int n])).length) Slot.unset).toArray = ls at hl ⊢
  have hl : lv_has ls 5 [(0, .ref (ad 0)), (1, .int n)] := hl
  refine lv_aload_n hx hb dX12_goThrough_0 rfl (lv_at hl 0 rfl) ?_
  refine lv_lconst (v := 0) hx hb dX12_goThrough_1 (by decide) ?_
  refine hp_put hx hb hts ix12 tyX12 tyX12_ok nmX12 hown hK hh (q := 0) rfl (hcs _ (by decide)) mz rfl 15 (by decide) (hts _ tw_894) (fun _ h9 => h9) rfl (ty := .long) (by decide +kernel) rfl rfl (Nat.le_of_ble_eq_true rfl) dX12_goThrough_2 (fun H locs en_208 hen_208 hh => ?_)
  have m6_208 : en_208 6 = .inl (cy 1, 117, .inr (.inl g6)) := by rw [hen_208, va_up_ne _ _ (by decide)]; exact m6
  have m7_208 : en_208 7 = .inl (cy 0, 13, .inl g7) := by rw [hen_208, va_up_ne _ _ (by decide)]; exact m7
  have mz_208 : en_208 0 = .inr (11, [.int m_fault, .int m_history, .int 2, .int m_modulus, .int 0, .ref (ad 1), .ref (ad 2), .ref (ad 3), .ref (ad 4), .ref (ad 5), .ref (ad 6), .ref (ad 7), .ref (ad 8), .ref (ad 9), .int m_depth, .long 0, .long m_greatest, .long m_least, .long m_noughts, .ref (ad 10), .ref (ad 11), .ref (ad 12), .int m_ringMany, .long m_ringBest, .ref (ad 13), .int m_products, .ref (ad 14), .ref (ad 15), .ref (ad 16), .ref (ad 17), .int m_words, .ref (ad 18), .ref (ad 19)]) := by rw [hen_208]; exact va_up_self _ _ _
  refine lv_aload_n hx hb dX12_goThrough_5 rfl (lv_at hl 0 rfl) ?_
  refine lv_ldc2 hx hb hown (hts _ tw_1015) dX12_goThrough_6 ?_
  refine hp_put hx hb hts ix12 tyX12 tyX12_ok nmX12 hown hK hh (q := 0) rfl (hcs _ (by decide)) mz_208 rfl 16 (by decide) (hts _ tw_895) (fun _ h9 => h9) rfl (ty := .long) (by decide +kernel) rfl rfl (Nat.le_of_ble_eq_true rfl) dX12_goThrough_9 (fun H locs en_209 hen_209 hh => ?_)
  have m6_209 : en_209 6 = .inl (cy 1, 117, .inr (.inl g6)) := by rw [hen_209, va_up_ne _ _ (by decide)]; exact m6_208
  have m7_209 : en_209 7 = .inl (cy 0, 13, .inl g7) := by rw [hen_209, va_up_ne _ _ (by decide)]; exact m7_208
  have mz_209 : en_209 0 = .inr (11, [.int m_fault, .int m_history, .int 2, .int m_modulus, .int 0, .ref (ad 1), .ref (ad 2), .ref (ad 3), .ref (ad 4), .ref (ad 5), .ref (ad 6), .ref (ad 7), .ref (ad 8), .ref (ad 9), .int m_depth, .long 0, .long (-9223372036854775808), .long m_least, .long m_noughts, .ref (ad 10), .ref (ad 11), .ref (ad 12), .int m_ringMany, .long m_ringBest, .ref (ad 13), .int m_products, .ref (ad 14), .ref (ad 15), .ref (ad 16), .ref (ad 17), .int m_words, .ref (ad 18), .ref (ad 19)]) := by rw [hen_209]; exact va_up_self _ _ _
  refine lv_aload_n hx hb dX12_goThrough_12 rfl (lv_at hl 0 rfl) ?_
  refine lv_ldc2 hx hb hown (hts _ tw_1015) dX12_goThrough_13 ?_
  refine hp_put hx hb hts ix12 tyX12 tyX12_ok nmX12 hown hK hh (q := 0) rfl (hcs _ (by decide)) mz_209 rfl 17 (by decide) (hts _ tw_896) (fun _ h9 => h9) rfl (ty := .long) (by decide +kernel) rfl rfl (Nat.le_of_ble_eq_true rfl) dX12_goThrough_16 (fun H locs en_210 hen_210 hh => ?_)
  have m6_210 : en_210 6 = .inl (cy 1, 117, .inr (.inl g6)) := by rw [hen_210, va_up_ne _ _ (by decide)]; exact m6_209
  have m7_210 : en_210 7 = .inl (cy 0, 13, .inl g7) := by rw [hen_210, va_up_ne _ _ (by decide)]; exact m7_209
  have mz_210 : en_210 0 = .inr (11, [.int m_fault, .int m_history, .int 2, .int m_modulus, .int 0, .ref (ad 1), .ref (ad 2), .ref (ad 3), .ref (ad 4), .ref (ad 5), .ref (ad 6), .ref (ad 7), .ref (ad 8), .ref (ad 9), .int m_depth, .long 0, .long (-9223372036854775808), .long (-9223372036854775808), .long m_noughts, .ref (ad 10), .ref (ad 11), .ref (ad 12), .int m_ringMany, .long m_ringBest, .ref (ad 13), .int m_products, .ref (ad 14), .ref (ad 15), .ref (ad 16), .ref (ad 17), .int m_words, .ref (ad 18), .ref (ad 19)]) := by rw [hen_210]; exact va_up_self _ _ _
  refine lv_aload_n hx hb dX12_goThrough_19 rfl (lv_at hl 0 rfl) ?_
  refine lv_lconst (v := 0) hx hb dX12_goThrough_20 (by decide) ?_
  refine hp_put hx hb hts ix12 tyX12 tyX12_ok nmX12 hown hK hh (q := 0) rfl (hcs _ (by decide)) mz_210 rfl 18 (by decide) (hts _ tw_897) (fun _ h9 => h9) rfl (ty := .long) (by decide +kernel) rfl rfl (Nat.le_of_ble_eq_true rfl) dX12_goThrough_21 (fun H locs en_211 hen_211 hh => ?_)
  have m6_211 : en_211 6 = .inl (cy 1, 117, .inr (.inl g6)) := by rw [hen_211, va_up_ne _ _ (by decide)]; exact m6_210
  have m7_211 : en_211 7 = .inl (cy 0, 13, .inl g7) := by rw [hen_211, va_up_ne _ _ (by decide)]; exact m7_210
  have mz_211 : en_211 0 = .inr (11, [.int m_fault, .int m_history, .int 2, .int m_modulus, .int 0, .ref (ad 1), .ref (ad 2), .ref (ad 3), .ref (ad 4), .ref (ad 5), .ref (ad 6), .ref (ad 7), .ref (ad 8), .ref (ad 9), .int m_depth, .long 0, .long (-9223372036854775808), .long (-9223372036854775808), .long 0, .ref (ad 10), .ref (ad 11), .ref (ad 12), .int m_ringMany, .long m_ringBest, .ref (ad 13), .int m_products, .ref (ad 14), .ref (ad 15), .ref (ad 16), .ref (ad 17), .int m_words, .ref (ad 18), .ref (ad 19)]) := by rw [hen_211]; exact va_up_self _ _ _
  refine lv_aload_n hx hb dX12_goThrough_24 rfl (lv_at hl 0 rfl) ?_
  refine hp_callMv (va_runV (As := []) (rest := []) ⟨hx, hb, hml, hown, hts⟩ (c_X12_beginWords l D cy _ cs ad en_211 hcs m_fault m_history m_modulus m_depth 0 (-9223372036854775808) (-9223372036854775808) 0 m_ringMany m_ringBest m_products m_words g6 g7 mz_211 m6_211 m7_211 ) (kw_X12_beginWords hts tw_1038 ⟨by decide, by decide⟩) (preV_of hh hK (hcs _ (by decide)) mz_211 rfl) rfl rfl hl.1 rfl (lv_room (Nat.le_of_ble_eq_true rfl)) dX12_goThrough_25 ⟨Nat.le_of_ble_eq_true rfl, Nat.le_of_ble_eq_true rfl⟩) hh hA (fun H locs en_212 hw_212 hh => ?_)
  obtain ⟨mz_212, ⟨g_212, m6_212⟩, ⟨h_212, m7_212, hk_212⟩, hu_212⟩ := hw_212
  refine lv_aload_n hx hb dX12_goThrough_28 rfl (lv_at hl 0 rfl) ?_
  refine lv_iload_n hx hb dX12_goThrough_29 rfl (lv_at hl 1 rfl) ?_
  refine hp_callMi (va_runV (As := [.int n]) (rest := []) ⟨hx, hb, hml, hown, hts⟩ (c_X12_next l D cy _ cs ad en_212 hcs m_fault m_history m_modulus 0 (-9223372036854775808) (-9223372036854775808) 0 m_ringMany m_ringBest m_products m_words h_212 hk_212 n hn mz_212 m7_212) (kw_X12_next hts tw_1046 ⟨by decide, by decide⟩) (preV_of hh hK (hcs _ (by decide)) mz_212 rfl) rfl rfl hl.1 rfl (lv_room (Nat.le_of_ble_eq_true rfl)) dX12_goThrough_30 ⟨Nat.le_of_ble_eq_true rfl, Nat.le_of_ble_eq_true rfl⟩) hh hA (fun r_213 H locs en_213 hw_213 hh => ?_)
  obtain ⟨rfl, mz_213, ⟨h_213, m7_213⟩, hu_213⟩ := hw_213
  have m6_213 : en_213 6 = .inl (cy 1, 117, .inr (.inl g_212)) := by rw [hu_213 _ (by decide) (by decide)]; exact m6_212
  refine lv_if_eq (tgt := 179) hx hb dX12_goThrough_33 (by decide) (fun _ => ?_) (fun c_0 => absurd c_0 (by decide))
  exact hp_vretM hx hb hr hlocks hh (mz_213) dX12_goThrough_179
theorem kw_X12_goThrough {R : Room} {s : State} {args : Array Value} {own : String} {idx : Nat} (hts : ∀ w ∈ TB, w.before args s = true) (hl : Cond.methodLink own idx yX12_goThrough ∈ TB) (hR : 2 + 1 ≤ R.frames ∧ 8 + (5 + 11) + 40 * 2 ≤ R.locals) : CallW R s args own RX12 idx yX12_goThrough cX12_goThrough 5 none (Cond.code yX12_goThrough cX12_goThrough 5 none :: TB) (rmN 2) 0 0 1 := cwV 1 hts (TB_V hl tw_1036 ts_37 tw_9 tw_1037) rfl rfl rfl (by decide +kernel) hR
set_option maxHeartbeats 4000000 in
set_option maxRecDepth 100000 in
/-- findRings, no TABLES -/
theorem c_X12_findRings (l : Launch) (D : va_G) (cy : Nat → ClassId) (sz : Nat) (cs : List Nat) (ad : Nat → Nat) (en : Nat → va_E) (hcs : ∀ c, c < 20 → c ∈ cs) (m_fault : Int32) (m_history : Int32) (m_modulus : Int32) (m_depth : Int32) (m_many : Int64) (m_greatest : Int64) (m_least : Int64) (m_noughts : Int64) (m_ringMany : Int32) (m_ringBest : Int64) (m_products : Int32) (m_words : Int32) (g6 : Nat → Int64) (g7 : Nat → Int32) (n : Int32) (hn : wi n 1 8) (mz : en 0 = .inr (11, [.int m_fault, .int m_history, .int 2, .int m_modulus, .int 0, .ref (ad 1), .ref (ad 2), .ref (ad 3), .ref (ad 4), .ref (ad 5), .ref (ad 6), .ref (ad 7), .ref (ad 8), .ref (ad 9), .int m_depth, .long m_many, .long m_greatest, .long m_least, .long m_noughts, .ref (ad 10), .ref (ad 11), .ref (ad 12), .int m_ringMany, .long m_ringBest, .ref (ad 13), .int m_products, .ref (ad 14), .ref (ad 15), .ref (ad 16), .ref (ad 17), .int m_words, .ref (ad 18), .ref (ad 19)])) (m6 : en 6 = .inl (cy 1, 117, .inr (.inl g6))) (m7 : en 7 = .inl (cy 0, 13, .inl g7))  : Met l yX12_findRings (Cond.code yX12_findRings cX12_findRings 3 none :: TB) (rmN 2) (va_Pc [.ref (ad 0), .int n] (Pre D cy cs ad en sz)) (va_Qv (S := Nat → va_E) (fun en1 => en1 0 = .inr (11, [.int m_fault, .int m_history, .int 2, .int m_modulus, .int 0, .ref (ad 1), .ref (ad 2), .ref (ad 3), .ref (ad 4), .ref (ad 5), .ref (ad 6), .ref (ad 7), .ref (ad 8), .ref (ad 9), .int (-1), .long m_many, .long m_greatest, .long m_least, .long m_noughts, .ref (ad 10), .ref (ad 11), .ref (ad 12), .int 0, .long 0, .ref (ad 13), .int m_products, .ref (ad 14), .ref (ad 15), .ref (ad 16), .ref (ad 17), .int m_words, .ref (ad 18), .ref (ad 19)])) (PostM D cs ad) (Af cs ad sz)) 0 0 (Af cs ad sz) := by
  refine Met.ofW (cc := cX12_findRings) (maxL := 3) (ret := none) (by decide) rfl ?_
  intro p e s m args below meth c s₁ B hml hv
  obtain ⟨rfl, hsz, hP, hK, hD0⟩ := hv
  have hx := B.exec
  have hb := B.bytes
  have hr := B.returns
  have hts : ∀ w ∈ TB, w.before _ s = true := fun w h => atoms_spec (ws := _ :: TB) B.pre w (List.mem_cons_of_mem _ h)
  have hown : s.vm.findClass RX12 = some m.cls := findClass_of_methodNamed B.named
  have hlocks := B.notSynchronized
  have hh : Hp D (Af cs ad sz) (Af cs ad sz) s.heap s.heap [] cs ad en := ⟨hP, Af_self hD0, va_S.rf⟩
  have hA : ∀ q : Nat, s.heap.size ≤ q → Af cs ad sz q := fun q h => Or.inr (by rw [hsz] at h; exact h)
  have hl := lv_entry ([.ref (ad 0), .int n]) (n := 3) (Nat.le_of_ble_eq_true rfl)
  rw [lg_entry_eq]
  generalize (lg_sl ([.ref (ad 0), .int n]) ++ List.replicate (3 - (lg_sl ([.ref (ad 0), .int n])).length) Slot.unset).toArray = ls at hl ⊢
  have hl : lv_has ls 3 [(0, .ref (ad 0)), (1, .int n)] := hl
  refine lv_aload_n hx hb dX12_findRings_0 rfl (lv_at hl 0 rfl) ?_
  refine lv_iconst (v := 0) hx hb dX12_findRings_1 (by decide) ?_
  refine hp_put hx hb hts ix12 tyX12 tyX12_ok nmX12 hown hK hh (q := 0) rfl (hcs _ (by decide)) mz rfl 22 (by decide) (hts _ tw_901) (fun _ h9 => h9) rfl (ty := .int) (by decide +kernel) rfl rfl (Nat.le_of_ble_eq_true rfl) dX12_findRings_2 (fun H locs en_214 hen_214 hh => ?_)
  have m6_214 : en_214 6 = .inl (cy 1, 117, .inr (.inl g6)) := by rw [hen_214, va_up_ne _ _ (by decide)]; exact m6
  have m7_214 : en_214 7 = .inl (cy 0, 13, .inl g7) := by rw [hen_214, va_up_ne _ _ (by decide)]; exact m7
  have mz_214 : en_214 0 = .inr (11, [.int m_fault, .int m_history, .int 2, .int m_modulus, .int 0, .ref (ad 1), .ref (ad 2), .ref (ad 3), .ref (ad 4), .ref (ad 5), .ref (ad 6), .ref (ad 7), .ref (ad 8), .ref (ad 9), .int m_depth, .long m_many, .long m_greatest, .long m_least, .long m_noughts, .ref (ad 10), .ref (ad 11), .ref (ad 12), .int 0, .long m_ringBest, .ref (ad 13), .int m_products, .ref (ad 14), .ref (ad 15), .ref (ad 16), .ref (ad 17), .int m_words, .ref (ad 18), .ref (ad 19)]) := by rw [hen_214]; exact va_up_self _ _ _
  refine lv_aload_n hx hb dX12_findRings_5 rfl (lv_at hl 0 rfl) ?_
  refine lv_lconst (v := 0) hx hb dX12_findRings_6 (by decide) ?_
  refine hp_put hx hb hts ix12 tyX12 tyX12_ok nmX12 hown hK hh (q := 0) rfl (hcs _ (by decide)) mz_214 rfl 23 (by decide) (hts _ tw_902) (fun _ h9 => h9) rfl (ty := .long) (by decide +kernel) rfl rfl (Nat.le_of_ble_eq_true rfl) dX12_findRings_7 (fun H locs en_215 hen_215 hh => ?_)
  have m6_215 : en_215 6 = .inl (cy 1, 117, .inr (.inl g6)) := by rw [hen_215, va_up_ne _ _ (by decide)]; exact m6_214
  have m7_215 : en_215 7 = .inl (cy 0, 13, .inl g7) := by rw [hen_215, va_up_ne _ _ (by decide)]; exact m7_214
  have mz_215 : en_215 0 = .inr (11, [.int m_fault, .int m_history, .int 2, .int m_modulus, .int 0, .ref (ad 1), .ref (ad 2), .ref (ad 3), .ref (ad 4), .ref (ad 5), .ref (ad 6), .ref (ad 7), .ref (ad 8), .ref (ad 9), .int m_depth, .long m_many, .long m_greatest, .long m_least, .long m_noughts, .ref (ad 10), .ref (ad 11), .ref (ad 12), .int 0, .long 0, .ref (ad 13), .int m_products, .ref (ad 14), .ref (ad 15), .ref (ad 16), .ref (ad 17), .int m_words, .ref (ad 18), .ref (ad 19)]) := by rw [hen_215]; exact va_up_self _ _ _
  refine lv_aload_n hx hb dX12_findRings_10 rfl (lv_at hl 0 rfl) ?_
  refine hp_callMv (va_runV (As := []) (rest := []) ⟨hx, hb, hml, hown, hts⟩ (c_X12_beginWords l D cy _ cs ad en_215 hcs m_fault m_history m_modulus m_depth m_many m_greatest m_least m_noughts 0 0 m_products m_words g6 g7 mz_215 m6_215 m7_215 ) (kw_X12_beginWords hts tw_1038 ⟨by decide, by decide⟩) (preV_of hh hK (hcs _ (by decide)) mz_215 rfl) rfl rfl hl.1 rfl (lv_room (Nat.le_of_ble_eq_true rfl)) dX12_findRings_11 ⟨Nat.le_of_ble_eq_true rfl, Nat.le_of_ble_eq_true rfl⟩) hh hA (fun H locs en_216 hw_216 hh => ?_)
  obtain ⟨mz_216, ⟨g_216, m6_216⟩, ⟨h_216, m7_216, hk_216⟩, hu_216⟩ := hw_216
  refine lv_aload_n hx hb dX12_findRings_14 rfl (lv_at hl 0 rfl) ?_
  refine lv_iload_n hx hb dX12_findRings_15 rfl (lv_at hl 1 rfl) ?_
  refine hp_callMi (va_runV (As := [.int n]) (rest := []) ⟨hx, hb, hml, hown, hts⟩ (c_X12_next l D cy _ cs ad en_216 hcs m_fault m_history m_modulus m_many m_greatest m_least m_noughts 0 0 m_products m_words h_216 hk_216 n hn mz_216 m7_216) (kw_X12_next hts tw_1046 ⟨by decide, by decide⟩) (preV_of hh hK (hcs _ (by decide)) mz_216 rfl) rfl rfl hl.1 rfl (lv_room (Nat.le_of_ble_eq_true rfl)) dX12_findRings_16 ⟨Nat.le_of_ble_eq_true rfl, Nat.le_of_ble_eq_true rfl⟩) hh hA (fun r_217 H locs en_217 hw_217 hh => ?_)
  obtain ⟨rfl, mz_217, ⟨h_217, m7_217⟩, hu_217⟩ := hw_217
  have m6_217 : en_217 6 = .inl (cy 1, 117, .inr (.inl g_216)) := by rw [hu_217 _ (by decide) (by decide)]; exact m6_216
  refine lv_if_eq (tgt := 131) hx hb dX12_findRings_19 (by decide) (fun _ => ?_) (fun c_0 => absurd c_0 (by decide))
  exact hp_vretM hx hb hr hlocks hh (mz_217) dX12_findRings_131
theorem kw_X12_findRings {R : Room} {s : State} {args : Array Value} {own : String} {idx : Nat} (hts : ∀ w ∈ TB, w.before args s = true) (hl : Cond.methodLink own idx yX12_findRings ∈ TB) (hR : 2 + 1 ≤ R.frames ∧ 8 + (3 + 11) + 40 * 2 ≤ R.locals) : CallW R s args own RX12 idx yX12_findRings cX12_findRings 3 none (Cond.code yX12_findRings cX12_findRings 3 none :: TB) (rmN 2) 0 0 1 := cwV 1 hts (TB_V hl tw_1075 ts_44 tw_9 tw_1076) rfl rfl rfl (by decide +kernel) hR
set_option maxHeartbeats 4000000 in
set_option maxRecDepth 100000 in
/-- length, new object -/
theorem c_X12_length (l : Launch) (D : va_G) (cy : Nat → ClassId) (sz : Nat) (cs : List Nat) (ad : Nat → Nat) (en : Nat → va_E) (hcs : ∀ c, c < 20 → c ∈ cs) (g6 : Nat → Int64) (g7 : Nat → Int32) (n w : Int32) (mz : en 0 = .inr (11, [.int 0, .int 0, .int 2, .int 0, .int 0, .ref (ad 1), .ref (ad 2), .ref (ad 3), .ref (ad 4), .ref (ad 5), .ref (ad 6), .ref (ad 7), .ref (ad 8), .ref (ad 9), .int 0, .long 0, .long 0, .long 0, .long 0, .ref (ad 10), .ref (ad 11), .ref (ad 12), .int 0, .long 0, .ref (ad 13), .int (-9), .ref (ad 14), .ref (ad 15), .ref (ad 16), .ref (ad 17), .int 0, .ref (ad 18), .ref (ad 19)])) (m6 : en 6 = .inl (cy 1, 117, .inr (.inl g6))) (m7 : en 7 = .inl (cy 0, 13, .inl g7))  : Met l yX12_length (Cond.code yX12_length cX12_length 3 (some .long) :: TB) (rmN 3) (va_Pc [.ref (ad 0), .int n, .int w] (Pre D cy cs ad en sz)) (va_Ql (S := Nat → va_E) (fun r _ => r = spLen n w) (PostM D cs ad) (Af cs ad sz)) 0 0 (Af cs ad sz) := by
  refine Met.ofW (cc := cX12_length) (maxL := 3) (ret := (some .long)) (by decide) rfl ?_
  intro p e s m args below meth c s₁ B hml hv
  obtain ⟨rfl, hsz, hP, hK, hD0⟩ := hv
  have hx := B.exec
  have hb := B.bytes
  have hr := B.returns
  have hts : ∀ w ∈ TB, w.before _ s = true := fun w h => atoms_spec (ws := _ :: TB) B.pre w (List.mem_cons_of_mem _ h)
  have hown : s.vm.findClass RX12 = some m.cls := findClass_of_methodNamed B.named
  have hlocks := B.notSynchronized
  have hh : Hp D (Af cs ad sz) (Af cs ad sz) s.heap s.heap [] cs ad en := ⟨hP, Af_self hD0, va_S.rf⟩
  have hA : ∀ q : Nat, s.heap.size ≤ q → Af cs ad sz q := fun q h => Or.inr (by rw [hsz] at h; exact h)
  have hl := lv_entry ([.ref (ad 0), .int n, .int w]) (n := 3) (Nat.le_of_ble_eq_true rfl)
  rw [lg_entry_eq]
  generalize (lg_sl ([.ref (ad 0), .int n, .int w]) ++ List.replicate (3 - (lg_sl ([.ref (ad 0), .int n, .int w])).length) Slot.unset).toArray = ls at hl ⊢
  have hl : lv_has ls 3 [(0, .ref (ad 0)), (1, .int n), (2, .int w)] := hl
  refine lv_iload_n hx hb dX12_length_0 rfl (lv_at hl 1 rfl) ?_
  refine lv_i2l hx hb dX12_length_1 rfl ?_
  refine lv_lconst (v := 1) hx hb dX12_length_2 (by decide) ?_
  refine lv_ldc2 hx hb hown (hts _ tw_1024) dX12_length_3 ?_
  refine hp_callRi (va_runS (As := [.long n.toInt64, .long 1, .long 8]) (rest := []) ⟨hx, hb, hml, hown, hts⟩ (c_X12_within l D cy _ cs ad en n.toInt64 1 8 ) (kw_X12_within hts tw_985 ⟨by decide, by decide⟩) (preS_of hh hK) rfl rfl hl.1 rfl (lv_room (Nat.le_of_ble_eq_true rfl)) dX12_length_6 ⟨Nat.le_of_ble_eq_true rfl, Nat.le_of_ble_eq_true rfl⟩) hh hA (fun r_218 H locs hw_218 hh => ?_)
  rcases Decidable.em (wi n 1 8) with hp_218 | hp_218
  · obtain rfl : r_218 = 1 := Eq.trans hw_218 (if_pos ((wj_32 (by decide) (by decide)).mpr hp_218))
    refine lv_if_eq (tgt := 32) hx hb dX12_length_9 (by decide) (fun c_0 => absurd c_0 (by decide)) (fun _ => ?_)
    refine lv_iload_n hx hb dX12_length_12 rfl (lv_at hl 2 rfl) ?_
    refine lv_i2l hx hb dX12_length_13 rfl ?_
    refine lv_lconst (v := 0) hx hb dX12_length_14 (by decide) ?_
    refine lv_ldc2 hx hb hown (hts _ tw_984) dX12_length_15 ?_
    refine hp_callRi (va_runS (As := [.long w.toInt64, .long 0, .long 3]) (rest := []) ⟨hx, hb, hml, hown, hts⟩ (c_X12_within l D cy _ cs ad en w.toInt64 0 3 ) (kw_X12_within hts tw_985 ⟨by decide, by decide⟩) (preS_of hh hK) rfl rfl hl.1 rfl (lv_room (Nat.le_of_ble_eq_true rfl)) dX12_length_18 ⟨Nat.le_of_ble_eq_true rfl, Nat.le_of_ble_eq_true rfl⟩) hh hA (fun r_219 H locs hw_219 hh => ?_)
    rcases Decidable.em (wi w 0 3) with hp_219 | hp_219
    · obtain rfl : r_219 = 1 := Eq.trans hw_219 (if_pos ((wj_32 (by decide) (by decide)).mpr hp_219))
      refine lv_if_eq (tgt := 32) hx hb dX12_length_21 (by decide) (fun c_0 => absurd c_0 (by decide)) (fun _ => ?_)
      refine lv_aload_n hx hb dX12_length_24 rfl (lv_at hl 0 rfl) ?_
      refine lv_iload_n hx hb dX12_length_25 rfl (lv_at hl 1 rfl) ?_
      refine hp_callRi (va_runV (As := [.int n]) (rest := []) ⟨hx, hb, hml, hown, hts⟩ (c_X12_isSpent l D cy _ cs ad en hcs 0 0 0 0 0 0 0 0 0 0 (-9) 0 n hp_218 mz) (kw_X12_isSpent hts tw_1025 ⟨by decide, by decide⟩) (preV_of hh hK (hcs _ (by decide)) mz rfl) rfl rfl hl.1 rfl (lv_room (Nat.le_of_ble_eq_true rfl)) dX12_length_26 ⟨Nat.le_of_ble_eq_true rfl, Nat.le_of_ble_eq_true rfl⟩) hh hA (fun r_220 H locs hw_220 hh => ?_)
      obtain rfl : r_220 = 0 := hw_220
      refine lv_if_eq (tgt := 36) hx hb dX12_length_29 (by decide) (fun _ => ?_) (fun c_0 => absurd c_0 (by decide))
      refine lv_aload_n hx hb dX12_length_36 rfl (lv_at hl 0 rfl) ?_
      refine lv_iload_n hx hb dX12_length_37 rfl (lv_at hl 1 rfl) ?_
      refine hp_callMv (va_runV (As := [.int n]) (rest := []) ⟨hx, hb, hml, hown, hts⟩ (c_X12_goThrough l D cy _ cs ad en hcs 0 0 0 0 0 0 0 0 0 0 (-9) 0 g6 g7 n hp_218 mz m6 m7) (kw_X12_goThrough hts tw_1034 ⟨by decide, by decide⟩) (preV_of hh hK (hcs _ (by decide)) mz rfl) rfl rfl hl.1 rfl (lv_room (Nat.le_of_ble_eq_true rfl)) dX12_length_38 ⟨Nat.le_of_ble_eq_true rfl, Nat.le_of_ble_eq_true rfl⟩) hh hA (fun H locs en_221 hw_221 hh => ?_)
      have mz_221 : en_221 0 = .inr (11, [.int 0, .int 0, .int 2, .int 0, .int 0, .ref (ad 1), .ref (ad 2), .ref (ad 3), .ref (ad 4), .ref (ad 5), .ref (ad 6), .ref (ad 7), .ref (ad 8), .ref (ad 9), .int (-1), .long 0, .long (-9223372036854775808), .long (-9223372036854775808), .long 0, .ref (ad 10), .ref (ad 11), .ref (ad 12), .int 0, .long 0, .ref (ad 13), .int (-9), .ref (ad 14), .ref (ad 15), .ref (ad 16), .ref (ad 17), .int 0, .ref (ad 18), .ref (ad 19)]) := hw_221
      refine lv_iload_n hx hb dX12_length_41 rfl (lv_at hl 2 rfl) ?_
      refine lv_if_ne (tgt := 52) hx hb dX12_length_42 (by decide) (fun c_222 => ?_) (fun c_222 => ?_)
      · refine lv_iload_n hx hb dX12_length_52 rfl (lv_at hl 2 rfl) ?_
        refine lv_iconst (v := 1) hx hb dX12_length_53 (by decide) ?_
        refine lv_icmp_ne (tgt := 64) hx hb dX12_length_54 (by decide) (fun c_223 => ?_) (fun c_223 => ?_)
        · refine lv_iload_n hx hb dX12_length_64 rfl (lv_at hl 2 rfl) ?_
          refine lv_iconst (v := 2) hx hb dX12_length_65 (by decide) ?_
          refine lv_icmp_ne (tgt := 76) hx hb dX12_length_66 (by decide) (fun c_224 => ?_) (fun c_224 => ?_)
          · refine lv_aload_n hx hb dX12_length_76 rfl (lv_at hl 0 rfl) ?_
            refine hp_get hx hb hts ix12 hown hK hh (q := 0) rfl (hcs _ (by decide)) mz_221 rfl 18 (by decide) (hts _ tw_897) (fun _ h9 => h9) rfl dX12_length_77 ?_
            exact hp_lretM hx hb hr hlocks hh ((if_pos ⟨hp_218, hp_219, Or.inr (w_3 hp_219 c_222 c_223 c_224)⟩).symm) dX12_length_80
          · refine lv_aload_n hx hb dX12_length_69 rfl (lv_at hl 0 rfl) ?_
            refine hp_get hx hb hts ix12 hown hK hh (q := 0) rfl (hcs _ (by decide)) mz_221 rfl 17 (by decide) (hts _ tw_896) (fun _ h9 => h9) rfl dX12_length_70 ?_
            refine lv_goto (tgt := 80) hx hb dX12_length_73 (by decide) ?_
            exact hp_lretM hx hb hr hlocks hh ((if_neg (fun h => by rw [c_224] at h; exact absurd h.2.2 (by decide))).symm) dX12_length_80
        · refine lv_aload_n hx hb dX12_length_57 rfl (lv_at hl 0 rfl) ?_
          refine hp_get hx hb hts ix12 hown hK hh (q := 0) rfl (hcs _ (by decide)) mz_221 rfl 16 (by decide) (hts _ tw_895) (fun _ h9 => h9) rfl dX12_length_58 ?_
          refine lv_goto (tgt := 80) hx hb dX12_length_61 (by decide) ?_
          exact hp_lretM hx hb hr hlocks hh ((if_neg (fun h => by rw [c_223] at h; exact absurd h.2.2 (by decide))).symm) dX12_length_80
      · refine lv_aload_n hx hb dX12_length_45 rfl (lv_at hl 0 rfl) ?_
        refine hp_get hx hb hts ix12 hown hK hh (q := 0) rfl (hcs _ (by decide)) mz_221 rfl 15 (by decide) (hts _ tw_894) (fun _ h9 => h9) rfl dX12_length_46 ?_
        refine lv_goto (tgt := 80) hx hb dX12_length_49 (by decide) ?_
        exact hp_lretM hx hb hr hlocks hh ((if_pos ⟨hp_218, hp_219, Or.inl c_222⟩).symm) dX12_length_80
    · obtain rfl : r_219 = 0 := Eq.trans hw_219 (if_neg (fun q => hp_219 ((wj_32 (by decide) (by decide)).mp q)))
      refine lv_if_eq (tgt := 32) hx hb dX12_length_21 (by decide) (fun _ => ?_) (fun c_0 => absurd c_0 (by decide))
      refine lv_ldc2 hx hb hown (hts _ tw_1015) dX12_length_32 ?_
      exact hp_lretM hx hb hr hlocks hh ((if_neg (fun h => hp_219 h.2.1)).symm) dX12_length_35
  · obtain rfl : r_218 = 0 := Eq.trans hw_218 (if_neg (fun q => hp_218 ((wj_32 (by decide) (by decide)).mp q)))
    refine lv_if_eq (tgt := 32) hx hb dX12_length_9 (by decide) (fun _ => ?_) (fun c_0 => absurd c_0 (by decide))
    refine lv_ldc2 hx hb hown (hts _ tw_1015) dX12_length_32 ?_
    exact hp_lretM hx hb hr hlocks hh ((if_neg (fun h => hp_218 h.1)).symm) dX12_length_35
theorem kw_X12_length {R : Room} {s : State} {args : Array Value} {own : String} {idx : Nat} (hts : ∀ w ∈ TB, w.before args s = true) (hl : Cond.methodLink own idx yX12_length ∈ TB) (hR : 3 + 1 ≤ R.frames ∧ 8 + (3 + 11) + 40 * 3 ≤ R.locals) : CallW R s args own RX12 idx yX12_length cX12_length 3 (some .long) (Cond.code yX12_length cX12_length 3 (some .long) :: TB) (rmN 3) 0 0 2 := cwV 2 hts (TB_V hl tw_1021 tw_1022 tw_9 tw_1023) rfl rfl rfl (by decide +kernel) hR
set_option maxHeartbeats 4000000 in
set_option maxRecDepth 100000 in
/-- extreme, new object -/
theorem c_X12_extreme (l : Launch) (D : va_G) (cy : Nat → ClassId) (sz : Nat) (cs : List Nat) (ad : Nat → Nat) (en : Nat → va_E) (hcs : ∀ c, c < 20 → c ∈ cs) (g6 : Nat → Int64) (g7 : Nat → Int32) (n z i : Int32) (mz : en 0 = .inr (11, [.int 0, .int 0, .int 2, .int 0, .int 0, .ref (ad 1), .ref (ad 2), .ref (ad 3), .ref (ad 4), .ref (ad 5), .ref (ad 6), .ref (ad 7), .ref (ad 8), .ref (ad 9), .int 0, .long 0, .long 0, .long 0, .long 0, .ref (ad 10), .ref (ad 11), .ref (ad 12), .int 0, .long 0, .ref (ad 13), .int (-9), .ref (ad 14), .ref (ad 15), .ref (ad 16), .ref (ad 17), .int 0, .ref (ad 18), .ref (ad 19)])) (m6 : en 6 = .inl (cy 1, 117, .inr (.inl g6))) (m7 : en 7 = .inl (cy 0, 13, .inl g7))  : Met l yX12_extreme (Cond.code yX12_extreme cX12_extreme 4 (some .int) :: TB) (rmN 3) (va_Pc [.ref (ad 0), .int n, .int z, .int i] (Pre D cy cs ad en sz)) (va_Qi (S := Nat → va_E) (fun r _ => r = spExt n z i) (PostM D cs ad) (Af cs ad sz)) 0 0 (Af cs ad sz) := by
  refine Met.ofW (cc := cX12_extreme) (maxL := 4) (ret := (some .int)) (by decide) rfl ?_
  intro p e s m args below meth c s₁ B hml hv
  obtain ⟨rfl, hsz, hP, hK, hD0⟩ := hv
  have hx := B.exec
  have hb := B.bytes
  have hr := B.returns
  have hts : ∀ w ∈ TB, w.before _ s = true := fun w h => atoms_spec (ws := _ :: TB) B.pre w (List.mem_cons_of_mem _ h)
  have hown : s.vm.findClass RX12 = some m.cls := findClass_of_methodNamed B.named
  have hlocks := B.notSynchronized
  have hh : Hp D (Af cs ad sz) (Af cs ad sz) s.heap s.heap [] cs ad en := ⟨hP, Af_self hD0, va_S.rf⟩
  have hA : ∀ q : Nat, s.heap.size ≤ q → Af cs ad sz q := fun q h => Or.inr (by rw [hsz] at h; exact h)
  have hl := lv_entry ([.ref (ad 0), .int n, .int z, .int i]) (n := 4) (Nat.le_of_ble_eq_true rfl)
  rw [lg_entry_eq]
  generalize (lg_sl ([.ref (ad 0), .int n, .int z, .int i]) ++ List.replicate (4 - (lg_sl ([.ref (ad 0), .int n, .int z, .int i])).length) Slot.unset).toArray = ls at hl ⊢
  have hl : lv_has ls 4 [(0, .ref (ad 0)), (1, .int n), (2, .int z), (3, .int i)] := hl
  refine lv_iload_n hx hb dX12_extreme_0 rfl (lv_at hl 1 rfl) ?_
  refine lv_i2l hx hb dX12_extreme_1 rfl ?_
  refine lv_lconst (v := 1) hx hb dX12_extreme_2 (by decide) ?_
  refine lv_ldc2 hx hb hown (hts _ tw_1024) dX12_extreme_3 ?_
  refine hp_callRi (va_runS (As := [.long n.toInt64, .long 1, .long 8]) (rest := []) ⟨hx, hb, hml, hown, hts⟩ (c_X12_within l D cy _ cs ad en n.toInt64 1 8 ) (kw_X12_within hts tw_985 ⟨by decide, by decide⟩) (preS_of hh hK) rfl rfl hl.1 rfl (lv_room (Nat.le_of_ble_eq_true rfl)) dX12_extreme_6 ⟨Nat.le_of_ble_eq_true rfl, Nat.le_of_ble_eq_true rfl⟩) hh hA (fun r_225 H locs hw_225 hh => ?_)
  rcases Decidable.em (wi n 1 8) with hp_225 | hp_225
  · obtain rfl : r_225 = 1 := Eq.trans hw_225 (if_pos ((wj_32 (by decide) (by decide)).mpr hp_225))
    refine lv_if_eq (tgt := 35) hx hb dX12_extreme_9 (by decide) (fun c_0 => absurd c_0 (by decide)) (fun _ => ?_)
    refine lv_iload_n hx hb dX12_extreme_12 rfl (lv_at hl 2 rfl) ?_
    refine lv_i2l hx hb dX12_extreme_13 rfl ?_
    refine lv_lconst (v := 0) hx hb dX12_extreme_14 (by decide) ?_
    refine lv_lconst (v := 1) hx hb dX12_extreme_15 (by decide) ?_
    refine hp_callRi (va_runS (As := [.long z.toInt64, .long 0, .long 1]) (rest := []) ⟨hx, hb, hml, hown, hts⟩ (c_X12_within l D cy _ cs ad en z.toInt64 0 1 ) (kw_X12_within hts tw_985 ⟨by decide, by decide⟩) (preS_of hh hK) rfl rfl hl.1 rfl (lv_room (Nat.le_of_ble_eq_true rfl)) dX12_extreme_16 ⟨Nat.le_of_ble_eq_true rfl, Nat.le_of_ble_eq_true rfl⟩) hh hA (fun r_226 H locs hw_226 hh => ?_)
    rcases Decidable.em (wi z 0 1) with hp_226 | hp_226
    · obtain rfl : r_226 = 1 := Eq.trans hw_226 (if_pos ((wj_32 (by decide) (by decide)).mpr hp_226))
      refine lv_if_eq (tgt := 35) hx hb dX12_extreme_19 (by decide) (fun c_0 => absurd c_0 (by decide)) (fun _ => ?_)
      refine lv_iload_n hx hb dX12_extreme_22 rfl (lv_at hl 3 rfl) ?_
      refine lv_i2l hx hb dX12_extreme_23 rfl ?_
      refine lv_lconst (v := 0) hx hb dX12_extreme_24 (by decide) ?_
      refine lv_iload_n hx hb dX12_extreme_25 rfl (lv_at hl 1 rfl) ?_
      refine lv_i2l hx hb dX12_extreme_26 rfl ?_
      refine lv_lconst (v := 1) hx hb dX12_extreme_27 (by decide) ?_
      refine lv_lsub hx hb dX12_extreme_28 ?_
      refine hp_callRi (va_runS (As := [.long i.toInt64, .long 0, .long (n.toInt64 - 1)]) (rest := []) ⟨hx, hb, hml, hown, hts⟩ (c_X12_within l D cy _ cs ad en i.toInt64 0 (n.toInt64 - 1) ) (kw_X12_within hts tw_985 ⟨by decide, by decide⟩) (preS_of hh hK) rfl rfl hl.1 rfl (lv_room (Nat.le_of_ble_eq_true rfl)) dX12_extreme_29 ⟨Nat.le_of_ble_eq_true rfl, Nat.le_of_ble_eq_true rfl⟩) hh hA (fun r_227 H locs hw_227 hh => ?_)
      rcases Decidable.em (wi i 0 (n - 1)) with hp_227 | hp_227
      · obtain rfl : r_227 = 1 := Eq.trans hw_227 (if_pos ((wj_n1 hp_225).mpr hp_227))
        refine lv_if_ne (tgt := 38) hx hb dX12_extreme_32 (by decide) (fun _ => ?_) (fun c_0 => absurd c_0 (by decide))
        refine lv_aload_n hx hb dX12_extreme_38 rfl (lv_at hl 0 rfl) ?_
        refine lv_iload_n hx hb dX12_extreme_39 rfl (lv_at hl 1 rfl) ?_
        refine hp_callRi (va_runV (As := [.int n]) (rest := []) ⟨hx, hb, hml, hown, hts⟩ (c_X12_isSpent l D cy _ cs ad en hcs 0 0 0 0 0 0 0 0 0 0 (-9) 0 n hp_225 mz) (kw_X12_isSpent hts tw_1025 ⟨by decide, by decide⟩) (preV_of hh hK (hcs _ (by decide)) mz rfl) rfl rfl hl.1 rfl (lv_room (Nat.le_of_ble_eq_true rfl)) dX12_extreme_40 ⟨Nat.le_of_ble_eq_true rfl, Nat.le_of_ble_eq_true rfl⟩) hh hA (fun r_228 H locs hw_228 hh => ?_)
        obtain rfl : r_228 = 0 := hw_228
        refine lv_if_eq (tgt := 49) hx hb dX12_extreme_43 (by decide) (fun _ => ?_) (fun c_0 => absurd c_0 (by decide))
        refine lv_aload_n hx hb dX12_extreme_49 rfl (lv_at hl 0 rfl) ?_
        refine lv_iload_n hx hb dX12_extreme_50 rfl (lv_at hl 1 rfl) ?_
        refine hp_callMv (va_runV (As := [.int n]) (rest := []) ⟨hx, hb, hml, hown, hts⟩ (c_X12_goThrough l D cy _ cs ad en hcs 0 0 0 0 0 0 0 0 0 0 (-9) 0 g6 g7 n hp_225 mz m6 m7) (kw_X12_goThrough hts tw_1034 ⟨by decide, by decide⟩) (preV_of hh hK (hcs _ (by decide)) mz rfl) rfl rfl hl.1 rfl (lv_room (Nat.le_of_ble_eq_true rfl)) dX12_extreme_51 ⟨Nat.le_of_ble_eq_true rfl, Nat.le_of_ble_eq_true rfl⟩) hh hA (fun H locs en_229 hw_229 hh => ?_)
        have mz_229 : en_229 0 = .inr (11, [.int 0, .int 0, .int 2, .int 0, .int 0, .ref (ad 1), .ref (ad 2), .ref (ad 3), .ref (ad 4), .ref (ad 5), .ref (ad 6), .ref (ad 7), .ref (ad 8), .ref (ad 9), .int (-1), .long 0, .long (-9223372036854775808), .long (-9223372036854775808), .long 0, .ref (ad 10), .ref (ad 11), .ref (ad 12), .int 0, .long 0, .ref (ad 13), .int (-9), .ref (ad 14), .ref (ad 15), .ref (ad 16), .ref (ad 17), .int 0, .ref (ad 18), .ref (ad 19)]) := hw_229
        refine lv_aload_n hx hb dX12_extreme_54 rfl (lv_at hl 0 rfl) ?_
        refine hp_get hx hb hts ix12 hown hK hh (q := 0) rfl (hcs _ (by decide)) mz_229 rfl 15 (by decide) (hts _ tw_894) (fun _ h9 => h9) rfl dX12_extreme_55 ?_
        refine lv_lconst (v := 0) hx hb dX12_extreme_58 (by decide) ?_
        refine W.lcmp hx hb dX12_extreme_59 ?_
        rw [show lg_cmp 0 0 = 0 by decide]
        refine lv_if_ne (tgt := 68) hx hb dX12_extreme_60 (by decide) (fun c_0 => absurd c_0 (by decide)) (fun _ => ?_)
        refine lv_bipush (v := (-9)) hx hb dX12_extreme_63 (by decide) ?_
        refine lv_goto (tgt := 87) hx hb dX12_extreme_65 (by decide) ?_
        exact hp_iretM hx hb hr rfl hlocks hh ((if_pos ⟨hp_225, hp_226, hp_227⟩).symm) dX12_extreme_87
      · obtain rfl : r_227 = 0 := Eq.trans hw_227 (if_neg (fun q => hp_227 ((wj_n1 hp_225).mp q)))
        refine lv_if_ne (tgt := 38) hx hb dX12_extreme_32 (by decide) (fun c_0 => absurd c_0 (by decide)) (fun _ => ?_)
        refine lv_bipush (v := (-2)) hx hb dX12_extreme_35 (by decide) ?_
        exact hp_iretM hx hb hr rfl hlocks hh ((if_neg (fun h => hp_227 h.2.2)).symm) dX12_extreme_37
    · obtain rfl : r_226 = 0 := Eq.trans hw_226 (if_neg (fun q => hp_226 ((wj_32 (by decide) (by decide)).mp q)))
      refine lv_if_eq (tgt := 35) hx hb dX12_extreme_19 (by decide) (fun _ => ?_) (fun c_0 => absurd c_0 (by decide))
      refine lv_bipush (v := (-2)) hx hb dX12_extreme_35 (by decide) ?_
      exact hp_iretM hx hb hr rfl hlocks hh ((if_neg (fun h => hp_226 h.2.1)).symm) dX12_extreme_37
  · obtain rfl : r_225 = 0 := Eq.trans hw_225 (if_neg (fun q => hp_225 ((wj_32 (by decide) (by decide)).mp q)))
    refine lv_if_eq (tgt := 35) hx hb dX12_extreme_9 (by decide) (fun _ => ?_) (fun c_0 => absurd c_0 (by decide))
    refine lv_bipush (v := (-2)) hx hb dX12_extreme_35 (by decide) ?_
    exact hp_iretM hx hb hr rfl hlocks hh ((if_neg (fun h => hp_225 h.1)).symm) dX12_extreme_37
theorem kw_X12_extreme {R : Room} {s : State} {args : Array Value} {own : String} {idx : Nat} (hts : ∀ w ∈ TB, w.before args s = true) (hl : Cond.methodLink own idx yX12_extreme ∈ TB) (hR : 3 + 1 ≤ R.frames ∧ 8 + (4 + 11) + 40 * 3 ≤ R.locals) : CallW R s args own RX12 idx yX12_extreme cX12_extreme 4 (some .int) (Cond.code yX12_extreme cX12_extreme 4 (some .int) :: TB) (rmN 3) 0 0 3 := cwV 3 hts (TB_V hl tw_1066 tw_1067 tw_9 tw_1068) rfl rfl rfl (by decide +kernel) hR
set_option maxHeartbeats 4000000 in
set_option maxRecDepth 100000 in
/-- rings, new object -/
theorem c_X12_rings (l : Launch) (D : va_G) (cy : Nat → ClassId) (sz : Nat) (cs : List Nat) (ad : Nat → Nat) (en : Nat → va_E) (hcs : ∀ c, c < 20 → c ∈ cs) (g6 : Nat → Int64) (g7 : Nat → Int32) (n : Int32) (mz : en 0 = .inr (11, [.int 0, .int 0, .int 2, .int 0, .int 0, .ref (ad 1), .ref (ad 2), .ref (ad 3), .ref (ad 4), .ref (ad 5), .ref (ad 6), .ref (ad 7), .ref (ad 8), .ref (ad 9), .int 0, .long 0, .long 0, .long 0, .long 0, .ref (ad 10), .ref (ad 11), .ref (ad 12), .int 0, .long 0, .ref (ad 13), .int (-9), .ref (ad 14), .ref (ad 15), .ref (ad 16), .ref (ad 17), .int 0, .ref (ad 18), .ref (ad 19)])) (m6 : en 6 = .inl (cy 1, 117, .inr (.inl g6))) (m7 : en 7 = .inl (cy 0, 13, .inl g7))  : Met l yX12_rings (Cond.code yX12_rings cX12_rings 2 (some .int) :: TB) (rmN 3) (va_Pc [.ref (ad 0), .int n] (Pre D cy cs ad en sz)) (va_Qi (S := Nat → va_E) (fun r _ => r = if wi n 1 8 then 0 else (-2)) (PostM D cs ad) (Af cs ad sz)) 0 0 (Af cs ad sz) := by
  refine Met.ofW (cc := cX12_rings) (maxL := 2) (ret := (some .int)) (by decide) rfl ?_
  intro p e s m args below meth c s₁ B hml hv
  obtain ⟨rfl, hsz, hP, hK, hD0⟩ := hv
  have hx := B.exec
  have hb := B.bytes
  have hr := B.returns
  have hts : ∀ w ∈ TB, w.before _ s = true := fun w h => atoms_spec (ws := _ :: TB) B.pre w (List.mem_cons_of_mem _ h)
  have hown : s.vm.findClass RX12 = some m.cls := findClass_of_methodNamed B.named
  have hlocks := B.notSynchronized
  have hh : Hp D (Af cs ad sz) (Af cs ad sz) s.heap s.heap [] cs ad en := ⟨hP, Af_self hD0, va_S.rf⟩
  have hA : ∀ q : Nat, s.heap.size ≤ q → Af cs ad sz q := fun q h => Or.inr (by rw [hsz] at h; exact h)
  have hl := lv_entry ([.ref (ad 0), .int n]) (n := 2) (Nat.le_of_ble_eq_true rfl)
  rw [lg_entry_eq]
  generalize (lg_sl ([.ref (ad 0), .int n]) ++ List.replicate (2 - (lg_sl ([.ref (ad 0), .int n])).length) Slot.unset).toArray = ls at hl ⊢
  have hl : lv_has ls 2 [(0, .ref (ad 0)), (1, .int n)] := hl
  refine lv_iload_n hx hb dX12_rings_0 rfl (lv_at hl 1 rfl) ?_
  refine lv_i2l hx hb dX12_rings_1 rfl ?_
  refine lv_lconst (v := 1) hx hb dX12_rings_2 (by decide) ?_
  refine lv_ldc2 hx hb hown (hts _ tw_1024) dX12_rings_3 ?_
  refine hp_callRi (va_runS (As := [.long n.toInt64, .long 1, .long 8]) (rest := []) ⟨hx, hb, hml, hown, hts⟩ (c_X12_within l D cy _ cs ad en n.toInt64 1 8 ) (kw_X12_within hts tw_985 ⟨by decide, by decide⟩) (preS_of hh hK) rfl rfl hl.1 rfl (lv_room (Nat.le_of_ble_eq_true rfl)) dX12_rings_6 ⟨Nat.le_of_ble_eq_true rfl, Nat.le_of_ble_eq_true rfl⟩) hh hA (fun r_230 H locs hw_230 hh => ?_)
  rcases Decidable.em (wi n 1 8) with hp_230 | hp_230
  · obtain rfl : r_230 = 1 := Eq.trans hw_230 (if_pos ((wj_32 (by decide) (by decide)).mpr hp_230))
    refine lv_if_ne (tgt := 15) hx hb dX12_rings_9 (by decide) (fun _ => ?_) (fun c_0 => absurd c_0 (by decide))
    refine lv_aload_n hx hb dX12_rings_15 rfl (lv_at hl 0 rfl) ?_
    refine lv_iload_n hx hb dX12_rings_16 rfl (lv_at hl 1 rfl) ?_
    refine hp_callRi (va_runV (As := [.int n]) (rest := []) ⟨hx, hb, hml, hown, hts⟩ (c_X12_isSpent l D cy _ cs ad en hcs 0 0 0 0 0 0 0 0 0 0 (-9) 0 n hp_230 mz) (kw_X12_isSpent hts tw_1025 ⟨by decide, by decide⟩) (preV_of hh hK (hcs _ (by decide)) mz rfl) rfl rfl hl.1 rfl (lv_room (Nat.le_of_ble_eq_true rfl)) dX12_rings_17 ⟨Nat.le_of_ble_eq_true rfl, Nat.le_of_ble_eq_true rfl⟩) hh hA (fun r_231 H locs hw_231 hh => ?_)
    obtain rfl : r_231 = 0 := hw_231
    refine lv_if_eq (tgt := 26) hx hb dX12_rings_20 (by decide) (fun _ => ?_) (fun c_0 => absurd c_0 (by decide))
    refine lv_aload_n hx hb dX12_rings_26 rfl (lv_at hl 0 rfl) ?_
    refine lv_iload_n hx hb dX12_rings_27 rfl (lv_at hl 1 rfl) ?_
    refine hp_callMv (va_runV (As := [.int n]) (rest := []) ⟨hx, hb, hml, hown, hts⟩ (c_X12_findRings l D cy _ cs ad en hcs 0 0 0 0 0 0 0 0 0 0 (-9) 0 g6 g7 n hp_230 mz m6 m7) (kw_X12_findRings hts tw_1073 ⟨by decide, by decide⟩) (preV_of hh hK (hcs _ (by decide)) mz rfl) rfl rfl hl.1 rfl (lv_room (Nat.le_of_ble_eq_true rfl)) dX12_rings_28 ⟨Nat.le_of_ble_eq_true rfl, Nat.le_of_ble_eq_true rfl⟩) hh hA (fun H locs en_232 hw_232 hh => ?_)
    have mz_232 : en_232 0 = .inr (11, [.int 0, .int 0, .int 2, .int 0, .int 0, .ref (ad 1), .ref (ad 2), .ref (ad 3), .ref (ad 4), .ref (ad 5), .ref (ad 6), .ref (ad 7), .ref (ad 8), .ref (ad 9), .int (-1), .long 0, .long 0, .long 0, .long 0, .ref (ad 10), .ref (ad 11), .ref (ad 12), .int 0, .long 0, .ref (ad 13), .int (-9), .ref (ad 14), .ref (ad 15), .ref (ad 16), .ref (ad 17), .int 0, .ref (ad 18), .ref (ad 19)]) := hw_232
    refine lv_aload_n hx hb dX12_rings_31 rfl (lv_at hl 0 rfl) ?_
    refine hp_get hx hb hts ix12 hown hK hh (q := 0) rfl (hcs _ (by decide)) mz_232 rfl 22 (by decide) (hts _ tw_901) (fun _ h9 => h9) rfl dX12_rings_32 ?_
    exact hp_iretM hx hb hr rfl hlocks hh ((if_pos hp_230).symm) dX12_rings_35
  · obtain rfl : r_230 = 0 := Eq.trans hw_230 (if_neg (fun q => hp_230 ((wj_32 (by decide) (by decide)).mp q)))
    refine lv_if_ne (tgt := 15) hx hb dX12_rings_9 (by decide) (fun c_0 => absurd c_0 (by decide)) (fun _ => ?_)
    refine lv_bipush (v := (-2)) hx hb dX12_rings_12 (by decide) ?_
    exact hp_iretM hx hb hr rfl hlocks hh ((if_neg (fun h => hp_230 h)).symm) dX12_rings_14
theorem kw_X12_rings {R : Room} {s : State} {args : Array Value} {own : String} {idx : Nat} (hts : ∀ w ∈ TB, w.before args s = true) (hl : Cond.methodLink own idx yX12_rings ∈ TB) (hR : 3 + 1 ≤ R.frames ∧ 8 + (2 + 11) + 40 * 3 ≤ R.locals) : CallW R s args own RX12 idx yX12_rings cX12_rings 2 (some .int) (Cond.code yX12_rings cX12_rings 2 (some .int) :: TB) (rmN 3) 0 0 1 := cwV 1 hts (TB_V hl tw_1070 tw_1071 tw_9 tw_1072) rfl rfl rfl (by decide +kernel) hR
set_option maxHeartbeats 4000000 in
set_option maxRecDepth 100000 in
/-- ringTrack, new object -/
theorem c_X12_ringTrack (l : Launch) (D : va_G) (cy : Nat → ClassId) (sz : Nat) (cs : List Nat) (ad : Nat → Nat) (en : Nat → va_E) (hcs : ∀ c, c < 20 → c ∈ cs) (g6 : Nat → Int64) (g7 : Nat → Int32) (n : Int32) (mz : en 0 = .inr (11, [.int 0, .int 0, .int 2, .int 0, .int 0, .ref (ad 1), .ref (ad 2), .ref (ad 3), .ref (ad 4), .ref (ad 5), .ref (ad 6), .ref (ad 7), .ref (ad 8), .ref (ad 9), .int 0, .long 0, .long 0, .long 0, .long 0, .ref (ad 10), .ref (ad 11), .ref (ad 12), .int 0, .long 0, .ref (ad 13), .int (-9), .ref (ad 14), .ref (ad 15), .ref (ad 16), .ref (ad 17), .int 0, .ref (ad 18), .ref (ad 19)])) (m6 : en 6 = .inl (cy 1, 117, .inr (.inl g6))) (m7 : en 7 = .inl (cy 0, 13, .inl g7))  : Met l yX12_ringTrack (Cond.code yX12_ringTrack cX12_ringTrack 2 (some .long) :: TB) (rmN 3) (va_Pc [.ref (ad 0), .int n] (Pre D cy cs ad en sz)) (va_Ql (S := Nat → va_E) (fun r _ => r = (-9223372036854775808)) (PostM D cs ad) (Af cs ad sz)) 0 0 (Af cs ad sz) := by
  refine Met.ofW (cc := cX12_ringTrack) (maxL := 2) (ret := (some .long)) (by decide) rfl ?_
  intro p e s m args below meth c s₁ B hml hv
  obtain ⟨rfl, hsz, hP, hK, hD0⟩ := hv
  have hx := B.exec
  have hb := B.bytes
  have hr := B.returns
  have hts : ∀ w ∈ TB, w.before _ s = true := fun w h => atoms_spec (ws := _ :: TB) B.pre w (List.mem_cons_of_mem _ h)
  have hown : s.vm.findClass RX12 = some m.cls := findClass_of_methodNamed B.named
  have hlocks := B.notSynchronized
  have hh : Hp D (Af cs ad sz) (Af cs ad sz) s.heap s.heap [] cs ad en := ⟨hP, Af_self hD0, va_S.rf⟩
  have hA : ∀ q : Nat, s.heap.size ≤ q → Af cs ad sz q := fun q h => Or.inr (by rw [hsz] at h; exact h)
  have hl := lv_entry ([.ref (ad 0), .int n]) (n := 2) (Nat.le_of_ble_eq_true rfl)
  rw [lg_entry_eq]
  generalize (lg_sl ([.ref (ad 0), .int n]) ++ List.replicate (2 - (lg_sl ([.ref (ad 0), .int n])).length) Slot.unset).toArray = ls at hl ⊢
  have hl : lv_has ls 2 [(0, .ref (ad 0)), (1, .int n)] := hl
  refine lv_iload_n hx hb dX12_ringTrack_0 rfl (lv_at hl 1 rfl) ?_
  refine lv_i2l hx hb dX12_ringTrack_1 rfl ?_
  refine lv_lconst (v := 1) hx hb dX12_ringTrack_2 (by decide) ?_
  refine lv_ldc2 hx hb hown (hts _ tw_1024) dX12_ringTrack_3 ?_
  refine hp_callRi (va_runS (As := [.long n.toInt64, .long 1, .long 8]) (rest := []) ⟨hx, hb, hml, hown, hts⟩ (c_X12_within l D cy _ cs ad en n.toInt64 1 8 ) (kw_X12_within hts tw_985 ⟨by decide, by decide⟩) (preS_of hh hK) rfl rfl hl.1 rfl (lv_room (Nat.le_of_ble_eq_true rfl)) dX12_ringTrack_6 ⟨Nat.le_of_ble_eq_true rfl, Nat.le_of_ble_eq_true rfl⟩) hh hA (fun r_233 H locs hw_233 hh => ?_)
  rcases Decidable.em (wi n 1 8) with hp_233 | hp_233
  · obtain rfl : r_233 = 1 := Eq.trans hw_233 (if_pos ((wj_32 (by decide) (by decide)).mpr hp_233))
    refine lv_if_eq (tgt := 20) hx hb dX12_ringTrack_9 (by decide) (fun c_0 => absurd c_0 (by decide)) (fun _ => ?_)
    refine lv_aload_n hx hb dX12_ringTrack_12 rfl (lv_at hl 0 rfl) ?_
    refine lv_iload_n hx hb dX12_ringTrack_13 rfl (lv_at hl 1 rfl) ?_
    refine hp_callRi (va_runV (As := [.int n]) (rest := []) ⟨hx, hb, hml, hown, hts⟩ (c_X12_isSpent l D cy _ cs ad en hcs 0 0 0 0 0 0 0 0 0 0 (-9) 0 n hp_233 mz) (kw_X12_isSpent hts tw_1025 ⟨by decide, by decide⟩) (preV_of hh hK (hcs _ (by decide)) mz rfl) rfl rfl hl.1 rfl (lv_room (Nat.le_of_ble_eq_true rfl)) dX12_ringTrack_14 ⟨Nat.le_of_ble_eq_true rfl, Nat.le_of_ble_eq_true rfl⟩) hh hA (fun r_234 H locs hw_234 hh => ?_)
    obtain rfl : r_234 = 0 := hw_234
    refine lv_if_eq (tgt := 24) hx hb dX12_ringTrack_17 (by decide) (fun _ => ?_) (fun c_0 => absurd c_0 (by decide))
    refine lv_aload_n hx hb dX12_ringTrack_24 rfl (lv_at hl 0 rfl) ?_
    refine lv_iload_n hx hb dX12_ringTrack_25 rfl (lv_at hl 1 rfl) ?_
    refine hp_callMv (va_runV (As := [.int n]) (rest := []) ⟨hx, hb, hml, hown, hts⟩ (c_X12_findRings l D cy _ cs ad en hcs 0 0 0 0 0 0 0 0 0 0 (-9) 0 g6 g7 n hp_233 mz m6 m7) (kw_X12_findRings hts tw_1073 ⟨by decide, by decide⟩) (preV_of hh hK (hcs _ (by decide)) mz rfl) rfl rfl hl.1 rfl (lv_room (Nat.le_of_ble_eq_true rfl)) dX12_ringTrack_26 ⟨Nat.le_of_ble_eq_true rfl, Nat.le_of_ble_eq_true rfl⟩) hh hA (fun H locs en_235 hw_235 hh => ?_)
    have mz_235 : en_235 0 = .inr (11, [.int 0, .int 0, .int 2, .int 0, .int 0, .ref (ad 1), .ref (ad 2), .ref (ad 3), .ref (ad 4), .ref (ad 5), .ref (ad 6), .ref (ad 7), .ref (ad 8), .ref (ad 9), .int (-1), .long 0, .long 0, .long 0, .long 0, .ref (ad 10), .ref (ad 11), .ref (ad 12), .int 0, .long 0, .ref (ad 13), .int (-9), .ref (ad 14), .ref (ad 15), .ref (ad 16), .ref (ad 17), .int 0, .ref (ad 18), .ref (ad 19)]) := hw_235
    refine lv_aload_n hx hb dX12_ringTrack_29 rfl (lv_at hl 0 rfl) ?_
    refine hp_get hx hb hts ix12 hown hK hh (q := 0) rfl (hcs _ (by decide)) mz_235 rfl 22 (by decide) (hts _ tw_901) (fun _ h9 => h9) rfl dX12_ringTrack_30 ?_
    refine lv_if_ne (tgt := 42) hx hb dX12_ringTrack_33 (by decide) (fun c_0 => absurd c_0 (by decide)) (fun _ => ?_)
    refine lv_ldc2 hx hb hown (hts _ tw_1015) dX12_ringTrack_36 ?_
    refine lv_goto (tgt := 46) hx hb dX12_ringTrack_39 (by decide) ?_
    exact hp_lretM hx hb hr hlocks hh (rfl) dX12_ringTrack_46
  · obtain rfl : r_233 = 0 := Eq.trans hw_233 (if_neg (fun q => hp_233 ((wj_32 (by decide) (by decide)).mp q)))
    refine lv_if_eq (tgt := 20) hx hb dX12_ringTrack_9 (by decide) (fun _ => ?_) (fun c_0 => absurd c_0 (by decide))
    refine lv_ldc2 hx hb hown (hts _ tw_1015) dX12_ringTrack_20 ?_
    exact hp_lretM hx hb hr hlocks hh (rfl) dX12_ringTrack_23
theorem kw_X12_ringTrack {R : Room} {s : State} {args : Array Value} {own : String} {idx : Nat} (hts : ∀ w ∈ TB, w.before args s = true) (hl : Cond.methodLink own idx yX12_ringTrack ∈ TB) (hR : 3 + 1 ≤ R.frames ∧ 8 + (2 + 11) + 40 * 3 ≤ R.locals) : CallW R s args own RX12 idx yX12_ringTrack cX12_ringTrack 2 (some .long) (Cond.code yX12_ringTrack cX12_ringTrack 2 (some .long) :: TB) (rmN 3) 0 0 1 := cwV 1 hts (TB_V hl tw_1098 tw_1099 tw_9 tw_1100) rfl rfl rfl (by decide +kernel) hR
set_option maxHeartbeats 4000000 in
set_option maxRecDepth 100000 in
/-- ring, new object -/
theorem c_X12_ring (l : Launch) (D : va_G) (cy : Nat → ClassId) (sz : Nat) (cs : List Nat) (ad : Nat → Nat) (en : Nat → va_E) (hcs : ∀ c, c < 20 → c ∈ cs) (g6 : Nat → Int64) (g7 : Nat → Int32) (n i : Int32) (mz : en 0 = .inr (11, [.int 0, .int 0, .int 2, .int 0, .int 0, .ref (ad 1), .ref (ad 2), .ref (ad 3), .ref (ad 4), .ref (ad 5), .ref (ad 6), .ref (ad 7), .ref (ad 8), .ref (ad 9), .int 0, .long 0, .long 0, .long 0, .long 0, .ref (ad 10), .ref (ad 11), .ref (ad 12), .int 0, .long 0, .ref (ad 13), .int (-9), .ref (ad 14), .ref (ad 15), .ref (ad 16), .ref (ad 17), .int 0, .ref (ad 18), .ref (ad 19)])) (m6 : en 6 = .inl (cy 1, 117, .inr (.inl g6))) (m7 : en 7 = .inl (cy 0, 13, .inl g7))  : Met l yX12_ring (Cond.code yX12_ring cX12_ring 3 (some .int) :: TB) (rmN 3) (va_Pc [.ref (ad 0), .int n, .int i] (Pre D cy cs ad en sz)) (va_Qi (S := Nat → va_E) (fun r _ => r = spRing n i) (PostM D cs ad) (Af cs ad sz)) 0 0 (Af cs ad sz) := by
  refine Met.ofW (cc := cX12_ring) (maxL := 3) (ret := (some .int)) (by decide) rfl ?_
  intro p e s m args below meth c s₁ B hml hv
  obtain ⟨rfl, hsz, hP, hK, hD0⟩ := hv
  have hx := B.exec
  have hb := B.bytes
  have hr := B.returns
  have hts : ∀ w ∈ TB, w.before _ s = true := fun w h => atoms_spec (ws := _ :: TB) B.pre w (List.mem_cons_of_mem _ h)
  have hown : s.vm.findClass RX12 = some m.cls := findClass_of_methodNamed B.named
  have hlocks := B.notSynchronized
  have hh : Hp D (Af cs ad sz) (Af cs ad sz) s.heap s.heap [] cs ad en := ⟨hP, Af_self hD0, va_S.rf⟩
  have hA : ∀ q : Nat, s.heap.size ≤ q → Af cs ad sz q := fun q h => Or.inr (by rw [hsz] at h; exact h)
  have hl := lv_entry ([.ref (ad 0), .int n, .int i]) (n := 3) (Nat.le_of_ble_eq_true rfl)
  rw [lg_entry_eq]
  generalize (lg_sl ([.ref (ad 0), .int n, .int i]) ++ List.replicate (3 - (lg_sl ([.ref (ad 0), .int n, .int i])).length) Slot.unset).toArray = ls at hl ⊢
  have hl : lv_has ls 3 [(0, .ref (ad 0)), (1, .int n), (2, .int i)] := hl
  refine lv_iload_n hx hb dX12_ring_0 rfl (lv_at hl 1 rfl) ?_
  refine lv_i2l hx hb dX12_ring_1 rfl ?_
  refine lv_lconst (v := 1) hx hb dX12_ring_2 (by decide) ?_
  refine lv_ldc2 hx hb hown (hts _ tw_1024) dX12_ring_3 ?_
  refine hp_callRi (va_runS (As := [.long n.toInt64, .long 1, .long 8]) (rest := []) ⟨hx, hb, hml, hown, hts⟩ (c_X12_within l D cy _ cs ad en n.toInt64 1 8 ) (kw_X12_within hts tw_985 ⟨by decide, by decide⟩) (preS_of hh hK) rfl rfl hl.1 rfl (lv_room (Nat.le_of_ble_eq_true rfl)) dX12_ring_6 ⟨Nat.le_of_ble_eq_true rfl, Nat.le_of_ble_eq_true rfl⟩) hh hA (fun r_236 H locs hw_236 hh => ?_)
  rcases Decidable.em (wi n 1 8) with hp_236 | hp_236
  · obtain rfl : r_236 = 1 := Eq.trans hw_236 (if_pos ((wj_32 (by decide) (by decide)).mpr hp_236))
    refine lv_if_eq (tgt := 25) hx hb dX12_ring_9 (by decide) (fun c_0 => absurd c_0 (by decide)) (fun _ => ?_)
    refine lv_iload_n hx hb dX12_ring_12 rfl (lv_at hl 2 rfl) ?_
    refine lv_i2l hx hb dX12_ring_13 rfl ?_
    refine lv_lconst (v := 0) hx hb dX12_ring_14 (by decide) ?_
    refine lv_iload_n hx hb dX12_ring_15 rfl (lv_at hl 1 rfl) ?_
    refine lv_i2l hx hb dX12_ring_16 rfl ?_
    refine lv_lconst (v := 1) hx hb dX12_ring_17 (by decide) ?_
    refine lv_lsub hx hb dX12_ring_18 ?_
    refine hp_callRi (va_runS (As := [.long i.toInt64, .long 0, .long (n.toInt64 - 1)]) (rest := []) ⟨hx, hb, hml, hown, hts⟩ (c_X12_within l D cy _ cs ad en i.toInt64 0 (n.toInt64 - 1) ) (kw_X12_within hts tw_985 ⟨by decide, by decide⟩) (preS_of hh hK) rfl rfl hl.1 rfl (lv_room (Nat.le_of_ble_eq_true rfl)) dX12_ring_19 ⟨Nat.le_of_ble_eq_true rfl, Nat.le_of_ble_eq_true rfl⟩) hh hA (fun r_237 H locs hw_237 hh => ?_)
    rcases Decidable.em (wi i 0 (n - 1)) with hp_237 | hp_237
    · obtain rfl : r_237 = 1 := Eq.trans hw_237 (if_pos ((wj_n1 hp_236).mpr hp_237))
      refine lv_if_ne (tgt := 28) hx hb dX12_ring_22 (by decide) (fun _ => ?_) (fun c_0 => absurd c_0 (by decide))
      refine lv_aload_n hx hb dX12_ring_28 rfl (lv_at hl 0 rfl) ?_
      refine lv_iload_n hx hb dX12_ring_29 rfl (lv_at hl 1 rfl) ?_
      refine hp_callRi (va_runV (As := [.int n]) (rest := []) ⟨hx, hb, hml, hown, hts⟩ (c_X12_isSpent l D cy _ cs ad en hcs 0 0 0 0 0 0 0 0 0 0 (-9) 0 n hp_236 mz) (kw_X12_isSpent hts tw_1025 ⟨by decide, by decide⟩) (preV_of hh hK (hcs _ (by decide)) mz rfl) rfl rfl hl.1 rfl (lv_room (Nat.le_of_ble_eq_true rfl)) dX12_ring_30 ⟨Nat.le_of_ble_eq_true rfl, Nat.le_of_ble_eq_true rfl⟩) hh hA (fun r_238 H locs hw_238 hh => ?_)
      obtain rfl : r_238 = 0 := hw_238
      refine lv_if_eq (tgt := 39) hx hb dX12_ring_33 (by decide) (fun _ => ?_) (fun c_0 => absurd c_0 (by decide))
      refine lv_aload_n hx hb dX12_ring_39 rfl (lv_at hl 0 rfl) ?_
      refine lv_iload_n hx hb dX12_ring_40 rfl (lv_at hl 1 rfl) ?_
      refine hp_callMv (va_runV (As := [.int n]) (rest := []) ⟨hx, hb, hml, hown, hts⟩ (c_X12_findRings l D cy _ cs ad en hcs 0 0 0 0 0 0 0 0 0 0 (-9) 0 g6 g7 n hp_236 mz m6 m7) (kw_X12_findRings hts tw_1073 ⟨by decide, by decide⟩) (preV_of hh hK (hcs _ (by decide)) mz rfl) rfl rfl hl.1 rfl (lv_room (Nat.le_of_ble_eq_true rfl)) dX12_ring_41 ⟨Nat.le_of_ble_eq_true rfl, Nat.le_of_ble_eq_true rfl⟩) hh hA (fun H locs en_239 hw_239 hh => ?_)
      have mz_239 : en_239 0 = .inr (11, [.int 0, .int 0, .int 2, .int 0, .int 0, .ref (ad 1), .ref (ad 2), .ref (ad 3), .ref (ad 4), .ref (ad 5), .ref (ad 6), .ref (ad 7), .ref (ad 8), .ref (ad 9), .int (-1), .long 0, .long 0, .long 0, .long 0, .ref (ad 10), .ref (ad 11), .ref (ad 12), .int 0, .long 0, .ref (ad 13), .int (-9), .ref (ad 14), .ref (ad 15), .ref (ad 16), .ref (ad 17), .int 0, .ref (ad 18), .ref (ad 19)]) := hw_239
      refine lv_aload_n hx hb dX12_ring_44 rfl (lv_at hl 0 rfl) ?_
      refine hp_get hx hb hts ix12 hown hK hh (q := 0) rfl (hcs _ (by decide)) mz_239 rfl 22 (by decide) (hts _ tw_901) (fun _ h9 => h9) rfl dX12_ring_45 ?_
      refine lv_if_ne (tgt := 56) hx hb dX12_ring_48 (by decide) (fun c_0 => absurd c_0 (by decide)) (fun _ => ?_)
      refine lv_bipush (v := (-9)) hx hb dX12_ring_51 (by decide) ?_
      refine lv_goto (tgt := 62) hx hb dX12_ring_53 (by decide) ?_
      exact hp_iretM hx hb hr rfl hlocks hh ((if_pos ⟨hp_236, hp_237⟩).symm) dX12_ring_62
    · obtain rfl : r_237 = 0 := Eq.trans hw_237 (if_neg (fun q => hp_237 ((wj_n1 hp_236).mp q)))
      refine lv_if_ne (tgt := 28) hx hb dX12_ring_22 (by decide) (fun c_0 => absurd c_0 (by decide)) (fun _ => ?_)
      refine lv_bipush (v := (-2)) hx hb dX12_ring_25 (by decide) ?_
      exact hp_iretM hx hb hr rfl hlocks hh ((if_neg (fun h => hp_237 h.2)).symm) dX12_ring_27
  · obtain rfl : r_236 = 0 := Eq.trans hw_236 (if_neg (fun q => hp_236 ((wj_32 (by decide) (by decide)).mp q)))
    refine lv_if_eq (tgt := 25) hx hb dX12_ring_9 (by decide) (fun _ => ?_) (fun c_0 => absurd c_0 (by decide))
    refine lv_bipush (v := (-2)) hx hb dX12_ring_25 (by decide) ?_
    exact hp_iretM hx hb hr rfl hlocks hh ((if_neg (fun h => hp_236 h.1)).symm) dX12_ring_27
theorem kw_X12_ring {R : Room} {s : State} {args : Array Value} {own : String} {idx : Nat} (hts : ∀ w ∈ TB, w.before args s = true) (hl : Cond.methodLink own idx yX12_ring ∈ TB) (hR : 3 + 1 ≤ R.frames ∧ 8 + (3 + 11) + 40 * 3 ≤ R.locals) : CallW R s args own RX12 idx yX12_ring cX12_ring 3 (some .int) (Cond.code yX12_ring cX12_ring 3 (some .int) :: TB) (rmN 3) 0 0 2 := cwV 2 hts (TB_V hl tw_1102 tw_1103 tw_9 tw_1104) rfl rfl rfl (by decide +kernel) hR
set_option maxHeartbeats 4000000 in
set_option maxRecDepth 100000 in
/-- sheet, new object -/
theorem c_X12_sheet (l : Launch) (D : va_G) (cy : Nat → ClassId) (sz : Nat) (cs : List Nat) (ad : Nat → Nat) (en : Nat → va_E) (hcs : ∀ c, c < 20 → c ∈ cs) (g3 g4 g5 : Nat → Int32) (k la n : Int32) (mz : en 0 = .inr (11, [.int 0, .int 0, .int 2, .int 0, .int 0, .ref (ad 1), .ref (ad 2), .ref (ad 3), .ref (ad 4), .ref (ad 5), .ref (ad 6), .ref (ad 7), .ref (ad 8), .ref (ad 9), .int 0, .long 0, .long 0, .long 0, .long 0, .ref (ad 10), .ref (ad 11), .ref (ad 12), .int 0, .long 0, .ref (ad 13), .int (-9), .ref (ad 14), .ref (ad 15), .ref (ad 16), .ref (ad 17), .int 0, .ref (ad 18), .ref (ad 19)])) (m3 : en 3 = .inl (cy 0, 4, .inl g3)) (m4 : en 4 = .inl (cy 0, 4, .inl g4)) (m5 : en 5 = .inl (cy 0, 160, .inl g5))  : Met l yX12_sheet (Cond.code yX12_sheet cX12_sheet 5 (some .int) :: TB) (rmN 1) (va_Pc [.ref (ad 0), .int k, .int la, .int n] (Pre D cy cs ad en sz)) (va_Qi (S := Nat → va_E) (fun r _ => r = spSheet k la n) (PostM D cs ad) (Af cs ad sz)) 0 0 (Af cs ad sz) := by
  refine Met.ofW (cc := cX12_sheet) (maxL := 5) (ret := (some .int)) (by decide) rfl ?_
  intro p e s m args below meth c s₁ B hml hv
  obtain ⟨rfl, hsz, hP, hK, hD0⟩ := hv
  have hx := B.exec
  have hb := B.bytes
  have hr := B.returns
  have hts : ∀ w ∈ TB, w.before _ s = true := fun w h => atoms_spec (ws := _ :: TB) B.pre w (List.mem_cons_of_mem _ h)
  have hown : s.vm.findClass RX12 = some m.cls := findClass_of_methodNamed B.named
  have hlocks := B.notSynchronized
  have hh : Hp D (Af cs ad sz) (Af cs ad sz) s.heap s.heap [] cs ad en := ⟨hP, Af_self hD0, va_S.rf⟩
  have hA : ∀ q : Nat, s.heap.size ≤ q → Af cs ad sz q := fun q h => Or.inr (by rw [hsz] at h; exact h)
  have hl := lv_entry ([.ref (ad 0), .int k, .int la, .int n]) (n := 5) (Nat.le_of_ble_eq_true rfl)
  rw [lg_entry_eq]
  generalize (lg_sl ([.ref (ad 0), .int k, .int la, .int n]) ++ List.replicate (5 - (lg_sl ([.ref (ad 0), .int k, .int la, .int n])).length) Slot.unset).toArray = ls at hl ⊢
  have hl : lv_has ls 5 [(0, .ref (ad 0)), (1, .int k), (2, .int la), (3, .int n)] := hl
  refine lv_aload_n hx hb dX12_sheet_0 rfl (lv_at hl 0 rfl) ?_
  refine lv_iconst (v := 0) hx hb dX12_sheet_1 (by decide) ?_
  refine hp_put hx hb hts ix12 tyX12 tyX12_ok nmX12 hown hK hh (q := 0) rfl (hcs _ (by decide)) mz rfl 0 (by decide) (hts _ tw_879) (fun _ h9 => h9) rfl (ty := .int) (by decide +kernel) rfl rfl (Nat.le_of_ble_eq_true rfl) dX12_sheet_2 (fun H locs en_240 hen_240 hh => ?_)
  have hid_240 : en_240 = en := hen_240.trans (va_up_id mz)
  rw [hid_240] at hh
  refine lv_iload_n hx hb dX12_sheet_5 rfl (lv_at hl 1 rfl) ?_
  refine lv_i2l hx hb dX12_sheet_6 rfl ?_
  refine lv_lconst (v := 0) hx hb dX12_sheet_7 (by decide) ?_
  refine lv_ldc2 hx hb hown (hts _ tw_984) dX12_sheet_8 ?_
  refine hp_callRi (va_runS (As := [.long k.toInt64, .long 0, .long 3]) (rest := []) ⟨hx, hb, hml, hown, hts⟩ (c_X12_within l D cy _ cs ad en k.toInt64 0 3 ) (kw_X12_within hts tw_985 ⟨by decide, by decide⟩) (preS_of hh hK) rfl rfl hl.1 rfl (lv_room (Nat.le_of_ble_eq_true rfl)) dX12_sheet_11 ⟨Nat.le_of_ble_eq_true rfl, Nat.le_of_ble_eq_true rfl⟩) hh hA (fun r_241 H locs hw_241 hh => ?_)
  rcases Decidable.em (wi k 0 3) with hp_241 | hp_241
  · obtain rfl : r_241 = 1 := Eq.trans hw_241 (if_pos ((wj_32 (by decide) (by decide)).mpr hp_241))
    refine lv_if_ne (tgt := 19) hx hb dX12_sheet_14 (by decide) (fun _ => ?_) (fun c_0 => absurd c_0 (by decide))
    refine lv_iload_n hx hb dX12_sheet_19 rfl (lv_at hl 2 rfl) ?_
    refine lv_i2l hx hb dX12_sheet_20 rfl ?_
    refine lv_lconst (v := 0) hx hb dX12_sheet_21 (by decide) ?_
    refine lv_ldc2 hx hb hown (hts _ tw_983) dX12_sheet_22 ?_
    refine hp_callRi (va_runS (As := [.long la.toInt64, .long 0, .long 2]) (rest := []) ⟨hx, hb, hml, hown, hts⟩ (c_X12_within l D cy _ cs ad en la.toInt64 0 2 ) (kw_X12_within hts tw_985 ⟨by decide, by decide⟩) (preS_of hh hK) rfl rfl hl.1 rfl (lv_room (Nat.le_of_ble_eq_true rfl)) dX12_sheet_25 ⟨Nat.le_of_ble_eq_true rfl, Nat.le_of_ble_eq_true rfl⟩) hh hA (fun r_242 H locs hw_242 hh => ?_)
    rcases Decidable.em (wi la 0 2) with hp_242 | hp_242
    · obtain rfl : r_242 = 1 := Eq.trans hw_242 (if_pos ((wj_32 (by decide) (by decide)).mpr hp_242))
      refine lv_if_eq (tgt := 37) hx hb dX12_sheet_28 (by decide) (fun c_0 => absurd c_0 (by decide)) (fun _ => ?_)
      refine lv_iload_n hx hb dX12_sheet_31 rfl (lv_at hl 3 rfl) ?_
      refine lv_bipush (v := 40) hx hb dX12_sheet_32 (by decide) ?_
      refine lv_icmp_le (tgt := 40) hx hb dX12_sheet_34 (by decide) (fun c_243 => ?_) (fun c_243 => ?_)
      · refine lv_iload_n hx hb dX12_sheet_40 rfl (lv_at hl 3 rfl) ?_
        refine lv_if_ge (tgt := 50) hx hb dX12_sheet_41 (by decide) (fun c_244 => ?_) (fun c_244 => ?_)
        · refine lv_aload_n hx hb dX12_sheet_50 rfl (lv_at hl 0 rfl) ?_
          refine hp_get hx hb hts ix12 hown hK hh (q := 0) rfl (hcs _ (by decide)) mz rfl 7 (by decide) (hts _ tw_886) (fun _ h9 => h9) rfl dX12_sheet_51 ?_
          refine lv_iload_n hx hb dX12_sheet_54 rfl (lv_at hl 1 rfl) ?_
          refine lv_iload_n hx hb dX12_sheet_55 rfl (lv_at hl 2 rfl) ?_
          refine hp_iast hx hb hK hh (q := 3) rfl (hcs _ (by decide)) m3 (wi_in 4 hp_241 (by decide)) dX12_sheet_56 (fun H locs en_245 hen_245 hh => ?_)
          have mz_245 : en_245 0 = .inr (11, [.int 0, .int 0, .int 2, .int 0, .int 0, .ref (ad 1), .ref (ad 2), .ref (ad 3), .ref (ad 4), .ref (ad 5), .ref (ad 6), .ref (ad 7), .ref (ad 8), .ref (ad 9), .int 0, .long 0, .long 0, .long 0, .long 0, .ref (ad 10), .ref (ad 11), .ref (ad 12), .int 0, .long 0, .ref (ad 13), .int (-9), .ref (ad 14), .ref (ad 15), .ref (ad 16), .ref (ad 17), .int 0, .ref (ad 18), .ref (ad 19)]) := by rw [hen_245, va_up_ne _ _ (by decide)]; exact mz
          have m4_245 : en_245 4 = .inl (cy 0, 4, .inl g4) := by rw [hen_245, va_up_ne _ _ (by decide)]; exact m4
          have m5_245 : en_245 5 = .inl (cy 0, 160, .inl g5) := by rw [hen_245, va_up_ne _ _ (by decide)]; exact m5
          have m3_245 : en_245 3 = .inl (cy 0, 4, .inl (upd g3 k.toNatClampNeg la)) := by rw [hen_245]; exact va_up_self _ _ _
          refine lv_aload_n hx hb dX12_sheet_57 rfl (lv_at hl 0 rfl) ?_
          refine hp_get hx hb hts ix12 hown hK hh (q := 0) rfl (hcs _ (by decide)) mz_245 rfl 8 (by decide) (hts _ tw_887) (fun _ h9 => h9) rfl dX12_sheet_58 ?_
          refine lv_iload_n hx hb dX12_sheet_61 rfl (lv_at hl 1 rfl) ?_
          refine lv_iload_n hx hb dX12_sheet_62 rfl (lv_at hl 3 rfl) ?_
          refine hp_iast hx hb hK hh (q := 4) rfl (hcs _ (by decide)) m4_245 (wi_in 4 hp_241 (by decide)) dX12_sheet_63 (fun H locs en_246 hen_246 hh => ?_)
          have mz_246 : en_246 0 = .inr (11, [.int 0, .int 0, .int 2, .int 0, .int 0, .ref (ad 1), .ref (ad 2), .ref (ad 3), .ref (ad 4), .ref (ad 5), .ref (ad 6), .ref (ad 7), .ref (ad 8), .ref (ad 9), .int 0, .long 0, .long 0, .long 0, .long 0, .ref (ad 10), .ref (ad 11), .ref (ad 12), .int 0, .long 0, .ref (ad 13), .int (-9), .ref (ad 14), .ref (ad 15), .ref (ad 16), .ref (ad 17), .int 0, .ref (ad 18), .ref (ad 19)]) := by rw [hen_246, va_up_ne _ _ (by decide)]; exact mz_245
          have m5_246 : en_246 5 = .inl (cy 0, 160, .inl g5) := by rw [hen_246, va_up_ne _ _ (by decide)]; exact m5_245
          have m3_246 : en_246 3 = .inl (cy 0, 4, .inl (upd g3 k.toNatClampNeg la)) := by rw [hen_246, va_up_ne _ _ (by decide)]; exact m3_245
          have m4_246 : en_246 4 = .inl (cy 0, 4, .inl (upd g4 k.toNatClampNeg n)) := by rw [hen_246]; exact va_up_self _ _ _
          refine lv_iconst (v := 0) hx hb dX12_sheet_64 (by decide) ?_
          refine lv_istore (lv' := [(4, .int 0), (0, .ref (ad 0)), (1, .int k), (2, .int la), (3, .int n)]) hx hb dX12_sheet_65 hl (by decide) rfl (fun ls hl => ?_)
          have loop_247 : ∀ (fu j : Nat) (g : Nat → Int32) (ls : Array Slot) (H : Heap) (locs : List Loc) (en_247 : Nat → va_E), j ≤ 40 → 40 < j + fu → en_247 = va_up en_246 5 (.inl (cy 0, 160, .inl g)) → lv_has ls 5 [(4, .int (nI j)), (0, .ref (ad 0)), (1, .int k), (2, .int la), (3, .int n)] → Hp D (Af cs ad sz) (Af cs ad sz) s.heap H locs cs ad en_247 → W p l e (headSpec (Cond.code yX12_sheet cX12_sheet 5 (some .int) :: TB) (rmN 1)).room s m ([.ref (ad 0), .int k, .int la, .int n] : List Value).toArray below meth c H locs 0 0 (MQ below (va_Qi (S := Nat → va_E) (fun r _ => r = spSheet k la n) (PostM D cs ad) (Af cs ad sz)) ([.ref (ad 0), .int k, .int la, .int n] : List Value).toArray s 0 0 (Af cs ad sz)) (F0 m 67 ls []) := by
            intro fu
            induction fu with
            | zero => intro j g ls H locs en_247 h1 h2; exact absurd h2 (by omega)
            | succ fu ih =>
              intro j g ls H locs en_247 hj hn hen_247 hl hh
              have mz_247 : en_247 0 = .inr (11, [.int 0, .int 0, .int 2, .int 0, .int 0, .ref (ad 1), .ref (ad 2), .ref (ad 3), .ref (ad 4), .ref (ad 5), .ref (ad 6), .ref (ad 7), .ref (ad 8), .ref (ad 9), .int 0, .long 0, .long 0, .long 0, .long 0, .ref (ad 10), .ref (ad 11), .ref (ad 12), .int 0, .long 0, .ref (ad 13), .int (-9), .ref (ad 14), .ref (ad 15), .ref (ad 16), .ref (ad 17), .int 0, .ref (ad 18), .ref (ad 19)]) := by rw [hen_247, va_up_ne _ _ (by decide)]; exact mz_246
              have m3_247 : en_247 3 = .inl (cy 0, 4, .inl (upd g3 k.toNatClampNeg la)) := by rw [hen_247, va_up_ne _ _ (by decide)]; exact m3_246
              have m4_247 : en_247 4 = .inl (cy 0, 4, .inl (upd g4 k.toNatClampNeg n)) := by rw [hen_247, va_up_ne _ _ (by decide)]; exact m4_246
              have m5_247 : en_247 5 = .inl (cy 0, 160, .inl g) := by rw [hen_247]; exact va_up_self _ _ _
              rcases Nat.lt_or_ge j 40 with hjN | hjN
              · refine lv_iload hx hb dX12_sheet_67 (lv_at hl 0 rfl) ?_
                refine lv_bipush (v := 40) hx hb dX12_sheet_69 (by decide) ?_
                refine lv_icmp_ge (tgt := 93) hx hb dX12_sheet_71 (by decide) (fun c_0 => absurd c_0 (nI_ge (b := 40) hjN (by decide))) (fun _ => ?_)
                refine lv_aload_n hx hb dX12_sheet_74 rfl (lv_at hl 1 rfl) ?_
                refine hp_get hx hb hts ix12 hown hK hh (q := 0) rfl (hcs _ (by decide)) mz_247 rfl 9 (by decide) (hts _ tw_888) (fun _ h9 => h9) rfl dX12_sheet_75 ?_
                refine lv_bipush (v := 40) hx hb dX12_sheet_78 (by decide) ?_
                refine lv_iload_n hx hb dX12_sheet_80 rfl (lv_at hl 2 rfl) ?_
                refine lv_imul hx hb dX12_sheet_81 ?_
                refine lv_iload hx hb dX12_sheet_82 (lv_at hl 0 rfl) ?_
                refine lv_iadd hx hb dX12_sheet_84 ?_
                refine lv_iconst (v := 0) hx hb dX12_sheet_85 (by decide) ?_
                refine hp_iast hx hb hK hh (q := 5) rfl (hcs _ (by decide)) m5_247 (ix40 hp_241 hjN) dX12_sheet_86 (fun H locs en_248 hen_248 hh => ?_)
                have mz_248 : en_248 0 = .inr (11, [.int 0, .int 0, .int 2, .int 0, .int 0, .ref (ad 1), .ref (ad 2), .ref (ad 3), .ref (ad 4), .ref (ad 5), .ref (ad 6), .ref (ad 7), .ref (ad 8), .ref (ad 9), .int 0, .long 0, .long 0, .long 0, .long 0, .ref (ad 10), .ref (ad 11), .ref (ad 12), .int 0, .long 0, .ref (ad 13), .int (-9), .ref (ad 14), .ref (ad 15), .ref (ad 16), .ref (ad 17), .int 0, .ref (ad 18), .ref (ad 19)]) := by rw [hen_248, va_up_ne _ _ (by decide)]; exact mz_247
                have m3_248 : en_248 3 = .inl (cy 0, 4, .inl (upd g3 k.toNatClampNeg la)) := by rw [hen_248, va_up_ne _ _ (by decide)]; exact m3_247
                have m4_248 : en_248 4 = .inl (cy 0, 4, .inl (upd g4 k.toNatClampNeg n)) := by rw [hen_248, va_up_ne _ _ (by decide)]; exact m4_247
                have m5_248 : en_248 5 = .inl (cy 0, 160, .inl (upd g (40 * k + nI j).toNatClampNeg 0)) := by rw [hen_248]; exact va_up_self _ _ _
                refine lv_iinc (v := nI (j + 1)) (lv' := [(4, .int (nI (j + 1))), (0, .ref (ad 0)), (1, .int k), (2, .int la), (3, .int n)]) hx hb dX12_sheet_87 hl (k := 0) rfl (nI_1 _) (by decide) rfl (fun ls hl => ?_)
                refine lv_goto (tgt := 67) hx hb dX12_sheet_90 (by decide) ?_
                exact ih (j + 1) _ ls H locs en_248 (by omega) (by omega) (by rw [hen_248, hen_247, bx_uu]; try rfl) (lv_sub hl [0, 1, 2, 3, 4] rfl) hh
              · refine lv_iload hx hb dX12_sheet_67 (lv_at hl 0 rfl) ?_
                refine lv_bipush (v := 40) hx hb dX12_sheet_69 (by decide) ?_
                refine lv_icmp_ge (tgt := 93) hx hb dX12_sheet_71 (by decide) (fun _ => ?_) (fun c_0 => absurd (nI_le (a := 40) hjN (by omega)) c_0)
                refine lv_iconst (v := 1) hx hb dX12_sheet_93 (by decide) ?_
                have : (0 : Int32).toInt = 0 := by decide
                have : (2 : Int32).toInt = 2 := by decide
                have : (3 : Int32).toInt = 3 := by decide
                have : (40 : Int32).toInt = 40 := by decide
                have := i_le c_243
                have := i_le c_244
                exact hp_iretM hx hb hr rfl hlocks hh (by unfold spSheet; rw [if_pos hp_241, if_pos ⟨hp_242, by omega⟩, if_neg (by omega)]) dX12_sheet_94
          exact loop_247 (40 + 1) 0 g5 ls _ _ en_246 (Nat.zero_le _) (by omega) (va_up_id m5_246).symm (lv_sub hl [0, 1, 2, 3, 4] rfl) hh
        · refine lv_aload_n hx hb dX12_sheet_44 rfl (lv_at hl 0 rfl) ?_
          refine lv_iconst (v := 4) hx hb dX12_sheet_45 (by decide) ?_
          refine hp_callMi (va_runV (As := [.int 4]) (rest := []) ⟨hx, hb, hml, hown, hts⟩ (c_X12_fails l D cy _ cs ad en hcs 0 0 2 0 0 0 0 0 0 0 0 0 (-9) 0 4 mz ) (kw_X12_fails hts tw_997 ⟨by decide, by decide⟩) (preV_of hh hK (hcs _ (by decide)) mz rfl) rfl rfl hl.1 rfl (lv_room (Nat.le_of_ble_eq_true rfl)) dX12_sheet_46 ⟨Nat.le_of_ble_eq_true rfl, Nat.le_of_ble_eq_true rfl⟩) hh hA (fun r_249 H locs en_249 hw_249 hh => ?_)
          obtain ⟨rfl, hen_249⟩ := hw_249
          rw [show (-10 : Int32) - 4 = (-14) by decide]
          have m3_249 : en_249 3 = .inl (cy 0, 4, .inl g3) := by rw [hen_249, va_up_ne _ _ (by decide)]; exact m3
          have m4_249 : en_249 4 = .inl (cy 0, 4, .inl g4) := by rw [hen_249, va_up_ne _ _ (by decide)]; exact m4
          have m5_249 : en_249 5 = .inl (cy 0, 160, .inl g5) := by rw [hen_249, va_up_ne _ _ (by decide)]; exact m5
          have mz_249 : en_249 0 = .inr (11, [.int 4, .int 0, .int 2, .int 0, .int 0, .ref (ad 1), .ref (ad 2), .ref (ad 3), .ref (ad 4), .ref (ad 5), .ref (ad 6), .ref (ad 7), .ref (ad 8), .ref (ad 9), .int 0, .long 0, .long 0, .long 0, .long 0, .ref (ad 10), .ref (ad 11), .ref (ad 12), .int 0, .long 0, .ref (ad 13), .int (-9), .ref (ad 14), .ref (ad 15), .ref (ad 16), .ref (ad 17), .int 0, .ref (ad 18), .ref (ad 19)]) := by rw [hen_249]; exact va_up_self _ _ _
          have : (0 : Int32).toInt = 0 := by decide
          have : (2 : Int32).toInt = 2 := by decide
          have : (3 : Int32).toInt = 3 := by decide
          have : (40 : Int32).toInt = 40 := by decide
          have := i_le c_243
          have := i_nle c_244
          exact hp_iretM hx hb hr rfl hlocks hh (by unfold spSheet; rw [if_pos hp_241, if_pos ⟨hp_242, by omega⟩, if_pos (by omega)]) dX12_sheet_49
      · refine lv_bipush (v := (-2)) hx hb dX12_sheet_37 (by decide) ?_
        have : (0 : Int32).toInt = 0 := by decide
        have : (2 : Int32).toInt = 2 := by decide
        have : (3 : Int32).toInt = 3 := by decide
        have : (40 : Int32).toInt = 40 := by decide
        have := i_nle c_243
        exact hp_iretM hx hb hr rfl hlocks hh (by unfold spSheet; rw [if_pos hp_241, if_neg (fun h => by have := h.2; omega)]) dX12_sheet_39
    · obtain rfl : r_242 = 0 := Eq.trans hw_242 (if_neg (fun q => hp_242 ((wj_32 (by decide) (by decide)).mp q)))
      refine lv_if_eq (tgt := 37) hx hb dX12_sheet_28 (by decide) (fun _ => ?_) (fun c_0 => absurd c_0 (by decide))
      refine lv_bipush (v := (-2)) hx hb dX12_sheet_37 (by decide) ?_
      exact hp_iretM hx hb hr rfl hlocks hh (by unfold spSheet; rw [if_pos hp_241, if_neg (fun h => hp_242 h.1)]) dX12_sheet_39
  · obtain rfl : r_241 = 0 := Eq.trans hw_241 (if_neg (fun q => hp_241 ((wj_32 (by decide) (by decide)).mp q)))
    refine lv_if_ne (tgt := 19) hx hb dX12_sheet_14 (by decide) (fun c_0 => absurd c_0 (by decide)) (fun _ => ?_)
    refine lv_iconst (v := (-1)) hx hb dX12_sheet_17 (by decide) ?_
    exact hp_iretM hx hb hr rfl hlocks hh (by unfold spSheet; rw [if_neg hp_241]) dX12_sheet_18
theorem kw_X12_sheet {R : Room} {s : State} {args : Array Value} {own : String} {idx : Nat} (hts : ∀ w ∈ TB, w.before args s = true) (hl : Cond.methodLink own idx yX12_sheet ∈ TB) (hR : 1 + 1 ≤ R.frames ∧ 8 + (5 + 11) + 40 * 1 ≤ R.locals) : CallW R s args own RX12 idx yX12_sheet cX12_sheet 5 (some .int) (Cond.code yX12_sheet cX12_sheet 5 (some .int) :: TB) (rmN 1) 0 0 3 := cwV 3 hts (TB_V hl tw_1200 tw_1201 tw_9 tw_1202) rfl rfl rfl (by decide +kernel) hR
set_option maxHeartbeats 4000000 in
set_option maxRecDepth 100000 in
/-- begin, new object -/
theorem c_X12_begin (l : Launch) (D : va_G) (cy : Nat → ClassId) (sz : Nat) (cs : List Nat) (ad : Nat → Nat) (en : Nat → va_E) (hcs : ∀ c, c < 20 → c ∈ cs) (g2 : Nat → Int32) (d m0 : Int32) (mz : en 0 = .inr (11, [.int 0, .int 0, .int 2, .int 0, .int 0, .ref (ad 1), .ref (ad 2), .ref (ad 3), .ref (ad 4), .ref (ad 5), .ref (ad 6), .ref (ad 7), .ref (ad 8), .ref (ad 9), .int 0, .long 0, .long 0, .long 0, .long 0, .ref (ad 10), .ref (ad 11), .ref (ad 12), .int 0, .long 0, .ref (ad 13), .int (-9), .ref (ad 14), .ref (ad 15), .ref (ad 16), .ref (ad 17), .int 0, .ref (ad 18), .ref (ad 19)])) (m2 : en 2 = .inl (cy 2, 36, .inl g2))  : Met l yX12_begin (Cond.code yX12_begin cX12_begin 4 (some .int) :: TB) (rmN 1) (va_Pc [.ref (ad 0), .int d, .int m0] (Pre D cy cs ad en sz)) (va_Qi (S := Nat → va_E) (fun r _ => r = spBegin d m0) (PostM D cs ad) (Af cs ad sz)) 0 0 (Af cs ad sz) := by
  refine Met.ofW (cc := cX12_begin) (maxL := 4) (ret := (some .int)) (by decide) rfl ?_
  intro p e s m args below meth c s₁ B hml hv
  obtain ⟨rfl, hsz, hP, hK, hD0⟩ := hv
  have hx := B.exec
  have hb := B.bytes
  have hr := B.returns
  have hts : ∀ w ∈ TB, w.before _ s = true := fun w h => atoms_spec (ws := _ :: TB) B.pre w (List.mem_cons_of_mem _ h)
  have hown : s.vm.findClass RX12 = some m.cls := findClass_of_methodNamed B.named
  have hlocks := B.notSynchronized
  have hh : Hp D (Af cs ad sz) (Af cs ad sz) s.heap s.heap [] cs ad en := ⟨hP, Af_self hD0, va_S.rf⟩
  have hA : ∀ q : Nat, s.heap.size ≤ q → Af cs ad sz q := fun q h => Or.inr (by rw [hsz] at h; exact h)
  have hl := lv_entry ([.ref (ad 0), .int d, .int m0]) (n := 4) (Nat.le_of_ble_eq_true rfl)
  rw [lg_entry_eq]
  generalize (lg_sl ([.ref (ad 0), .int d, .int m0]) ++ List.replicate (4 - (lg_sl ([.ref (ad 0), .int d, .int m0])).length) Slot.unset).toArray = ls at hl ⊢
  have hl : lv_has ls 4 [(0, .ref (ad 0)), (1, .int d), (2, .int m0)] := hl
  refine lv_iload_n hx hb dX12_begin_0 rfl (lv_at hl 1 rfl) ?_
  refine lv_i2l hx hb dX12_begin_1 rfl ?_
  refine lv_ldc2 hx hb hown (hts _ tw_983) dX12_begin_2 ?_
  refine lv_ldc2 hx hb hown (hts _ tw_984) dX12_begin_5 ?_
  refine hp_callRi (va_runS (As := [.long d.toInt64, .long 2, .long 3]) (rest := []) ⟨hx, hb, hml, hown, hts⟩ (c_X12_within l D cy _ cs ad en d.toInt64 2 3 ) (kw_X12_within hts tw_985 ⟨by decide, by decide⟩) (preS_of hh hK) rfl rfl hl.1 rfl (lv_room (Nat.le_of_ble_eq_true rfl)) dX12_begin_8 ⟨Nat.le_of_ble_eq_true rfl, Nat.le_of_ble_eq_true rfl⟩) hh hA (fun r_250 H locs hw_250 hh => ?_)
  rcases Decidable.em (wi d 2 3) with hp_250 | hp_250
  · obtain rfl : r_250 = 1 := Eq.trans hw_250 (if_pos ((wj_32 (by decide) (by decide)).mpr hp_250))
    refine lv_if_eq (tgt := 32) hx hb dX12_begin_11 (by decide) (fun c_0 => absurd c_0 (by decide)) (fun _ => ?_)
    refine lv_iload_n hx hb dX12_begin_14 rfl (lv_at hl 2 rfl) ?_
    refine lv_if_eq (tgt := 35) hx hb dX12_begin_15 (by decide) (fun c_251 => ?_) (fun c_251 => ?_)
    · refine lv_aload_n hx hb dX12_begin_35 rfl (lv_at hl 0 rfl) ?_
      refine lv_iload_n hx hb dX12_begin_36 rfl (lv_at hl 1 rfl) ?_
      refine hp_put hx hb hts ix12 tyX12 tyX12_ok nmX12 hown hK hh (q := 0) rfl (hcs _ (by decide)) mz rfl 2 (by decide) (hts _ tw_881) (fun _ h9 => h9) rfl (ty := .int) (by decide +kernel) rfl rfl (Nat.le_of_ble_eq_true rfl) dX12_begin_37 (fun H locs en_252 hen_252 hh => ?_)
      have m2_252 : en_252 2 = .inl (cy 2, 36, .inl g2) := by rw [hen_252, va_up_ne _ _ (by decide)]; exact m2
      have mz_252 : en_252 0 = .inr (11, [.int 0, .int 0, .int d, .int 0, .int 0, .ref (ad 1), .ref (ad 2), .ref (ad 3), .ref (ad 4), .ref (ad 5), .ref (ad 6), .ref (ad 7), .ref (ad 8), .ref (ad 9), .int 0, .long 0, .long 0, .long 0, .long 0, .ref (ad 10), .ref (ad 11), .ref (ad 12), .int 0, .long 0, .ref (ad 13), .int (-9), .ref (ad 14), .ref (ad 15), .ref (ad 16), .ref (ad 17), .int 0, .ref (ad 18), .ref (ad 19)]) := by rw [hen_252]; exact va_up_self _ _ _
      refine lv_aload_n hx hb dX12_begin_40 rfl (lv_at hl 0 rfl) ?_
      refine lv_iload_n hx hb dX12_begin_41 rfl (lv_at hl 2 rfl) ?_
      refine hp_put hx hb hts ix12 tyX12 tyX12_ok nmX12 hown hK hh (q := 0) rfl (hcs _ (by decide)) mz_252 rfl 3 (by decide) (hts _ tw_882) (fun _ h9 => h9) rfl (ty := .int) (by decide +kernel) rfl rfl (Nat.le_of_ble_eq_true rfl) dX12_begin_42 (fun H locs en_253 hen_253 hh => ?_)
      have m2_253 : en_253 2 = .inl (cy 2, 36, .inl g2) := by rw [hen_253, va_up_ne _ _ (by decide)]; exact m2_252
      have mz_253 : en_253 0 = .inr (11, [.int 0, .int 0, .int d, .int m0, .int 0, .ref (ad 1), .ref (ad 2), .ref (ad 3), .ref (ad 4), .ref (ad 5), .ref (ad 6), .ref (ad 7), .ref (ad 8), .ref (ad 9), .int 0, .long 0, .long 0, .long 0, .long 0, .ref (ad 10), .ref (ad 11), .ref (ad 12), .int 0, .long 0, .ref (ad 13), .int (-9), .ref (ad 14), .ref (ad 15), .ref (ad 16), .ref (ad 17), .int 0, .ref (ad 18), .ref (ad 19)]) := by rw [hen_253]; exact va_up_self _ _ _
      refine lv_aload_n hx hb dX12_begin_45 rfl (lv_at hl 0 rfl) ?_
      refine lv_iconst (v := 0) hx hb dX12_begin_46 (by decide) ?_
      refine hp_put hx hb hts ix12 tyX12 tyX12_ok nmX12 hown hK hh (q := 0) rfl (hcs _ (by decide)) mz_253 rfl 4 (by decide) (hts _ tw_883) (fun _ h9 => h9) rfl (ty := .int) (by decide +kernel) rfl rfl (Nat.le_of_ble_eq_true rfl) dX12_begin_47 (fun H locs en_254 hen_254 hh => ?_)
      have hid_254 : en_254 = en_253 := hen_254.trans (va_up_id mz_253)
      rw [hid_254] at hh
      refine lv_aload_n hx hb dX12_begin_50 rfl (lv_at hl 0 rfl) ?_
      refine lv_iconst (v := 0) hx hb dX12_begin_51 (by decide) ?_
      refine hp_put hx hb hts ix12 tyX12 tyX12_ok nmX12 hown hK hh (q := 0) rfl (hcs _ (by decide)) mz_253 rfl 30 (by decide) (hts _ tw_909) (fun _ h9 => h9) rfl (ty := .int) (by decide +kernel) rfl rfl (Nat.le_of_ble_eq_true rfl) dX12_begin_52 (fun H locs en_255 hen_255 hh => ?_)
      have hid_255 : en_255 = en_253 := hen_255.trans (va_up_id mz_253)
      rw [hid_255] at hh
      refine lv_aload_n hx hb dX12_begin_55 rfl (lv_at hl 0 rfl) ?_
      refine lv_bipush (v := (-9)) hx hb dX12_begin_56 (by decide) ?_
      refine hp_put hx hb hts ix12 tyX12 tyX12_ok nmX12 hown hK hh (q := 0) rfl (hcs _ (by decide)) mz_253 rfl 25 (by decide) (hts _ tw_904) (fun _ h9 => h9) rfl (ty := .int) (by decide +kernel) rfl rfl (Nat.le_of_ble_eq_true rfl) dX12_begin_58 (fun H locs en_256 hen_256 hh => ?_)
      have hid_256 : en_256 = en_253 := hen_256.trans (va_up_id mz_253)
      rw [hid_256] at hh
      refine lv_iconst (v := 0) hx hb dX12_begin_61 (by decide) ?_
      refine lv_istore_n (lv' := [(3, .int 0), (0, .ref (ad 0)), (1, .int d), (2, .int m0)]) hx hb dX12_begin_62 rfl hl (by decide) rfl (fun ls hl => ?_)
      have loop_257 : ∀ (fu j : Nat) (g : Nat → Int32) (ls : Array Slot) (H : Heap) (locs : List Loc) (en_257 : Nat → va_E), j ≤ 36 → 36 < j + fu → en_257 = va_up en_253 2 (.inl (cy 2, 36, .inl g)) → lv_has ls 4 [(3, .int (nI j)), (0, .ref (ad 0)), (1, .int d), (2, .int m0)] → Hp D (Af cs ad sz) (Af cs ad sz) s.heap H locs cs ad en_257 → W p l e (headSpec (Cond.code yX12_begin cX12_begin 4 (some .int) :: TB) (rmN 1)).room s m ([.ref (ad 0), .int d, .int m0] : List Value).toArray below meth c H locs 0 0 (MQ below (va_Qi (S := Nat → va_E) (fun r _ => r = spBegin d m0) (PostM D cs ad) (Af cs ad sz)) ([.ref (ad 0), .int d, .int m0] : List Value).toArray s 0 0 (Af cs ad sz)) (F0 m 63 ls []) := by
        intro fu
        induction fu with
        | zero => intro j g ls H locs en_257 h1 h2; exact absurd h2 (by omega)
        | succ fu ih =>
          intro j g ls H locs en_257 hj hn hen_257 hl hh
          have mz_257 : en_257 0 = .inr (11, [.int 0, .int 0, .int d, .int m0, .int 0, .ref (ad 1), .ref (ad 2), .ref (ad 3), .ref (ad 4), .ref (ad 5), .ref (ad 6), .ref (ad 7), .ref (ad 8), .ref (ad 9), .int 0, .long 0, .long 0, .long 0, .long 0, .ref (ad 10), .ref (ad 11), .ref (ad 12), .int 0, .long 0, .ref (ad 13), .int (-9), .ref (ad 14), .ref (ad 15), .ref (ad 16), .ref (ad 17), .int 0, .ref (ad 18), .ref (ad 19)]) := by rw [hen_257, va_up_ne _ _ (by decide)]; exact mz_253
          have m2_257 : en_257 2 = .inl (cy 2, 36, .inl g) := by rw [hen_257]; exact va_up_self _ _ _
          rcases Nat.lt_or_ge j 36 with hjN | hjN
          · refine lv_iload_n hx hb dX12_begin_63 rfl (lv_at hl 0 rfl) ?_
            refine lv_bipush (v := 36) hx hb dX12_begin_64 (by decide) ?_
            refine lv_icmp_ge (tgt := 82) hx hb dX12_begin_66 (by decide) (fun c_0 => absurd c_0 (nI_ge (b := 36) hjN (by decide))) (fun _ => ?_)
            refine lv_aload_n hx hb dX12_begin_69 rfl (lv_at hl 1 rfl) ?_
            refine hp_get hx hb hts ix12 hown hK hh (q := 0) rfl (hcs _ (by decide)) mz_257 rfl 6 (by decide) (hts _ tw_885) (fun _ h9 => h9) rfl dX12_begin_70 ?_
            refine lv_iload_n hx hb dX12_begin_73 rfl (lv_at hl 0 rfl) ?_
            refine lv_iconst (v := 0) hx hb dX12_begin_74 (by decide) ?_
            refine hp_zast hx hb hK hh (q := 2) rfl (hcs _ (by decide)) m2_257 (vp_in_nI hjN (by decide)) dX12_begin_75 (fun H locs en_258 hen_258 hh => ?_)
            have mz_258 : en_258 0 = .inr (11, [.int 0, .int 0, .int d, .int m0, .int 0, .ref (ad 1), .ref (ad 2), .ref (ad 3), .ref (ad 4), .ref (ad 5), .ref (ad 6), .ref (ad 7), .ref (ad 8), .ref (ad 9), .int 0, .long 0, .long 0, .long 0, .long 0, .ref (ad 10), .ref (ad 11), .ref (ad 12), .int 0, .long 0, .ref (ad 13), .int (-9), .ref (ad 14), .ref (ad 15), .ref (ad 16), .ref (ad 17), .int 0, .ref (ad 18), .ref (ad 19)]) := by rw [hen_258, va_up_ne _ _ (by decide)]; exact mz_257
            have m2_258 : en_258 2 = .inl (cy 2, 36, .inl (upd g (nI j).toNatClampNeg (vp_nar .boolean 0))) := by rw [hen_258]; exact va_up_self _ _ _
            refine lv_iinc (v := nI (j + 1)) (lv' := [(3, .int (nI (j + 1))), (0, .ref (ad 0)), (1, .int d), (2, .int m0)]) hx hb dX12_begin_76 hl (k := 0) rfl (nI_1 _) (by decide) rfl (fun ls hl => ?_)
            refine lv_goto (tgt := 63) hx hb dX12_begin_79 (by decide) ?_
            exact ih (j + 1) _ ls H locs en_258 (by omega) (by omega) (by rw [hen_258, hen_257, bx_uu]; try rfl) (lv_sub hl [0, 1, 2, 3] rfl) hh
          · refine lv_iload_n hx hb dX12_begin_63 rfl (lv_at hl 0 rfl) ?_
            refine lv_bipush (v := 36) hx hb dX12_begin_64 (by decide) ?_
            refine lv_icmp_ge (tgt := 82) hx hb dX12_begin_66 (by decide) (fun _ => ?_) (fun c_0 => absurd (nI_le (a := 36) hjN (by omega)) c_0)
            refine lv_iconst (v := 1) hx hb dX12_begin_82 (by decide) ?_
            exact hp_iretM hx hb hr rfl hlocks hh ((if_pos ⟨hp_250, Or.inl c_251⟩).symm) dX12_begin_83
      exact loop_257 (36 + 1) 0 g2 ls _ _ en_253 (Nat.zero_le _) (by omega) (va_up_id m2_253).symm (lv_sub hl [0, 1, 2, 3] rfl) hh
    · refine lv_iload_n hx hb dX12_begin_18 rfl (lv_at hl 2 rfl) ?_
      refine lv_i2l hx hb dX12_begin_19 rfl ?_
      refine lv_ldc2 hx hb hown (hts _ tw_983) dX12_begin_20 ?_
      refine lv_ldc2 hx hb hown (hts _ tw_988) dX12_begin_23 ?_
      refine hp_callRi (va_runS (As := [.long m0.toInt64, .long 2, .long 97]) (rest := []) ⟨hx, hb, hml, hown, hts⟩ (c_X12_within l D cy _ cs ad en m0.toInt64 2 97 ) (kw_X12_within hts tw_985 ⟨by decide, by decide⟩) (preS_of hh hK) rfl rfl hl.1 rfl (lv_room (Nat.le_of_ble_eq_true rfl)) dX12_begin_26 ⟨Nat.le_of_ble_eq_true rfl, Nat.le_of_ble_eq_true rfl⟩) hh hA (fun r_259 H locs hw_259 hh => ?_)
      rcases Decidable.em (wi m0 2 97) with hp_259 | hp_259
      · obtain rfl : r_259 = 1 := Eq.trans hw_259 (if_pos ((wj_32 (by decide) (by decide)).mpr hp_259))
        refine lv_if_ne (tgt := 35) hx hb dX12_begin_29 (by decide) (fun _ => ?_) (fun c_0 => absurd c_0 (by decide))
        refine lv_aload_n hx hb dX12_begin_35 rfl (lv_at hl 0 rfl) ?_
        refine lv_iload_n hx hb dX12_begin_36 rfl (lv_at hl 1 rfl) ?_
        refine hp_put hx hb hts ix12 tyX12 tyX12_ok nmX12 hown hK hh (q := 0) rfl (hcs _ (by decide)) mz rfl 2 (by decide) (hts _ tw_881) (fun _ h9 => h9) rfl (ty := .int) (by decide +kernel) rfl rfl (Nat.le_of_ble_eq_true rfl) dX12_begin_37 (fun H locs en_260 hen_260 hh => ?_)
        have m2_260 : en_260 2 = .inl (cy 2, 36, .inl g2) := by rw [hen_260, va_up_ne _ _ (by decide)]; exact m2
        have mz_260 : en_260 0 = .inr (11, [.int 0, .int 0, .int d, .int 0, .int 0, .ref (ad 1), .ref (ad 2), .ref (ad 3), .ref (ad 4), .ref (ad 5), .ref (ad 6), .ref (ad 7), .ref (ad 8), .ref (ad 9), .int 0, .long 0, .long 0, .long 0, .long 0, .ref (ad 10), .ref (ad 11), .ref (ad 12), .int 0, .long 0, .ref (ad 13), .int (-9), .ref (ad 14), .ref (ad 15), .ref (ad 16), .ref (ad 17), .int 0, .ref (ad 18), .ref (ad 19)]) := by rw [hen_260]; exact va_up_self _ _ _
        refine lv_aload_n hx hb dX12_begin_40 rfl (lv_at hl 0 rfl) ?_
        refine lv_iload_n hx hb dX12_begin_41 rfl (lv_at hl 2 rfl) ?_
        refine hp_put hx hb hts ix12 tyX12 tyX12_ok nmX12 hown hK hh (q := 0) rfl (hcs _ (by decide)) mz_260 rfl 3 (by decide) (hts _ tw_882) (fun _ h9 => h9) rfl (ty := .int) (by decide +kernel) rfl rfl (Nat.le_of_ble_eq_true rfl) dX12_begin_42 (fun H locs en_261 hen_261 hh => ?_)
        have m2_261 : en_261 2 = .inl (cy 2, 36, .inl g2) := by rw [hen_261, va_up_ne _ _ (by decide)]; exact m2_260
        have mz_261 : en_261 0 = .inr (11, [.int 0, .int 0, .int d, .int m0, .int 0, .ref (ad 1), .ref (ad 2), .ref (ad 3), .ref (ad 4), .ref (ad 5), .ref (ad 6), .ref (ad 7), .ref (ad 8), .ref (ad 9), .int 0, .long 0, .long 0, .long 0, .long 0, .ref (ad 10), .ref (ad 11), .ref (ad 12), .int 0, .long 0, .ref (ad 13), .int (-9), .ref (ad 14), .ref (ad 15), .ref (ad 16), .ref (ad 17), .int 0, .ref (ad 18), .ref (ad 19)]) := by rw [hen_261]; exact va_up_self _ _ _
        refine lv_aload_n hx hb dX12_begin_45 rfl (lv_at hl 0 rfl) ?_
        refine lv_iconst (v := 0) hx hb dX12_begin_46 (by decide) ?_
        refine hp_put hx hb hts ix12 tyX12 tyX12_ok nmX12 hown hK hh (q := 0) rfl (hcs _ (by decide)) mz_261 rfl 4 (by decide) (hts _ tw_883) (fun _ h9 => h9) rfl (ty := .int) (by decide +kernel) rfl rfl (Nat.le_of_ble_eq_true rfl) dX12_begin_47 (fun H locs en_262 hen_262 hh => ?_)
        have hid_262 : en_262 = en_261 := hen_262.trans (va_up_id mz_261)
        rw [hid_262] at hh
        refine lv_aload_n hx hb dX12_begin_50 rfl (lv_at hl 0 rfl) ?_
        refine lv_iconst (v := 0) hx hb dX12_begin_51 (by decide) ?_
        refine hp_put hx hb hts ix12 tyX12 tyX12_ok nmX12 hown hK hh (q := 0) rfl (hcs _ (by decide)) mz_261 rfl 30 (by decide) (hts _ tw_909) (fun _ h9 => h9) rfl (ty := .int) (by decide +kernel) rfl rfl (Nat.le_of_ble_eq_true rfl) dX12_begin_52 (fun H locs en_263 hen_263 hh => ?_)
        have hid_263 : en_263 = en_261 := hen_263.trans (va_up_id mz_261)
        rw [hid_263] at hh
        refine lv_aload_n hx hb dX12_begin_55 rfl (lv_at hl 0 rfl) ?_
        refine lv_bipush (v := (-9)) hx hb dX12_begin_56 (by decide) ?_
        refine hp_put hx hb hts ix12 tyX12 tyX12_ok nmX12 hown hK hh (q := 0) rfl (hcs _ (by decide)) mz_261 rfl 25 (by decide) (hts _ tw_904) (fun _ h9 => h9) rfl (ty := .int) (by decide +kernel) rfl rfl (Nat.le_of_ble_eq_true rfl) dX12_begin_58 (fun H locs en_264 hen_264 hh => ?_)
        have hid_264 : en_264 = en_261 := hen_264.trans (va_up_id mz_261)
        rw [hid_264] at hh
        refine lv_iconst (v := 0) hx hb dX12_begin_61 (by decide) ?_
        refine lv_istore_n (lv' := [(3, .int 0), (0, .ref (ad 0)), (1, .int d), (2, .int m0)]) hx hb dX12_begin_62 rfl hl (by decide) rfl (fun ls hl => ?_)
        have loop_265 : ∀ (fu j : Nat) (g : Nat → Int32) (ls : Array Slot) (H : Heap) (locs : List Loc) (en_265 : Nat → va_E), j ≤ 36 → 36 < j + fu → en_265 = va_up en_261 2 (.inl (cy 2, 36, .inl g)) → lv_has ls 4 [(3, .int (nI j)), (0, .ref (ad 0)), (1, .int d), (2, .int m0)] → Hp D (Af cs ad sz) (Af cs ad sz) s.heap H locs cs ad en_265 → W p l e (headSpec (Cond.code yX12_begin cX12_begin 4 (some .int) :: TB) (rmN 1)).room s m ([.ref (ad 0), .int d, .int m0] : List Value).toArray below meth c H locs 0 0 (MQ below (va_Qi (S := Nat → va_E) (fun r _ => r = spBegin d m0) (PostM D cs ad) (Af cs ad sz)) ([.ref (ad 0), .int d, .int m0] : List Value).toArray s 0 0 (Af cs ad sz)) (F0 m 63 ls []) := by
          intro fu
          induction fu with
          | zero => intro j g ls H locs en_265 h1 h2; exact absurd h2 (by omega)
          | succ fu ih =>
            intro j g ls H locs en_265 hj hn hen_265 hl hh
            have mz_265 : en_265 0 = .inr (11, [.int 0, .int 0, .int d, .int m0, .int 0, .ref (ad 1), .ref (ad 2), .ref (ad 3), .ref (ad 4), .ref (ad 5), .ref (ad 6), .ref (ad 7), .ref (ad 8), .ref (ad 9), .int 0, .long 0, .long 0, .long 0, .long 0, .ref (ad 10), .ref (ad 11), .ref (ad 12), .int 0, .long 0, .ref (ad 13), .int (-9), .ref (ad 14), .ref (ad 15), .ref (ad 16), .ref (ad 17), .int 0, .ref (ad 18), .ref (ad 19)]) := by rw [hen_265, va_up_ne _ _ (by decide)]; exact mz_261
            have m2_265 : en_265 2 = .inl (cy 2, 36, .inl g) := by rw [hen_265]; exact va_up_self _ _ _
            rcases Nat.lt_or_ge j 36 with hjN | hjN
            · refine lv_iload_n hx hb dX12_begin_63 rfl (lv_at hl 0 rfl) ?_
              refine lv_bipush (v := 36) hx hb dX12_begin_64 (by decide) ?_
              refine lv_icmp_ge (tgt := 82) hx hb dX12_begin_66 (by decide) (fun c_0 => absurd c_0 (nI_ge (b := 36) hjN (by decide))) (fun _ => ?_)
              refine lv_aload_n hx hb dX12_begin_69 rfl (lv_at hl 1 rfl) ?_
              refine hp_get hx hb hts ix12 hown hK hh (q := 0) rfl (hcs _ (by decide)) mz_265 rfl 6 (by decide) (hts _ tw_885) (fun _ h9 => h9) rfl dX12_begin_70 ?_
              refine lv_iload_n hx hb dX12_begin_73 rfl (lv_at hl 0 rfl) ?_
              refine lv_iconst (v := 0) hx hb dX12_begin_74 (by decide) ?_
              refine hp_zast hx hb hK hh (q := 2) rfl (hcs _ (by decide)) m2_265 (vp_in_nI hjN (by decide)) dX12_begin_75 (fun H locs en_266 hen_266 hh => ?_)
              have mz_266 : en_266 0 = .inr (11, [.int 0, .int 0, .int d, .int m0, .int 0, .ref (ad 1), .ref (ad 2), .ref (ad 3), .ref (ad 4), .ref (ad 5), .ref (ad 6), .ref (ad 7), .ref (ad 8), .ref (ad 9), .int 0, .long 0, .long 0, .long 0, .long 0, .ref (ad 10), .ref (ad 11), .ref (ad 12), .int 0, .long 0, .ref (ad 13), .int (-9), .ref (ad 14), .ref (ad 15), .ref (ad 16), .ref (ad 17), .int 0, .ref (ad 18), .ref (ad 19)]) := by rw [hen_266, va_up_ne _ _ (by decide)]; exact mz_265
              have m2_266 : en_266 2 = .inl (cy 2, 36, .inl (upd g (nI j).toNatClampNeg (vp_nar .boolean 0))) := by rw [hen_266]; exact va_up_self _ _ _
              refine lv_iinc (v := nI (j + 1)) (lv' := [(3, .int (nI (j + 1))), (0, .ref (ad 0)), (1, .int d), (2, .int m0)]) hx hb dX12_begin_76 hl (k := 0) rfl (nI_1 _) (by decide) rfl (fun ls hl => ?_)
              refine lv_goto (tgt := 63) hx hb dX12_begin_79 (by decide) ?_
              exact ih (j + 1) _ ls H locs en_266 (by omega) (by omega) (by rw [hen_266, hen_265, bx_uu]; try rfl) (lv_sub hl [0, 1, 2, 3] rfl) hh
            · refine lv_iload_n hx hb dX12_begin_63 rfl (lv_at hl 0 rfl) ?_
              refine lv_bipush (v := 36) hx hb dX12_begin_64 (by decide) ?_
              refine lv_icmp_ge (tgt := 82) hx hb dX12_begin_66 (by decide) (fun _ => ?_) (fun c_0 => absurd (nI_le (a := 36) hjN (by omega)) c_0)
              refine lv_iconst (v := 1) hx hb dX12_begin_82 (by decide) ?_
              exact hp_iretM hx hb hr rfl hlocks hh ((if_pos ⟨hp_250, Or.inr hp_259⟩).symm) dX12_begin_83
        exact loop_265 (36 + 1) 0 g2 ls _ _ en_261 (Nat.zero_le _) (by omega) (va_up_id m2_261).symm (lv_sub hl [0, 1, 2, 3] rfl) hh
      · obtain rfl : r_259 = 0 := Eq.trans hw_259 (if_neg (fun q => hp_259 ((wj_32 (by decide) (by decide)).mp q)))
        refine lv_if_ne (tgt := 35) hx hb dX12_begin_29 (by decide) (fun c_0 => absurd c_0 (by decide)) (fun _ => ?_)
        refine lv_bipush (v := (-2)) hx hb dX12_begin_32 (by decide) ?_
        exact hp_iretM hx hb hr rfl hlocks hh ((if_neg (fun h => h.2.elim c_251 hp_259)).symm) dX12_begin_34
  · obtain rfl : r_250 = 0 := Eq.trans hw_250 (if_neg (fun q => hp_250 ((wj_32 (by decide) (by decide)).mp q)))
    refine lv_if_eq (tgt := 32) hx hb dX12_begin_11 (by decide) (fun _ => ?_) (fun c_0 => absurd c_0 (by decide))
    refine lv_bipush (v := (-2)) hx hb dX12_begin_32 (by decide) ?_
    exact hp_iretM hx hb hr rfl hlocks hh ((if_neg (fun h => hp_250 h.1)).symm) dX12_begin_34
theorem kw_X12_begin {R : Room} {s : State} {args : Array Value} {own : String} {idx : Nat} (hts : ∀ w ∈ TB, w.before args s = true) (hl : Cond.methodLink own idx yX12_begin ∈ TB) (hR : 1 + 1 ≤ R.frames ∧ 8 + (4 + 11) + 40 * 1 ≤ R.locals) : CallW R s args own RX12 idx yX12_begin cX12_begin 4 (some .int) (Cond.code yX12_begin cX12_begin 4 (some .int) :: TB) (rmN 1) 0 0 2 := cwV 2 hts (TB_V hl tw_980 tw_981 tw_9 tw_982) rfl rfl rfl (by decide +kernel) hR
