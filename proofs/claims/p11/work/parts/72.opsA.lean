set_option maxHeartbeats 4000000 in
set_option maxRecDepth 100000 in
/-- the law at begin -/
theorem op_0 {p : Program} {e : Env} {s : State} {m : MethodId} {below : List Frame} {meth : Method} {c : Code} (l : Launch) {b L : Nat} {xs : Nat → Int32} (C0 : lw_At p s m meth c b L xs) (hL : L ≤ 2560) {D : va_G} {cy : Nat → ClassId} (hK : va_K D vwCl (tyl cy) s) {x y j z n : Nat} {aX aM : Nat → Nat} {eX eM : Nat → va_E} {F : Nat → Nat → Int32} {H : Heap} {locs : List Loc} {ls : Array Slot} (hj : 5 * j + 5 ≤ L) (hz : z ≤ 1) (hx0 : aX 0 = x) (hy0 : aM 0 = y) (hX0 : LIX cy z n aX eX F) (hM0 : LIM cy aM eM) (hRL : RLN9 F eX eM) (hW : LW2 D s (List.range n) aX eX (List.range 20) aM eM H locs) (hl : lv_has ls 4 [(3, .int (nI (5 * j))), (2, .ref y), (1, .ref x), (0, .ref b)]) (kk : ∀ (z1 n1 : Nat) (aX1 : Nat → Nat) (eX1 eM1 : Nat → va_E) (F1 : Nat → Nat → Int32) (H1 : Heap) (locs1 : List Loc) (ls1 : Array Slot), z1 ≤ 1 → aX1 0 = x → LIX cy z1 n1 aX1 eX1 F1 → LIM cy aM eM1 → RLN9 F1 eX1 eM1 → LW2 D s (List.range n1) aX1 eX1 (List.range 20) aM eM1 H1 locs1 → lv_has ls1 4 [(3, .int (nI (5 * j))), (2, .ref y), (1, .ref x), (0, .ref b)] → W p l e room_1 s m #[Value.ref b] below meth c H1 locs1 (137 + 2 * j + 3 * z1) (27799 + 12 * j + 24096 * z1) (lw_Z below #[Value.ref b] s) (F0 m 1164 ls1 [])) : W p l e room_1 s m #[Value.ref b] below meth c H locs (135 + 2 * j + 3 * z) (27787 + 12 * j + 24096 * z) (lw_Z below #[Value.ref b] s) (F0 m 168 ls []) := by
  obtain ⟨hx, hb, hr, hml, hown, hts, hXs, hbl, hlocks, hgv⟩ := id C0
  have ht : ∀ w ∈ TB, w.before #[Value.ref b] s = true := fun w h => hts w (TB_lw h)
  have hXW := XW_law hts
  have hbA : ¬ (AL s) b := Nat.not_le.mpr hbl
  subst hx0
  subst hy0
  have hn115 := hX0.1
  have hXo := hX0
  have hR := hRL.1
  have hLN := hRL.2
  refine lv_aload_n hx hb dL_law_168 rfl (lv_at hl 2 rfl) ?_
  refine lv_aload_n hx hb dL_law_169 rfl (lv_at hl 3 rfl) ?_
  refine lv_iload_n hx hb dL_law_170 rfl (lv_at hl 0 rfl) ?_
  refine lv_iconst (v := 1) hx hb dL_law_171 (by decide) ?_
  refine lv_iadd hx hb dL_law_172 ?_
  rw [show (1 : Int32) = nI 1 from rfl, nI_add (5 * j) 1]
  refine va_sld hx hb hXs hbl hbA hW.2.2.2.2.2 (i := nI ((5 * j) + 1)) (vp_in_nI (n := ((5 * j) + 1)) (by omega) (by omega)) dL_law_173 ?_
  rw [nI_clamp (n := ((5 * j) + 1)) (by omega)]
  refine lv_aload_n hx hb dL_law_174 rfl (lv_at hl 3 rfl) ?_
  refine lv_iload_n hx hb dL_law_175 rfl (lv_at hl 0 rfl) ?_
  refine lv_iconst (v := 2) hx hb dL_law_176 (by decide) ?_
  refine lv_iadd hx hb dL_law_177 ?_
  rw [show (2 : Int32) = nI 2 from rfl, nI_add (5 * j) 2]
  refine va_sld hx hb hXs hbl hbA hW.2.2.2.2.2 (i := nI ((5 * j) + 2)) (vp_in_nI (n := ((5 * j) + 2)) (by omega) (by omega)) dL_law_178 ?_
  rw [nI_clamp (n := ((5 * j) + 2)) (by omega)]
  obtain ⟨wc_1, lf_1, x0_1, -⟩ := get_A hX0.2.1
  refine lw_Mi (va_runV (As := [.int (xs ((5 * j) + 1)), .int (xs ((5 * j) + 2))]) (rest := []) ⟨hx, hb, hml, hown, ht⟩ (c_X11_begin l D cy _ (List.range n) aX eX hX0.2.1 (xs ((5 * j) + 1)) (xs ((5 * j) + 2)) ) (kw_X11_begin ht tw_270 ⟨(Nat.le_of_ble_eq_true rfl), (Nat.le_of_ble_eq_true rfl)⟩) (preV_of hW.hp hK (List.mem_range.mpr (by omega)) x0_1 rfl) rfl rfl hl.1 rfl (lv_room (Nat.le_of_ble_eq_true rfl)) dL_law_179 ⟨by show 135 + 2 * j + 3 * z + 0 ≤ 600000; omega, by show 27787 + 12 * j + 24096 * z + 0 ≤ 7302250; omega⟩) hW (fun r_1 H locs en_1 hw_1 hW9 => ?_)
  have hW := hW9
  obtain ⟨hs_1, hu_1, hr_1, hc_1, hln_1⟩ := hw_1
  have hX_1 : LIX cy z n aX en_1 F := by
    rcases hc_1 with ⟨-, q⟩ | ⟨-, q1, q2, q3, -⟩
    · rw [q]; exact hX0
    · exact ⟨hX0.1, hs_1, TXF_0 q2, CPz_forget hX0.2.2.2.1 (fun c hc => hu_1 c (by omega)) q3, WX_0 q1⟩
  have hX0 := hX_1
  refine lv_pop hx hb dL_law_182 rfl ?_
  refine lv_aload_n hx hb dL_law_183 rfl (lv_at hl 1 rfl) ?_
  refine lv_aload_n hx hb dL_law_184 rfl (lv_at hl 3 rfl) ?_
  refine lv_iload_n hx hb dL_law_185 rfl (lv_at hl 0 rfl) ?_
  refine lv_iconst (v := 1) hx hb dL_law_186 (by decide) ?_
  refine lv_iadd hx hb dL_law_187 ?_
  rw [show (1 : Int32) = nI 1 from rfl, nI_add (5 * j) 1]
  refine va_sld hx hb hXs hbl hbA hW.2.2.2.2.2 (i := nI ((5 * j) + 1)) (vp_in_nI (n := ((5 * j) + 1)) (by omega) (by omega)) dL_law_188 ?_
  rw [nI_clamp (n := ((5 * j) + 1)) (by omega)]
  refine lv_aload_n hx hb dL_law_189 rfl (lv_at hl 3 rfl) ?_
  refine lv_iload_n hx hb dL_law_190 rfl (lv_at hl 0 rfl) ?_
  refine lv_iconst (v := 2) hx hb dL_law_191 (by decide) ?_
  refine lv_iadd hx hb dL_law_192 ?_
  rw [show (2 : Int32) = nI 2 from rfl, nI_add (5 * j) 2]
  refine va_sld hx hb hXs hbl hbA hW.2.2.2.2.2 (i := nI ((5 * j) + 2)) (vp_in_nI (n := ((5 * j) + 2)) (by omega) (by omega)) dL_law_193 ?_
  rw [nI_clamp (n := ((5 * j) + 2)) (by omega)]
  obtain ⟨_, _, _, _, _, _, _, _, _, _, _, _, _, _, x0_2, -⟩ := getr_M hM0.1
  refine lw_Mi (va_runV (As := [.int (xs ((5 * j) + 1)), .int (xs ((5 * j) + 2))]) (rest := []) ⟨hx, hb, hml, hown, ht⟩ (c_X12_begin l D cy _ (List.range 20) aM eM hM0.1 (xs ((5 * j) + 1)) (xs ((5 * j) + 2)) ) (kw_X12_begin ht tw_979 ⟨(Nat.le_of_ble_eq_true rfl), (Nat.le_of_ble_eq_true rfl)⟩) (preV_of hW.sy.hp hK (List.mem_range.mpr (by decide)) x0_2 rfl) rfl rfl hl.1 rfl (lv_room (Nat.le_of_ble_eq_true rfl)) dL_law_194 ⟨by show 135 + 2 * j + 3 * z + 0 ≤ 600000; omega, by show 27787 + 12 * j + 24096 * z + 0 ≤ 7302250; omega⟩) hW.sy (fun r_2 H locs en_2 hw_2 hW9 => ?_)
  have hW := hW9.sy
  obtain ⟨hs_2, hu_2, hr_2, hc_2⟩ := hw_2
  have hM_2 : LIM cy aM en_2 := by
    rcases hc_2 with ⟨-, q⟩ | ⟨-, ⟨-, -, -, -, q25, q30⟩, -⟩
    · rw [q]; exact hM0
    · exact ⟨hs_2, RWX_0 q30, Or.inl q25⟩
  have hM0 := hM_2
  refine lv_pop hx hb dL_law_197 rfl ?_
  refine lv_goto (tgt := 1164) hx hb dL_law_198 (by decide) ?_
  refine W.widen (k := 137 + 2 * j + 3 * z) (n := 27799 + 12 * j + 24096 * z) (by omega) (by omega) ?_
  exact kk z n aX en_1 en_2 F _ _ ls (by omega) rfl hX_1 hM_2 ⟨(RLX_begin hR (hr_1.trans hr_2.symm) hc_1 (fun c hc => hu_1 c (by omega)) hc_2 (fun c hc => hu_2 c (by omega))), (hln_1.elim (fun e9 => by rw [e9]; exact hLN) id)⟩ hW (lv_sub hl [0, 1, 2, 3] rfl)
set_option maxHeartbeats 4000000 in
set_option maxRecDepth 100000 in
/-- the law at table -/
theorem op_1 {p : Program} {e : Env} {s : State} {m : MethodId} {below : List Frame} {meth : Method} {c : Code} (l : Launch) {b L : Nat} {xs : Nat → Int32} (C0 : lw_At p s m meth c b L xs) (hL : L ≤ 2560) {D : va_G} {cy : Nat → ClassId} (hK : va_K D vwCl (tyl cy) s) {x y j z n : Nat} {aX aM : Nat → Nat} {eX eM : Nat → va_E} {F : Nat → Nat → Int32} {H : Heap} {locs : List Loc} {ls : Array Slot} (hj : 5 * j + 5 ≤ L) (hz : z ≤ 1) (hx0 : aX 0 = x) (hy0 : aM 0 = y) (hX0 : LIX cy z n aX eX F) (hM0 : LIM cy aM eM) (hRL : RLN9 F eX eM) (hW : LW2 D s (List.range n) aX eX (List.range 20) aM eM H locs) (hl : lv_has ls 4 [(3, .int (nI (5 * j))), (2, .ref y), (1, .ref x), (0, .ref b)]) (kk : ∀ (z1 n1 : Nat) (aX1 : Nat → Nat) (eX1 eM1 : Nat → va_E) (F1 : Nat → Nat → Int32) (H1 : Heap) (locs1 : List Loc) (ls1 : Array Slot), z1 ≤ 1 → aX1 0 = x → LIX cy z1 n1 aX1 eX1 F1 → LIM cy aM eM1 → RLN9 F1 eX1 eM1 → LW2 D s (List.range n1) aX1 eX1 (List.range 20) aM eM1 H1 locs1 → lv_has ls1 4 [(3, .int (nI (5 * j))), (2, .ref y), (1, .ref x), (0, .ref b)] → W p l e room_1 s m #[Value.ref b] below meth c H1 locs1 (137 + 2 * j + 3 * z1) (27799 + 12 * j + 24096 * z1) (lw_Z below #[Value.ref b] s) (F0 m 1164 ls1 [])) : W p l e room_1 s m #[Value.ref b] below meth c H locs (135 + 2 * j + 3 * z) (27787 + 12 * j + 24096 * z) (lw_Z below #[Value.ref b] s) (F0 m 201 ls []) := by
  obtain ⟨hx, hb, hr, hml, hown, hts, hXs, hbl, hlocks, hgv⟩ := id C0
  have ht : ∀ w ∈ TB, w.before #[Value.ref b] s = true := fun w h => hts w (TB_lw h)
  have hXW := XW_law hts
  have hbA : ¬ (AL s) b := Nat.not_le.mpr hbl
  subst hx0
  subst hy0
  have hn115 := hX0.1
  have hXo := hX0
  have hR := hRL.1
  have hLN := hRL.2
  refine lv_aload_n hx hb dL_law_201 rfl (lv_at hl 2 rfl) ?_
  refine lv_aload_n hx hb dL_law_202 rfl (lv_at hl 3 rfl) ?_
  refine lv_iload_n hx hb dL_law_203 rfl (lv_at hl 0 rfl) ?_
  refine lv_iconst (v := 1) hx hb dL_law_204 (by decide) ?_
  refine lv_iadd hx hb dL_law_205 ?_
  rw [show (1 : Int32) = nI 1 from rfl, nI_add (5 * j) 1]
  refine va_sld hx hb hXs hbl hbA hW.2.2.2.2.2 (i := nI ((5 * j) + 1)) (vp_in_nI (n := ((5 * j) + 1)) (by omega) (by omega)) dL_law_206 ?_
  rw [nI_clamp (n := ((5 * j) + 1)) (by omega)]
  refine lv_aload_n hx hb dL_law_207 rfl (lv_at hl 3 rfl) ?_
  refine lv_iload_n hx hb dL_law_208 rfl (lv_at hl 0 rfl) ?_
  refine lv_iconst (v := 2) hx hb dL_law_209 (by decide) ?_
  refine lv_iadd hx hb dL_law_210 ?_
  rw [show (2 : Int32) = nI 2 from rfl, nI_add (5 * j) 2]
  refine va_sld hx hb hXs hbl hbA hW.2.2.2.2.2 (i := nI ((5 * j) + 2)) (vp_in_nI (n := ((5 * j) + 2)) (by omega) (by omega)) dL_law_211 ?_
  rw [nI_clamp (n := ((5 * j) + 2)) (by omega)]
  refine lv_aload_n hx hb dL_law_212 rfl (lv_at hl 3 rfl) ?_
  refine lv_iload_n hx hb dL_law_213 rfl (lv_at hl 0 rfl) ?_
  refine lv_iconst (v := 3) hx hb dL_law_214 (by decide) ?_
  refine lv_iadd hx hb dL_law_215 ?_
  rw [show (3 : Int32) = nI 3 from rfl, nI_add (5 * j) 3]
  refine va_sld hx hb hXs hbl hbA hW.2.2.2.2.2 (i := nI ((5 * j) + 3)) (vp_in_nI (n := ((5 * j) + 3)) (by omega) (by omega)) dL_law_216 ?_
  rw [nI_clamp (n := ((5 * j) + 3)) (by omega)]
  obtain ⟨wc_3, lf_3, x0_3, -⟩ := get_A hX0.2.1
  refine lw_Vi (va_runV (As := [.int (xs ((5 * j) + 1)), .int (xs ((5 * j) + 2)), .int (xs ((5 * j) + 3))]) (rest := []) ⟨hx, hb, hml, hown, ht⟩ (c_X11_table l D cy _ aX eX n hX0.1 hX0.2.1 (xs ((5 * j) + 1)) (xs ((5 * j) + 2)) (xs ((5 * j) + 3)) z F hX0.2.2.1 hX0.2.2.2.1) (kw_X11_table ht tw_289 ⟨(Nat.le_of_ble_eq_true rfl), (Nat.le_of_ble_eq_true rfl)⟩) (preVC_of hW.hp hK hXW (List.mem_range.mpr (by omega)) x0_3 rfl) rfl rfl hl.1 rfl (lv_room (Nat.le_of_ble_eq_true rfl)) dL_law_217 ⟨by show 135 + 2 * j + 3 * z + 2 ≤ 600000; omega, by show 27787 + 12 * j + 24096 * z + 12 ≤ 7302250; omega⟩) hW (fun r_3 H locs n_3 a_3 en_3 hw_3 hW => ?_)
  obtain ⟨hnl_3, hnh_3, hda_3, hu_3, hs_3, ⟨F_3, htx_3, hxt_3, hrw_3, hla_3⟩, hcp_3, hr6_3⟩ := hw_3
  dsimp only at hnl_3 hnh_3 hda_3 hu_3 hs_3 htx_3 hxt_3 hrw_3 hla_3 hcp_3 hr6_3
  have hX_3 : LIX cy z n_3 a_3 en_3 F_3 := ⟨by omega, hs_3, htx_3, hcp_3, WXk hX0.2.1 hX0.2.2.2.2 hr6_3 (fun c hc => hu_3 c (by omega))⟩
  have ha0_3 := hda_3 0 (by omega)
  have hX0 := hX_3
  refine lv_pop hx hb dL_law_220 rfl ?_
  refine lv_aload_n hx hb dL_law_221 rfl (lv_at hl 1 rfl) ?_
  refine lv_aload_n hx hb dL_law_222 rfl (lv_at hl 3 rfl) ?_
  refine lv_iload_n hx hb dL_law_223 rfl (lv_at hl 0 rfl) ?_
  refine lv_iconst (v := 1) hx hb dL_law_224 (by decide) ?_
  refine lv_iadd hx hb dL_law_225 ?_
  rw [show (1 : Int32) = nI 1 from rfl, nI_add (5 * j) 1]
  refine va_sld hx hb hXs hbl hbA hW.2.2.2.2.2 (i := nI ((5 * j) + 1)) (vp_in_nI (n := ((5 * j) + 1)) (by omega) (by omega)) dL_law_226 ?_
  rw [nI_clamp (n := ((5 * j) + 1)) (by omega)]
  refine lv_aload_n hx hb dL_law_227 rfl (lv_at hl 3 rfl) ?_
  refine lv_iload_n hx hb dL_law_228 rfl (lv_at hl 0 rfl) ?_
  refine lv_iconst (v := 2) hx hb dL_law_229 (by decide) ?_
  refine lv_iadd hx hb dL_law_230 ?_
  rw [show (2 : Int32) = nI 2 from rfl, nI_add (5 * j) 2]
  refine va_sld hx hb hXs hbl hbA hW.2.2.2.2.2 (i := nI ((5 * j) + 2)) (vp_in_nI (n := ((5 * j) + 2)) (by omega) (by omega)) dL_law_231 ?_
  rw [nI_clamp (n := ((5 * j) + 2)) (by omega)]
  refine lv_aload_n hx hb dL_law_232 rfl (lv_at hl 3 rfl) ?_
  refine lv_iload_n hx hb dL_law_233 rfl (lv_at hl 0 rfl) ?_
  refine lv_iconst (v := 3) hx hb dL_law_234 (by decide) ?_
  refine lv_iadd hx hb dL_law_235 ?_
  rw [show (3 : Int32) = nI 3 from rfl, nI_add (5 * j) 3]
  refine va_sld hx hb hXs hbl hbA hW.2.2.2.2.2 (i := nI ((5 * j) + 3)) (vp_in_nI (n := ((5 * j) + 3)) (by omega) (by omega)) dL_law_236 ?_
  rw [nI_clamp (n := ((5 * j) + 3)) (by omega)]
  obtain ⟨_, _, _, _, _, _, _, _, _, _, _, _, _, _, x0_4, -⟩ := getr_M hM0.1
  refine lw_Mi (va_runV (As := [.int (xs ((5 * j) + 1)), .int (xs ((5 * j) + 2)), .int (xs ((5 * j) + 3))]) (rest := []) ⟨hx, hb, hml, hown, ht⟩ (c_X12_table l D cy _ (List.range 20) aM eM hM0.1 (xs ((5 * j) + 1)) (xs ((5 * j) + 2)) (xs ((5 * j) + 3)) ) (kw_X12_table ht tw_989 ⟨(Nat.le_of_ble_eq_true rfl), (Nat.le_of_ble_eq_true rfl)⟩) (preV_of hW.sy.hp hK (List.mem_range.mpr (by decide)) x0_4 rfl) rfl rfl hl.1 rfl (lv_room (Nat.le_of_ble_eq_true rfl)) dL_law_237 ⟨by show (135 + 2 * j + 3 * z + 2) + 0 ≤ 600000; omega, by show (27787 + 12 * j + 24096 * z + 12) + 0 ≤ 7302250; omega⟩) hW.sy (fun r_4 H locs en_4 hw_4 hW9 => ?_)
  have hW := hW9.sy
  obtain ⟨hs_4, hu_4, hc_4⟩ := hw_4
  have hM_4 : LIM cy aM en_4 := by
    rcases RTB_m hc_4 with q | ⟨q25, q30⟩
    · exact LIM_k hM0 hs_4 q.2.2.2.2.1 q.2.2.2.2.2 (fun c hc => hu_4 c (by omega))
    · exact ⟨hs_4, RWX_keep hM0.2.1 q30 (hu_4 19 (by omega)), Or.inl q25⟩
  have hM0 := hM_4
  refine lv_pop hx hb dL_law_240 rfl ?_
  refine lv_goto (tgt := 1164) hx hb dL_law_241 (by decide) ?_
  refine W.widen (k := 137 + 2 * j + 3 * z) (n := 27799 + 12 * j + 24096 * z) (by omega) (by omega) ?_
  exact kk z n_3 a_3 en_3 en_4 F_3 _ _ ls (by omega) (ha0_3.trans rfl) hX_3 hM_4 ⟨(RLX_t hR (TB_rel hR.1 hR.2.1 hR.2.2.2.2.2.1 hxt_3 hc_4).2.1 (TB_rel hR.1 hR.2.1 hR.2.2.2.2.2.1 hxt_3 hc_4).2.2 ⟨hrw_3 hR.2.2.2.2.2.2.1, PWX_t hXo.2.2.2.2 hR.2.2.2.2.2.2.2 hxt_3 hr6_3 (fun c hc => hu_3 c (by omega))⟩ hr6_3 (fun c hc => hu_3 c (by omega)) (RTB_k hc_4).1 (RTB_k hc_4).2 (fun c hc => hu_4 c (by omega))), (hla_3 hLN)⟩ hW (lv_sub hl [0, 1, 2, 3] rfl)
set_option maxHeartbeats 4000000 in
set_option maxRecDepth 100000 in
/-- the law at entry -/
theorem op_2 {p : Program} {e : Env} {s : State} {m : MethodId} {below : List Frame} {meth : Method} {c : Code} (l : Launch) {b L : Nat} {xs : Nat → Int32} (C0 : lw_At p s m meth c b L xs) (hL : L ≤ 2560) {D : va_G} {cy : Nat → ClassId} (hK : va_K D vwCl (tyl cy) s) {x y j z n : Nat} {aX aM : Nat → Nat} {eX eM : Nat → va_E} {F : Nat → Nat → Int32} {H : Heap} {locs : List Loc} {ls : Array Slot} (hj : 5 * j + 5 ≤ L) (hz : z ≤ 1) (hx0 : aX 0 = x) (hy0 : aM 0 = y) (hX0 : LIX cy z n aX eX F) (hM0 : LIM cy aM eM) (hRL : RLN9 F eX eM) (hW : LW2 D s (List.range n) aX eX (List.range 20) aM eM H locs) (hl : lv_has ls 4 [(3, .int (nI (5 * j))), (2, .ref y), (1, .ref x), (0, .ref b)]) (kk : ∀ (z1 n1 : Nat) (aX1 : Nat → Nat) (eX1 eM1 : Nat → va_E) (F1 : Nat → Nat → Int32) (H1 : Heap) (locs1 : List Loc) (ls1 : Array Slot), z1 ≤ 1 → aX1 0 = x → LIX cy z1 n1 aX1 eX1 F1 → LIM cy aM eM1 → RLN9 F1 eX1 eM1 → LW2 D s (List.range n1) aX1 eX1 (List.range 20) aM eM1 H1 locs1 → lv_has ls1 4 [(3, .int (nI (5 * j))), (2, .ref y), (1, .ref x), (0, .ref b)] → W p l e room_1 s m #[Value.ref b] below meth c H1 locs1 (137 + 2 * j + 3 * z1) (27799 + 12 * j + 24096 * z1) (lw_Z below #[Value.ref b] s) (F0 m 1164 ls1 [])) : W p l e room_1 s m #[Value.ref b] below meth c H locs (135 + 2 * j + 3 * z) (27787 + 12 * j + 24096 * z) (lw_Z below #[Value.ref b] s) (F0 m 244 ls []) := by
  obtain ⟨hx, hb, hr, hml, hown, hts, hXs, hbl, hlocks, hgv⟩ := id C0
  have ht : ∀ w ∈ TB, w.before #[Value.ref b] s = true := fun w h => hts w (TB_lw h)
  have hXW := XW_law hts
  have hbA : ¬ (AL s) b := Nat.not_le.mpr hbl
  subst hx0
  subst hy0
  have hn115 := hX0.1
  have hXo := hX0
  have hR := hRL.1
  have hLN := hRL.2
  refine lv_aload_n hx hb dL_law_244 rfl (lv_at hl 2 rfl) ?_
  refine lv_aload_n hx hb dL_law_245 rfl (lv_at hl 3 rfl) ?_
  refine lv_iload_n hx hb dL_law_246 rfl (lv_at hl 0 rfl) ?_
  refine lv_iconst (v := 1) hx hb dL_law_247 (by decide) ?_
  refine lv_iadd hx hb dL_law_248 ?_
  rw [show (1 : Int32) = nI 1 from rfl, nI_add (5 * j) 1]
  refine va_sld hx hb hXs hbl hbA hW.2.2.2.2.2 (i := nI ((5 * j) + 1)) (vp_in_nI (n := ((5 * j) + 1)) (by omega) (by omega)) dL_law_249 ?_
  rw [nI_clamp (n := ((5 * j) + 1)) (by omega)]
  refine lv_aload_n hx hb dL_law_250 rfl (lv_at hl 3 rfl) ?_
  refine lv_iload_n hx hb dL_law_251 rfl (lv_at hl 0 rfl) ?_
  refine lv_iconst (v := 2) hx hb dL_law_252 (by decide) ?_
  refine lv_iadd hx hb dL_law_253 ?_
  rw [show (2 : Int32) = nI 2 from rfl, nI_add (5 * j) 2]
  refine va_sld hx hb hXs hbl hbA hW.2.2.2.2.2 (i := nI ((5 * j) + 2)) (vp_in_nI (n := ((5 * j) + 2)) (by omega) (by omega)) dL_law_254 ?_
  rw [nI_clamp (n := ((5 * j) + 2)) (by omega)]
  refine lv_aload_n hx hb dL_law_255 rfl (lv_at hl 3 rfl) ?_
  refine lv_iload_n hx hb dL_law_256 rfl (lv_at hl 0 rfl) ?_
  refine lv_iconst (v := 3) hx hb dL_law_257 (by decide) ?_
  refine lv_iadd hx hb dL_law_258 ?_
  rw [show (3 : Int32) = nI 3 from rfl, nI_add (5 * j) 3]
  refine va_sld hx hb hXs hbl hbA hW.2.2.2.2.2 (i := nI ((5 * j) + 3)) (vp_in_nI (n := ((5 * j) + 3)) (by omega) (by omega)) dL_law_259 ?_
  rw [nI_clamp (n := ((5 * j) + 3)) (by omega)]
  obtain ⟨wc_5, lf_5, x0_5, -⟩ := get_A hX0.2.1
  refine lw_Rl (va_runV (As := [.int (xs ((5 * j) + 1)), .int (xs ((5 * j) + 2)), .int (xs ((5 * j) + 3))]) (rest := []) ⟨hx, hb, hml, hown, ht⟩ (c_X11_entry l D cy _ (List.range n) aX eX hX0.2.1 (xs ((5 * j) + 1)) (xs ((5 * j) + 2)) (xs ((5 * j) + 3)) F hX0.2.2.1) (kw_X11_entry ht tw_408 ⟨(Nat.le_of_ble_eq_true rfl), (Nat.le_of_ble_eq_true rfl)⟩) (preV_of hW.hp hK (List.mem_range.mpr (by omega)) x0_5 rfl) rfl rfl hl.1 rfl (lv_room (Nat.le_of_ble_eq_true rfl)) dL_law_260 ⟨by show 135 + 2 * j + 3 * z + 0 ≤ 600000; omega, by show 27787 + 12 * j + 24096 * z + 0 ≤ 7302250; omega⟩) hW (fun r_5 H locs hw_5 hW9 => ?_)
  have hW := hW9
  refine lv_pop2_2 hx hb dL_law_263 rfl ?_
  refine lv_aload_n hx hb dL_law_264 rfl (lv_at hl 1 rfl) ?_
  refine lv_aload_n hx hb dL_law_265 rfl (lv_at hl 3 rfl) ?_
  refine lv_iload_n hx hb dL_law_266 rfl (lv_at hl 0 rfl) ?_
  refine lv_iconst (v := 1) hx hb dL_law_267 (by decide) ?_
  refine lv_iadd hx hb dL_law_268 ?_
  rw [show (1 : Int32) = nI 1 from rfl, nI_add (5 * j) 1]
  refine va_sld hx hb hXs hbl hbA hW.2.2.2.2.2 (i := nI ((5 * j) + 1)) (vp_in_nI (n := ((5 * j) + 1)) (by omega) (by omega)) dL_law_269 ?_
  rw [nI_clamp (n := ((5 * j) + 1)) (by omega)]
  refine lv_aload_n hx hb dL_law_270 rfl (lv_at hl 3 rfl) ?_
  refine lv_iload_n hx hb dL_law_271 rfl (lv_at hl 0 rfl) ?_
  refine lv_iconst (v := 2) hx hb dL_law_272 (by decide) ?_
  refine lv_iadd hx hb dL_law_273 ?_
  rw [show (2 : Int32) = nI 2 from rfl, nI_add (5 * j) 2]
  refine va_sld hx hb hXs hbl hbA hW.2.2.2.2.2 (i := nI ((5 * j) + 2)) (vp_in_nI (n := ((5 * j) + 2)) (by omega) (by omega)) dL_law_274 ?_
  rw [nI_clamp (n := ((5 * j) + 2)) (by omega)]
  refine lv_aload_n hx hb dL_law_275 rfl (lv_at hl 3 rfl) ?_
  refine lv_iload_n hx hb dL_law_276 rfl (lv_at hl 0 rfl) ?_
  refine lv_iconst (v := 3) hx hb dL_law_277 (by decide) ?_
  refine lv_iadd hx hb dL_law_278 ?_
  rw [show (3 : Int32) = nI 3 from rfl, nI_add (5 * j) 3]
  refine va_sld hx hb hXs hbl hbA hW.2.2.2.2.2 (i := nI ((5 * j) + 3)) (vp_in_nI (n := ((5 * j) + 3)) (by omega) (by omega)) dL_law_279 ?_
  rw [nI_clamp (n := ((5 * j) + 3)) (by omega)]
  obtain ⟨_, _, _, _, _, _, _, _, _, _, _, _, _, _, x0_6, -⟩ := getr_M hM0.1
  refine lw_Rl (va_runV (As := [.int (xs ((5 * j) + 1)), .int (xs ((5 * j) + 2)), .int (xs ((5 * j) + 3))]) (rest := []) ⟨hx, hb, hml, hown, ht⟩ (c_X12_entry l D cy _ (List.range 20) aM eM hM0.1 (xs ((5 * j) + 1)) (xs ((5 * j) + 2)) (xs ((5 * j) + 3)) ) (kw_X12_entry ht tw_1003 ⟨(Nat.le_of_ble_eq_true rfl), (Nat.le_of_ble_eq_true rfl)⟩) (preV_of hW.sy.hp hK (List.mem_range.mpr (by decide)) x0_6 rfl) rfl rfl hl.1 rfl (lv_room (Nat.le_of_ble_eq_true rfl)) dL_law_280 ⟨by show 135 + 2 * j + 3 * z + 0 ≤ 600000; omega, by show 27787 + 12 * j + 24096 * z + 0 ≤ 7302250; omega⟩) hW.sy (fun r_6 H locs hw_6 hW9 => ?_)
  have hW := hW9.sy
  refine lv_pop2_2 hx hb dL_law_283 rfl ?_
  refine lv_goto (tgt := 1164) hx hb dL_law_284 (by decide) ?_
  refine W.widen (k := 137 + 2 * j + 3 * z) (n := 27799 + 12 * j + 24096 * z) (by omega) (by omega) ?_
  exact kk z n aX eX eM F _ _ ls (by omega) rfl hX0 hM0 ⟨(RLX_keep hR (XK_rf _) (MK_rf _)), hLN⟩ hW (lv_sub hl [0, 1, 2, 3] rfl)
set_option maxHeartbeats 4000000 in
set_option maxRecDepth 100000 in
/-- the law at may -/
theorem op_3 {p : Program} {e : Env} {s : State} {m : MethodId} {below : List Frame} {meth : Method} {c : Code} (l : Launch) {b L : Nat} {xs : Nat → Int32} (C0 : lw_At p s m meth c b L xs) (hL : L ≤ 2560) {D : va_G} {cy : Nat → ClassId} (hK : va_K D vwCl (tyl cy) s) {x y j z n : Nat} {aX aM : Nat → Nat} {eX eM : Nat → va_E} {F : Nat → Nat → Int32} {H : Heap} {locs : List Loc} {ls : Array Slot} (hj : 5 * j + 5 ≤ L) (hz : z ≤ 1) (hx0 : aX 0 = x) (hy0 : aM 0 = y) (hX0 : LIX cy z n aX eX F) (hM0 : LIM cy aM eM) (hRL : RLN9 F eX eM) (hW : LW2 D s (List.range n) aX eX (List.range 20) aM eM H locs) (hl : lv_has ls 4 [(3, .int (nI (5 * j))), (2, .ref y), (1, .ref x), (0, .ref b)]) (kk : ∀ (z1 n1 : Nat) (aX1 : Nat → Nat) (eX1 eM1 : Nat → va_E) (F1 : Nat → Nat → Int32) (H1 : Heap) (locs1 : List Loc) (ls1 : Array Slot), z1 ≤ 1 → aX1 0 = x → LIX cy z1 n1 aX1 eX1 F1 → LIM cy aM eM1 → RLN9 F1 eX1 eM1 → LW2 D s (List.range n1) aX1 eX1 (List.range 20) aM eM1 H1 locs1 → lv_has ls1 4 [(3, .int (nI (5 * j))), (2, .ref y), (1, .ref x), (0, .ref b)] → W p l e room_1 s m #[Value.ref b] below meth c H1 locs1 (137 + 2 * j + 3 * z1) (27799 + 12 * j + 24096 * z1) (lw_Z below #[Value.ref b] s) (F0 m 1164 ls1 [])) : W p l e room_1 s m #[Value.ref b] below meth c H locs (135 + 2 * j + 3 * z) (27787 + 12 * j + 24096 * z) (lw_Z below #[Value.ref b] s) (F0 m 287 ls []) := by
  obtain ⟨hx, hb, hr, hml, hown, hts, hXs, hbl, hlocks, hgv⟩ := id C0
  have ht : ∀ w ∈ TB, w.before #[Value.ref b] s = true := fun w h => hts w (TB_lw h)
  have hXW := XW_law hts
  have hbA : ¬ (AL s) b := Nat.not_le.mpr hbl
  subst hx0
  subst hy0
  have hn115 := hX0.1
  have hXo := hX0
  have hR := hRL.1
  have hLN := hRL.2
  refine lv_aload_n hx hb dL_law_287 rfl (lv_at hl 2 rfl) ?_
  refine lv_aload_n hx hb dL_law_288 rfl (lv_at hl 3 rfl) ?_
  refine lv_iload_n hx hb dL_law_289 rfl (lv_at hl 0 rfl) ?_
  refine lv_iconst (v := 1) hx hb dL_law_290 (by decide) ?_
  refine lv_iadd hx hb dL_law_291 ?_
  rw [show (1 : Int32) = nI 1 from rfl, nI_add (5 * j) 1]
  refine va_sld hx hb hXs hbl hbA hW.2.2.2.2.2 (i := nI ((5 * j) + 1)) (vp_in_nI (n := ((5 * j) + 1)) (by omega) (by omega)) dL_law_292 ?_
  rw [nI_clamp (n := ((5 * j) + 1)) (by omega)]
  refine lv_aload_n hx hb dL_law_293 rfl (lv_at hl 3 rfl) ?_
  refine lv_iload_n hx hb dL_law_294 rfl (lv_at hl 0 rfl) ?_
  refine lv_iconst (v := 2) hx hb dL_law_295 (by decide) ?_
  refine lv_iadd hx hb dL_law_296 ?_
  rw [show (2 : Int32) = nI 2 from rfl, nI_add (5 * j) 2]
  refine va_sld hx hb hXs hbl hbA hW.2.2.2.2.2 (i := nI ((5 * j) + 2)) (vp_in_nI (n := ((5 * j) + 2)) (by omega) (by omega)) dL_law_297 ?_
  rw [nI_clamp (n := ((5 * j) + 2)) (by omega)]
  refine lv_aload_n hx hb dL_law_298 rfl (lv_at hl 3 rfl) ?_
  refine lv_iload_n hx hb dL_law_299 rfl (lv_at hl 0 rfl) ?_
  refine lv_iconst (v := 3) hx hb dL_law_300 (by decide) ?_
  refine lv_iadd hx hb dL_law_301 ?_
  rw [show (3 : Int32) = nI 3 from rfl, nI_add (5 * j) 3]
  refine va_sld hx hb hXs hbl hbA hW.2.2.2.2.2 (i := nI ((5 * j) + 3)) (vp_in_nI (n := ((5 * j) + 3)) (by omega) (by omega)) dL_law_302 ?_
  rw [nI_clamp (n := ((5 * j) + 3)) (by omega)]
  refine lv_if_eq (tgt := 310) hx hb dL_law_303 (by decide) (fun c_7 => ?_) (fun c_7 => ?_)
  · refine lv_iconst (v := 0) hx hb dL_law_310 (by decide) ?_
    obtain ⟨wc_8, lf_8, x0_8, -⟩ := get_A hX0.2.1
    refine lw_Mi (va_runV (As := [.int (xs ((5 * j) + 1)), .int (xs ((5 * j) + 2)), .int 0]) (rest := []) ⟨hx, hb, hml, hown, ht⟩ (c_X11_may l D cy _ (List.range n) aX eX hX0.2.1 (xs ((5 * j) + 1)) (xs ((5 * j) + 2)) 0 (by decide)) (kw_X11_may ht tw_429 ⟨(Nat.le_of_ble_eq_true rfl), (Nat.le_of_ble_eq_true rfl)⟩) (preV_of hW.hp hK (List.mem_range.mpr (by omega)) x0_8 rfl) rfl rfl hl.1 rfl (lv_room (Nat.le_of_ble_eq_true rfl)) dL_law_311 ⟨by show 135 + 2 * j + 3 * z + 0 ≤ 600000; omega, by show 27787 + 12 * j + 24096 * z + 0 ≤ 7302250; omega⟩) hW (fun r_8 H locs en_8 hw_8 hW9 => ?_)
    have hW := hW9
    obtain ⟨hs_8, hu_8, hxs_8, hln_8⟩ := hw_8
    have hX_8 := LIX_k hX0 hs_8 (congrArg (fun x => rdI x 6) (hu_8 0 (by omega))) (fun c hc => hu_8 c (by omega))
    have hX0 := hX_8
    refine lv_pop hx hb dL_law_314 rfl ?_
    refine lv_aload_n hx hb dL_law_315 rfl (lv_at hl 1 rfl) ?_
    refine lv_aload_n hx hb dL_law_316 rfl (lv_at hl 3 rfl) ?_
    refine lv_iload_n hx hb dL_law_317 rfl (lv_at hl 0 rfl) ?_
    refine lv_iconst (v := 1) hx hb dL_law_318 (by decide) ?_
    refine lv_iadd hx hb dL_law_319 ?_
    rw [show (1 : Int32) = nI 1 from rfl, nI_add (5 * j) 1]
    refine va_sld hx hb hXs hbl hbA hW.2.2.2.2.2 (i := nI ((5 * j) + 1)) (vp_in_nI (n := ((5 * j) + 1)) (by omega) (by omega)) dL_law_320 ?_
    rw [nI_clamp (n := ((5 * j) + 1)) (by omega)]
    refine lv_aload_n hx hb dL_law_321 rfl (lv_at hl 3 rfl) ?_
    refine lv_iload_n hx hb dL_law_322 rfl (lv_at hl 0 rfl) ?_
    refine lv_iconst (v := 2) hx hb dL_law_323 (by decide) ?_
    refine lv_iadd hx hb dL_law_324 ?_
    rw [show (2 : Int32) = nI 2 from rfl, nI_add (5 * j) 2]
    refine va_sld hx hb hXs hbl hbA hW.2.2.2.2.2 (i := nI ((5 * j) + 2)) (vp_in_nI (n := ((5 * j) + 2)) (by omega) (by omega)) dL_law_325 ?_
    rw [nI_clamp (n := ((5 * j) + 2)) (by omega)]
    refine lv_aload_n hx hb dL_law_326 rfl (lv_at hl 3 rfl) ?_
    refine lv_iload_n hx hb dL_law_327 rfl (lv_at hl 0 rfl) ?_
    refine lv_iconst (v := 3) hx hb dL_law_328 (by decide) ?_
    refine lv_iadd hx hb dL_law_329 ?_
    rw [show (3 : Int32) = nI 3 from rfl, nI_add (5 * j) 3]
    refine va_sld hx hb hXs hbl hbA hW.2.2.2.2.2 (i := nI ((5 * j) + 3)) (vp_in_nI (n := ((5 * j) + 3)) (by omega) (by omega)) dL_law_330 ?_
    rw [nI_clamp (n := ((5 * j) + 3)) (by omega)]
    refine lv_if_eq (tgt := 338) hx hb dL_law_331 (by decide) (fun _ => ?_) (fun c_0 => absurd (c_7) c_0)
    refine lv_iconst (v := 0) hx hb dL_law_338 (by decide) ?_
    obtain ⟨_, _, _, _, _, _, _, _, _, _, _, _, _, _, x0_9, -⟩ := getr_M hM0.1
    refine lw_Mi (va_runV (As := [.int (xs ((5 * j) + 1)), .int (xs ((5 * j) + 2)), .int 0]) (rest := []) ⟨hx, hb, hml, hown, ht⟩ (c_X12_may l D cy _ (List.range 20) aM eM hM0.1 (xs ((5 * j) + 1)) (xs ((5 * j) + 2)) 0 (by decide)) (kw_X12_may ht tw_1016 ⟨(Nat.le_of_ble_eq_true rfl), (Nat.le_of_ble_eq_true rfl)⟩) (preV_of hW.sy.hp hK (List.mem_range.mpr (by decide)) x0_9 rfl) rfl rfl hl.1 rfl (lv_room (Nat.le_of_ble_eq_true rfl)) dL_law_339 ⟨by show 135 + 2 * j + 3 * z + 0 ≤ 600000; omega, by show 27787 + 12 * j + 24096 * z + 0 ≤ 7302250; omega⟩) hW.sy (fun r_9 H locs en_9 hw_9 hW9 => ?_)
    have hW := hW9.sy
    obtain ⟨hs_9, hu_9, hms_9⟩ := hw_9
    have hM_9 := LIM_k hM0 hs_9 (congrArg (fun x => rdI x 25) (hu_9 0 (by omega))) (congrArg (fun x => rdI x 30) (hu_9 0 (by omega))) (fun c hc => hu_9 c (by omega))
    have hM0 := hM_9
    refine lv_pop hx hb dL_law_342 rfl ?_
    refine lv_goto (tgt := 1164) hx hb dL_law_343 (by decide) ?_
    refine W.widen (k := 137 + 2 * j + 3 * z) (n := 27799 + 12 * j + 24096 * z) (by omega) (by omega) ?_
    exact kk z n aX en_8 en_9 F _ _ ls (by omega) rfl hX_8 hM_9 ⟨(RLX_a hR (AR_may hR.2.1.1 hR.2.2.1 (by decide) hxs_8 hms_9).1 hu_8 hu_9), (hln_8.elim (fun e9 => by rw [e9]; exact hLN) id)⟩ hW (lv_sub hl [0, 1, 2, 3] rfl)
  · refine lv_iconst (v := 1) hx hb dL_law_306 (by decide) ?_
    refine lv_goto (tgt := 311) hx hb dL_law_307 (by decide) ?_
    obtain ⟨wc_10, lf_10, x0_10, -⟩ := get_A hX0.2.1
    refine lw_Mi (va_runV (As := [.int (xs ((5 * j) + 1)), .int (xs ((5 * j) + 2)), .int 1]) (rest := []) ⟨hx, hb, hml, hown, ht⟩ (c_X11_may l D cy _ (List.range n) aX eX hX0.2.1 (xs ((5 * j) + 1)) (xs ((5 * j) + 2)) 1 (by decide)) (kw_X11_may ht tw_429 ⟨(Nat.le_of_ble_eq_true rfl), (Nat.le_of_ble_eq_true rfl)⟩) (preV_of hW.hp hK (List.mem_range.mpr (by omega)) x0_10 rfl) rfl rfl hl.1 rfl (lv_room (Nat.le_of_ble_eq_true rfl)) dL_law_311 ⟨by show 135 + 2 * j + 3 * z + 0 ≤ 600000; omega, by show 27787 + 12 * j + 24096 * z + 0 ≤ 7302250; omega⟩) hW (fun r_10 H locs en_10 hw_10 hW9 => ?_)
    have hW := hW9
    obtain ⟨hs_10, hu_10, hxs_10, hln_10⟩ := hw_10
    have hX_10 := LIX_k hX0 hs_10 (congrArg (fun x => rdI x 6) (hu_10 0 (by omega))) (fun c hc => hu_10 c (by omega))
    have hX0 := hX_10
    refine lv_pop hx hb dL_law_314 rfl ?_
    refine lv_aload_n hx hb dL_law_315 rfl (lv_at hl 1 rfl) ?_
    refine lv_aload_n hx hb dL_law_316 rfl (lv_at hl 3 rfl) ?_
    refine lv_iload_n hx hb dL_law_317 rfl (lv_at hl 0 rfl) ?_
    refine lv_iconst (v := 1) hx hb dL_law_318 (by decide) ?_
    refine lv_iadd hx hb dL_law_319 ?_
    rw [show (1 : Int32) = nI 1 from rfl, nI_add (5 * j) 1]
    refine va_sld hx hb hXs hbl hbA hW.2.2.2.2.2 (i := nI ((5 * j) + 1)) (vp_in_nI (n := ((5 * j) + 1)) (by omega) (by omega)) dL_law_320 ?_
    rw [nI_clamp (n := ((5 * j) + 1)) (by omega)]
    refine lv_aload_n hx hb dL_law_321 rfl (lv_at hl 3 rfl) ?_
    refine lv_iload_n hx hb dL_law_322 rfl (lv_at hl 0 rfl) ?_
    refine lv_iconst (v := 2) hx hb dL_law_323 (by decide) ?_
    refine lv_iadd hx hb dL_law_324 ?_
    rw [show (2 : Int32) = nI 2 from rfl, nI_add (5 * j) 2]
    refine va_sld hx hb hXs hbl hbA hW.2.2.2.2.2 (i := nI ((5 * j) + 2)) (vp_in_nI (n := ((5 * j) + 2)) (by omega) (by omega)) dL_law_325 ?_
    rw [nI_clamp (n := ((5 * j) + 2)) (by omega)]
    refine lv_aload_n hx hb dL_law_326 rfl (lv_at hl 3 rfl) ?_
    refine lv_iload_n hx hb dL_law_327 rfl (lv_at hl 0 rfl) ?_
    refine lv_iconst (v := 3) hx hb dL_law_328 (by decide) ?_
    refine lv_iadd hx hb dL_law_329 ?_
    rw [show (3 : Int32) = nI 3 from rfl, nI_add (5 * j) 3]
    refine va_sld hx hb hXs hbl hbA hW.2.2.2.2.2 (i := nI ((5 * j) + 3)) (vp_in_nI (n := ((5 * j) + 3)) (by omega) (by omega)) dL_law_330 ?_
    rw [nI_clamp (n := ((5 * j) + 3)) (by omega)]
    refine lv_if_eq (tgt := 338) hx hb dL_law_331 (by decide) (fun c_0 => absurd c_0 (c_7)) (fun _ => ?_)
    refine lv_iconst (v := 1) hx hb dL_law_334 (by decide) ?_
    refine lv_goto (tgt := 339) hx hb dL_law_335 (by decide) ?_
    obtain ⟨_, _, _, _, _, _, _, _, _, _, _, _, _, _, x0_11, -⟩ := getr_M hM0.1
    refine lw_Mi (va_runV (As := [.int (xs ((5 * j) + 1)), .int (xs ((5 * j) + 2)), .int 1]) (rest := []) ⟨hx, hb, hml, hown, ht⟩ (c_X12_may l D cy _ (List.range 20) aM eM hM0.1 (xs ((5 * j) + 1)) (xs ((5 * j) + 2)) 1 (by decide)) (kw_X12_may ht tw_1016 ⟨(Nat.le_of_ble_eq_true rfl), (Nat.le_of_ble_eq_true rfl)⟩) (preV_of hW.sy.hp hK (List.mem_range.mpr (by decide)) x0_11 rfl) rfl rfl hl.1 rfl (lv_room (Nat.le_of_ble_eq_true rfl)) dL_law_339 ⟨by show 135 + 2 * j + 3 * z + 0 ≤ 600000; omega, by show 27787 + 12 * j + 24096 * z + 0 ≤ 7302250; omega⟩) hW.sy (fun r_11 H locs en_11 hw_11 hW9 => ?_)
    have hW := hW9.sy
    obtain ⟨hs_11, hu_11, hms_11⟩ := hw_11
    have hM_11 := LIM_k hM0 hs_11 (congrArg (fun x => rdI x 25) (hu_11 0 (by omega))) (congrArg (fun x => rdI x 30) (hu_11 0 (by omega))) (fun c hc => hu_11 c (by omega))
    have hM0 := hM_11
    refine lv_pop hx hb dL_law_342 rfl ?_
    refine lv_goto (tgt := 1164) hx hb dL_law_343 (by decide) ?_
    refine W.widen (k := 137 + 2 * j + 3 * z) (n := 27799 + 12 * j + 24096 * z) (by omega) (by omega) ?_
    exact kk z n aX en_10 en_11 F _ _ ls (by omega) rfl hX_10 hM_11 ⟨(RLX_a hR (AR_may hR.2.1.1 hR.2.2.1 (by decide) hxs_10 hms_11).1 hu_10 hu_11), (hln_10.elim (fun e9 => by rw [e9]; exact hLN) id)⟩ hW (lv_sub hl [0, 1, 2, 3] rfl)
set_option maxHeartbeats 4000000 in
set_option maxRecDepth 100000 in
/-- the law at length -/
theorem op_4 {p : Program} {e : Env} {s : State} {m : MethodId} {below : List Frame} {meth : Method} {c : Code} (l : Launch) {b L : Nat} {xs : Nat → Int32} (C0 : lw_At p s m meth c b L xs) (hL : L ≤ 2560) {D : va_G} {cy : Nat → ClassId} (hK : va_K D vwCl (tyl cy) s) {x y j z n : Nat} {aX aM : Nat → Nat} {eX eM : Nat → va_E} {F : Nat → Nat → Int32} {H : Heap} {locs : List Loc} {ls : Array Slot} (hj : 5 * j + 5 ≤ L) (hz : z ≤ 1) (hx0 : aX 0 = x) (hy0 : aM 0 = y) (hX0 : LIX cy z n aX eX F) (hM0 : LIM cy aM eM) (hRL : RLN9 F eX eM) (hW : LW2 D s (List.range n) aX eX (List.range 20) aM eM H locs) (hl : lv_has ls 4 [(3, .int (nI (5 * j))), (2, .ref y), (1, .ref x), (0, .ref b)]) (kk : ∀ (z1 n1 : Nat) (aX1 : Nat → Nat) (eX1 eM1 : Nat → va_E) (F1 : Nat → Nat → Int32) (H1 : Heap) (locs1 : List Loc) (ls1 : Array Slot), z1 ≤ 1 → aX1 0 = x → LIX cy z1 n1 aX1 eX1 F1 → LIM cy aM eM1 → RLN9 F1 eX1 eM1 → LW2 D s (List.range n1) aX1 eX1 (List.range 20) aM eM1 H1 locs1 → lv_has ls1 4 [(3, .int (nI (5 * j))), (2, .ref y), (1, .ref x), (0, .ref b)] → W p l e room_1 s m #[Value.ref b] below meth c H1 locs1 (137 + 2 * j + 3 * z1) (27799 + 12 * j + 24096 * z1) (lw_Z below #[Value.ref b] s) (F0 m 1164 ls1 [])) : W p l e room_1 s m #[Value.ref b] below meth c H locs (135 + 2 * j + 3 * z) (27787 + 12 * j + 24096 * z) (lw_Z below #[Value.ref b] s) (F0 m 346 ls []) := by
  obtain ⟨hx, hb, hr, hml, hown, hts, hXs, hbl, hlocks, hgv⟩ := id C0
  have ht : ∀ w ∈ TB, w.before #[Value.ref b] s = true := fun w h => hts w (TB_lw h)
  have hXW := XW_law hts
  have hbA : ¬ (AL s) b := Nat.not_le.mpr hbl
  subst hx0
  subst hy0
  have hn115 := hX0.1
  have hXo := hX0
  have hR := hRL.1
  have hLN := hRL.2
  refine lv_aload_n hx hb dL_law_346 rfl (lv_at hl 2 rfl) ?_
  refine lv_aload_n hx hb dL_law_347 rfl (lv_at hl 3 rfl) ?_
  refine lv_iload_n hx hb dL_law_348 rfl (lv_at hl 0 rfl) ?_
  refine lv_iconst (v := 1) hx hb dL_law_349 (by decide) ?_
  refine lv_iadd hx hb dL_law_350 ?_
  rw [show (1 : Int32) = nI 1 from rfl, nI_add (5 * j) 1]
  refine va_sld hx hb hXs hbl hbA hW.2.2.2.2.2 (i := nI ((5 * j) + 1)) (vp_in_nI (n := ((5 * j) + 1)) (by omega) (by omega)) dL_law_351 ?_
  rw [nI_clamp (n := ((5 * j) + 1)) (by omega)]
  refine lv_aload_n hx hb dL_law_352 rfl (lv_at hl 3 rfl) ?_
  refine lv_iload_n hx hb dL_law_353 rfl (lv_at hl 0 rfl) ?_
  refine lv_iconst (v := 2) hx hb dL_law_354 (by decide) ?_
  refine lv_iadd hx hb dL_law_355 ?_
  rw [show (2 : Int32) = nI 2 from rfl, nI_add (5 * j) 2]
  refine va_sld hx hb hXs hbl hbA hW.2.2.2.2.2 (i := nI ((5 * j) + 2)) (vp_in_nI (n := ((5 * j) + 2)) (by omega) (by omega)) dL_law_356 ?_
  rw [nI_clamp (n := ((5 * j) + 2)) (by omega)]
  obtain ⟨wc_12, lf_12, x0_12, -⟩ := get_A hX0.2.1
  refine lw_Ml (va_runV (As := [.int (xs ((5 * j) + 1)), .int (xs ((5 * j) + 2))]) (rest := []) ⟨hx, hb, hml, hown, ht⟩ (c_X11_length l D cy _ (List.range n) aX eX hX0.2.1 (xs ((5 * j) + 1)) (xs ((5 * j) + 2)) hLN) (kw_X11_length ht tw_441 ⟨(Nat.le_of_ble_eq_true rfl), (Nat.le_of_ble_eq_true rfl)⟩) (preV_of hW.hp hK (List.mem_range.mpr (by omega)) x0_12 rfl) rfl rfl hl.1 rfl (lv_room (Nat.le_of_ble_eq_true rfl)) dL_law_357 ⟨by show 135 + 2 * j + 3 * z + 0 ≤ 600000; omega, by show 27787 + 12 * j + 24096 * z + 0 ≤ 7302250; omega⟩) hW (fun r_12 H locs en_12 hw_12 hW9 => ?_)
  have hW := hW9
  obtain ⟨hs_12, hu_12, hln_12, hxs_12⟩ := hw_12
  have hX_12 := LIX_k hX0 hs_12 (congrArg (fun x => rdI x 6) (hu_12 0 (by omega))) (fun c hc => hu_12 c (by omega))
  have hX0 := hX_12
  refine lv_pop2_2 hx hb dL_law_360 rfl ?_
  refine lv_aload_n hx hb dL_law_361 rfl (lv_at hl 1 rfl) ?_
  refine lv_aload_n hx hb dL_law_362 rfl (lv_at hl 3 rfl) ?_
  refine lv_iload_n hx hb dL_law_363 rfl (lv_at hl 0 rfl) ?_
  refine lv_iconst (v := 1) hx hb dL_law_364 (by decide) ?_
  refine lv_iadd hx hb dL_law_365 ?_
  rw [show (1 : Int32) = nI 1 from rfl, nI_add (5 * j) 1]
  refine va_sld hx hb hXs hbl hbA hW.2.2.2.2.2 (i := nI ((5 * j) + 1)) (vp_in_nI (n := ((5 * j) + 1)) (by omega) (by omega)) dL_law_366 ?_
  rw [nI_clamp (n := ((5 * j) + 1)) (by omega)]
  refine lv_aload_n hx hb dL_law_367 rfl (lv_at hl 3 rfl) ?_
  refine lv_iload_n hx hb dL_law_368 rfl (lv_at hl 0 rfl) ?_
  refine lv_iconst (v := 2) hx hb dL_law_369 (by decide) ?_
  refine lv_iadd hx hb dL_law_370 ?_
  rw [show (2 : Int32) = nI 2 from rfl, nI_add (5 * j) 2]
  refine va_sld hx hb hXs hbl hbA hW.2.2.2.2.2 (i := nI ((5 * j) + 2)) (vp_in_nI (n := ((5 * j) + 2)) (by omega) (by omega)) dL_law_371 ?_
  rw [nI_clamp (n := ((5 * j) + 2)) (by omega)]
  obtain ⟨_, _, _, _, _, _, _, _, _, _, _, _, _, _, x0_13, -⟩ := getr_M hM0.1
  refine lw_Ml (va_runV (As := [.int (xs ((5 * j) + 1)), .int (xs ((5 * j) + 2))]) (rest := []) ⟨hx, hb, hml, hown, ht⟩ (c_X12_length l D cy _ (List.range 20) aM eM hM0.1 (xs ((5 * j) + 1)) (xs ((5 * j) + 2)) ) (kw_X12_length ht tw_1020 ⟨(Nat.le_of_ble_eq_true rfl), (Nat.le_of_ble_eq_true rfl)⟩) (preV_of hW.sy.hp hK (List.mem_range.mpr (by decide)) x0_13 rfl) rfl rfl hl.1 rfl (lv_room (Nat.le_of_ble_eq_true rfl)) dL_law_372 ⟨by show 135 + 2 * j + 3 * z + 0 ≤ 600000; omega, by show 27787 + 12 * j + 24096 * z + 0 ≤ 7302250; omega⟩) hW.sy (fun r_13 H locs en_13 hw_13 hW9 => ?_)
  have hW := hW9.sy
  obtain ⟨hs_13, hu_13, hms_13, hkp_13⟩ := hw_13
  have hM_13 := LIM_k hM0 hs_13 hkp_13.2.2.2.2.1 hkp_13.2.2.2.2.2 (fun c hc => hu_13 c (by omega))
  have hM0 := hM_13
  refine lv_pop2_2 hx hb dL_law_375 rfl ?_
  refine lv_goto (tgt := 1164) hx hb dL_law_376 (by decide) ?_
  refine W.widen (k := 137 + 2 * j + 3 * z) (n := 27799 + 12 * j + 24096 * z) (by omega) (by omega) ?_
  exact kk z n aX en_12 en_13 F _ _ ls (by omega) rfl hX_12 hM_13 ⟨(RLX_keep hR ⟨(congrArg (fun x => rdI x 6) (hu_12 0 (by omega))), fun c hc => hu_12 c (by omega)⟩ (MK_KP hkp_13 (fun c hc => hu_13 c (by omega)))), hln_12⟩ hW (lv_sub hl [0, 1, 2, 3] rfl)
set_option maxHeartbeats 4000000 in
set_option maxRecDepth 100000 in
/-- the law at extreme -/
theorem op_5 {p : Program} {e : Env} {s : State} {m : MethodId} {below : List Frame} {meth : Method} {c : Code} (l : Launch) {b L : Nat} {xs : Nat → Int32} (C0 : lw_At p s m meth c b L xs) (hL : L ≤ 2560) {D : va_G} {cy : Nat → ClassId} (hK : va_K D vwCl (tyl cy) s) {x y j z n : Nat} {aX aM : Nat → Nat} {eX eM : Nat → va_E} {F : Nat → Nat → Int32} {H : Heap} {locs : List Loc} {ls : Array Slot} (hj : 5 * j + 5 ≤ L) (hz : z ≤ 1) (hx0 : aX 0 = x) (hy0 : aM 0 = y) (hX0 : LIX cy z n aX eX F) (hM0 : LIM cy aM eM) (hRL : RLN9 F eX eM) (hW : LW2 D s (List.range n) aX eX (List.range 20) aM eM H locs) (hl : lv_has ls 4 [(3, .int (nI (5 * j))), (2, .ref y), (1, .ref x), (0, .ref b)]) (kk : ∀ (z1 n1 : Nat) (aX1 : Nat → Nat) (eX1 eM1 : Nat → va_E) (F1 : Nat → Nat → Int32) (H1 : Heap) (locs1 : List Loc) (ls1 : Array Slot), z1 ≤ 1 → aX1 0 = x → LIX cy z1 n1 aX1 eX1 F1 → LIM cy aM eM1 → RLN9 F1 eX1 eM1 → LW2 D s (List.range n1) aX1 eX1 (List.range 20) aM eM1 H1 locs1 → lv_has ls1 4 [(3, .int (nI (5 * j))), (2, .ref y), (1, .ref x), (0, .ref b)] → W p l e room_1 s m #[Value.ref b] below meth c H1 locs1 (137 + 2 * j + 3 * z1) (27799 + 12 * j + 24096 * z1) (lw_Z below #[Value.ref b] s) (F0 m 1164 ls1 [])) : W p l e room_1 s m #[Value.ref b] below meth c H locs (135 + 2 * j + 3 * z) (27787 + 12 * j + 24096 * z) (lw_Z below #[Value.ref b] s) (F0 m 379 ls []) := by
  obtain ⟨hx, hb, hr, hml, hown, hts, hXs, hbl, hlocks, hgv⟩ := id C0
  have ht : ∀ w ∈ TB, w.before #[Value.ref b] s = true := fun w h => hts w (TB_lw h)
  have hXW := XW_law hts
  have hbA : ¬ (AL s) b := Nat.not_le.mpr hbl
  subst hx0
  subst hy0
  have hn115 := hX0.1
  have hXo := hX0
  have hR := hRL.1
  have hLN := hRL.2
  refine lv_aload_n hx hb dL_law_379 rfl (lv_at hl 2 rfl) ?_
  refine lv_aload_n hx hb dL_law_380 rfl (lv_at hl 3 rfl) ?_
  refine lv_iload_n hx hb dL_law_381 rfl (lv_at hl 0 rfl) ?_
  refine lv_iconst (v := 1) hx hb dL_law_382 (by decide) ?_
  refine lv_iadd hx hb dL_law_383 ?_
  rw [show (1 : Int32) = nI 1 from rfl, nI_add (5 * j) 1]
  refine va_sld hx hb hXs hbl hbA hW.2.2.2.2.2 (i := nI ((5 * j) + 1)) (vp_in_nI (n := ((5 * j) + 1)) (by omega) (by omega)) dL_law_384 ?_
  rw [nI_clamp (n := ((5 * j) + 1)) (by omega)]
  refine lv_aload_n hx hb dL_law_385 rfl (lv_at hl 3 rfl) ?_
  refine lv_iload_n hx hb dL_law_386 rfl (lv_at hl 0 rfl) ?_
  refine lv_iconst (v := 2) hx hb dL_law_387 (by decide) ?_
  refine lv_iadd hx hb dL_law_388 ?_
  rw [show (2 : Int32) = nI 2 from rfl, nI_add (5 * j) 2]
  refine va_sld hx hb hXs hbl hbA hW.2.2.2.2.2 (i := nI ((5 * j) + 2)) (vp_in_nI (n := ((5 * j) + 2)) (by omega) (by omega)) dL_law_389 ?_
  rw [nI_clamp (n := ((5 * j) + 2)) (by omega)]
  refine lv_aload_n hx hb dL_law_390 rfl (lv_at hl 3 rfl) ?_
  refine lv_iload_n hx hb dL_law_391 rfl (lv_at hl 0 rfl) ?_
  refine lv_iconst (v := 3) hx hb dL_law_392 (by decide) ?_
  refine lv_iadd hx hb dL_law_393 ?_
  rw [show (3 : Int32) = nI 3 from rfl, nI_add (5 * j) 3]
  refine va_sld hx hb hXs hbl hbA hW.2.2.2.2.2 (i := nI ((5 * j) + 3)) (vp_in_nI (n := ((5 * j) + 3)) (by omega) (by omega)) dL_law_394 ?_
  rw [nI_clamp (n := ((5 * j) + 3)) (by omega)]
  obtain ⟨wc_14, lf_14, x0_14, -⟩ := get_A hX0.2.1
  refine lw_Mi (va_runV (As := [.int (xs ((5 * j) + 1)), .int (xs ((5 * j) + 2)), .int (xs ((5 * j) + 3))]) (rest := []) ⟨hx, hb, hml, hown, ht⟩ (c_X11_extreme l D cy _ (List.range n) aX eX hX0.2.1 (xs ((5 * j) + 1)) (xs ((5 * j) + 2)) (xs ((5 * j) + 3)) hLN) (kw_X11_extreme ht tw_541 ⟨(Nat.le_of_ble_eq_true rfl), (Nat.le_of_ble_eq_true rfl)⟩) (preV_of hW.hp hK (List.mem_range.mpr (by omega)) x0_14 rfl) rfl rfl hl.1 rfl (lv_room (Nat.le_of_ble_eq_true rfl)) dL_law_395 ⟨by show 135 + 2 * j + 3 * z + 0 ≤ 600000; omega, by show 27787 + 12 * j + 24096 * z + 0 ≤ 7302250; omega⟩) hW (fun r_14 H locs en_14 hw_14 hW9 => ?_)
  have hW := hW9
  obtain ⟨hs_14, hu_14, hln_14, hxs_14⟩ := hw_14
  have hX_14 := LIX_k hX0 hs_14 (congrArg (fun x => rdI x 6) (hu_14 0 (by omega))) (fun c hc => hu_14 c (by omega))
  have hX0 := hX_14
  refine lv_pop hx hb dL_law_398 rfl ?_
  refine lv_aload_n hx hb dL_law_399 rfl (lv_at hl 1 rfl) ?_
  refine lv_aload_n hx hb dL_law_400 rfl (lv_at hl 3 rfl) ?_
  refine lv_iload_n hx hb dL_law_401 rfl (lv_at hl 0 rfl) ?_
  refine lv_iconst (v := 1) hx hb dL_law_402 (by decide) ?_
  refine lv_iadd hx hb dL_law_403 ?_
  rw [show (1 : Int32) = nI 1 from rfl, nI_add (5 * j) 1]
  refine va_sld hx hb hXs hbl hbA hW.2.2.2.2.2 (i := nI ((5 * j) + 1)) (vp_in_nI (n := ((5 * j) + 1)) (by omega) (by omega)) dL_law_404 ?_
  rw [nI_clamp (n := ((5 * j) + 1)) (by omega)]
  refine lv_aload_n hx hb dL_law_405 rfl (lv_at hl 3 rfl) ?_
  refine lv_iload_n hx hb dL_law_406 rfl (lv_at hl 0 rfl) ?_
  refine lv_iconst (v := 2) hx hb dL_law_407 (by decide) ?_
  refine lv_iadd hx hb dL_law_408 ?_
  rw [show (2 : Int32) = nI 2 from rfl, nI_add (5 * j) 2]
  refine va_sld hx hb hXs hbl hbA hW.2.2.2.2.2 (i := nI ((5 * j) + 2)) (vp_in_nI (n := ((5 * j) + 2)) (by omega) (by omega)) dL_law_409 ?_
  rw [nI_clamp (n := ((5 * j) + 2)) (by omega)]
  refine lv_aload_n hx hb dL_law_410 rfl (lv_at hl 3 rfl) ?_
  refine lv_iload_n hx hb dL_law_411 rfl (lv_at hl 0 rfl) ?_
  refine lv_iconst (v := 3) hx hb dL_law_412 (by decide) ?_
  refine lv_iadd hx hb dL_law_413 ?_
  rw [show (3 : Int32) = nI 3 from rfl, nI_add (5 * j) 3]
  refine va_sld hx hb hXs hbl hbA hW.2.2.2.2.2 (i := nI ((5 * j) + 3)) (vp_in_nI (n := ((5 * j) + 3)) (by omega) (by omega)) dL_law_414 ?_
  rw [nI_clamp (n := ((5 * j) + 3)) (by omega)]
  obtain ⟨_, _, _, _, _, _, _, _, _, _, _, _, _, _, x0_15, -⟩ := getr_M hM0.1
  refine lw_Mi (va_runV (As := [.int (xs ((5 * j) + 1)), .int (xs ((5 * j) + 2)), .int (xs ((5 * j) + 3))]) (rest := []) ⟨hx, hb, hml, hown, ht⟩ (c_X12_extreme l D cy _ (List.range 20) aM eM hM0.1 (xs ((5 * j) + 1)) (xs ((5 * j) + 2)) (xs ((5 * j) + 3)) ) (kw_X12_extreme ht tw_1065 ⟨(Nat.le_of_ble_eq_true rfl), (Nat.le_of_ble_eq_true rfl)⟩) (preV_of hW.sy.hp hK (List.mem_range.mpr (by decide)) x0_15 rfl) rfl rfl hl.1 rfl (lv_room (Nat.le_of_ble_eq_true rfl)) dL_law_415 ⟨by show 135 + 2 * j + 3 * z + 0 ≤ 600000; omega, by show 27787 + 12 * j + 24096 * z + 0 ≤ 7302250; omega⟩) hW.sy (fun r_15 H locs en_15 hw_15 hW9 => ?_)
  have hW := hW9.sy
  obtain ⟨hs_15, hu_15, hms_15, hkp_15⟩ := hw_15
  have hM_15 := LIM_k hM0 hs_15 hkp_15.2.2.2.2.1 hkp_15.2.2.2.2.2 (fun c hc => hu_15 c (by omega))
  have hM0 := hM_15
  refine lv_pop hx hb dL_law_418 rfl ?_
  refine lv_goto (tgt := 1164) hx hb dL_law_419 (by decide) ?_
  refine W.widen (k := 137 + 2 * j + 3 * z) (n := 27799 + 12 * j + 24096 * z) (by omega) (by omega) ?_
  exact kk z n aX en_14 en_15 F _ _ ls (by omega) rfl hX_14 hM_15 ⟨(RLX_keep hR ⟨(congrArg (fun x => rdI x 6) (hu_14 0 (by omega))), fun c hc => hu_14 c (by omega)⟩ (MK_KP hkp_15 (fun c hc => hu_15 c (by omega)))), hln_14⟩ hW (lv_sub hl [0, 1, 2, 3] rfl)
set_option maxHeartbeats 4000000 in
set_option maxRecDepth 100000 in
/-- the law at rings -/
theorem op_6 {p : Program} {e : Env} {s : State} {m : MethodId} {below : List Frame} {meth : Method} {c : Code} (l : Launch) {b L : Nat} {xs : Nat → Int32} (C0 : lw_At p s m meth c b L xs) (hL : L ≤ 2560) {D : va_G} {cy : Nat → ClassId} (hK : va_K D vwCl (tyl cy) s) {x y j z n : Nat} {aX aM : Nat → Nat} {eX eM : Nat → va_E} {F : Nat → Nat → Int32} {H : Heap} {locs : List Loc} {ls : Array Slot} (hj : 5 * j + 5 ≤ L) (hz : z ≤ 1) (hx0 : aX 0 = x) (hy0 : aM 0 = y) (hX0 : LIX cy z n aX eX F) (hM0 : LIM cy aM eM) (hRL : RLN9 F eX eM) (hW : LW2 D s (List.range n) aX eX (List.range 20) aM eM H locs) (hl : lv_has ls 4 [(3, .int (nI (5 * j))), (2, .ref y), (1, .ref x), (0, .ref b)]) (kk : ∀ (z1 n1 : Nat) (aX1 : Nat → Nat) (eX1 eM1 : Nat → va_E) (F1 : Nat → Nat → Int32) (H1 : Heap) (locs1 : List Loc) (ls1 : Array Slot), z1 ≤ 1 → aX1 0 = x → LIX cy z1 n1 aX1 eX1 F1 → LIM cy aM eM1 → RLN9 F1 eX1 eM1 → LW2 D s (List.range n1) aX1 eX1 (List.range 20) aM eM1 H1 locs1 → lv_has ls1 4 [(3, .int (nI (5 * j))), (2, .ref y), (1, .ref x), (0, .ref b)] → W p l e room_1 s m #[Value.ref b] below meth c H1 locs1 (137 + 2 * j + 3 * z1) (27799 + 12 * j + 24096 * z1) (lw_Z below #[Value.ref b] s) (F0 m 1164 ls1 [])) : W p l e room_1 s m #[Value.ref b] below meth c H locs (135 + 2 * j + 3 * z) (27787 + 12 * j + 24096 * z) (lw_Z below #[Value.ref b] s) (F0 m 422 ls []) := by
  obtain ⟨hx, hb, hr, hml, hown, hts, hXs, hbl, hlocks, hgv⟩ := id C0
  have ht : ∀ w ∈ TB, w.before #[Value.ref b] s = true := fun w h => hts w (TB_lw h)
  have hXW := XW_law hts
  have hbA : ¬ (AL s) b := Nat.not_le.mpr hbl
  subst hx0
  subst hy0
  have hn115 := hX0.1
  have hXo := hX0
  have hR := hRL.1
  have hLN := hRL.2
  refine lv_aload_n hx hb dL_law_422 rfl (lv_at hl 2 rfl) ?_
  refine lv_aload_n hx hb dL_law_423 rfl (lv_at hl 3 rfl) ?_
  refine lv_iload_n hx hb dL_law_424 rfl (lv_at hl 0 rfl) ?_
  refine lv_iconst (v := 1) hx hb dL_law_425 (by decide) ?_
  refine lv_iadd hx hb dL_law_426 ?_
  rw [show (1 : Int32) = nI 1 from rfl, nI_add (5 * j) 1]
  refine va_sld hx hb hXs hbl hbA hW.2.2.2.2.2 (i := nI ((5 * j) + 1)) (vp_in_nI (n := ((5 * j) + 1)) (by omega) (by omega)) dL_law_427 ?_
  rw [nI_clamp (n := ((5 * j) + 1)) (by omega)]
  obtain ⟨wc_16, lf_16, x0_16, -⟩ := get_A hX0.2.1
  refine lw_Mi (va_runV (As := [.int (xs ((5 * j) + 1))]) (rest := []) ⟨hx, hb, hml, hown, ht⟩ (c_X11_rings l D cy _ (List.range n) aX eX hX0.2.1 (xs ((5 * j) + 1)) hLN) (kw_X11_rings ht tw_545 ⟨(Nat.le_of_ble_eq_true rfl), (Nat.le_of_ble_eq_true rfl)⟩) (preV_of hW.hp hK (List.mem_range.mpr (by omega)) x0_16 rfl) rfl rfl hl.1 rfl (lv_room (Nat.le_of_ble_eq_true rfl)) dL_law_428 ⟨by show 135 + 2 * j + 3 * z + 0 ≤ 600000; omega, by show 27787 + 12 * j + 24096 * z + 0 ≤ 7302250; omega⟩) hW (fun r_16 H locs en_16 hw_16 hW9 => ?_)
  have hW := hW9
  obtain ⟨hs_16, hu_16, hln_16, hxs_16⟩ := hw_16
  have hX_16 := LIX_k hX0 hs_16 (congrArg (fun x => rdI x 6) (hu_16 0 (by omega))) (fun c hc => hu_16 c (by omega))
  have hX0 := hX_16
  refine lv_pop hx hb dL_law_431 rfl ?_
  refine lv_aload_n hx hb dL_law_432 rfl (lv_at hl 1 rfl) ?_
  refine lv_aload_n hx hb dL_law_433 rfl (lv_at hl 3 rfl) ?_
  refine lv_iload_n hx hb dL_law_434 rfl (lv_at hl 0 rfl) ?_
  refine lv_iconst (v := 1) hx hb dL_law_435 (by decide) ?_
  refine lv_iadd hx hb dL_law_436 ?_
  rw [show (1 : Int32) = nI 1 from rfl, nI_add (5 * j) 1]
  refine va_sld hx hb hXs hbl hbA hW.2.2.2.2.2 (i := nI ((5 * j) + 1)) (vp_in_nI (n := ((5 * j) + 1)) (by omega) (by omega)) dL_law_437 ?_
  rw [nI_clamp (n := ((5 * j) + 1)) (by omega)]
  obtain ⟨_, _, _, _, _, _, _, _, _, _, _, _, _, _, x0_17, -⟩ := getr_M hM0.1
  refine lw_Mi (va_runV (As := [.int (xs ((5 * j) + 1))]) (rest := []) ⟨hx, hb, hml, hown, ht⟩ (c_X12_rings l D cy _ (List.range 20) aM eM hM0.1 (xs ((5 * j) + 1)) ) (kw_X12_rings ht tw_1069 ⟨(Nat.le_of_ble_eq_true rfl), (Nat.le_of_ble_eq_true rfl)⟩) (preV_of hW.sy.hp hK (List.mem_range.mpr (by decide)) x0_17 rfl) rfl rfl hl.1 rfl (lv_room (Nat.le_of_ble_eq_true rfl)) dL_law_438 ⟨by show 135 + 2 * j + 3 * z + 0 ≤ 600000; omega, by show 27787 + 12 * j + 24096 * z + 0 ≤ 7302250; omega⟩) hW.sy (fun r_17 H locs en_17 hw_17 hW9 => ?_)
  have hW := hW9.sy
  obtain ⟨hs_17, hu_17, hms_17, hkp_17⟩ := hw_17
  have hM_17 := LIM_k hM0 hs_17 hkp_17.2.2.2.2.1 hkp_17.2.2.2.2.2 (fun c hc => hu_17 c (by omega))
  have hM0 := hM_17
  refine lv_pop hx hb dL_law_441 rfl ?_
  refine lv_goto (tgt := 1164) hx hb dL_law_442 (by decide) ?_
  refine W.widen (k := 137 + 2 * j + 3 * z) (n := 27799 + 12 * j + 24096 * z) (by omega) (by omega) ?_
  exact kk z n aX en_16 en_17 F _ _ ls (by omega) rfl hX_16 hM_17 ⟨(RLX_keep hR ⟨(congrArg (fun x => rdI x 6) (hu_16 0 (by omega))), fun c hc => hu_16 c (by omega)⟩ (MK_KP hkp_17 (fun c hc => hu_17 c (by omega)))), hln_16⟩ hW (lv_sub hl [0, 1, 2, 3] rfl)
set_option maxHeartbeats 4000000 in
set_option maxRecDepth 100000 in
/-- the law at ringTrack -/
theorem op_7 {p : Program} {e : Env} {s : State} {m : MethodId} {below : List Frame} {meth : Method} {c : Code} (l : Launch) {b L : Nat} {xs : Nat → Int32} (C0 : lw_At p s m meth c b L xs) (hL : L ≤ 2560) {D : va_G} {cy : Nat → ClassId} (hK : va_K D vwCl (tyl cy) s) {x y j z n : Nat} {aX aM : Nat → Nat} {eX eM : Nat → va_E} {F : Nat → Nat → Int32} {H : Heap} {locs : List Loc} {ls : Array Slot} (hj : 5 * j + 5 ≤ L) (hz : z ≤ 1) (hx0 : aX 0 = x) (hy0 : aM 0 = y) (hX0 : LIX cy z n aX eX F) (hM0 : LIM cy aM eM) (hRL : RLN9 F eX eM) (hW : LW2 D s (List.range n) aX eX (List.range 20) aM eM H locs) (hl : lv_has ls 4 [(3, .int (nI (5 * j))), (2, .ref y), (1, .ref x), (0, .ref b)]) (kk : ∀ (z1 n1 : Nat) (aX1 : Nat → Nat) (eX1 eM1 : Nat → va_E) (F1 : Nat → Nat → Int32) (H1 : Heap) (locs1 : List Loc) (ls1 : Array Slot), z1 ≤ 1 → aX1 0 = x → LIX cy z1 n1 aX1 eX1 F1 → LIM cy aM eM1 → RLN9 F1 eX1 eM1 → LW2 D s (List.range n1) aX1 eX1 (List.range 20) aM eM1 H1 locs1 → lv_has ls1 4 [(3, .int (nI (5 * j))), (2, .ref y), (1, .ref x), (0, .ref b)] → W p l e room_1 s m #[Value.ref b] below meth c H1 locs1 (137 + 2 * j + 3 * z1) (27799 + 12 * j + 24096 * z1) (lw_Z below #[Value.ref b] s) (F0 m 1164 ls1 [])) : W p l e room_1 s m #[Value.ref b] below meth c H locs (135 + 2 * j + 3 * z) (27787 + 12 * j + 24096 * z) (lw_Z below #[Value.ref b] s) (F0 m 445 ls []) := by
  obtain ⟨hx, hb, hr, hml, hown, hts, hXs, hbl, hlocks, hgv⟩ := id C0
  have ht : ∀ w ∈ TB, w.before #[Value.ref b] s = true := fun w h => hts w (TB_lw h)
  have hXW := XW_law hts
  have hbA : ¬ (AL s) b := Nat.not_le.mpr hbl
  subst hx0
  subst hy0
  have hn115 := hX0.1
  have hXo := hX0
  have hR := hRL.1
  have hLN := hRL.2
  refine lv_aload_n hx hb dL_law_445 rfl (lv_at hl 2 rfl) ?_
  refine lv_aload_n hx hb dL_law_446 rfl (lv_at hl 3 rfl) ?_
  refine lv_iload_n hx hb dL_law_447 rfl (lv_at hl 0 rfl) ?_
  refine lv_iconst (v := 1) hx hb dL_law_448 (by decide) ?_
  refine lv_iadd hx hb dL_law_449 ?_
  rw [show (1 : Int32) = nI 1 from rfl, nI_add (5 * j) 1]
  refine va_sld hx hb hXs hbl hbA hW.2.2.2.2.2 (i := nI ((5 * j) + 1)) (vp_in_nI (n := ((5 * j) + 1)) (by omega) (by omega)) dL_law_450 ?_
  rw [nI_clamp (n := ((5 * j) + 1)) (by omega)]
  obtain ⟨wc_18, lf_18, x0_18, -⟩ := get_A hX0.2.1
  refine lw_Ml (va_runV (As := [.int (xs ((5 * j) + 1))]) (rest := []) ⟨hx, hb, hml, hown, ht⟩ (c_X11_ringTrack l D cy _ (List.range n) aX eX hX0.2.1 (xs ((5 * j) + 1)) hLN) (kw_X11_ringTrack ht tw_549 ⟨(Nat.le_of_ble_eq_true rfl), (Nat.le_of_ble_eq_true rfl)⟩) (preV_of hW.hp hK (List.mem_range.mpr (by omega)) x0_18 rfl) rfl rfl hl.1 rfl (lv_room (Nat.le_of_ble_eq_true rfl)) dL_law_451 ⟨by show 135 + 2 * j + 3 * z + 0 ≤ 600000; omega, by show 27787 + 12 * j + 24096 * z + 0 ≤ 7302250; omega⟩) hW (fun r_18 H locs en_18 hw_18 hW9 => ?_)
  have hW := hW9
  obtain ⟨hs_18, hu_18, hln_18, hxs_18⟩ := hw_18
  have hX_18 := LIX_k hX0 hs_18 (congrArg (fun x => rdI x 6) (hu_18 0 (by omega))) (fun c hc => hu_18 c (by omega))
  have hX0 := hX_18
  refine lv_pop2_2 hx hb dL_law_454 rfl ?_
  refine lv_aload_n hx hb dL_law_455 rfl (lv_at hl 1 rfl) ?_
  refine lv_aload_n hx hb dL_law_456 rfl (lv_at hl 3 rfl) ?_
  refine lv_iload_n hx hb dL_law_457 rfl (lv_at hl 0 rfl) ?_
  refine lv_iconst (v := 1) hx hb dL_law_458 (by decide) ?_
  refine lv_iadd hx hb dL_law_459 ?_
  rw [show (1 : Int32) = nI 1 from rfl, nI_add (5 * j) 1]
  refine va_sld hx hb hXs hbl hbA hW.2.2.2.2.2 (i := nI ((5 * j) + 1)) (vp_in_nI (n := ((5 * j) + 1)) (by omega) (by omega)) dL_law_460 ?_
  rw [nI_clamp (n := ((5 * j) + 1)) (by omega)]
  obtain ⟨_, _, _, _, _, _, _, _, _, _, _, _, _, _, x0_19, -⟩ := getr_M hM0.1
  refine lw_Ml (va_runV (As := [.int (xs ((5 * j) + 1))]) (rest := []) ⟨hx, hb, hml, hown, ht⟩ (c_X12_ringTrack l D cy _ (List.range 20) aM eM hM0.1 (xs ((5 * j) + 1)) ) (kw_X12_ringTrack ht tw_1097 ⟨(Nat.le_of_ble_eq_true rfl), (Nat.le_of_ble_eq_true rfl)⟩) (preV_of hW.sy.hp hK (List.mem_range.mpr (by decide)) x0_19 rfl) rfl rfl hl.1 rfl (lv_room (Nat.le_of_ble_eq_true rfl)) dL_law_461 ⟨by show 135 + 2 * j + 3 * z + 0 ≤ 600000; omega, by show 27787 + 12 * j + 24096 * z + 0 ≤ 7302250; omega⟩) hW.sy (fun r_19 H locs en_19 hw_19 hW9 => ?_)
  have hW := hW9.sy
  obtain ⟨hs_19, hu_19, hms_19, hkp_19⟩ := hw_19
  have hM_19 := LIM_k hM0 hs_19 hkp_19.2.2.2.2.1 hkp_19.2.2.2.2.2 (fun c hc => hu_19 c (by omega))
  have hM0 := hM_19
  refine lv_pop2_2 hx hb dL_law_464 rfl ?_
  refine lv_goto (tgt := 1164) hx hb dL_law_465 (by decide) ?_
  refine W.widen (k := 137 + 2 * j + 3 * z) (n := 27799 + 12 * j + 24096 * z) (by omega) (by omega) ?_
  exact kk z n aX en_18 en_19 F _ _ ls (by omega) rfl hX_18 hM_19 ⟨(RLX_keep hR ⟨(congrArg (fun x => rdI x 6) (hu_18 0 (by omega))), fun c hc => hu_18 c (by omega)⟩ (MK_KP hkp_19 (fun c hc => hu_19 c (by omega)))), hln_18⟩ hW (lv_sub hl [0, 1, 2, 3] rfl)
set_option maxHeartbeats 4000000 in
set_option maxRecDepth 100000 in
/-- the law at ring -/
theorem op_8 {p : Program} {e : Env} {s : State} {m : MethodId} {below : List Frame} {meth : Method} {c : Code} (l : Launch) {b L : Nat} {xs : Nat → Int32} (C0 : lw_At p s m meth c b L xs) (hL : L ≤ 2560) {D : va_G} {cy : Nat → ClassId} (hK : va_K D vwCl (tyl cy) s) {x y j z n : Nat} {aX aM : Nat → Nat} {eX eM : Nat → va_E} {F : Nat → Nat → Int32} {H : Heap} {locs : List Loc} {ls : Array Slot} (hj : 5 * j + 5 ≤ L) (hz : z ≤ 1) (hx0 : aX 0 = x) (hy0 : aM 0 = y) (hX0 : LIX cy z n aX eX F) (hM0 : LIM cy aM eM) (hRL : RLN9 F eX eM) (hW : LW2 D s (List.range n) aX eX (List.range 20) aM eM H locs) (hl : lv_has ls 4 [(3, .int (nI (5 * j))), (2, .ref y), (1, .ref x), (0, .ref b)]) (kk : ∀ (z1 n1 : Nat) (aX1 : Nat → Nat) (eX1 eM1 : Nat → va_E) (F1 : Nat → Nat → Int32) (H1 : Heap) (locs1 : List Loc) (ls1 : Array Slot), z1 ≤ 1 → aX1 0 = x → LIX cy z1 n1 aX1 eX1 F1 → LIM cy aM eM1 → RLN9 F1 eX1 eM1 → LW2 D s (List.range n1) aX1 eX1 (List.range 20) aM eM1 H1 locs1 → lv_has ls1 4 [(3, .int (nI (5 * j))), (2, .ref y), (1, .ref x), (0, .ref b)] → W p l e room_1 s m #[Value.ref b] below meth c H1 locs1 (137 + 2 * j + 3 * z1) (27799 + 12 * j + 24096 * z1) (lw_Z below #[Value.ref b] s) (F0 m 1164 ls1 [])) : W p l e room_1 s m #[Value.ref b] below meth c H locs (135 + 2 * j + 3 * z) (27787 + 12 * j + 24096 * z) (lw_Z below #[Value.ref b] s) (F0 m 468 ls []) := by
  obtain ⟨hx, hb, hr, hml, hown, hts, hXs, hbl, hlocks, hgv⟩ := id C0
  have ht : ∀ w ∈ TB, w.before #[Value.ref b] s = true := fun w h => hts w (TB_lw h)
  have hXW := XW_law hts
  have hbA : ¬ (AL s) b := Nat.not_le.mpr hbl
  subst hx0
  subst hy0
  have hn115 := hX0.1
  have hXo := hX0
  have hR := hRL.1
  have hLN := hRL.2
  refine lv_aload_n hx hb dL_law_468 rfl (lv_at hl 2 rfl) ?_
  refine lv_aload_n hx hb dL_law_469 rfl (lv_at hl 3 rfl) ?_
  refine lv_iload_n hx hb dL_law_470 rfl (lv_at hl 0 rfl) ?_
  refine lv_iconst (v := 1) hx hb dL_law_471 (by decide) ?_
  refine lv_iadd hx hb dL_law_472 ?_
  rw [show (1 : Int32) = nI 1 from rfl, nI_add (5 * j) 1]
  refine va_sld hx hb hXs hbl hbA hW.2.2.2.2.2 (i := nI ((5 * j) + 1)) (vp_in_nI (n := ((5 * j) + 1)) (by omega) (by omega)) dL_law_473 ?_
  rw [nI_clamp (n := ((5 * j) + 1)) (by omega)]
  refine lv_aload_n hx hb dL_law_474 rfl (lv_at hl 3 rfl) ?_
  refine lv_iload_n hx hb dL_law_475 rfl (lv_at hl 0 rfl) ?_
  refine lv_iconst (v := 2) hx hb dL_law_476 (by decide) ?_
  refine lv_iadd hx hb dL_law_477 ?_
  rw [show (2 : Int32) = nI 2 from rfl, nI_add (5 * j) 2]
  refine va_sld hx hb hXs hbl hbA hW.2.2.2.2.2 (i := nI ((5 * j) + 2)) (vp_in_nI (n := ((5 * j) + 2)) (by omega) (by omega)) dL_law_478 ?_
  rw [nI_clamp (n := ((5 * j) + 2)) (by omega)]
  obtain ⟨wc_20, lf_20, x0_20, -⟩ := get_A hX0.2.1
  refine lw_Mi (va_runV (As := [.int (xs ((5 * j) + 1)), .int (xs ((5 * j) + 2))]) (rest := []) ⟨hx, hb, hml, hown, ht⟩ (c_X11_ring l D cy _ (List.range n) aX eX hX0.2.1 (xs ((5 * j) + 1)) (xs ((5 * j) + 2)) hLN) (kw_X11_ring ht tw_553 ⟨(Nat.le_of_ble_eq_true rfl), (Nat.le_of_ble_eq_true rfl)⟩) (preV_of hW.hp hK (List.mem_range.mpr (by omega)) x0_20 rfl) rfl rfl hl.1 rfl (lv_room (Nat.le_of_ble_eq_true rfl)) dL_law_479 ⟨by show 135 + 2 * j + 3 * z + 0 ≤ 600000; omega, by show 27787 + 12 * j + 24096 * z + 0 ≤ 7302250; omega⟩) hW (fun r_20 H locs en_20 hw_20 hW9 => ?_)
  have hW := hW9
  obtain ⟨hs_20, hu_20, hln_20, hxs_20⟩ := hw_20
  have hX_20 := LIX_k hX0 hs_20 (congrArg (fun x => rdI x 6) (hu_20 0 (by omega))) (fun c hc => hu_20 c (by omega))
  have hX0 := hX_20
  refine lv_pop hx hb dL_law_482 rfl ?_
  refine lv_aload_n hx hb dL_law_483 rfl (lv_at hl 1 rfl) ?_
  refine lv_aload_n hx hb dL_law_484 rfl (lv_at hl 3 rfl) ?_
  refine lv_iload_n hx hb dL_law_485 rfl (lv_at hl 0 rfl) ?_
  refine lv_iconst (v := 1) hx hb dL_law_486 (by decide) ?_
  refine lv_iadd hx hb dL_law_487 ?_
  rw [show (1 : Int32) = nI 1 from rfl, nI_add (5 * j) 1]
  refine va_sld hx hb hXs hbl hbA hW.2.2.2.2.2 (i := nI ((5 * j) + 1)) (vp_in_nI (n := ((5 * j) + 1)) (by omega) (by omega)) dL_law_488 ?_
  rw [nI_clamp (n := ((5 * j) + 1)) (by omega)]
  refine lv_aload_n hx hb dL_law_489 rfl (lv_at hl 3 rfl) ?_
  refine lv_iload_n hx hb dL_law_490 rfl (lv_at hl 0 rfl) ?_
  refine lv_iconst (v := 2) hx hb dL_law_491 (by decide) ?_
  refine lv_iadd hx hb dL_law_492 ?_
  rw [show (2 : Int32) = nI 2 from rfl, nI_add (5 * j) 2]
  refine va_sld hx hb hXs hbl hbA hW.2.2.2.2.2 (i := nI ((5 * j) + 2)) (vp_in_nI (n := ((5 * j) + 2)) (by omega) (by omega)) dL_law_493 ?_
  rw [nI_clamp (n := ((5 * j) + 2)) (by omega)]
  obtain ⟨_, _, _, _, _, _, _, _, _, _, _, _, _, _, x0_21, -⟩ := getr_M hM0.1
  refine lw_Mi (va_runV (As := [.int (xs ((5 * j) + 1)), .int (xs ((5 * j) + 2))]) (rest := []) ⟨hx, hb, hml, hown, ht⟩ (c_X12_ring l D cy _ (List.range 20) aM eM hM0.1 (xs ((5 * j) + 1)) (xs ((5 * j) + 2)) ) (kw_X12_ring ht tw_1101 ⟨(Nat.le_of_ble_eq_true rfl), (Nat.le_of_ble_eq_true rfl)⟩) (preV_of hW.sy.hp hK (List.mem_range.mpr (by decide)) x0_21 rfl) rfl rfl hl.1 rfl (lv_room (Nat.le_of_ble_eq_true rfl)) dL_law_494 ⟨by show 135 + 2 * j + 3 * z + 0 ≤ 600000; omega, by show 27787 + 12 * j + 24096 * z + 0 ≤ 7302250; omega⟩) hW.sy (fun r_21 H locs en_21 hw_21 hW9 => ?_)
  have hW := hW9.sy
  obtain ⟨hs_21, hu_21, hms_21, hkp_21⟩ := hw_21
  have hM_21 := LIM_k hM0 hs_21 hkp_21.2.2.2.2.1 hkp_21.2.2.2.2.2 (fun c hc => hu_21 c (by omega))
  have hM0 := hM_21
  refine lv_pop hx hb dL_law_497 rfl ?_
  refine lv_goto (tgt := 1164) hx hb dL_law_498 (by decide) ?_
  refine W.widen (k := 137 + 2 * j + 3 * z) (n := 27799 + 12 * j + 24096 * z) (by omega) (by omega) ?_
  exact kk z n aX en_20 en_21 F _ _ ls (by omega) rfl hX_20 hM_21 ⟨(RLX_keep hR ⟨(congrArg (fun x => rdI x 6) (hu_20 0 (by omega))), fun c hc => hu_20 c (by omega)⟩ (MK_KP hkp_21 (fun c hc => hu_21 c (by omega)))), hln_20⟩ hW (lv_sub hl [0, 1, 2, 3] rfl)
set_option maxHeartbeats 4000000 in
set_option maxRecDepth 100000 in
/-- the law at growth -/
theorem op_9 {p : Program} {e : Env} {s : State} {m : MethodId} {below : List Frame} {meth : Method} {c : Code} (l : Launch) {b L : Nat} {xs : Nat → Int32} (C0 : lw_At p s m meth c b L xs) (hL : L ≤ 2560) {D : va_G} {cy : Nat → ClassId} (hK : va_K D vwCl (tyl cy) s) {x y j z n : Nat} {aX aM : Nat → Nat} {eX eM : Nat → va_E} {F : Nat → Nat → Int32} {H : Heap} {locs : List Loc} {ls : Array Slot} (hj : 5 * j + 5 ≤ L) (hz : z ≤ 1) (hx0 : aX 0 = x) (hy0 : aM 0 = y) (hX0 : LIX cy z n aX eX F) (hM0 : LIM cy aM eM) (hRL : RLN9 F eX eM) (hW : LW2 D s (List.range n) aX eX (List.range 20) aM eM H locs) (hl : lv_has ls 4 [(3, .int (nI (5 * j))), (2, .ref y), (1, .ref x), (0, .ref b)]) (kk : ∀ (z1 n1 : Nat) (aX1 : Nat → Nat) (eX1 eM1 : Nat → va_E) (F1 : Nat → Nat → Int32) (H1 : Heap) (locs1 : List Loc) (ls1 : Array Slot), z1 ≤ 1 → aX1 0 = x → LIX cy z1 n1 aX1 eX1 F1 → LIM cy aM eM1 → RLN9 F1 eX1 eM1 → LW2 D s (List.range n1) aX1 eX1 (List.range 20) aM eM1 H1 locs1 → lv_has ls1 4 [(3, .int (nI (5 * j))), (2, .ref y), (1, .ref x), (0, .ref b)] → W p l e room_1 s m #[Value.ref b] below meth c H1 locs1 (137 + 2 * j + 3 * z1) (27799 + 12 * j + 24096 * z1) (lw_Z below #[Value.ref b] s) (F0 m 1164 ls1 [])) : W p l e room_1 s m #[Value.ref b] below meth c H locs (135 + 2 * j + 3 * z) (27787 + 12 * j + 24096 * z) (lw_Z below #[Value.ref b] s) (F0 m 501 ls []) := by
  obtain ⟨hx, hb, hr, hml, hown, hts, hXs, hbl, hlocks, hgv⟩ := id C0
  have ht : ∀ w ∈ TB, w.before #[Value.ref b] s = true := fun w h => hts w (TB_lw h)
  have hXW := XW_law hts
  have hbA : ¬ (AL s) b := Nat.not_le.mpr hbl
  subst hx0
  subst hy0
  have hn115 := hX0.1
  have hXo := hX0
  have hR := hRL.1
  have hLN := hRL.2
  refine lv_aload_n hx hb dL_law_501 rfl (lv_at hl 2 rfl) ?_
  refine lv_aload_n hx hb dL_law_502 rfl (lv_at hl 3 rfl) ?_
  refine lv_iload_n hx hb dL_law_503 rfl (lv_at hl 0 rfl) ?_
  refine lv_iconst (v := 1) hx hb dL_law_504 (by decide) ?_
  refine lv_iadd hx hb dL_law_505 ?_
  rw [show (1 : Int32) = nI 1 from rfl, nI_add (5 * j) 1]
  refine va_sld hx hb hXs hbl hbA hW.2.2.2.2.2 (i := nI ((5 * j) + 1)) (vp_in_nI (n := ((5 * j) + 1)) (by omega) (by omega)) dL_law_506 ?_
  rw [nI_clamp (n := ((5 * j) + 1)) (by omega)]
  refine lv_aload_n hx hb dL_law_507 rfl (lv_at hl 3 rfl) ?_
  refine lv_iload_n hx hb dL_law_508 rfl (lv_at hl 0 rfl) ?_
  refine lv_iconst (v := 2) hx hb dL_law_509 (by decide) ?_
  refine lv_iadd hx hb dL_law_510 ?_
  rw [show (2 : Int32) = nI 2 from rfl, nI_add (5 * j) 2]
  refine va_sld hx hb hXs hbl hbA hW.2.2.2.2.2 (i := nI ((5 * j) + 2)) (vp_in_nI (n := ((5 * j) + 2)) (by omega) (by omega)) dL_law_511 ?_
  rw [nI_clamp (n := ((5 * j) + 2)) (by omega)]
  refine lv_aload_n hx hb dL_law_512 rfl (lv_at hl 3 rfl) ?_
  refine lv_iload_n hx hb dL_law_513 rfl (lv_at hl 0 rfl) ?_
  refine lv_iconst (v := 3) hx hb dL_law_514 (by decide) ?_
  refine lv_iadd hx hb dL_law_515 ?_
  rw [show (3 : Int32) = nI 3 from rfl, nI_add (5 * j) 3]
  refine va_sld hx hb hXs hbl hbA hW.2.2.2.2.2 (i := nI ((5 * j) + 3)) (vp_in_nI (n := ((5 * j) + 3)) (by omega) (by omega)) dL_law_516 ?_
  rw [nI_clamp (n := ((5 * j) + 3)) (by omega)]
  obtain ⟨wc_22, lf_22, x0_22, -⟩ := get_A hX0.2.1
  refine lw_Mi (va_runV (As := [.int (xs ((5 * j) + 1)), .int (xs ((5 * j) + 2)), .int (xs ((5 * j) + 3))]) (rest := []) ⟨hx, hb, hml, hown, ht⟩ (c_X11_growth l D cy _ (List.range n) aX eX hX0.2.1 (xs ((5 * j) + 1)) (xs ((5 * j) + 2)) (xs ((5 * j) + 3)) hLN) (kw_X11_growth ht tw_557 ⟨(Nat.le_of_ble_eq_true rfl), (Nat.le_of_ble_eq_true rfl)⟩) (preV_of hW.hp hK (List.mem_range.mpr (by omega)) x0_22 rfl) rfl rfl hl.1 rfl (lv_room (Nat.le_of_ble_eq_true rfl)) dL_law_517 ⟨by show 135 + 2 * j + 3 * z + 0 ≤ 600000; omega, by show 27787 + 12 * j + 24096 * z + 0 ≤ 7302250; omega⟩) hW (fun r_22 H locs en_22 hw_22 hW9 => ?_)
  have hW := hW9
  obtain ⟨hs_22, hu_22, hln_22, hxs_22⟩ := hw_22
  have hX_22 := LIX_k hX0 hs_22 (congrArg (fun x => rdI x 6) (hu_22 0 (by omega))) (fun c hc => hu_22 c (by omega))
  have hX0 := hX_22
  refine lv_aload_n hx hb dL_law_520 rfl (lv_at hl 1 rfl) ?_
  refine lv_aload_n hx hb dL_law_521 rfl (lv_at hl 3 rfl) ?_
  refine lv_iload_n hx hb dL_law_522 rfl (lv_at hl 0 rfl) ?_
  refine lv_iconst (v := 1) hx hb dL_law_523 (by decide) ?_
  refine lv_iadd hx hb dL_law_524 ?_
  rw [show (1 : Int32) = nI 1 from rfl, nI_add (5 * j) 1]
  refine va_sld hx hb hXs hbl hbA hW.2.2.2.2.2 (i := nI ((5 * j) + 1)) (vp_in_nI (n := ((5 * j) + 1)) (by omega) (by omega)) dL_law_525 ?_
  rw [nI_clamp (n := ((5 * j) + 1)) (by omega)]
  refine lv_aload_n hx hb dL_law_526 rfl (lv_at hl 3 rfl) ?_
  refine lv_iload_n hx hb dL_law_527 rfl (lv_at hl 0 rfl) ?_
  refine lv_iconst (v := 2) hx hb dL_law_528 (by decide) ?_
  refine lv_iadd hx hb dL_law_529 ?_
  rw [show (2 : Int32) = nI 2 from rfl, nI_add (5 * j) 2]
  refine va_sld hx hb hXs hbl hbA hW.2.2.2.2.2 (i := nI ((5 * j) + 2)) (vp_in_nI (n := ((5 * j) + 2)) (by omega) (by omega)) dL_law_530 ?_
  rw [nI_clamp (n := ((5 * j) + 2)) (by omega)]
  refine lv_aload_n hx hb dL_law_531 rfl (lv_at hl 3 rfl) ?_
  refine lv_iload_n hx hb dL_law_532 rfl (lv_at hl 0 rfl) ?_
  refine lv_iconst (v := 3) hx hb dL_law_533 (by decide) ?_
  refine lv_iadd hx hb dL_law_534 ?_
  rw [show (3 : Int32) = nI 3 from rfl, nI_add (5 * j) 3]
  refine va_sld hx hb hXs hbl hbA hW.2.2.2.2.2 (i := nI ((5 * j) + 3)) (vp_in_nI (n := ((5 * j) + 3)) (by omega) (by omega)) dL_law_535 ?_
  rw [nI_clamp (n := ((5 * j) + 3)) (by omega)]
  obtain ⟨_, _, _, _, _, _, _, _, _, _, _, _, _, _, x0_23, -⟩ := getr_M hM0.1
  refine lw_Mi (va_runV (As := [.int (xs ((5 * j) + 1)), .int (xs ((5 * j) + 2)), .int (xs ((5 * j) + 3))]) (rest := [.int r_22]) ⟨hx, hb, hml, hown, ht⟩ (c_X12_growth l D cy _ (List.range 20) aM eM hM0.1 (xs ((5 * j) + 1)) (xs ((5 * j) + 2)) (xs ((5 * j) + 3)) ) (kw_X12_growth ht tw_1105 ⟨(Nat.le_of_ble_eq_true rfl), (Nat.le_of_ble_eq_true rfl)⟩) (preV_of hW.sy.hp hK (List.mem_range.mpr (by decide)) x0_23 rfl) rfl rfl hl.1 rfl (lv_room (Nat.le_of_ble_eq_true rfl)) dL_law_536 ⟨by show 135 + 2 * j + 3 * z + 0 ≤ 600000; omega, by show 27787 + 12 * j + 24096 * z + 0 ≤ 7302250; omega⟩) hW.sy (fun r_23 H locs en_23 hw_23 hW9 => ?_)
  have hW := hW9.sy
  obtain ⟨hs_23, hu_23, hms_23, hkp_23⟩ := hw_23
  have hM_23 := LIM_k hM0 hs_23 hkp_23.2.2.2.2.1 hkp_23.2.2.2.2.2 (fun c hc => hu_23 c (by omega))
  have hM0 := hM_23
  refine lv_icmp_eq (tgt := 1164) hx hb dL_law_539 (by decide) (fun _ => ?_) (fun c_0 => absurd ((growth_rel hXo.2.1 hXo.2.2.1 hR.2.1 hR.2.2.1 hR.2.2.2.2.2.1 hR.2.2.2.2.2.2 hxs_22 hms_23)) c_0)
  refine W.widen (k := 137 + 2 * j + 3 * z) (n := 27799 + 12 * j + 24096 * z) (by omega) (by omega) ?_
  exact kk z n aX en_22 en_23 F _ _ ls (by omega) rfl hX_22 hM_23 ⟨(RLX_keep hR ⟨(congrArg (fun x => rdI x 6) (hu_22 0 (by omega))), fun c hc => hu_22 c (by omega)⟩ (MK_KP hkp_23 (fun c hc => hu_23 c (by omega)))), hln_22⟩ hW (lv_sub hl [0, 1, 2, 3] rfl)
set_option maxHeartbeats 4000000 in
set_option maxRecDepth 100000 in
/-- the law at close -/
theorem op_10 {p : Program} {e : Env} {s : State} {m : MethodId} {below : List Frame} {meth : Method} {c : Code} (l : Launch) {b L : Nat} {xs : Nat → Int32} (C0 : lw_At p s m meth c b L xs) (hL : L ≤ 2560) {D : va_G} {cy : Nat → ClassId} (hK : va_K D vwCl (tyl cy) s) {x y j z n : Nat} {aX aM : Nat → Nat} {eX eM : Nat → va_E} {F : Nat → Nat → Int32} {H : Heap} {locs : List Loc} {ls : Array Slot} (hj : 5 * j + 5 ≤ L) (hz : z ≤ 1) (hx0 : aX 0 = x) (hy0 : aM 0 = y) (hX0 : LIX cy z n aX eX F) (hM0 : LIM cy aM eM) (hRL : RLN9 F eX eM) (hW : LW2 D s (List.range n) aX eX (List.range 20) aM eM H locs) (hl : lv_has ls 4 [(3, .int (nI (5 * j))), (2, .ref y), (1, .ref x), (0, .ref b)]) (kk : ∀ (z1 n1 : Nat) (aX1 : Nat → Nat) (eX1 eM1 : Nat → va_E) (F1 : Nat → Nat → Int32) (H1 : Heap) (locs1 : List Loc) (ls1 : Array Slot), z1 ≤ 1 → aX1 0 = x → LIX cy z1 n1 aX1 eX1 F1 → LIM cy aM eM1 → RLN9 F1 eX1 eM1 → LW2 D s (List.range n1) aX1 eX1 (List.range 20) aM eM1 H1 locs1 → lv_has ls1 4 [(3, .int (nI (5 * j))), (2, .ref y), (1, .ref x), (0, .ref b)] → W p l e room_1 s m #[Value.ref b] below meth c H1 locs1 (137 + 2 * j + 3 * z1) (27799 + 12 * j + 24096 * z1) (lw_Z below #[Value.ref b] s) (F0 m 1164 ls1 [])) : W p l e room_1 s m #[Value.ref b] below meth c H locs (135 + 2 * j + 3 * z) (27787 + 12 * j + 24096 * z) (lw_Z below #[Value.ref b] s) (F0 m 544 ls []) := by
  obtain ⟨hx, hb, hr, hml, hown, hts, hXs, hbl, hlocks, hgv⟩ := id C0
  have ht : ∀ w ∈ TB, w.before #[Value.ref b] s = true := fun w h => hts w (TB_lw h)
  have hXW := XW_law hts
  have hbA : ¬ (AL s) b := Nat.not_le.mpr hbl
  subst hx0
  subst hy0
  have hn115 := hX0.1
  have hXo := hX0
  have hR := hRL.1
  have hLN := hRL.2
  refine lv_aload_n hx hb dL_law_544 rfl (lv_at hl 2 rfl) ?_
  obtain ⟨cn9, d9, m9, x19, hcn9, -⟩ := get_T hX0.2.1
  have hc4 : rdI (eX 1) 4 = nI cn9 := by rw [x19]; rfl
  rcases Nat.eq_zero_or_pos cn9 with hc9 | hc9
  · rw [hc9] at hc4
    obtain ⟨wc_24, lf_24, x0_24, -⟩ := get_A hX0.2.1
    refine lw_Ri (va_runV (As := []) (rest := []) ⟨hx, hb, hml, hown, ht⟩ (c_X11_close0 l D cy _ (List.range n) aX eX hX0.2.1 hc4) (kw_X11_close0 ht tw_574 ⟨(Nat.le_of_ble_eq_true rfl), (Nat.le_of_ble_eq_true rfl)⟩) (preV_of hW.hp hK (List.mem_range.mpr (by omega)) x0_24 rfl) rfl rfl hl.1 rfl (lv_room (Nat.le_of_ble_eq_true rfl)) dL_law_545 ⟨by show 135 + 2 * j + 3 * z + 0 ≤ 600000; omega, by show 27787 + 12 * j + 24096 * z + 0 ≤ 7302250; omega⟩) hW (fun r_24 H locs hw_24 hW9 => ?_)
    have hW := hW9
    refine lv_pop hx hb dL_law_548 rfl ?_
    refine lv_aload_n hx hb dL_law_549 rfl (lv_at hl 1 rfl) ?_
    obtain ⟨_, _, _, _, _, _, _, _, _, _, _, _, _, _, x0_25, -⟩ := getr_M hM0.1
    refine lw_Mi (va_runV (As := []) (rest := []) ⟨hx, hb, hml, hown, ht⟩ (c_X12_close l D cy _ (List.range 20) aM eM hM0.1  hM0.2.2) (kw_X12_close ht tw_1113 ⟨(Nat.le_of_ble_eq_true rfl), (Nat.le_of_ble_eq_true rfl)⟩) (preV_of hW.sy.hp hK (List.mem_range.mpr (by decide)) x0_25 rfl) rfl rfl hl.1 rfl (lv_room (Nat.le_of_ble_eq_true rfl)) dL_law_550 ⟨by show 135 + 2 * j + 3 * z + 0 ≤ 600000; omega, by show 27787 + 12 * j + 24096 * z + 0 ≤ 7302250; omega⟩) hW.sy (fun r_25 H locs en_25 hw_25 hW9 => ?_)
    have hW := hW9.sy
    obtain ⟨hs_25, hu_25, hcx_25, hkp_25⟩ := hw_25
    have hM_25 : LIM cy aM en_25 := ⟨hs_25, RWX_keep hM0.2.1 hkp_25.2.2.2.2 (hu_25 19 (by omega)), hcx_25⟩
    have hM0 := hM_25
    refine lv_pop hx hb dL_law_553 rfl ?_
    refine lv_goto (tgt := 1164) hx hb dL_law_554 (by decide) ?_
    refine W.widen (k := 137 + 2 * j + 3 * z) (n := 27799 + 12 * j + 24096 * z) (by omega) (by omega) ?_
    exact kk z n aX eX en_25 F _ _ ls (by omega) rfl hX0 hM_25 ⟨(RLX_keep hR (XK_rf _) ⟨hkp_25, (fun c hc => hu_25 c (by omega))⟩), hLN⟩ hW (lv_sub hl [0, 1, 2, 3] rfl)
  · have hct9 : 1 ≤ (rdI (eX 1) 4).toInt := by rw [hc4, nI_toInt (by omega)]; omega
    rcases hX0.2.2.2.1 with ⟨ka, kb, kc, hkk, hpc⟩ | ⟨hz0, hcn⟩
    · obtain ⟨wc_26, lf_26, x0_26, -⟩ := get_A hX0.2.1
      refine lw_Mi (va_runV (As := []) (rest := []) ⟨hx, hb, hml, hown, ht⟩ (c_X11_close l D cy _ (List.range n) aX eX (ka := ka) (kb := kb) (kc := kc) ⟨hX0.2.1, hkk, hpc⟩) (kw_X11_close ht tw_574 ⟨(Nat.le_of_ble_eq_true rfl), (Nat.le_of_ble_eq_true rfl)⟩) (preV_of hW.hp hK (List.mem_range.mpr (by omega)) x0_26 rfl) rfl rfl hl.1 rfl (lv_room (Nat.le_of_ble_eq_true rfl)) dL_law_545 ⟨by show 135 + 2 * j + 3 * z + 0 ≤ 600000; omega, by show 27787 + 12 * j + 24096 * z + 0 ≤ 7302250; omega⟩) hW (fun r_26 H locs en_26 hw_26 hW => ?_)
      obtain ⟨hsc_26, hu_26⟩ := hw_26
      obtain ⟨hq1, hq2, hq3, hq4⟩ : 115 ≤ ka ∧ ka < kb ∧ kb < kc ∧ True := ⟨hkk.2.2.2.1, hkk.2.2.2.2.1, hkk.2.2.2.2.2, trivial⟩
      have hX_26 : LIX cy z n aX en_26 F := ⟨hX0.1, hsc_26.1, TX_close hX0.2.2.1 hpc hu_26 ⟨hq1, hq2, hq3⟩, CPz_of_SC hsc_26, WXk hX0.2.1 hX0.2.2.2.2 (congrArg (fun x => rdI x 6) (hu_26 0 (by omega))) (fun c hc => hu_26 c (by omega))⟩
      have hX0 := hX_26
      refine lv_pop hx hb dL_law_548 rfl ?_
      refine lv_aload_n hx hb dL_law_549 rfl (lv_at hl 1 rfl) ?_
      obtain ⟨_, _, _, _, _, _, _, _, _, _, _, _, _, _, x0_27, -⟩ := getr_M hM0.1
      refine lw_Mi (va_runV (As := []) (rest := []) ⟨hx, hb, hml, hown, ht⟩ (c_X12_close l D cy _ (List.range 20) aM eM hM0.1  hM0.2.2) (kw_X12_close ht tw_1113 ⟨(Nat.le_of_ble_eq_true rfl), (Nat.le_of_ble_eq_true rfl)⟩) (preV_of hW.sy.hp hK (List.mem_range.mpr (by decide)) x0_27 rfl) rfl rfl hl.1 rfl (lv_room (Nat.le_of_ble_eq_true rfl)) dL_law_550 ⟨by show 135 + 2 * j + 3 * z + 0 ≤ 600000; omega, by show 27787 + 12 * j + 24096 * z + 0 ≤ 7302250; omega⟩) hW.sy (fun r_27 H locs en_27 hw_27 hW9 => ?_)
      have hW := hW9.sy
      obtain ⟨hs_27, hu_27, hcx_27, hkp_27⟩ := hw_27
      have hM_27 : LIM cy aM en_27 := ⟨hs_27, RWX_keep hM0.2.1 hkp_27.2.2.2.2 (hu_27 19 (by omega)), hcx_27⟩
      have hM0 := hM_27
      refine lv_pop hx hb dL_law_553 rfl ?_
      refine lv_goto (tgt := 1164) hx hb dL_law_554 (by decide) ?_
      refine W.widen (k := 137 + 2 * j + 3 * z) (n := 27799 + 12 * j + 24096 * z) (by omega) (by omega) ?_
      exact kk z n aX en_26 en_27 F _ _ ls (by omega) rfl hX_26 hM_27 ⟨(RLX_keep hR ⟨(congrArg (fun x => rdI x 6) (hu_26 0 (by omega))), fun c hc => hu_26 c (by omega)⟩ ⟨hkp_27, (fun c hc => hu_27 c (by omega))⟩), (LNX_f hLN (fun c h1 h2 h3 => hu_26 c (by omega)))⟩ hW (lv_sub hl [0, 1, 2, 3] rfl)
    · obtain ⟨wc_28, lf_28, x0_28, -⟩ := get_A hX0.2.1
      refine lw_Vi (va_runV (As := []) (rest := []) ⟨hx, hb, hml, hown, ht⟩ (c_X11_closeU l D cy _ aX eX n hX0.1 hX0.2.1 F hX0.2.2.1 hct9 hcn) (kw_X11_closeU ht tw_574 ⟨(Nat.le_of_ble_eq_true rfl), (Nat.le_of_ble_eq_true rfl)⟩) (preVC_of hW.hp hK hXW (List.mem_range.mpr (by omega)) x0_28 rfl) rfl rfl hl.1 rfl (lv_room (Nat.le_of_ble_eq_true rfl)) dL_law_545 ⟨by show 135 + 2 * j + 3 * z + 3 ≤ 600000; omega, by show 27787 + 12 * j + 24096 * z + 24096 ≤ 7302250; omega⟩) hW (fun r_28 H locs n_28 a_28 en_28 hw_28 hW => ?_)
      obtain ⟨hn1_28, hda_28, hu_28, hs_28, htx_28, hcp_28⟩ := hw_28
      dsimp only at hn1_28 hda_28 hu_28 hs_28 htx_28 hcp_28
      have hX_28 : LIX cy 1 n_28 a_28 en_28 F := ⟨by omega, hs_28, htx_28, Or.inl hcp_28, WXk hX0.2.1 hX0.2.2.2.2 (congrArg (fun x => rdI x 6) (hu_28 0 (by omega))) (fun c hc => hu_28 c (by omega))⟩
      have ha0_28 := hda_28 0 (by omega)
      have hX0 := hX_28
      refine lv_pop hx hb dL_law_548 rfl ?_
      refine lv_aload_n hx hb dL_law_549 rfl (lv_at hl 1 rfl) ?_
      obtain ⟨_, _, _, _, _, _, _, _, _, _, _, _, _, _, x0_29, -⟩ := getr_M hM0.1
      refine lw_Mi (va_runV (As := []) (rest := []) ⟨hx, hb, hml, hown, ht⟩ (c_X12_close l D cy _ (List.range 20) aM eM hM0.1  hM0.2.2) (kw_X12_close ht tw_1113 ⟨(Nat.le_of_ble_eq_true rfl), (Nat.le_of_ble_eq_true rfl)⟩) (preV_of hW.sy.hp hK (List.mem_range.mpr (by decide)) x0_29 rfl) rfl rfl hl.1 rfl (lv_room (Nat.le_of_ble_eq_true rfl)) dL_law_550 ⟨by show (135 + 2 * j + 3 * z + 3) + 0 ≤ 600000; omega, by show (27787 + 12 * j + 24096 * z + 24096) + 0 ≤ 7302250; omega⟩) hW.sy (fun r_29 H locs en_29 hw_29 hW9 => ?_)
      have hW := hW9.sy
      obtain ⟨hs_29, hu_29, hcx_29, hkp_29⟩ := hw_29
      have hM_29 : LIM cy aM en_29 := ⟨hs_29, RWX_keep hM0.2.1 hkp_29.2.2.2.2 (hu_29 19 (by omega)), hcx_29⟩
      have hM0 := hM_29
      refine lv_pop hx hb dL_law_553 rfl ?_
      refine lv_goto (tgt := 1164) hx hb dL_law_554 (by decide) ?_
      refine W.widen (k := 137 + 2 * j + 3 * 1) (n := 27799 + 12 * j + 24096 * 1) (by omega) (by omega) ?_
      exact kk 1 n_28 a_28 en_28 en_29 F _ _ ls (by omega) (ha0_28.trans rfl) hX_28 hM_29 ⟨(RLX_keep hR ⟨(congrArg (fun x => rdI x 6) (hu_28 0 (by omega))), fun c hc => hu_28 c (by omega)⟩ ⟨hkp_29, (fun c hc => hu_29 c (by omega))⟩), (LNX_f hLN (fun c h1 h2 h3 => hu_28 c (by omega)))⟩ hW (lv_sub hl [0, 1, 2, 3] rfl)
set_option maxHeartbeats 4000000 in
set_option maxRecDepth 100000 in
/-- the law at closed -/
theorem op_11 {p : Program} {e : Env} {s : State} {m : MethodId} {below : List Frame} {meth : Method} {c : Code} (l : Launch) {b L : Nat} {xs : Nat → Int32} (C0 : lw_At p s m meth c b L xs) (hL : L ≤ 2560) {D : va_G} {cy : Nat → ClassId} (hK : va_K D vwCl (tyl cy) s) {x y j z n : Nat} {aX aM : Nat → Nat} {eX eM : Nat → va_E} {F : Nat → Nat → Int32} {H : Heap} {locs : List Loc} {ls : Array Slot} (hj : 5 * j + 5 ≤ L) (hz : z ≤ 1) (hx0 : aX 0 = x) (hy0 : aM 0 = y) (hX0 : LIX cy z n aX eX F) (hM0 : LIM cy aM eM) (hRL : RLN9 F eX eM) (hW : LW2 D s (List.range n) aX eX (List.range 20) aM eM H locs) (hl : lv_has ls 4 [(3, .int (nI (5 * j))), (2, .ref y), (1, .ref x), (0, .ref b)]) (kk : ∀ (z1 n1 : Nat) (aX1 : Nat → Nat) (eX1 eM1 : Nat → va_E) (F1 : Nat → Nat → Int32) (H1 : Heap) (locs1 : List Loc) (ls1 : Array Slot), z1 ≤ 1 → aX1 0 = x → LIX cy z1 n1 aX1 eX1 F1 → LIM cy aM eM1 → RLN9 F1 eX1 eM1 → LW2 D s (List.range n1) aX1 eX1 (List.range 20) aM eM1 H1 locs1 → lv_has ls1 4 [(3, .int (nI (5 * j))), (2, .ref y), (1, .ref x), (0, .ref b)] → W p l e room_1 s m #[Value.ref b] below meth c H1 locs1 (137 + 2 * j + 3 * z1) (27799 + 12 * j + 24096 * z1) (lw_Z below #[Value.ref b] s) (F0 m 1164 ls1 [])) : W p l e room_1 s m #[Value.ref b] below meth c H locs (135 + 2 * j + 3 * z) (27787 + 12 * j + 24096 * z) (lw_Z below #[Value.ref b] s) (F0 m 557 ls []) := by
  obtain ⟨hx, hb, hr, hml, hown, hts, hXs, hbl, hlocks, hgv⟩ := id C0
  have ht : ∀ w ∈ TB, w.before #[Value.ref b] s = true := fun w h => hts w (TB_lw h)
  have hXW := XW_law hts
  have hbA : ¬ (AL s) b := Nat.not_le.mpr hbl
  subst hx0
  subst hy0
  have hn115 := hX0.1
  have hXo := hX0
  have hR := hRL.1
  have hLN := hRL.2
  refine lv_aload_n hx hb dL_law_557 rfl (lv_at hl 2 rfl) ?_
  refine lv_aload_n hx hb dL_law_558 rfl (lv_at hl 3 rfl) ?_
  refine lv_iload_n hx hb dL_law_559 rfl (lv_at hl 0 rfl) ?_
  refine lv_iconst (v := 1) hx hb dL_law_560 (by decide) ?_
  refine lv_iadd hx hb dL_law_561 ?_
  rw [show (1 : Int32) = nI 1 from rfl, nI_add (5 * j) 1]
  refine va_sld hx hb hXs hbl hbA hW.2.2.2.2.2 (i := nI ((5 * j) + 1)) (vp_in_nI (n := ((5 * j) + 1)) (by omega) (by omega)) dL_law_562 ?_
  rw [nI_clamp (n := ((5 * j) + 1)) (by omega)]
  obtain ⟨wc_30, lf_30, x0_30, -⟩ := get_A hX0.2.1
  refine lw_Ri (va_runV (As := [.int (xs ((5 * j) + 1))]) (rest := []) ⟨hx, hb, hml, hown, ht⟩ (c_X11_closed l D cy _ (List.range n) aX eX hX0.2.1 (xs ((5 * j) + 1)) (CPz_CP hX0.2.2.2.1)) (kw_X11_closed ht tw_640 ⟨(Nat.le_of_ble_eq_true rfl), (Nat.le_of_ble_eq_true rfl)⟩) (preV_of hW.hp hK (List.mem_range.mpr (by omega)) x0_30 rfl) rfl rfl hl.1 rfl (lv_room (Nat.le_of_ble_eq_true rfl)) dL_law_563 ⟨by show 135 + 2 * j + 3 * z + 0 ≤ 600000; omega, by show 27787 + 12 * j + 24096 * z + 0 ≤ 7302250; omega⟩) hW (fun r_30 H locs hw_30 hW9 => ?_)
  have hW := hW9
  refine lv_pop hx hb dL_law_566 rfl ?_
  refine lv_aload_n hx hb dL_law_567 rfl (lv_at hl 1 rfl) ?_
  refine lv_aload_n hx hb dL_law_568 rfl (lv_at hl 3 rfl) ?_
  refine lv_iload_n hx hb dL_law_569 rfl (lv_at hl 0 rfl) ?_
  refine lv_iconst (v := 1) hx hb dL_law_570 (by decide) ?_
  refine lv_iadd hx hb dL_law_571 ?_
  rw [show (1 : Int32) = nI 1 from rfl, nI_add (5 * j) 1]
  refine va_sld hx hb hXs hbl hbA hW.2.2.2.2.2 (i := nI ((5 * j) + 1)) (vp_in_nI (n := ((5 * j) + 1)) (by omega) (by omega)) dL_law_572 ?_
  rw [nI_clamp (n := ((5 * j) + 1)) (by omega)]
  obtain ⟨_, _, _, _, _, _, _, _, _, _, _, _, _, _, x0_31, -⟩ := getr_M hM0.1
  refine lw_Mi (va_runV (As := [.int (xs ((5 * j) + 1))]) (rest := []) ⟨hx, hb, hml, hown, ht⟩ (c_X12_closed l D cy _ (List.range 20) aM eM hM0.1 (xs ((5 * j) + 1)) hM0.2.2) (kw_X12_closed ht tw_1137 ⟨(Nat.le_of_ble_eq_true rfl), (Nat.le_of_ble_eq_true rfl)⟩) (preV_of hW.sy.hp hK (List.mem_range.mpr (by decide)) x0_31 rfl) rfl rfl hl.1 rfl (lv_room (Nat.le_of_ble_eq_true rfl)) dL_law_573 ⟨by show 135 + 2 * j + 3 * z + 0 ≤ 600000; omega, by show 27787 + 12 * j + 24096 * z + 0 ≤ 7302250; omega⟩) hW.sy (fun r_31 H locs en_31 hw_31 hW9 => ?_)
  have hW := hW9.sy
  obtain ⟨hs_31, hu_31⟩ := hw_31
  have hM_31 := LIM_k hM0 hs_31 (congrArg (fun x => rdI x 25) (hu_31 0 (by omega))) (congrArg (fun x => rdI x 30) (hu_31 0 (by omega))) (fun c hc => hu_31 c (by omega))
  have hM0 := hM_31
  refine lv_pop hx hb dL_law_576 rfl ?_
  refine lv_goto (tgt := 1164) hx hb dL_law_577 (by decide) ?_
  refine W.widen (k := 137 + 2 * j + 3 * z) (n := 27799 + 12 * j + 24096 * z) (by omega) (by omega) ?_
  exact kk z n aX eX en_31 F _ _ ls (by omega) rfl hX0 hM_31 ⟨(RLX_keep hR (XK_rf _) (MK_0 (hu_31 0 (by omega)) (fun c hc => hu_31 c (by omega)))), hLN⟩ hW (lv_sub hl [0, 1, 2, 3] rfl)
set_option maxHeartbeats 4000000 in
set_option maxRecDepth 100000 in
/-- the law at product -/
theorem op_12 {p : Program} {e : Env} {s : State} {m : MethodId} {below : List Frame} {meth : Method} {c : Code} (l : Launch) {b L : Nat} {xs : Nat → Int32} (C0 : lw_At p s m meth c b L xs) (hL : L ≤ 2560) {D : va_G} {cy : Nat → ClassId} (hK : va_K D vwCl (tyl cy) s) {x y j z n : Nat} {aX aM : Nat → Nat} {eX eM : Nat → va_E} {F : Nat → Nat → Int32} {H : Heap} {locs : List Loc} {ls : Array Slot} (hj : 5 * j + 5 ≤ L) (hz : z ≤ 1) (hx0 : aX 0 = x) (hy0 : aM 0 = y) (hX0 : LIX cy z n aX eX F) (hM0 : LIM cy aM eM) (hRL : RLN9 F eX eM) (hW : LW2 D s (List.range n) aX eX (List.range 20) aM eM H locs) (hl : lv_has ls 4 [(3, .int (nI (5 * j))), (2, .ref y), (1, .ref x), (0, .ref b)]) (kk : ∀ (z1 n1 : Nat) (aX1 : Nat → Nat) (eX1 eM1 : Nat → va_E) (F1 : Nat → Nat → Int32) (H1 : Heap) (locs1 : List Loc) (ls1 : Array Slot), z1 ≤ 1 → aX1 0 = x → LIX cy z1 n1 aX1 eX1 F1 → LIM cy aM eM1 → RLN9 F1 eX1 eM1 → LW2 D s (List.range n1) aX1 eX1 (List.range 20) aM eM1 H1 locs1 → lv_has ls1 4 [(3, .int (nI (5 * j))), (2, .ref y), (1, .ref x), (0, .ref b)] → W p l e room_1 s m #[Value.ref b] below meth c H1 locs1 (137 + 2 * j + 3 * z1) (27799 + 12 * j + 24096 * z1) (lw_Z below #[Value.ref b] s) (F0 m 1164 ls1 [])) : W p l e room_1 s m #[Value.ref b] below meth c H locs (135 + 2 * j + 3 * z) (27787 + 12 * j + 24096 * z) (lw_Z below #[Value.ref b] s) (F0 m 580 ls []) := by
  obtain ⟨hx, hb, hr, hml, hown, hts, hXs, hbl, hlocks, hgv⟩ := id C0
  have ht : ∀ w ∈ TB, w.before #[Value.ref b] s = true := fun w h => hts w (TB_lw h)
  have hXW := XW_law hts
  have hbA : ¬ (AL s) b := Nat.not_le.mpr hbl
  subst hx0
  subst hy0
  have hn115 := hX0.1
  have hXo := hX0
  have hR := hRL.1
  have hLN := hRL.2
  refine lv_aload_n hx hb dL_law_580 rfl (lv_at hl 2 rfl) ?_
  refine lv_aload_n hx hb dL_law_581 rfl (lv_at hl 3 rfl) ?_
  refine lv_iload_n hx hb dL_law_582 rfl (lv_at hl 0 rfl) ?_
  refine lv_iconst (v := 1) hx hb dL_law_583 (by decide) ?_
  refine lv_iadd hx hb dL_law_584 ?_
  rw [show (1 : Int32) = nI 1 from rfl, nI_add (5 * j) 1]
  refine va_sld hx hb hXs hbl hbA hW.2.2.2.2.2 (i := nI ((5 * j) + 1)) (vp_in_nI (n := ((5 * j) + 1)) (by omega) (by omega)) dL_law_585 ?_
  rw [nI_clamp (n := ((5 * j) + 1)) (by omega)]
  refine lv_aload_n hx hb dL_law_586 rfl (lv_at hl 3 rfl) ?_
  refine lv_iload_n hx hb dL_law_587 rfl (lv_at hl 0 rfl) ?_
  refine lv_iconst (v := 2) hx hb dL_law_588 (by decide) ?_
  refine lv_iadd hx hb dL_law_589 ?_
  rw [show (2 : Int32) = nI 2 from rfl, nI_add (5 * j) 2]
  refine va_sld hx hb hXs hbl hbA hW.2.2.2.2.2 (i := nI ((5 * j) + 2)) (vp_in_nI (n := ((5 * j) + 2)) (by omega) (by omega)) dL_law_590 ?_
  rw [nI_clamp (n := ((5 * j) + 2)) (by omega)]
  refine lv_aload_n hx hb dL_law_591 rfl (lv_at hl 3 rfl) ?_
  refine lv_iload_n hx hb dL_law_592 rfl (lv_at hl 0 rfl) ?_
  refine lv_iconst (v := 3) hx hb dL_law_593 (by decide) ?_
  refine lv_iadd hx hb dL_law_594 ?_
  rw [show (3 : Int32) = nI 3 from rfl, nI_add (5 * j) 3]
  refine va_sld hx hb hXs hbl hbA hW.2.2.2.2.2 (i := nI ((5 * j) + 3)) (vp_in_nI (n := ((5 * j) + 3)) (by omega) (by omega)) dL_law_595 ?_
  rw [nI_clamp (n := ((5 * j) + 3)) (by omega)]
  obtain ⟨wc_32, lf_32, x0_32, -⟩ := get_A hX0.2.1
  refine lw_Rl (va_runV (As := [.int (xs ((5 * j) + 1)), .int (xs ((5 * j) + 2)), .int (xs ((5 * j) + 3))]) (rest := []) ⟨hx, hb, hml, hown, ht⟩ (c_X11_product l D cy _ (List.range n) aX eX hX0.2.1 (xs ((5 * j) + 1)) (xs ((5 * j) + 2)) (xs ((5 * j) + 3)) (CPz_CP hX0.2.2.2.1)) (kw_X11_product ht tw_652 ⟨(Nat.le_of_ble_eq_true rfl), (Nat.le_of_ble_eq_true rfl)⟩) (preV_of hW.hp hK (List.mem_range.mpr (by omega)) x0_32 rfl) rfl rfl hl.1 rfl (lv_room (Nat.le_of_ble_eq_true rfl)) dL_law_596 ⟨by show 135 + 2 * j + 3 * z + 0 ≤ 600000; omega, by show 27787 + 12 * j + 24096 * z + 0 ≤ 7302250; omega⟩) hW (fun r_32 H locs hw_32 hW9 => ?_)
  have hW := hW9
  refine lv_pop2_2 hx hb dL_law_599 rfl ?_
  refine lv_aload_n hx hb dL_law_600 rfl (lv_at hl 1 rfl) ?_
  refine lv_aload_n hx hb dL_law_601 rfl (lv_at hl 3 rfl) ?_
  refine lv_iload_n hx hb dL_law_602 rfl (lv_at hl 0 rfl) ?_
  refine lv_iconst (v := 1) hx hb dL_law_603 (by decide) ?_
  refine lv_iadd hx hb dL_law_604 ?_
  rw [show (1 : Int32) = nI 1 from rfl, nI_add (5 * j) 1]
  refine va_sld hx hb hXs hbl hbA hW.2.2.2.2.2 (i := nI ((5 * j) + 1)) (vp_in_nI (n := ((5 * j) + 1)) (by omega) (by omega)) dL_law_605 ?_
  rw [nI_clamp (n := ((5 * j) + 1)) (by omega)]
  refine lv_aload_n hx hb dL_law_606 rfl (lv_at hl 3 rfl) ?_
  refine lv_iload_n hx hb dL_law_607 rfl (lv_at hl 0 rfl) ?_
  refine lv_iconst (v := 2) hx hb dL_law_608 (by decide) ?_
  refine lv_iadd hx hb dL_law_609 ?_
  rw [show (2 : Int32) = nI 2 from rfl, nI_add (5 * j) 2]
  refine va_sld hx hb hXs hbl hbA hW.2.2.2.2.2 (i := nI ((5 * j) + 2)) (vp_in_nI (n := ((5 * j) + 2)) (by omega) (by omega)) dL_law_610 ?_
  rw [nI_clamp (n := ((5 * j) + 2)) (by omega)]
  refine lv_aload_n hx hb dL_law_611 rfl (lv_at hl 3 rfl) ?_
  refine lv_iload_n hx hb dL_law_612 rfl (lv_at hl 0 rfl) ?_
  refine lv_iconst (v := 3) hx hb dL_law_613 (by decide) ?_
  refine lv_iadd hx hb dL_law_614 ?_
  rw [show (3 : Int32) = nI 3 from rfl, nI_add (5 * j) 3]
  refine va_sld hx hb hXs hbl hbA hW.2.2.2.2.2 (i := nI ((5 * j) + 3)) (vp_in_nI (n := ((5 * j) + 3)) (by omega) (by omega)) dL_law_615 ?_
  rw [nI_clamp (n := ((5 * j) + 3)) (by omega)]
  obtain ⟨_, _, _, _, _, _, _, _, _, _, _, _, _, _, x0_33, -⟩ := getr_M hM0.1
  refine lw_Rl (va_runV (As := [.int (xs ((5 * j) + 1)), .int (xs ((5 * j) + 2)), .int (xs ((5 * j) + 3))]) (rest := []) ⟨hx, hb, hml, hown, ht⟩ (c_X12_product l D cy _ (List.range 20) aM eM hM0.1 (xs ((5 * j) + 1)) (xs ((5 * j) + 2)) (xs ((5 * j) + 3)) hM0.2.2) (kw_X12_product ht tw_1154 ⟨(Nat.le_of_ble_eq_true rfl), (Nat.le_of_ble_eq_true rfl)⟩) (preV_of hW.sy.hp hK (List.mem_range.mpr (by decide)) x0_33 rfl) rfl rfl hl.1 rfl (lv_room (Nat.le_of_ble_eq_true rfl)) dL_law_616 ⟨by show 135 + 2 * j + 3 * z + 0 ≤ 600000; omega, by show 27787 + 12 * j + 24096 * z + 0 ≤ 7302250; omega⟩) hW.sy (fun r_33 H locs hw_33 hW9 => ?_)
  have hW := hW9.sy
  refine lv_pop2_2 hx hb dL_law_619 rfl ?_
  refine lv_goto (tgt := 1164) hx hb dL_law_620 (by decide) ?_
  refine W.widen (k := 137 + 2 * j + 3 * z) (n := 27799 + 12 * j + 24096 * z) (by omega) (by omega) ?_
  exact kk z n aX eX eM F _ _ ls (by omega) rfl hX0 hM0 ⟨(RLX_keep hR (XK_rf _) (MK_rf _)), hLN⟩ hW (lv_sub hl [0, 1, 2, 3] rfl)
set_option maxHeartbeats 4000000 in
set_option maxRecDepth 100000 in
/-- the law at times -/
theorem op_13 {p : Program} {e : Env} {s : State} {m : MethodId} {below : List Frame} {meth : Method} {c : Code} (l : Launch) {b L : Nat} {xs : Nat → Int32} (C0 : lw_At p s m meth c b L xs) (hL : L ≤ 2560) {D : va_G} {cy : Nat → ClassId} (hK : va_K D vwCl (tyl cy) s) {x y j z n : Nat} {aX aM : Nat → Nat} {eX eM : Nat → va_E} {F : Nat → Nat → Int32} {H : Heap} {locs : List Loc} {ls : Array Slot} (hj : 5 * j + 5 ≤ L) (hz : z ≤ 1) (hx0 : aX 0 = x) (hy0 : aM 0 = y) (hX0 : LIX cy z n aX eX F) (hM0 : LIM cy aM eM) (hRL : RLN9 F eX eM) (hW : LW2 D s (List.range n) aX eX (List.range 20) aM eM H locs) (hl : lv_has ls 4 [(3, .int (nI (5 * j))), (2, .ref y), (1, .ref x), (0, .ref b)]) (kk : ∀ (z1 n1 : Nat) (aX1 : Nat → Nat) (eX1 eM1 : Nat → va_E) (F1 : Nat → Nat → Int32) (H1 : Heap) (locs1 : List Loc) (ls1 : Array Slot), z1 ≤ 1 → aX1 0 = x → LIX cy z1 n1 aX1 eX1 F1 → LIM cy aM eM1 → RLN9 F1 eX1 eM1 → LW2 D s (List.range n1) aX1 eX1 (List.range 20) aM eM1 H1 locs1 → lv_has ls1 4 [(3, .int (nI (5 * j))), (2, .ref y), (1, .ref x), (0, .ref b)] → W p l e room_1 s m #[Value.ref b] below meth c H1 locs1 (137 + 2 * j + 3 * z1) (27799 + 12 * j + 24096 * z1) (lw_Z below #[Value.ref b] s) (F0 m 1164 ls1 [])) : W p l e room_1 s m #[Value.ref b] below meth c H locs (135 + 2 * j + 3 * z) (27787 + 12 * j + 24096 * z) (lw_Z below #[Value.ref b] s) (F0 m 623 ls []) := by
  obtain ⟨hx, hb, hr, hml, hown, hts, hXs, hbl, hlocks, hgv⟩ := id C0
  have ht : ∀ w ∈ TB, w.before #[Value.ref b] s = true := fun w h => hts w (TB_lw h)
  have hXW := XW_law hts
  have hbA : ¬ (AL s) b := Nat.not_le.mpr hbl
  subst hx0
  subst hy0
  have hn115 := hX0.1
  have hXo := hX0
  have hR := hRL.1
  have hLN := hRL.2
  refine lv_aload_n hx hb dL_law_623 rfl (lv_at hl 2 rfl) ?_
  refine lv_aload_n hx hb dL_law_624 rfl (lv_at hl 3 rfl) ?_
  refine lv_iload_n hx hb dL_law_625 rfl (lv_at hl 0 rfl) ?_
  refine lv_iconst (v := 1) hx hb dL_law_626 (by decide) ?_
  refine lv_iadd hx hb dL_law_627 ?_
  rw [show (1 : Int32) = nI 1 from rfl, nI_add (5 * j) 1]
  refine va_sld hx hb hXs hbl hbA hW.2.2.2.2.2 (i := nI ((5 * j) + 1)) (vp_in_nI (n := ((5 * j) + 1)) (by omega) (by omega)) dL_law_628 ?_
  rw [nI_clamp (n := ((5 * j) + 1)) (by omega)]
  refine lv_aload_n hx hb dL_law_629 rfl (lv_at hl 3 rfl) ?_
  refine lv_iload_n hx hb dL_law_630 rfl (lv_at hl 0 rfl) ?_
  refine lv_iconst (v := 2) hx hb dL_law_631 (by decide) ?_
  refine lv_iadd hx hb dL_law_632 ?_
  rw [show (2 : Int32) = nI 2 from rfl, nI_add (5 * j) 2]
  refine va_sld hx hb hXs hbl hbA hW.2.2.2.2.2 (i := nI ((5 * j) + 2)) (vp_in_nI (n := ((5 * j) + 2)) (by omega) (by omega)) dL_law_633 ?_
  rw [nI_clamp (n := ((5 * j) + 2)) (by omega)]
  obtain ⟨wc_34, lf_34, x0_34, -⟩ := get_A hX0.2.1
  refine lw_Mi (va_runV (As := [.int (xs ((5 * j) + 1)), .int (xs ((5 * j) + 2))]) (rest := []) ⟨hx, hb, hml, hown, ht⟩ (c_X11_times l D cy _ (List.range n) aX eX hX0.2.1 (xs ((5 * j) + 1)) (xs ((5 * j) + 2)) (CPz_CP hX0.2.2.2.1)) (kw_X11_times ht tw_665 ⟨(Nat.le_of_ble_eq_true rfl), (Nat.le_of_ble_eq_true rfl)⟩) (preV_of hW.hp hK (List.mem_range.mpr (by omega)) x0_34 rfl) rfl rfl hl.1 rfl (lv_room (Nat.le_of_ble_eq_true rfl)) dL_law_634 ⟨by show 135 + 2 * j + 3 * z + 0 ≤ 600000; omega, by show 27787 + 12 * j + 24096 * z + 0 ≤ 7302250; omega⟩) hW (fun r_34 H locs en_34 hw_34 hW9 => ?_)
  have hW := hW9
  obtain ⟨hs_34, hu_34⟩ := hw_34
  have hX_34 := LIX_k hX0 hs_34 (congrArg (fun x => rdI x 6) (hu_34 0 (by omega))) (fun c hc => hu_34 c (by omega))
  have hX0 := hX_34
  refine lv_pop hx hb dL_law_637 rfl ?_
  refine lv_aload_n hx hb dL_law_638 rfl (lv_at hl 1 rfl) ?_
  refine lv_aload_n hx hb dL_law_639 rfl (lv_at hl 3 rfl) ?_
  refine lv_iload_n hx hb dL_law_640 rfl (lv_at hl 0 rfl) ?_
  refine lv_iconst (v := 1) hx hb dL_law_641 (by decide) ?_
  refine lv_iadd hx hb dL_law_642 ?_
  rw [show (1 : Int32) = nI 1 from rfl, nI_add (5 * j) 1]
  refine va_sld hx hb hXs hbl hbA hW.2.2.2.2.2 (i := nI ((5 * j) + 1)) (vp_in_nI (n := ((5 * j) + 1)) (by omega) (by omega)) dL_law_643 ?_
  rw [nI_clamp (n := ((5 * j) + 1)) (by omega)]
  refine lv_aload_n hx hb dL_law_644 rfl (lv_at hl 3 rfl) ?_
  refine lv_iload_n hx hb dL_law_645 rfl (lv_at hl 0 rfl) ?_
  refine lv_iconst (v := 2) hx hb dL_law_646 (by decide) ?_
  refine lv_iadd hx hb dL_law_647 ?_
  rw [show (2 : Int32) = nI 2 from rfl, nI_add (5 * j) 2]
  refine va_sld hx hb hXs hbl hbA hW.2.2.2.2.2 (i := nI ((5 * j) + 2)) (vp_in_nI (n := ((5 * j) + 2)) (by omega) (by omega)) dL_law_648 ?_
  rw [nI_clamp (n := ((5 * j) + 2)) (by omega)]
  obtain ⟨_, _, _, _, _, _, _, _, _, _, _, _, _, _, x0_35, -⟩ := getr_M hM0.1
  refine lw_Mi (va_runV (As := [.int (xs ((5 * j) + 1)), .int (xs ((5 * j) + 2))]) (rest := []) ⟨hx, hb, hml, hown, ht⟩ (c_X12_times l D cy _ (List.range 20) aM eM hM0.1 (xs ((5 * j) + 1)) (xs ((5 * j) + 2)) hM0.2.2) (kw_X12_times ht tw_1162 ⟨(Nat.le_of_ble_eq_true rfl), (Nat.le_of_ble_eq_true rfl)⟩) (preV_of hW.sy.hp hK (List.mem_range.mpr (by decide)) x0_35 rfl) rfl rfl hl.1 rfl (lv_room (Nat.le_of_ble_eq_true rfl)) dL_law_649 ⟨by show 135 + 2 * j + 3 * z + 0 ≤ 600000; omega, by show 27787 + 12 * j + 24096 * z + 0 ≤ 7302250; omega⟩) hW.sy (fun r_35 H locs en_35 hw_35 hW9 => ?_)
  have hW := hW9.sy
  obtain ⟨hs_35, hu_35⟩ := hw_35
  have hM_35 := LIM_k hM0 hs_35 (congrArg (fun x => rdI x 25) (hu_35 0 (by omega))) (congrArg (fun x => rdI x 30) (hu_35 0 (by omega))) (fun c hc => hu_35 c (by omega))
  have hM0 := hM_35
  refine lv_pop hx hb dL_law_652 rfl ?_
  refine lv_goto (tgt := 1164) hx hb dL_law_653 (by decide) ?_
  refine W.widen (k := 137 + 2 * j + 3 * z) (n := 27799 + 12 * j + 24096 * z) (by omega) (by omega) ?_
  exact kk z n aX en_34 en_35 F _ _ ls (by omega) rfl hX_34 hM_35 ⟨(RLX_keep hR ⟨(congrArg (fun x => rdI x 6) (hu_34 0 (by omega))), fun c hc => hu_34 c (by omega)⟩ (MK_0 (hu_35 0 (by omega)) (fun c hc => hu_35 c (by omega)))), (LNX_f hLN (fun c h1 h2 h3 => hu_34 c (by omega)))⟩ hW (lv_sub hl [0, 1, 2, 3] rfl)
set_option maxHeartbeats 4000000 in
set_option maxRecDepth 100000 in
/-- the law at word -/
theorem op_14 {p : Program} {e : Env} {s : State} {m : MethodId} {below : List Frame} {meth : Method} {c : Code} (l : Launch) {b L : Nat} {xs : Nat → Int32} (C0 : lw_At p s m meth c b L xs) (hL : L ≤ 2560) {D : va_G} {cy : Nat → ClassId} (hK : va_K D vwCl (tyl cy) s) {x y j z n : Nat} {aX aM : Nat → Nat} {eX eM : Nat → va_E} {F : Nat → Nat → Int32} {H : Heap} {locs : List Loc} {ls : Array Slot} (hj : 5 * j + 5 ≤ L) (hz : z ≤ 1) (hx0 : aX 0 = x) (hy0 : aM 0 = y) (hX0 : LIX cy z n aX eX F) (hM0 : LIM cy aM eM) (hRL : RLN9 F eX eM) (hW : LW2 D s (List.range n) aX eX (List.range 20) aM eM H locs) (hl : lv_has ls 4 [(3, .int (nI (5 * j))), (2, .ref y), (1, .ref x), (0, .ref b)]) (kk : ∀ (z1 n1 : Nat) (aX1 : Nat → Nat) (eX1 eM1 : Nat → va_E) (F1 : Nat → Nat → Int32) (H1 : Heap) (locs1 : List Loc) (ls1 : Array Slot), z1 ≤ 1 → aX1 0 = x → LIX cy z1 n1 aX1 eX1 F1 → LIM cy aM eM1 → RLN9 F1 eX1 eM1 → LW2 D s (List.range n1) aX1 eX1 (List.range 20) aM eM1 H1 locs1 → lv_has ls1 4 [(3, .int (nI (5 * j))), (2, .ref y), (1, .ref x), (0, .ref b)] → W p l e room_1 s m #[Value.ref b] below meth c H1 locs1 (137 + 2 * j + 3 * z1) (27799 + 12 * j + 24096 * z1) (lw_Z below #[Value.ref b] s) (F0 m 1164 ls1 [])) : W p l e room_1 s m #[Value.ref b] below meth c H locs (135 + 2 * j + 3 * z) (27787 + 12 * j + 24096 * z) (lw_Z below #[Value.ref b] s) (F0 m 656 ls []) := by
  obtain ⟨hx, hb, hr, hml, hown, hts, hXs, hbl, hlocks, hgv⟩ := id C0
  have ht : ∀ w ∈ TB, w.before #[Value.ref b] s = true := fun w h => hts w (TB_lw h)
  have hXW := XW_law hts
  have hbA : ¬ (AL s) b := Nat.not_le.mpr hbl
  subst hx0
  subst hy0
  have hn115 := hX0.1
  have hXo := hX0
  have hR := hRL.1
  have hLN := hRL.2
  refine lv_aload_n hx hb dL_law_656 rfl (lv_at hl 2 rfl) ?_
  refine lv_aload_n hx hb dL_law_657 rfl (lv_at hl 3 rfl) ?_
  refine lv_iload_n hx hb dL_law_658 rfl (lv_at hl 0 rfl) ?_
  refine lv_iconst (v := 1) hx hb dL_law_659 (by decide) ?_
  refine lv_iadd hx hb dL_law_660 ?_
  rw [show (1 : Int32) = nI 1 from rfl, nI_add (5 * j) 1]
  refine va_sld hx hb hXs hbl hbA hW.2.2.2.2.2 (i := nI ((5 * j) + 1)) (vp_in_nI (n := ((5 * j) + 1)) (by omega) (by omega)) dL_law_661 ?_
  rw [nI_clamp (n := ((5 * j) + 1)) (by omega)]
  refine lv_aload_n hx hb dL_law_662 rfl (lv_at hl 3 rfl) ?_
  refine lv_iload_n hx hb dL_law_663 rfl (lv_at hl 0 rfl) ?_
  refine lv_iconst (v := 2) hx hb dL_law_664 (by decide) ?_
  refine lv_iadd hx hb dL_law_665 ?_
  rw [show (2 : Int32) = nI 2 from rfl, nI_add (5 * j) 2]
  refine va_sld hx hb hXs hbl hbA hW.2.2.2.2.2 (i := nI ((5 * j) + 2)) (vp_in_nI (n := ((5 * j) + 2)) (by omega) (by omega)) dL_law_666 ?_
  rw [nI_clamp (n := ((5 * j) + 2)) (by omega)]
  refine lv_aload_n hx hb dL_law_667 rfl (lv_at hl 3 rfl) ?_
  refine lv_iload_n hx hb dL_law_668 rfl (lv_at hl 0 rfl) ?_
  refine lv_iconst (v := 3) hx hb dL_law_669 (by decide) ?_
  refine lv_iadd hx hb dL_law_670 ?_
  rw [show (3 : Int32) = nI 3 from rfl, nI_add (5 * j) 3]
  refine va_sld hx hb hXs hbl hbA hW.2.2.2.2.2 (i := nI ((5 * j) + 3)) (vp_in_nI (n := ((5 * j) + 3)) (by omega) (by omega)) dL_law_671 ?_
  rw [nI_clamp (n := ((5 * j) + 3)) (by omega)]
  refine lv_aload_n hx hb dL_law_672 rfl (lv_at hl 3 rfl) ?_
  refine lv_iload_n hx hb dL_law_673 rfl (lv_at hl 0 rfl) ?_
  refine lv_iconst (v := 4) hx hb dL_law_674 (by decide) ?_
  refine lv_iadd hx hb dL_law_675 ?_
  rw [show (4 : Int32) = nI 4 from rfl, nI_add (5 * j) 4]
  refine va_sld hx hb hXs hbl hbA hW.2.2.2.2.2 (i := nI ((5 * j) + 4)) (vp_in_nI (n := ((5 * j) + 4)) (by omega) (by omega)) dL_law_676 ?_
  rw [nI_clamp (n := ((5 * j) + 4)) (by omega)]
  obtain ⟨wc_36, lf_36, x0_36, -⟩ := get_A hX0.2.1
  refine lw_Mi (va_runV (As := [.int (xs ((5 * j) + 1)), .int (xs ((5 * j) + 2)), .int (xs ((5 * j) + 3)), .int (xs ((5 * j) + 4))]) (rest := []) ⟨hx, hb, hml, hown, ht⟩ (c_X11_word l D cy _ (List.range n) aX eX hX0.2.1 (xs ((5 * j) + 1)) (xs ((5 * j) + 2)) (xs ((5 * j) + 3)) (xs ((5 * j) + 4)) ) (kw_X11_word ht tw_673 ⟨(Nat.le_of_ble_eq_true rfl), (Nat.le_of_ble_eq_true rfl)⟩) (preV_of hW.hp hK (List.mem_range.mpr (by omega)) x0_36 rfl) rfl rfl hl.1 rfl (lv_room (Nat.le_of_ble_eq_true rfl)) dL_law_677 ⟨by show 135 + 2 * j + 3 * z + 0 ≤ 600000; omega, by show 27787 + 12 * j + 24096 * z + 0 ≤ 7302250; omega⟩) hW (fun r_36 H locs en_36 hw_36 hW9 => ?_)
  have hW := hW9
  obtain ⟨hs_36, hu_36, hxs_36⟩ := hw_36
  have hX_36 : LIX cy z n aX en_36 F := ⟨hX0.1, hs_36, TXF_keep hX0.2.2.1 (fun c hc => hu_36 c (by omega)), CPz_keep hX0.2.2.2.1 (fun c hc => hu_36 c (by omega)), WK_WX hX0.2.2.2.2 (WK_of hxs_36)⟩
  have hX0 := hX_36
  refine lv_pop hx hb dL_law_680 rfl ?_
  refine lv_aload_n hx hb dL_law_681 rfl (lv_at hl 1 rfl) ?_
  refine lv_aload_n hx hb dL_law_682 rfl (lv_at hl 3 rfl) ?_
  refine lv_iload_n hx hb dL_law_683 rfl (lv_at hl 0 rfl) ?_
  refine lv_iconst (v := 1) hx hb dL_law_684 (by decide) ?_
  refine lv_iadd hx hb dL_law_685 ?_
  rw [show (1 : Int32) = nI 1 from rfl, nI_add (5 * j) 1]
  refine va_sld hx hb hXs hbl hbA hW.2.2.2.2.2 (i := nI ((5 * j) + 1)) (vp_in_nI (n := ((5 * j) + 1)) (by omega) (by omega)) dL_law_686 ?_
  rw [nI_clamp (n := ((5 * j) + 1)) (by omega)]
  refine lv_aload_n hx hb dL_law_687 rfl (lv_at hl 3 rfl) ?_
  refine lv_iload_n hx hb dL_law_688 rfl (lv_at hl 0 rfl) ?_
  refine lv_iconst (v := 2) hx hb dL_law_689 (by decide) ?_
  refine lv_iadd hx hb dL_law_690 ?_
  rw [show (2 : Int32) = nI 2 from rfl, nI_add (5 * j) 2]
  refine va_sld hx hb hXs hbl hbA hW.2.2.2.2.2 (i := nI ((5 * j) + 2)) (vp_in_nI (n := ((5 * j) + 2)) (by omega) (by omega)) dL_law_691 ?_
  rw [nI_clamp (n := ((5 * j) + 2)) (by omega)]
  refine lv_aload_n hx hb dL_law_692 rfl (lv_at hl 3 rfl) ?_
  refine lv_iload_n hx hb dL_law_693 rfl (lv_at hl 0 rfl) ?_
  refine lv_iconst (v := 3) hx hb dL_law_694 (by decide) ?_
  refine lv_iadd hx hb dL_law_695 ?_
  rw [show (3 : Int32) = nI 3 from rfl, nI_add (5 * j) 3]
  refine va_sld hx hb hXs hbl hbA hW.2.2.2.2.2 (i := nI ((5 * j) + 3)) (vp_in_nI (n := ((5 * j) + 3)) (by omega) (by omega)) dL_law_696 ?_
  rw [nI_clamp (n := ((5 * j) + 3)) (by omega)]
  refine lv_aload_n hx hb dL_law_697 rfl (lv_at hl 3 rfl) ?_
  refine lv_iload_n hx hb dL_law_698 rfl (lv_at hl 0 rfl) ?_
  refine lv_iconst (v := 4) hx hb dL_law_699 (by decide) ?_
  refine lv_iadd hx hb dL_law_700 ?_
  rw [show (4 : Int32) = nI 4 from rfl, nI_add (5 * j) 4]
  refine va_sld hx hb hXs hbl hbA hW.2.2.2.2.2 (i := nI ((5 * j) + 4)) (vp_in_nI (n := ((5 * j) + 4)) (by omega) (by omega)) dL_law_701 ?_
  rw [nI_clamp (n := ((5 * j) + 4)) (by omega)]
  obtain ⟨_, _, _, _, _, _, _, _, _, _, _, _, _, _, x0_37, -⟩ := getr_M hM0.1
  refine lw_Mi (va_runV (As := [.int (xs ((5 * j) + 1)), .int (xs ((5 * j) + 2)), .int (xs ((5 * j) + 3)), .int (xs ((5 * j) + 4))]) (rest := []) ⟨hx, hb, hml, hown, ht⟩ (c_X12_word l D cy _ (List.range 20) aM eM hM0.1 (xs ((5 * j) + 1)) (xs ((5 * j) + 2)) (xs ((5 * j) + 3)) (xs ((5 * j) + 4)) hM0.2.1) (kw_X12_word ht tw_1166 ⟨(Nat.le_of_ble_eq_true rfl), (Nat.le_of_ble_eq_true rfl)⟩) (preV_of hW.sy.hp hK (List.mem_range.mpr (by decide)) x0_37 rfl) rfl rfl hl.1 rfl (lv_room (Nat.le_of_ble_eq_true rfl)) dL_law_702 ⟨by show 135 + 2 * j + 3 * z + 0 ≤ 600000; omega, by show 27787 + 12 * j + 24096 * z + 0 ≤ 7302250; omega⟩) hW.sy (fun r_37 H locs en_37 hw_37 hW9 => ?_)
  have hW := hW9.sy
  obtain ⟨hs_37, hu_37, hrw_37, hkp_37, hms_37⟩ := hw_37
  have hM_37 : LIM cy aM en_37 := ⟨hs_37, hrw_37, CHX_keep hM0.2.2 hkp_37.2.2.2.2 (hu_37 16 (by omega)) (hu_37 17 (by omega))⟩
  have hM0 := hM_37
  refine lv_pop hx hb dL_law_705 rfl ?_
  refine lv_goto (tgt := 1164) hx hb dL_law_706 (by decide) ?_
  refine W.widen (k := 137 + 2 * j + 3 * z) (n := 27799 + 12 * j + 24096 * z) (by omega) (by omega) ?_
  exact kk z n aX en_36 en_37 F _ _ ls (by omega) rfl hX_36 hM_37 ⟨(RLX_w hR (WR_word hXo.2.1 hR.1 hR.2.1 hR.2.2.2.2.1 hxs_36 hms_37) (RWP_word hXo.2.1 hR.2.2.2.2.2.2 hxs_36) (fun c hc => hu_36 c (by omega)) hkp_37 (fun c hc => hu_37 c (by omega))), (LNX_f hLN (fun c h1 h2 h3 => hu_36 c (by omega)))⟩ hW (lv_sub hl [0, 1, 2, 3] rfl)
