set_option maxHeartbeats 4000000 in
set_option maxRecDepth 100000 in
/-- the law at begin -/
theorem op_0 {p : Program} {e : Env} {s : State} {m : MethodId} {below : List Frame} {meth : Method} {c : Code} (l : Launch) {b : Nat} {xs : Nat → Int32} (C0 : lw_At p s m meth c b 5 xs) {D : va_G} {cy : Nat → ClassId} {adX adM : Nat → Nat} {enX enM : Nat → va_E} {H : Heap} {locs : List Loc} {ls : Array Slot} (hK : va_K D vwCl (tyl cy) s) (hFX : FX cy adX enX) (hFM : FMo cy adM enM) (hPX : va_P D vwCl (wl (List.range 115) adX enX) H) (hDX : va_D (AL s) (wl (List.range 115) adX enX)) (hPM : va_P D vwCl (wl (List.range 20) adM enM) H) (hDM : va_D (AL s) (wl (List.range 20) adM enM)) (hdis : ∀ i j, i < 115 → j < 20 → adX i ≠ adM j) (hS : va_S (AL s) s.heap H locs) (hl : lv_has ls 4 [(3, .int 0), (2, .ref (adM 0)), (1, .ref (adX 0)), (0, .ref b)]) : W p l e room_1 s m #[Value.ref b] below meth c H locs 135 27787 (lw_Z below #[Value.ref b] s) (F0 m 168 ls []) := by
  obtain ⟨hx, hb, hr, hml, hown, hts, hX, hbl, hlocks, hgv⟩ := id C0
  have ht : ∀ w ∈ TB, w.before #[Value.ref b] s = true := fun w h => hts w (TB_lw h)
  have hbA : ¬ (AL s) b := Nat.not_le.mpr hbl
  have hAL : ∀ q : Nat, s.heap.size ≤ q → AL s q := fun _ h => h
  obtain ⟨x0, x1, ⟨f10, x10⟩, x12, x13, x14, x16, xv, x70, x75, xs_, xc, x76⟩ := hFX
  obtain ⟨y0, y2, ⟨g3, y3, hg3⟩, y4, y5, y6, y7⟩ := hFM
  refine lv_aload_n hx hb dL_law_168 rfl (lv_at hl 2 rfl) ?_
  refine lv_aload_n hx hb dL_law_169 rfl (lv_at hl 3 rfl) ?_
  refine lv_iload_n hx hb dL_law_170 rfl (lv_at hl 0 rfl) ?_
  refine lv_iconst (v := 1) hx hb dL_law_171 (by decide) ?_
  refine lv_iadd hx hb dL_law_172 ?_
  rw [show (0 : Int32) + 1 = 1 by decide]
  refine va_sld hx hb hX hbl hbA hS (i := 1) (vp_in_iff.mpr (by decide)) dL_law_173 ?_
  refine lv_aload_n hx hb dL_law_174 rfl (lv_at hl 3 rfl) ?_
  refine lv_iload_n hx hb dL_law_175 rfl (lv_at hl 0 rfl) ?_
  refine lv_iconst (v := 2) hx hb dL_law_176 (by decide) ?_
  refine lv_iadd hx hb dL_law_177 ?_
  rw [show (0 : Int32) + 2 = 2 by decide]
  refine va_sld hx hb hX hbl hbA hS (i := 2) (vp_in_iff.mpr (by decide)) dL_law_178 ?_
  refine va_calli (va_runV (As := [.int (xs (1 : Int32).toNatClampNeg), .int (xs (2 : Int32).toNatClampNeg)]) (rest := []) ⟨hx, hb, hml, hown, ht⟩ (c_X11_begin l D cy _ (List.range 115) adX enX (fun c h => List.mem_range.mpr h) 0 f10 (xs (1 : Int32).toNatClampNeg) (xs (2 : Int32).toNatClampNeg) x0 x1 x10 x12 x13 x70 xv) (kw_X11_begin ht tw_270 ⟨Nat.le_of_ble_eq_true rfl, Nat.le_of_ble_eq_true rfl⟩) (preV_of (⟨hPX, hDX, hS⟩ : Hp D (AL s) (AL s) s.heap _ _ (List.range 115) adX enX) hK (List.mem_range.mpr (by decide)) x0 rfl) rfl rfl hl.1 rfl (lv_room (Nat.le_of_ble_eq_true rfl)) dL_law_179 ⟨Nat.le_of_ble_eq_true rfl, Nat.le_of_ble_eq_true rfl⟩) hS (fun q _ h => Af_in (⟨hPX, hDX, hS⟩ : Hp D (AL s) (AL s) s.heap _ _ (List.range 115) adX enX) hAL q h) (Af_in (⟨hPX, hDX, hS⟩ : Hp D (AL s) (AL s) s.heap _ _ (List.range 115) adX enX) hAL) (fun r_267 u_267 t_267 H locs ht_267 hvm_267 hw_267 hB_267 hz_267 hk_267 hS => ?_)
  obtain rfl : r_267 = spBegin (xs (1 : Int32).toNatClampNeg) (xs (2 : Int32).toNatClampNeg) := hw_267
  have hPM := wl_kept hPM (fun i hi j hj => hdis i j (List.mem_range.mp hi) (List.mem_range.mp hj)) hk_267
  refine lv_aload_n hx hb dL_law_182 rfl (lv_at hl 1 rfl) ?_
  refine lv_aload_n hx hb dL_law_183 rfl (lv_at hl 3 rfl) ?_
  refine lv_iload_n hx hb dL_law_184 rfl (lv_at hl 0 rfl) ?_
  refine lv_iconst (v := 1) hx hb dL_law_185 (by decide) ?_
  refine lv_iadd hx hb dL_law_186 ?_
  rw [show (0 : Int32) + 1 = 1 by decide]
  refine va_sld hx hb hX hbl hbA hS (i := 1) (vp_in_iff.mpr (by decide)) dL_law_187 ?_
  refine lv_aload_n hx hb dL_law_188 rfl (lv_at hl 3 rfl) ?_
  refine lv_iload_n hx hb dL_law_189 rfl (lv_at hl 0 rfl) ?_
  refine lv_iconst (v := 2) hx hb dL_law_190 (by decide) ?_
  refine lv_iadd hx hb dL_law_191 ?_
  rw [show (0 : Int32) + 2 = 2 by decide]
  refine va_sld hx hb hX hbl hbA hS (i := 2) (vp_in_iff.mpr (by decide)) dL_law_192 ?_
  refine va_calli (va_runV (As := [.int (xs (1 : Int32).toNatClampNeg), .int (xs (2 : Int32).toNatClampNeg)]) (rest := [.int (spBegin (xs (1 : Int32).toNatClampNeg) (xs (2 : Int32).toNatClampNeg))]) ⟨hx, hb, hml, hown, ht⟩ (c_X12_begin l D cy _ (List.range 20) adM enM (fun c h => List.mem_range.mpr h) (fun _ => 0) (xs (1 : Int32).toNatClampNeg) (xs (2 : Int32).toNatClampNeg) y0 y2) (kw_X12_begin ht tw_979 ⟨Nat.le_of_ble_eq_true rfl, Nat.le_of_ble_eq_true rfl⟩) (preV_of (⟨hPM, hDM, hS⟩ : Hp D (AL s) (AL s) s.heap _ _ (List.range 20) adM enM) hK (List.mem_range.mpr (by decide)) y0 rfl) rfl rfl hl.1 rfl (lv_room (Nat.le_of_ble_eq_true rfl)) dL_law_193 ⟨Nat.le_of_ble_eq_true rfl, Nat.le_of_ble_eq_true rfl⟩) hS (fun q _ h => Af_in (⟨hPM, hDM, hS⟩ : Hp D (AL s) (AL s) s.heap _ _ (List.range 20) adM enM) hAL q h) (Af_in (⟨hPM, hDM, hS⟩ : Hp D (AL s) (AL s) s.heap _ _ (List.range 20) adM enM) hAL) (fun r_268 u_268 t_268 H locs ht_268 hvm_268 hw_268 hB_268 hz_268 hk_268 hS => ?_)
  obtain rfl : r_268 = spBegin (xs (1 : Int32).toNatClampNeg) (xs (2 : Int32).toNatClampNeg) := hw_268
  refine lv_icmp_eq (tgt := 1171) hx hb dL_law_196 (by decide) (fun _ => ?_) (fun c_0 => absurd (rfl) c_0)
  exact law_end C0 hS (lv_sub hl [0, 1, 2, 3] rfl)
set_option maxHeartbeats 4000000 in
set_option maxRecDepth 100000 in
/-- the law at table -/
theorem op_1 {p : Program} {e : Env} {s : State} {m : MethodId} {below : List Frame} {meth : Method} {c : Code} (l : Launch) {b : Nat} {xs : Nat → Int32} (C0 : lw_At p s m meth c b 5 xs) {D : va_G} {cy : Nat → ClassId} {adX adM : Nat → Nat} {enX enM : Nat → va_E} {H : Heap} {locs : List Loc} {ls : Array Slot} (hK : va_K D vwCl (tyl cy) s) (hFX : FX cy adX enX) (hFM : FMo cy adM enM) (hPX : va_P D vwCl (wl (List.range 115) adX enX) H) (hDX : va_D (AL s) (wl (List.range 115) adX enX)) (hPM : va_P D vwCl (wl (List.range 20) adM enM) H) (hDM : va_D (AL s) (wl (List.range 20) adM enM)) (hdis : ∀ i j, i < 115 → j < 20 → adX i ≠ adM j) (hS : va_S (AL s) s.heap H locs) (hl : lv_has ls 4 [(3, .int 0), (2, .ref (adM 0)), (1, .ref (adX 0)), (0, .ref b)]) : W p l e room_1 s m #[Value.ref b] below meth c H locs 135 27787 (lw_Z below #[Value.ref b] s) (F0 m 201 ls []) := by
  obtain ⟨hx, hb, hr, hml, hown, hts, hX, hbl, hlocks, hgv⟩ := id C0
  have ht : ∀ w ∈ TB, w.before #[Value.ref b] s = true := fun w h => hts w (TB_lw h)
  have hbA : ¬ (AL s) b := Nat.not_le.mpr hbl
  have hAL : ∀ q : Nat, s.heap.size ≤ q → AL s q := fun _ h => h
  obtain ⟨x0, x1, ⟨f10, x10⟩, x12, x13, x14, x16, xv, x70, x75, xs_, xc, x76⟩ := hFX
  obtain ⟨y0, y2, ⟨g3, y3, hg3⟩, y4, y5, y6, y7⟩ := hFM
  refine lv_aload_n hx hb dL_law_201 rfl (lv_at hl 2 rfl) ?_
  refine lv_aload_n hx hb dL_law_202 rfl (lv_at hl 3 rfl) ?_
  refine lv_iload_n hx hb dL_law_203 rfl (lv_at hl 0 rfl) ?_
  refine lv_iconst (v := 1) hx hb dL_law_204 (by decide) ?_
  refine lv_iadd hx hb dL_law_205 ?_
  rw [show (0 : Int32) + 1 = 1 by decide]
  refine va_sld hx hb hX hbl hbA hS (i := 1) (vp_in_iff.mpr (by decide)) dL_law_206 ?_
  refine lv_aload_n hx hb dL_law_207 rfl (lv_at hl 3 rfl) ?_
  refine lv_iload_n hx hb dL_law_208 rfl (lv_at hl 0 rfl) ?_
  refine lv_iconst (v := 2) hx hb dL_law_209 (by decide) ?_
  refine lv_iadd hx hb dL_law_210 ?_
  rw [show (0 : Int32) + 2 = 2 by decide]
  refine va_sld hx hb hX hbl hbA hS (i := 2) (vp_in_iff.mpr (by decide)) dL_law_211 ?_
  refine lv_aload_n hx hb dL_law_212 rfl (lv_at hl 3 rfl) ?_
  refine lv_iload_n hx hb dL_law_213 rfl (lv_at hl 0 rfl) ?_
  refine lv_iconst (v := 3) hx hb dL_law_214 (by decide) ?_
  refine lv_iadd hx hb dL_law_215 ?_
  rw [show (0 : Int32) + 3 = 3 by decide]
  refine va_sld hx hb hX hbl hbA hS (i := 3) (vp_in_iff.mpr (by decide)) dL_law_216 ?_
  refine va_calli (va_runV (As := [.int (xs (1 : Int32).toNatClampNeg), .int (xs (2 : Int32).toNatClampNeg), .int (xs (3 : Int32).toNatClampNeg)]) (rest := []) ⟨hx, hb, hml, hown, ht⟩ (c_X11_table l D cy _ (List.range 115) adX enX (fun c h => List.mem_range.mpr h) 0 (xs (1 : Int32).toNatClampNeg) (xs (2 : Int32).toNatClampNeg) (xs (3 : Int32).toNatClampNeg) x0 x1 x75 xs_) (kw_X11_table ht tw_289 ⟨Nat.le_of_ble_eq_true rfl, Nat.le_of_ble_eq_true rfl⟩) (preV_of (⟨hPX, hDX, hS⟩ : Hp D (AL s) (AL s) s.heap _ _ (List.range 115) adX enX) hK (List.mem_range.mpr (by decide)) x0 rfl) rfl rfl hl.1 rfl (lv_room (Nat.le_of_ble_eq_true rfl)) dL_law_217 ⟨Nat.le_of_ble_eq_true rfl, Nat.le_of_ble_eq_true rfl⟩) hS (fun q _ h => Af_in (⟨hPX, hDX, hS⟩ : Hp D (AL s) (AL s) s.heap _ _ (List.range 115) adX enX) hAL q h) (Af_in (⟨hPX, hDX, hS⟩ : Hp D (AL s) (AL s) s.heap _ _ (List.range 115) adX enX) hAL) (fun r_269 u_269 t_269 H locs ht_269 hvm_269 hw_269 hB_269 hz_269 hk_269 hS => ?_)
  obtain rfl : r_269 = sp3 (xs (1 : Int32).toNatClampNeg) (xs (2 : Int32).toNatClampNeg) := hw_269
  have hPM := wl_kept hPM (fun i hi j hj => hdis i j (List.mem_range.mp hi) (List.mem_range.mp hj)) hk_269
  refine lv_aload_n hx hb dL_law_220 rfl (lv_at hl 1 rfl) ?_
  refine lv_aload_n hx hb dL_law_221 rfl (lv_at hl 3 rfl) ?_
  refine lv_iload_n hx hb dL_law_222 rfl (lv_at hl 0 rfl) ?_
  refine lv_iconst (v := 1) hx hb dL_law_223 (by decide) ?_
  refine lv_iadd hx hb dL_law_224 ?_
  rw [show (0 : Int32) + 1 = 1 by decide]
  refine va_sld hx hb hX hbl hbA hS (i := 1) (vp_in_iff.mpr (by decide)) dL_law_225 ?_
  refine lv_aload_n hx hb dL_law_226 rfl (lv_at hl 3 rfl) ?_
  refine lv_iload_n hx hb dL_law_227 rfl (lv_at hl 0 rfl) ?_
  refine lv_iconst (v := 2) hx hb dL_law_228 (by decide) ?_
  refine lv_iadd hx hb dL_law_229 ?_
  rw [show (0 : Int32) + 2 = 2 by decide]
  refine va_sld hx hb hX hbl hbA hS (i := 2) (vp_in_iff.mpr (by decide)) dL_law_230 ?_
  refine lv_aload_n hx hb dL_law_231 rfl (lv_at hl 3 rfl) ?_
  refine lv_iload_n hx hb dL_law_232 rfl (lv_at hl 0 rfl) ?_
  refine lv_iconst (v := 3) hx hb dL_law_233 (by decide) ?_
  refine lv_iadd hx hb dL_law_234 ?_
  rw [show (0 : Int32) + 3 = 3 by decide]
  refine va_sld hx hb hX hbl hbA hS (i := 3) (vp_in_iff.mpr (by decide)) dL_law_235 ?_
  refine va_calli (va_runV (As := [.int (xs (1 : Int32).toNatClampNeg), .int (xs (2 : Int32).toNatClampNeg), .int (xs (3 : Int32).toNatClampNeg)]) (rest := [.int (sp3 (xs (1 : Int32).toNatClampNeg) (xs (2 : Int32).toNatClampNeg))]) ⟨hx, hb, hml, hown, ht⟩ (c_X12_table l D cy _ (List.range 20) adM enM (fun c h => List.mem_range.mpr h) g3 hg3 (xs (1 : Int32).toNatClampNeg) (xs (2 : Int32).toNatClampNeg) (xs (3 : Int32).toNatClampNeg) y0 y3) (kw_X12_table ht tw_989 ⟨Nat.le_of_ble_eq_true rfl, Nat.le_of_ble_eq_true rfl⟩) (preV_of (⟨hPM, hDM, hS⟩ : Hp D (AL s) (AL s) s.heap _ _ (List.range 20) adM enM) hK (List.mem_range.mpr (by decide)) y0 rfl) rfl rfl hl.1 rfl (lv_room (Nat.le_of_ble_eq_true rfl)) dL_law_236 ⟨Nat.le_of_ble_eq_true rfl, Nat.le_of_ble_eq_true rfl⟩) hS (fun q _ h => Af_in (⟨hPM, hDM, hS⟩ : Hp D (AL s) (AL s) s.heap _ _ (List.range 20) adM enM) hAL q h) (Af_in (⟨hPM, hDM, hS⟩ : Hp D (AL s) (AL s) s.heap _ _ (List.range 20) adM enM) hAL) (fun r_270 u_270 t_270 H locs ht_270 hvm_270 hw_270 hB_270 hz_270 hk_270 hS => ?_)
  obtain rfl : r_270 = sp3 (xs (1 : Int32).toNatClampNeg) (xs (2 : Int32).toNatClampNeg) := hw_270
  refine lv_icmp_eq (tgt := 1171) hx hb dL_law_239 (by decide) (fun _ => ?_) (fun c_0 => absurd (rfl) c_0)
  exact law_end C0 hS (lv_sub hl [0, 1, 2, 3] rfl)
set_option maxHeartbeats 4000000 in
set_option maxRecDepth 100000 in
/-- the law at entry -/
theorem op_2 {p : Program} {e : Env} {s : State} {m : MethodId} {below : List Frame} {meth : Method} {c : Code} (l : Launch) {b : Nat} {xs : Nat → Int32} (C0 : lw_At p s m meth c b 5 xs) {D : va_G} {cy : Nat → ClassId} {adX adM : Nat → Nat} {enX enM : Nat → va_E} {H : Heap} {locs : List Loc} {ls : Array Slot} (hK : va_K D vwCl (tyl cy) s) (hFX : FX cy adX enX) (hFM : FMo cy adM enM) (hPX : va_P D vwCl (wl (List.range 115) adX enX) H) (hDX : va_D (AL s) (wl (List.range 115) adX enX)) (hPM : va_P D vwCl (wl (List.range 20) adM enM) H) (hDM : va_D (AL s) (wl (List.range 20) adM enM)) (hdis : ∀ i j, i < 115 → j < 20 → adX i ≠ adM j) (hS : va_S (AL s) s.heap H locs) (hl : lv_has ls 4 [(3, .int 0), (2, .ref (adM 0)), (1, .ref (adX 0)), (0, .ref b)]) : W p l e room_1 s m #[Value.ref b] below meth c H locs 135 27787 (lw_Z below #[Value.ref b] s) (F0 m 244 ls []) := by
  obtain ⟨hx, hb, hr, hml, hown, hts, hX, hbl, hlocks, hgv⟩ := id C0
  have ht : ∀ w ∈ TB, w.before #[Value.ref b] s = true := fun w h => hts w (TB_lw h)
  have hbA : ¬ (AL s) b := Nat.not_le.mpr hbl
  have hAL : ∀ q : Nat, s.heap.size ≤ q → AL s q := fun _ h => h
  obtain ⟨x0, x1, ⟨f10, x10⟩, x12, x13, x14, x16, xv, x70, x75, xs_, xc, x76⟩ := hFX
  obtain ⟨y0, y2, ⟨g3, y3, hg3⟩, y4, y5, y6, y7⟩ := hFM
  refine lv_aload_n hx hb dL_law_244 rfl (lv_at hl 2 rfl) ?_
  refine lv_aload_n hx hb dL_law_245 rfl (lv_at hl 3 rfl) ?_
  refine lv_iload_n hx hb dL_law_246 rfl (lv_at hl 0 rfl) ?_
  refine lv_iconst (v := 1) hx hb dL_law_247 (by decide) ?_
  refine lv_iadd hx hb dL_law_248 ?_
  rw [show (0 : Int32) + 1 = 1 by decide]
  refine va_sld hx hb hX hbl hbA hS (i := 1) (vp_in_iff.mpr (by decide)) dL_law_249 ?_
  refine lv_aload_n hx hb dL_law_250 rfl (lv_at hl 3 rfl) ?_
  refine lv_iload_n hx hb dL_law_251 rfl (lv_at hl 0 rfl) ?_
  refine lv_iconst (v := 2) hx hb dL_law_252 (by decide) ?_
  refine lv_iadd hx hb dL_law_253 ?_
  rw [show (0 : Int32) + 2 = 2 by decide]
  refine va_sld hx hb hX hbl hbA hS (i := 2) (vp_in_iff.mpr (by decide)) dL_law_254 ?_
  refine lv_aload_n hx hb dL_law_255 rfl (lv_at hl 3 rfl) ?_
  refine lv_iload_n hx hb dL_law_256 rfl (lv_at hl 0 rfl) ?_
  refine lv_iconst (v := 3) hx hb dL_law_257 (by decide) ?_
  refine lv_iadd hx hb dL_law_258 ?_
  rw [show (0 : Int32) + 3 = 3 by decide]
  refine va_sld hx hb hX hbl hbA hS (i := 3) (vp_in_iff.mpr (by decide)) dL_law_259 ?_
  refine va_calll (va_runV (As := [.int (xs (1 : Int32).toNatClampNeg), .int (xs (2 : Int32).toNatClampNeg), .int (xs (3 : Int32).toNatClampNeg)]) (rest := []) ⟨hx, hb, hml, hown, ht⟩ (c_X11_entry l D cy _ (List.range 115) adX enX (fun c h => List.mem_range.mpr h) 0 (xs (1 : Int32).toNatClampNeg) (xs (2 : Int32).toNatClampNeg) (xs (3 : Int32).toNatClampNeg) x0 x1) (kw_X11_entry ht tw_408 ⟨Nat.le_of_ble_eq_true rfl, Nat.le_of_ble_eq_true rfl⟩) (preV_of (⟨hPX, hDX, hS⟩ : Hp D (AL s) (AL s) s.heap _ _ (List.range 115) adX enX) hK (List.mem_range.mpr (by decide)) x0 rfl) rfl rfl hl.1 rfl (lv_room (Nat.le_of_ble_eq_true rfl)) dL_law_260 ⟨Nat.le_of_ble_eq_true rfl, Nat.le_of_ble_eq_true rfl⟩) hS (fun q h1 h2 => absurd h2 (Nat.not_le.mpr h1)) (fun q h => Nat.le_trans hS.1 h) (fun r_271 u_271 t_271 H locs ht_271 hvm_271 hw_271 hB_271 hz_271 hk_271 hS => ?_)
  obtain rfl : r_271 = (-9223372036854775808) := hw_271
  have hPM := wl_keptN hPM hk_271
  refine lv_aload_n hx hb dL_law_263 rfl (lv_at hl 1 rfl) ?_
  refine lv_aload_n hx hb dL_law_264 rfl (lv_at hl 3 rfl) ?_
  refine lv_iload_n hx hb dL_law_265 rfl (lv_at hl 0 rfl) ?_
  refine lv_iconst (v := 1) hx hb dL_law_266 (by decide) ?_
  refine lv_iadd hx hb dL_law_267 ?_
  rw [show (0 : Int32) + 1 = 1 by decide]
  refine va_sld hx hb hX hbl hbA hS (i := 1) (vp_in_iff.mpr (by decide)) dL_law_268 ?_
  refine lv_aload_n hx hb dL_law_269 rfl (lv_at hl 3 rfl) ?_
  refine lv_iload_n hx hb dL_law_270 rfl (lv_at hl 0 rfl) ?_
  refine lv_iconst (v := 2) hx hb dL_law_271 (by decide) ?_
  refine lv_iadd hx hb dL_law_272 ?_
  rw [show (0 : Int32) + 2 = 2 by decide]
  refine va_sld hx hb hX hbl hbA hS (i := 2) (vp_in_iff.mpr (by decide)) dL_law_273 ?_
  refine lv_aload_n hx hb dL_law_274 rfl (lv_at hl 3 rfl) ?_
  refine lv_iload_n hx hb dL_law_275 rfl (lv_at hl 0 rfl) ?_
  refine lv_iconst (v := 3) hx hb dL_law_276 (by decide) ?_
  refine lv_iadd hx hb dL_law_277 ?_
  rw [show (0 : Int32) + 3 = 3 by decide]
  refine va_sld hx hb hX hbl hbA hS (i := 3) (vp_in_iff.mpr (by decide)) dL_law_278 ?_
  refine va_calll (va_runV (As := [.int (xs (1 : Int32).toNatClampNeg), .int (xs (2 : Int32).toNatClampNeg), .int (xs (3 : Int32).toNatClampNeg)]) (rest := [.long ((-9223372036854775808))]) ⟨hx, hb, hml, hown, ht⟩ (c_X12_entry l D cy _ (List.range 20) adM enM (fun c h => List.mem_range.mpr h) (xs (1 : Int32).toNatClampNeg) (xs (2 : Int32).toNatClampNeg) (xs (3 : Int32).toNatClampNeg) y0) (kw_X12_entry ht tw_1003 ⟨Nat.le_of_ble_eq_true rfl, Nat.le_of_ble_eq_true rfl⟩) (preV_of (⟨hPM, hDM, hS⟩ : Hp D (AL s) (AL s) s.heap _ _ (List.range 20) adM enM) hK (List.mem_range.mpr (by decide)) y0 rfl) rfl rfl hl.1 rfl (lv_room (Nat.le_of_ble_eq_true rfl)) dL_law_279 ⟨Nat.le_of_ble_eq_true rfl, Nat.le_of_ble_eq_true rfl⟩) hS (fun q _ h => Af_in (⟨hPM, hDM, hS⟩ : Hp D (AL s) (AL s) s.heap _ _ (List.range 20) adM enM) hAL q h) (Af_in (⟨hPM, hDM, hS⟩ : Hp D (AL s) (AL s) s.heap _ _ (List.range 20) adM enM) hAL) (fun r_272 u_272 t_272 H locs ht_272 hvm_272 hw_272 hB_272 hz_272 hk_272 hS => ?_)
  obtain rfl : r_272 = (-9223372036854775808) := hw_272
  refine W.lcmp hx hb dL_law_282 ?_
  refine lv_if_eq (tgt := 1171) hx hb dL_law_283 (by decide) (fun _ => ?_) (fun c_0 => absurd ((lg_cmp_eq _ _).mpr rfl) c_0)
  exact law_end C0 hS (lv_sub hl [0, 1, 2, 3] rfl)
set_option maxHeartbeats 4000000 in
set_option maxRecDepth 100000 in
/-- the law at may -/
theorem op_3 {p : Program} {e : Env} {s : State} {m : MethodId} {below : List Frame} {meth : Method} {c : Code} (l : Launch) {b : Nat} {xs : Nat → Int32} (C0 : lw_At p s m meth c b 5 xs) {D : va_G} {cy : Nat → ClassId} {adX adM : Nat → Nat} {enX enM : Nat → va_E} {H : Heap} {locs : List Loc} {ls : Array Slot} (hK : va_K D vwCl (tyl cy) s) (hFX : FX cy adX enX) (hFM : FMo cy adM enM) (hPX : va_P D vwCl (wl (List.range 115) adX enX) H) (hDX : va_D (AL s) (wl (List.range 115) adX enX)) (hPM : va_P D vwCl (wl (List.range 20) adM enM) H) (hDM : va_D (AL s) (wl (List.range 20) adM enM)) (hdis : ∀ i j, i < 115 → j < 20 → adX i ≠ adM j) (hS : va_S (AL s) s.heap H locs) (hl : lv_has ls 4 [(3, .int 0), (2, .ref (adM 0)), (1, .ref (adX 0)), (0, .ref b)]) : W p l e room_1 s m #[Value.ref b] below meth c H locs 135 27787 (lw_Z below #[Value.ref b] s) (F0 m 288 ls []) := by
  obtain ⟨hx, hb, hr, hml, hown, hts, hX, hbl, hlocks, hgv⟩ := id C0
  have ht : ∀ w ∈ TB, w.before #[Value.ref b] s = true := fun w h => hts w (TB_lw h)
  have hbA : ¬ (AL s) b := Nat.not_le.mpr hbl
  have hAL : ∀ q : Nat, s.heap.size ≤ q → AL s q := fun _ h => h
  obtain ⟨x0, x1, ⟨f10, x10⟩, x12, x13, x14, x16, xv, x70, x75, xs_, xc, x76⟩ := hFX
  obtain ⟨y0, y2, ⟨g3, y3, hg3⟩, y4, y5, y6, y7⟩ := hFM
  refine lv_aload_n hx hb dL_law_288 rfl (lv_at hl 2 rfl) ?_
  refine lv_aload_n hx hb dL_law_289 rfl (lv_at hl 3 rfl) ?_
  refine lv_iload_n hx hb dL_law_290 rfl (lv_at hl 0 rfl) ?_
  refine lv_iconst (v := 1) hx hb dL_law_291 (by decide) ?_
  refine lv_iadd hx hb dL_law_292 ?_
  rw [show (0 : Int32) + 1 = 1 by decide]
  refine va_sld hx hb hX hbl hbA hS (i := 1) (vp_in_iff.mpr (by decide)) dL_law_293 ?_
  refine lv_aload_n hx hb dL_law_294 rfl (lv_at hl 3 rfl) ?_
  refine lv_iload_n hx hb dL_law_295 rfl (lv_at hl 0 rfl) ?_
  refine lv_iconst (v := 2) hx hb dL_law_296 (by decide) ?_
  refine lv_iadd hx hb dL_law_297 ?_
  rw [show (0 : Int32) + 2 = 2 by decide]
  refine va_sld hx hb hX hbl hbA hS (i := 2) (vp_in_iff.mpr (by decide)) dL_law_298 ?_
  refine lv_aload_n hx hb dL_law_299 rfl (lv_at hl 3 rfl) ?_
  refine lv_iload_n hx hb dL_law_300 rfl (lv_at hl 0 rfl) ?_
  refine lv_iconst (v := 3) hx hb dL_law_301 (by decide) ?_
  refine lv_iadd hx hb dL_law_302 ?_
  rw [show (0 : Int32) + 3 = 3 by decide]
  refine va_sld hx hb hX hbl hbA hS (i := 3) (vp_in_iff.mpr (by decide)) dL_law_303 ?_
  refine lv_if_eq (tgt := 311) hx hb dL_law_304 (by decide) (fun c_273 => ?_) (fun c_273 => ?_)
  · refine lv_iconst (v := 0) hx hb dL_law_311 (by decide) ?_
    refine va_calli (va_runV (As := [.int (xs (1 : Int32).toNatClampNeg), .int (xs (2 : Int32).toNatClampNeg), .int 0]) (rest := []) ⟨hx, hb, hml, hown, ht⟩ (c_X11_may l D cy _ (List.range 115) adX enX (fun c h => List.mem_range.mpr h) 0 (xs (1 : Int32).toNatClampNeg) (xs (2 : Int32).toNatClampNeg) 0 x0 x1) (kw_X11_may ht tw_429 ⟨Nat.le_of_ble_eq_true rfl, Nat.le_of_ble_eq_true rfl⟩) (preV_of (⟨hPX, hDX, hS⟩ : Hp D (AL s) (AL s) s.heap _ _ (List.range 115) adX enX) hK (List.mem_range.mpr (by decide)) x0 rfl) rfl rfl hl.1 rfl (lv_room (Nat.le_of_ble_eq_true rfl)) dL_law_312 ⟨Nat.le_of_ble_eq_true rfl, Nat.le_of_ble_eq_true rfl⟩) hS (fun q h1 h2 => absurd h2 (Nat.not_le.mpr h1)) (fun q h => Nat.le_trans hS.1 h) (fun r_274 u_274 t_274 H locs ht_274 hvm_274 hw_274 hB_274 hz_274 hk_274 hS => ?_)
    obtain rfl : r_274 = (-1) := hw_274
    have hPM := wl_keptN hPM hk_274
    refine lv_aload_n hx hb dL_law_315 rfl (lv_at hl 1 rfl) ?_
    refine lv_aload_n hx hb dL_law_316 rfl (lv_at hl 3 rfl) ?_
    refine lv_iload_n hx hb dL_law_317 rfl (lv_at hl 0 rfl) ?_
    refine lv_iconst (v := 1) hx hb dL_law_318 (by decide) ?_
    refine lv_iadd hx hb dL_law_319 ?_
    rw [show (0 : Int32) + 1 = 1 by decide]
    refine va_sld hx hb hX hbl hbA hS (i := 1) (vp_in_iff.mpr (by decide)) dL_law_320 ?_
    refine lv_aload_n hx hb dL_law_321 rfl (lv_at hl 3 rfl) ?_
    refine lv_iload_n hx hb dL_law_322 rfl (lv_at hl 0 rfl) ?_
    refine lv_iconst (v := 2) hx hb dL_law_323 (by decide) ?_
    refine lv_iadd hx hb dL_law_324 ?_
    rw [show (0 : Int32) + 2 = 2 by decide]
    refine va_sld hx hb hX hbl hbA hS (i := 2) (vp_in_iff.mpr (by decide)) dL_law_325 ?_
    refine lv_aload_n hx hb dL_law_326 rfl (lv_at hl 3 rfl) ?_
    refine lv_iload_n hx hb dL_law_327 rfl (lv_at hl 0 rfl) ?_
    refine lv_iconst (v := 3) hx hb dL_law_328 (by decide) ?_
    refine lv_iadd hx hb dL_law_329 ?_
    rw [show (0 : Int32) + 3 = 3 by decide]
    refine va_sld hx hb hX hbl hbA hS (i := 3) (vp_in_iff.mpr (by decide)) dL_law_330 ?_
    refine lv_if_eq (tgt := 338) hx hb dL_law_331 (by decide) (fun c_275 => ?_) (fun c_275 => ?_)
    · refine lv_iconst (v := 0) hx hb dL_law_338 (by decide) ?_
      refine va_calli (va_runV (As := [.int (xs (1 : Int32).toNatClampNeg), .int (xs (2 : Int32).toNatClampNeg), .int 0]) (rest := [.int ((-1))]) ⟨hx, hb, hml, hown, ht⟩ (c_X12_may l D cy _ (List.range 20) adM enM (fun c h => List.mem_range.mpr h) (xs (1 : Int32).toNatClampNeg) (xs (2 : Int32).toNatClampNeg) 0 y0) (kw_X12_may ht tw_1016 ⟨Nat.le_of_ble_eq_true rfl, Nat.le_of_ble_eq_true rfl⟩) (preV_of (⟨hPM, hDM, hS⟩ : Hp D (AL s) (AL s) s.heap _ _ (List.range 20) adM enM) hK (List.mem_range.mpr (by decide)) y0 rfl) rfl rfl hl.1 rfl (lv_room (Nat.le_of_ble_eq_true rfl)) dL_law_339 ⟨Nat.le_of_ble_eq_true rfl, Nat.le_of_ble_eq_true rfl⟩) hS (fun q _ h => Af_in (⟨hPM, hDM, hS⟩ : Hp D (AL s) (AL s) s.heap _ _ (List.range 20) adM enM) hAL q h) (Af_in (⟨hPM, hDM, hS⟩ : Hp D (AL s) (AL s) s.heap _ _ (List.range 20) adM enM) hAL) (fun r_276 u_276 t_276 H locs ht_276 hvm_276 hw_276 hB_276 hz_276 hk_276 hS => ?_)
      obtain rfl : r_276 = (-1) := hw_276
      refine lv_icmp_eq (tgt := 1171) hx hb dL_law_342 (by decide) (fun _ => ?_) (fun c_0 => absurd (rfl) c_0)
      exact law_end C0 hS (lv_sub hl [0, 1, 2, 3] rfl)
    · refine lv_iconst (v := 1) hx hb dL_law_334 (by decide) ?_
      refine lv_goto (tgt := 339) hx hb dL_law_335 (by decide) ?_
      refine va_calli (va_runV (As := [.int (xs (1 : Int32).toNatClampNeg), .int (xs (2 : Int32).toNatClampNeg), .int 1]) (rest := [.int ((-1))]) ⟨hx, hb, hml, hown, ht⟩ (c_X12_may l D cy _ (List.range 20) adM enM (fun c h => List.mem_range.mpr h) (xs (1 : Int32).toNatClampNeg) (xs (2 : Int32).toNatClampNeg) 1 y0) (kw_X12_may ht tw_1016 ⟨Nat.le_of_ble_eq_true rfl, Nat.le_of_ble_eq_true rfl⟩) (preV_of (⟨hPM, hDM, hS⟩ : Hp D (AL s) (AL s) s.heap _ _ (List.range 20) adM enM) hK (List.mem_range.mpr (by decide)) y0 rfl) rfl rfl hl.1 rfl (lv_room (Nat.le_of_ble_eq_true rfl)) dL_law_339 ⟨Nat.le_of_ble_eq_true rfl, Nat.le_of_ble_eq_true rfl⟩) hS (fun q _ h => Af_in (⟨hPM, hDM, hS⟩ : Hp D (AL s) (AL s) s.heap _ _ (List.range 20) adM enM) hAL q h) (Af_in (⟨hPM, hDM, hS⟩ : Hp D (AL s) (AL s) s.heap _ _ (List.range 20) adM enM) hAL) (fun r_277 u_277 t_277 H locs ht_277 hvm_277 hw_277 hB_277 hz_277 hk_277 hS => ?_)
      obtain rfl : r_277 = (-1) := hw_277
      refine lv_icmp_eq (tgt := 1171) hx hb dL_law_342 (by decide) (fun _ => ?_) (fun c_0 => absurd (rfl) c_0)
      exact law_end C0 hS (lv_sub hl [0, 1, 2, 3] rfl)
  · refine lv_iconst (v := 1) hx hb dL_law_307 (by decide) ?_
    refine lv_goto (tgt := 312) hx hb dL_law_308 (by decide) ?_
    refine va_calli (va_runV (As := [.int (xs (1 : Int32).toNatClampNeg), .int (xs (2 : Int32).toNatClampNeg), .int 1]) (rest := []) ⟨hx, hb, hml, hown, ht⟩ (c_X11_may l D cy _ (List.range 115) adX enX (fun c h => List.mem_range.mpr h) 0 (xs (1 : Int32).toNatClampNeg) (xs (2 : Int32).toNatClampNeg) 1 x0 x1) (kw_X11_may ht tw_429 ⟨Nat.le_of_ble_eq_true rfl, Nat.le_of_ble_eq_true rfl⟩) (preV_of (⟨hPX, hDX, hS⟩ : Hp D (AL s) (AL s) s.heap _ _ (List.range 115) adX enX) hK (List.mem_range.mpr (by decide)) x0 rfl) rfl rfl hl.1 rfl (lv_room (Nat.le_of_ble_eq_true rfl)) dL_law_312 ⟨Nat.le_of_ble_eq_true rfl, Nat.le_of_ble_eq_true rfl⟩) hS (fun q h1 h2 => absurd h2 (Nat.not_le.mpr h1)) (fun q h => Nat.le_trans hS.1 h) (fun r_278 u_278 t_278 H locs ht_278 hvm_278 hw_278 hB_278 hz_278 hk_278 hS => ?_)
    obtain rfl : r_278 = (-1) := hw_278
    have hPM := wl_keptN hPM hk_278
    refine lv_aload_n hx hb dL_law_315 rfl (lv_at hl 1 rfl) ?_
    refine lv_aload_n hx hb dL_law_316 rfl (lv_at hl 3 rfl) ?_
    refine lv_iload_n hx hb dL_law_317 rfl (lv_at hl 0 rfl) ?_
    refine lv_iconst (v := 1) hx hb dL_law_318 (by decide) ?_
    refine lv_iadd hx hb dL_law_319 ?_
    rw [show (0 : Int32) + 1 = 1 by decide]
    refine va_sld hx hb hX hbl hbA hS (i := 1) (vp_in_iff.mpr (by decide)) dL_law_320 ?_
    refine lv_aload_n hx hb dL_law_321 rfl (lv_at hl 3 rfl) ?_
    refine lv_iload_n hx hb dL_law_322 rfl (lv_at hl 0 rfl) ?_
    refine lv_iconst (v := 2) hx hb dL_law_323 (by decide) ?_
    refine lv_iadd hx hb dL_law_324 ?_
    rw [show (0 : Int32) + 2 = 2 by decide]
    refine va_sld hx hb hX hbl hbA hS (i := 2) (vp_in_iff.mpr (by decide)) dL_law_325 ?_
    refine lv_aload_n hx hb dL_law_326 rfl (lv_at hl 3 rfl) ?_
    refine lv_iload_n hx hb dL_law_327 rfl (lv_at hl 0 rfl) ?_
    refine lv_iconst (v := 3) hx hb dL_law_328 (by decide) ?_
    refine lv_iadd hx hb dL_law_329 ?_
    rw [show (0 : Int32) + 3 = 3 by decide]
    refine va_sld hx hb hX hbl hbA hS (i := 3) (vp_in_iff.mpr (by decide)) dL_law_330 ?_
    refine lv_if_eq (tgt := 338) hx hb dL_law_331 (by decide) (fun c_279 => ?_) (fun c_279 => ?_)
    · refine lv_iconst (v := 0) hx hb dL_law_338 (by decide) ?_
      refine va_calli (va_runV (As := [.int (xs (1 : Int32).toNatClampNeg), .int (xs (2 : Int32).toNatClampNeg), .int 0]) (rest := [.int ((-1))]) ⟨hx, hb, hml, hown, ht⟩ (c_X12_may l D cy _ (List.range 20) adM enM (fun c h => List.mem_range.mpr h) (xs (1 : Int32).toNatClampNeg) (xs (2 : Int32).toNatClampNeg) 0 y0) (kw_X12_may ht tw_1016 ⟨Nat.le_of_ble_eq_true rfl, Nat.le_of_ble_eq_true rfl⟩) (preV_of (⟨hPM, hDM, hS⟩ : Hp D (AL s) (AL s) s.heap _ _ (List.range 20) adM enM) hK (List.mem_range.mpr (by decide)) y0 rfl) rfl rfl hl.1 rfl (lv_room (Nat.le_of_ble_eq_true rfl)) dL_law_339 ⟨Nat.le_of_ble_eq_true rfl, Nat.le_of_ble_eq_true rfl⟩) hS (fun q _ h => Af_in (⟨hPM, hDM, hS⟩ : Hp D (AL s) (AL s) s.heap _ _ (List.range 20) adM enM) hAL q h) (Af_in (⟨hPM, hDM, hS⟩ : Hp D (AL s) (AL s) s.heap _ _ (List.range 20) adM enM) hAL) (fun r_280 u_280 t_280 H locs ht_280 hvm_280 hw_280 hB_280 hz_280 hk_280 hS => ?_)
      obtain rfl : r_280 = (-1) := hw_280
      refine lv_icmp_eq (tgt := 1171) hx hb dL_law_342 (by decide) (fun _ => ?_) (fun c_0 => absurd (rfl) c_0)
      exact law_end C0 hS (lv_sub hl [0, 1, 2, 3] rfl)
    · refine lv_iconst (v := 1) hx hb dL_law_334 (by decide) ?_
      refine lv_goto (tgt := 339) hx hb dL_law_335 (by decide) ?_
      refine va_calli (va_runV (As := [.int (xs (1 : Int32).toNatClampNeg), .int (xs (2 : Int32).toNatClampNeg), .int 1]) (rest := [.int ((-1))]) ⟨hx, hb, hml, hown, ht⟩ (c_X12_may l D cy _ (List.range 20) adM enM (fun c h => List.mem_range.mpr h) (xs (1 : Int32).toNatClampNeg) (xs (2 : Int32).toNatClampNeg) 1 y0) (kw_X12_may ht tw_1016 ⟨Nat.le_of_ble_eq_true rfl, Nat.le_of_ble_eq_true rfl⟩) (preV_of (⟨hPM, hDM, hS⟩ : Hp D (AL s) (AL s) s.heap _ _ (List.range 20) adM enM) hK (List.mem_range.mpr (by decide)) y0 rfl) rfl rfl hl.1 rfl (lv_room (Nat.le_of_ble_eq_true rfl)) dL_law_339 ⟨Nat.le_of_ble_eq_true rfl, Nat.le_of_ble_eq_true rfl⟩) hS (fun q _ h => Af_in (⟨hPM, hDM, hS⟩ : Hp D (AL s) (AL s) s.heap _ _ (List.range 20) adM enM) hAL q h) (Af_in (⟨hPM, hDM, hS⟩ : Hp D (AL s) (AL s) s.heap _ _ (List.range 20) adM enM) hAL) (fun r_281 u_281 t_281 H locs ht_281 hvm_281 hw_281 hB_281 hz_281 hk_281 hS => ?_)
      obtain rfl : r_281 = (-1) := hw_281
      refine lv_icmp_eq (tgt := 1171) hx hb dL_law_342 (by decide) (fun _ => ?_) (fun c_0 => absurd (rfl) c_0)
      exact law_end C0 hS (lv_sub hl [0, 1, 2, 3] rfl)
set_option maxHeartbeats 4000000 in
set_option maxRecDepth 100000 in
/-- the law at length -/
theorem op_4 {p : Program} {e : Env} {s : State} {m : MethodId} {below : List Frame} {meth : Method} {c : Code} (l : Launch) {b : Nat} {xs : Nat → Int32} (C0 : lw_At p s m meth c b 5 xs) {D : va_G} {cy : Nat → ClassId} {adX adM : Nat → Nat} {enX enM : Nat → va_E} {H : Heap} {locs : List Loc} {ls : Array Slot} (hK : va_K D vwCl (tyl cy) s) (hFX : FX cy adX enX) (hFM : FMo cy adM enM) (hPX : va_P D vwCl (wl (List.range 115) adX enX) H) (hDX : va_D (AL s) (wl (List.range 115) adX enX)) (hPM : va_P D vwCl (wl (List.range 20) adM enM) H) (hDM : va_D (AL s) (wl (List.range 20) adM enM)) (hdis : ∀ i j, i < 115 → j < 20 → adX i ≠ adM j) (hS : va_S (AL s) s.heap H locs) (hl : lv_has ls 4 [(3, .int 0), (2, .ref (adM 0)), (1, .ref (adX 0)), (0, .ref b)]) : W p l e room_1 s m #[Value.ref b] below meth c H locs 135 27787 (lw_Z below #[Value.ref b] s) (F0 m 347 ls []) := by
  obtain ⟨hx, hb, hr, hml, hown, hts, hX, hbl, hlocks, hgv⟩ := id C0
  have ht : ∀ w ∈ TB, w.before #[Value.ref b] s = true := fun w h => hts w (TB_lw h)
  have hbA : ¬ (AL s) b := Nat.not_le.mpr hbl
  have hAL : ∀ q : Nat, s.heap.size ≤ q → AL s q := fun _ h => h
  obtain ⟨x0, x1, ⟨f10, x10⟩, x12, x13, x14, x16, xv, x70, x75, xs_, xc, x76⟩ := hFX
  obtain ⟨y0, y2, ⟨g3, y3, hg3⟩, y4, y5, y6, y7⟩ := hFM
  refine lv_aload_n hx hb dL_law_347 rfl (lv_at hl 2 rfl) ?_
  refine lv_aload_n hx hb dL_law_348 rfl (lv_at hl 3 rfl) ?_
  refine lv_iload_n hx hb dL_law_349 rfl (lv_at hl 0 rfl) ?_
  refine lv_iconst (v := 1) hx hb dL_law_350 (by decide) ?_
  refine lv_iadd hx hb dL_law_351 ?_
  rw [show (0 : Int32) + 1 = 1 by decide]
  refine va_sld hx hb hX hbl hbA hS (i := 1) (vp_in_iff.mpr (by decide)) dL_law_352 ?_
  refine lv_aload_n hx hb dL_law_353 rfl (lv_at hl 3 rfl) ?_
  refine lv_iload_n hx hb dL_law_354 rfl (lv_at hl 0 rfl) ?_
  refine lv_iconst (v := 2) hx hb dL_law_355 (by decide) ?_
  refine lv_iadd hx hb dL_law_356 ?_
  rw [show (0 : Int32) + 2 = 2 by decide]
  refine va_sld hx hb hX hbl hbA hS (i := 2) (vp_in_iff.mpr (by decide)) dL_law_357 ?_
  refine va_calll (va_runV (As := [.int (xs (1 : Int32).toNatClampNeg), .int (xs (2 : Int32).toNatClampNeg)]) (rest := []) ⟨hx, hb, hml, hown, ht⟩ (c_X11_length l D cy _ (List.range 115) adX enX (fun c h => List.mem_range.mpr h) 0 0 (fun _ => 0) (xs (1 : Int32).toNatClampNeg) (xs (2 : Int32).toNatClampNeg) x0 x12 x16 x14 x1 x13 xv) (kw_X11_length ht tw_441 ⟨Nat.le_of_ble_eq_true rfl, Nat.le_of_ble_eq_true rfl⟩) (preV_of (⟨hPX, hDX, hS⟩ : Hp D (AL s) (AL s) s.heap _ _ (List.range 115) adX enX) hK (List.mem_range.mpr (by decide)) x0 rfl) rfl rfl hl.1 rfl (lv_room (Nat.le_of_ble_eq_true rfl)) dL_law_358 ⟨Nat.le_of_ble_eq_true rfl, Nat.le_of_ble_eq_true rfl⟩) hS (fun q _ h => Af_in (⟨hPX, hDX, hS⟩ : Hp D (AL s) (AL s) s.heap _ _ (List.range 115) adX enX) hAL q h) (Af_in (⟨hPX, hDX, hS⟩ : Hp D (AL s) (AL s) s.heap _ _ (List.range 115) adX enX) hAL) (fun r_282 u_282 t_282 H locs ht_282 hvm_282 hw_282 hB_282 hz_282 hk_282 hS => ?_)
  obtain rfl : r_282 = spLen (xs (1 : Int32).toNatClampNeg) (xs (2 : Int32).toNatClampNeg) := hw_282
  have hPM := wl_kept hPM (fun i hi j hj => hdis i j (List.mem_range.mp hi) (List.mem_range.mp hj)) hk_282
  refine lv_aload_n hx hb dL_law_361 rfl (lv_at hl 1 rfl) ?_
  refine lv_aload_n hx hb dL_law_362 rfl (lv_at hl 3 rfl) ?_
  refine lv_iload_n hx hb dL_law_363 rfl (lv_at hl 0 rfl) ?_
  refine lv_iconst (v := 1) hx hb dL_law_364 (by decide) ?_
  refine lv_iadd hx hb dL_law_365 ?_
  rw [show (0 : Int32) + 1 = 1 by decide]
  refine va_sld hx hb hX hbl hbA hS (i := 1) (vp_in_iff.mpr (by decide)) dL_law_366 ?_
  refine lv_aload_n hx hb dL_law_367 rfl (lv_at hl 3 rfl) ?_
  refine lv_iload_n hx hb dL_law_368 rfl (lv_at hl 0 rfl) ?_
  refine lv_iconst (v := 2) hx hb dL_law_369 (by decide) ?_
  refine lv_iadd hx hb dL_law_370 ?_
  rw [show (0 : Int32) + 2 = 2 by decide]
  refine va_sld hx hb hX hbl hbA hS (i := 2) (vp_in_iff.mpr (by decide)) dL_law_371 ?_
  refine va_calll (va_runV (As := [.int (xs (1 : Int32).toNatClampNeg), .int (xs (2 : Int32).toNatClampNeg)]) (rest := [.long (spLen (xs (1 : Int32).toNatClampNeg) (xs (2 : Int32).toNatClampNeg))]) ⟨hx, hb, hml, hown, ht⟩ (c_X12_length l D cy _ (List.range 20) adM enM (fun c h => List.mem_range.mpr h) (fun _ => 0) (fun _ => 0) (xs (1 : Int32).toNatClampNeg) (xs (2 : Int32).toNatClampNeg) y0 y6 y7) (kw_X12_length ht tw_1020 ⟨Nat.le_of_ble_eq_true rfl, Nat.le_of_ble_eq_true rfl⟩) (preV_of (⟨hPM, hDM, hS⟩ : Hp D (AL s) (AL s) s.heap _ _ (List.range 20) adM enM) hK (List.mem_range.mpr (by decide)) y0 rfl) rfl rfl hl.1 rfl (lv_room (Nat.le_of_ble_eq_true rfl)) dL_law_372 ⟨Nat.le_of_ble_eq_true rfl, Nat.le_of_ble_eq_true rfl⟩) hS (fun q _ h => Af_in (⟨hPM, hDM, hS⟩ : Hp D (AL s) (AL s) s.heap _ _ (List.range 20) adM enM) hAL q h) (Af_in (⟨hPM, hDM, hS⟩ : Hp D (AL s) (AL s) s.heap _ _ (List.range 20) adM enM) hAL) (fun r_283 u_283 t_283 H locs ht_283 hvm_283 hw_283 hB_283 hz_283 hk_283 hS => ?_)
  obtain rfl : r_283 = spLen (xs (1 : Int32).toNatClampNeg) (xs (2 : Int32).toNatClampNeg) := hw_283
  refine W.lcmp hx hb dL_law_375 ?_
  refine lv_if_eq (tgt := 1171) hx hb dL_law_376 (by decide) (fun _ => ?_) (fun c_0 => absurd ((lg_cmp_eq _ _).mpr rfl) c_0)
  exact law_end C0 hS (lv_sub hl [0, 1, 2, 3] rfl)
set_option maxHeartbeats 4000000 in
set_option maxRecDepth 100000 in
/-- the law at extreme -/
theorem op_5 {p : Program} {e : Env} {s : State} {m : MethodId} {below : List Frame} {meth : Method} {c : Code} (l : Launch) {b : Nat} {xs : Nat → Int32} (C0 : lw_At p s m meth c b 5 xs) {D : va_G} {cy : Nat → ClassId} {adX adM : Nat → Nat} {enX enM : Nat → va_E} {H : Heap} {locs : List Loc} {ls : Array Slot} (hK : va_K D vwCl (tyl cy) s) (hFX : FX cy adX enX) (hFM : FMo cy adM enM) (hPX : va_P D vwCl (wl (List.range 115) adX enX) H) (hDX : va_D (AL s) (wl (List.range 115) adX enX)) (hPM : va_P D vwCl (wl (List.range 20) adM enM) H) (hDM : va_D (AL s) (wl (List.range 20) adM enM)) (hdis : ∀ i j, i < 115 → j < 20 → adX i ≠ adM j) (hS : va_S (AL s) s.heap H locs) (hl : lv_has ls 4 [(3, .int 0), (2, .ref (adM 0)), (1, .ref (adX 0)), (0, .ref b)]) : W p l e room_1 s m #[Value.ref b] below meth c H locs 135 27787 (lw_Z below #[Value.ref b] s) (F0 m 381 ls []) := by
  obtain ⟨hx, hb, hr, hml, hown, hts, hX, hbl, hlocks, hgv⟩ := id C0
  have ht : ∀ w ∈ TB, w.before #[Value.ref b] s = true := fun w h => hts w (TB_lw h)
  have hbA : ¬ (AL s) b := Nat.not_le.mpr hbl
  have hAL : ∀ q : Nat, s.heap.size ≤ q → AL s q := fun _ h => h
  obtain ⟨x0, x1, ⟨f10, x10⟩, x12, x13, x14, x16, xv, x70, x75, xs_, xc, x76⟩ := hFX
  obtain ⟨y0, y2, ⟨g3, y3, hg3⟩, y4, y5, y6, y7⟩ := hFM
  refine lv_aload_n hx hb dL_law_381 rfl (lv_at hl 2 rfl) ?_
  refine lv_aload_n hx hb dL_law_382 rfl (lv_at hl 3 rfl) ?_
  refine lv_iload_n hx hb dL_law_383 rfl (lv_at hl 0 rfl) ?_
  refine lv_iconst (v := 1) hx hb dL_law_384 (by decide) ?_
  refine lv_iadd hx hb dL_law_385 ?_
  rw [show (0 : Int32) + 1 = 1 by decide]
  refine va_sld hx hb hX hbl hbA hS (i := 1) (vp_in_iff.mpr (by decide)) dL_law_386 ?_
  refine lv_aload_n hx hb dL_law_387 rfl (lv_at hl 3 rfl) ?_
  refine lv_iload_n hx hb dL_law_388 rfl (lv_at hl 0 rfl) ?_
  refine lv_iconst (v := 2) hx hb dL_law_389 (by decide) ?_
  refine lv_iadd hx hb dL_law_390 ?_
  rw [show (0 : Int32) + 2 = 2 by decide]
  refine va_sld hx hb hX hbl hbA hS (i := 2) (vp_in_iff.mpr (by decide)) dL_law_391 ?_
  refine lv_aload_n hx hb dL_law_392 rfl (lv_at hl 3 rfl) ?_
  refine lv_iload_n hx hb dL_law_393 rfl (lv_at hl 0 rfl) ?_
  refine lv_iconst (v := 3) hx hb dL_law_394 (by decide) ?_
  refine lv_iadd hx hb dL_law_395 ?_
  rw [show (0 : Int32) + 3 = 3 by decide]
  refine va_sld hx hb hX hbl hbA hS (i := 3) (vp_in_iff.mpr (by decide)) dL_law_396 ?_
  refine va_calli (va_runV (As := [.int (xs (1 : Int32).toNatClampNeg), .int (xs (2 : Int32).toNatClampNeg), .int (xs (3 : Int32).toNatClampNeg)]) (rest := []) ⟨hx, hb, hml, hown, ht⟩ (c_X11_extreme l D cy _ (List.range 115) adX enX (fun c h => List.mem_range.mpr h) 0 0 (fun _ => 0) (xs (1 : Int32).toNatClampNeg) (xs (2 : Int32).toNatClampNeg) (xs (3 : Int32).toNatClampNeg) x0 x12 x16 x14 x1 x13 xv) (kw_X11_extreme ht tw_541 ⟨Nat.le_of_ble_eq_true rfl, Nat.le_of_ble_eq_true rfl⟩) (preV_of (⟨hPX, hDX, hS⟩ : Hp D (AL s) (AL s) s.heap _ _ (List.range 115) adX enX) hK (List.mem_range.mpr (by decide)) x0 rfl) rfl rfl hl.1 rfl (lv_room (Nat.le_of_ble_eq_true rfl)) dL_law_397 ⟨Nat.le_of_ble_eq_true rfl, Nat.le_of_ble_eq_true rfl⟩) hS (fun q _ h => Af_in (⟨hPX, hDX, hS⟩ : Hp D (AL s) (AL s) s.heap _ _ (List.range 115) adX enX) hAL q h) (Af_in (⟨hPX, hDX, hS⟩ : Hp D (AL s) (AL s) s.heap _ _ (List.range 115) adX enX) hAL) (fun r_284 u_284 t_284 H locs ht_284 hvm_284 hw_284 hB_284 hz_284 hk_284 hS => ?_)
  obtain rfl : r_284 = spExt (xs (1 : Int32).toNatClampNeg) (xs (2 : Int32).toNatClampNeg) (xs (3 : Int32).toNatClampNeg) := hw_284
  have hPM := wl_kept hPM (fun i hi j hj => hdis i j (List.mem_range.mp hi) (List.mem_range.mp hj)) hk_284
  refine lv_aload_n hx hb dL_law_400 rfl (lv_at hl 1 rfl) ?_
  refine lv_aload_n hx hb dL_law_401 rfl (lv_at hl 3 rfl) ?_
  refine lv_iload_n hx hb dL_law_402 rfl (lv_at hl 0 rfl) ?_
  refine lv_iconst (v := 1) hx hb dL_law_403 (by decide) ?_
  refine lv_iadd hx hb dL_law_404 ?_
  rw [show (0 : Int32) + 1 = 1 by decide]
  refine va_sld hx hb hX hbl hbA hS (i := 1) (vp_in_iff.mpr (by decide)) dL_law_405 ?_
  refine lv_aload_n hx hb dL_law_406 rfl (lv_at hl 3 rfl) ?_
  refine lv_iload_n hx hb dL_law_407 rfl (lv_at hl 0 rfl) ?_
  refine lv_iconst (v := 2) hx hb dL_law_408 (by decide) ?_
  refine lv_iadd hx hb dL_law_409 ?_
  rw [show (0 : Int32) + 2 = 2 by decide]
  refine va_sld hx hb hX hbl hbA hS (i := 2) (vp_in_iff.mpr (by decide)) dL_law_410 ?_
  refine lv_aload_n hx hb dL_law_411 rfl (lv_at hl 3 rfl) ?_
  refine lv_iload_n hx hb dL_law_412 rfl (lv_at hl 0 rfl) ?_
  refine lv_iconst (v := 3) hx hb dL_law_413 (by decide) ?_
  refine lv_iadd hx hb dL_law_414 ?_
  rw [show (0 : Int32) + 3 = 3 by decide]
  refine va_sld hx hb hX hbl hbA hS (i := 3) (vp_in_iff.mpr (by decide)) dL_law_415 ?_
  refine va_calli (va_runV (As := [.int (xs (1 : Int32).toNatClampNeg), .int (xs (2 : Int32).toNatClampNeg), .int (xs (3 : Int32).toNatClampNeg)]) (rest := [.int (spExt (xs (1 : Int32).toNatClampNeg) (xs (2 : Int32).toNatClampNeg) (xs (3 : Int32).toNatClampNeg))]) ⟨hx, hb, hml, hown, ht⟩ (c_X12_extreme l D cy _ (List.range 20) adM enM (fun c h => List.mem_range.mpr h) (fun _ => 0) (fun _ => 0) (xs (1 : Int32).toNatClampNeg) (xs (2 : Int32).toNatClampNeg) (xs (3 : Int32).toNatClampNeg) y0 y6 y7) (kw_X12_extreme ht tw_1065 ⟨Nat.le_of_ble_eq_true rfl, Nat.le_of_ble_eq_true rfl⟩) (preV_of (⟨hPM, hDM, hS⟩ : Hp D (AL s) (AL s) s.heap _ _ (List.range 20) adM enM) hK (List.mem_range.mpr (by decide)) y0 rfl) rfl rfl hl.1 rfl (lv_room (Nat.le_of_ble_eq_true rfl)) dL_law_416 ⟨Nat.le_of_ble_eq_true rfl, Nat.le_of_ble_eq_true rfl⟩) hS (fun q _ h => Af_in (⟨hPM, hDM, hS⟩ : Hp D (AL s) (AL s) s.heap _ _ (List.range 20) adM enM) hAL q h) (Af_in (⟨hPM, hDM, hS⟩ : Hp D (AL s) (AL s) s.heap _ _ (List.range 20) adM enM) hAL) (fun r_285 u_285 t_285 H locs ht_285 hvm_285 hw_285 hB_285 hz_285 hk_285 hS => ?_)
  obtain rfl : r_285 = spExt (xs (1 : Int32).toNatClampNeg) (xs (2 : Int32).toNatClampNeg) (xs (3 : Int32).toNatClampNeg) := hw_285
  refine lv_icmp_eq (tgt := 1171) hx hb dL_law_419 (by decide) (fun _ => ?_) (fun c_0 => absurd (rfl) c_0)
  exact law_end C0 hS (lv_sub hl [0, 1, 2, 3] rfl)
set_option maxHeartbeats 4000000 in
set_option maxRecDepth 100000 in
/-- the law at rings -/
theorem op_6 {p : Program} {e : Env} {s : State} {m : MethodId} {below : List Frame} {meth : Method} {c : Code} (l : Launch) {b : Nat} {xs : Nat → Int32} (C0 : lw_At p s m meth c b 5 xs) {D : va_G} {cy : Nat → ClassId} {adX adM : Nat → Nat} {enX enM : Nat → va_E} {H : Heap} {locs : List Loc} {ls : Array Slot} (hK : va_K D vwCl (tyl cy) s) (hFX : FX cy adX enX) (hFM : FMo cy adM enM) (hPX : va_P D vwCl (wl (List.range 115) adX enX) H) (hDX : va_D (AL s) (wl (List.range 115) adX enX)) (hPM : va_P D vwCl (wl (List.range 20) adM enM) H) (hDM : va_D (AL s) (wl (List.range 20) adM enM)) (hdis : ∀ i j, i < 115 → j < 20 → adX i ≠ adM j) (hS : va_S (AL s) s.heap H locs) (hl : lv_has ls 4 [(3, .int 0), (2, .ref (adM 0)), (1, .ref (adX 0)), (0, .ref b)]) : W p l e room_1 s m #[Value.ref b] below meth c H locs 135 27787 (lw_Z below #[Value.ref b] s) (F0 m 424 ls []) := by
  obtain ⟨hx, hb, hr, hml, hown, hts, hX, hbl, hlocks, hgv⟩ := id C0
  have ht : ∀ w ∈ TB, w.before #[Value.ref b] s = true := fun w h => hts w (TB_lw h)
  have hbA : ¬ (AL s) b := Nat.not_le.mpr hbl
  have hAL : ∀ q : Nat, s.heap.size ≤ q → AL s q := fun _ h => h
  obtain ⟨x0, x1, ⟨f10, x10⟩, x12, x13, x14, x16, xv, x70, x75, xs_, xc, x76⟩ := hFX
  obtain ⟨y0, y2, ⟨g3, y3, hg3⟩, y4, y5, y6, y7⟩ := hFM
  refine lv_aload_n hx hb dL_law_424 rfl (lv_at hl 2 rfl) ?_
  refine lv_aload_n hx hb dL_law_425 rfl (lv_at hl 3 rfl) ?_
  refine lv_iload_n hx hb dL_law_426 rfl (lv_at hl 0 rfl) ?_
  refine lv_iconst (v := 1) hx hb dL_law_427 (by decide) ?_
  refine lv_iadd hx hb dL_law_428 ?_
  rw [show (0 : Int32) + 1 = 1 by decide]
  refine va_sld hx hb hX hbl hbA hS (i := 1) (vp_in_iff.mpr (by decide)) dL_law_429 ?_
  refine va_calli (va_runV (As := [.int (xs (1 : Int32).toNatClampNeg)]) (rest := []) ⟨hx, hb, hml, hown, ht⟩ (c_X11_rings l D cy _ (List.range 115) adX enX (fun c h => List.mem_range.mpr h) 0 0 (fun _ => 0) (xs (1 : Int32).toNatClampNeg) x0 x12 x16 x14 x1 x13 xv) (kw_X11_rings ht tw_545 ⟨Nat.le_of_ble_eq_true rfl, Nat.le_of_ble_eq_true rfl⟩) (preV_of (⟨hPX, hDX, hS⟩ : Hp D (AL s) (AL s) s.heap _ _ (List.range 115) adX enX) hK (List.mem_range.mpr (by decide)) x0 rfl) rfl rfl hl.1 rfl (lv_room (Nat.le_of_ble_eq_true rfl)) dL_law_430 ⟨Nat.le_of_ble_eq_true rfl, Nat.le_of_ble_eq_true rfl⟩) hS (fun q _ h => Af_in (⟨hPX, hDX, hS⟩ : Hp D (AL s) (AL s) s.heap _ _ (List.range 115) adX enX) hAL q h) (Af_in (⟨hPX, hDX, hS⟩ : Hp D (AL s) (AL s) s.heap _ _ (List.range 115) adX enX) hAL) (fun r_286 u_286 t_286 H locs ht_286 hvm_286 hw_286 hB_286 hz_286 hk_286 hS => ?_)
  obtain rfl : r_286 = if wi (xs (1 : Int32).toNatClampNeg) 1 8 then 0 else (-2) := hw_286
  have hPM := wl_kept hPM (fun i hi j hj => hdis i j (List.mem_range.mp hi) (List.mem_range.mp hj)) hk_286
  refine lv_aload_n hx hb dL_law_433 rfl (lv_at hl 1 rfl) ?_
  refine lv_aload_n hx hb dL_law_434 rfl (lv_at hl 3 rfl) ?_
  refine lv_iload_n hx hb dL_law_435 rfl (lv_at hl 0 rfl) ?_
  refine lv_iconst (v := 1) hx hb dL_law_436 (by decide) ?_
  refine lv_iadd hx hb dL_law_437 ?_
  rw [show (0 : Int32) + 1 = 1 by decide]
  refine va_sld hx hb hX hbl hbA hS (i := 1) (vp_in_iff.mpr (by decide)) dL_law_438 ?_
  refine va_calli (va_runV (As := [.int (xs (1 : Int32).toNatClampNeg)]) (rest := [.int (if wi (xs (1 : Int32).toNatClampNeg) 1 8 then 0 else (-2))]) ⟨hx, hb, hml, hown, ht⟩ (c_X12_rings l D cy _ (List.range 20) adM enM (fun c h => List.mem_range.mpr h) (fun _ => 0) (fun _ => 0) (xs (1 : Int32).toNatClampNeg) y0 y6 y7) (kw_X12_rings ht tw_1069 ⟨Nat.le_of_ble_eq_true rfl, Nat.le_of_ble_eq_true rfl⟩) (preV_of (⟨hPM, hDM, hS⟩ : Hp D (AL s) (AL s) s.heap _ _ (List.range 20) adM enM) hK (List.mem_range.mpr (by decide)) y0 rfl) rfl rfl hl.1 rfl (lv_room (Nat.le_of_ble_eq_true rfl)) dL_law_439 ⟨Nat.le_of_ble_eq_true rfl, Nat.le_of_ble_eq_true rfl⟩) hS (fun q _ h => Af_in (⟨hPM, hDM, hS⟩ : Hp D (AL s) (AL s) s.heap _ _ (List.range 20) adM enM) hAL q h) (Af_in (⟨hPM, hDM, hS⟩ : Hp D (AL s) (AL s) s.heap _ _ (List.range 20) adM enM) hAL) (fun r_287 u_287 t_287 H locs ht_287 hvm_287 hw_287 hB_287 hz_287 hk_287 hS => ?_)
  obtain rfl : r_287 = if wi (xs (1 : Int32).toNatClampNeg) 1 8 then 0 else (-2) := hw_287
  refine lv_icmp_eq (tgt := 1171) hx hb dL_law_442 (by decide) (fun _ => ?_) (fun c_0 => absurd (rfl) c_0)
  exact law_end C0 hS (lv_sub hl [0, 1, 2, 3] rfl)
set_option maxHeartbeats 4000000 in
set_option maxRecDepth 100000 in
/-- the law at ringTrack -/
theorem op_7 {p : Program} {e : Env} {s : State} {m : MethodId} {below : List Frame} {meth : Method} {c : Code} (l : Launch) {b : Nat} {xs : Nat → Int32} (C0 : lw_At p s m meth c b 5 xs) {D : va_G} {cy : Nat → ClassId} {adX adM : Nat → Nat} {enX enM : Nat → va_E} {H : Heap} {locs : List Loc} {ls : Array Slot} (hK : va_K D vwCl (tyl cy) s) (hFX : FX cy adX enX) (hFM : FMo cy adM enM) (hPX : va_P D vwCl (wl (List.range 115) adX enX) H) (hDX : va_D (AL s) (wl (List.range 115) adX enX)) (hPM : va_P D vwCl (wl (List.range 20) adM enM) H) (hDM : va_D (AL s) (wl (List.range 20) adM enM)) (hdis : ∀ i j, i < 115 → j < 20 → adX i ≠ adM j) (hS : va_S (AL s) s.heap H locs) (hl : lv_has ls 4 [(3, .int 0), (2, .ref (adM 0)), (1, .ref (adX 0)), (0, .ref b)]) : W p l e room_1 s m #[Value.ref b] below meth c H locs 135 27787 (lw_Z below #[Value.ref b] s) (F0 m 447 ls []) := by
  obtain ⟨hx, hb, hr, hml, hown, hts, hX, hbl, hlocks, hgv⟩ := id C0
  have ht : ∀ w ∈ TB, w.before #[Value.ref b] s = true := fun w h => hts w (TB_lw h)
  have hbA : ¬ (AL s) b := Nat.not_le.mpr hbl
  have hAL : ∀ q : Nat, s.heap.size ≤ q → AL s q := fun _ h => h
  obtain ⟨x0, x1, ⟨f10, x10⟩, x12, x13, x14, x16, xv, x70, x75, xs_, xc, x76⟩ := hFX
  obtain ⟨y0, y2, ⟨g3, y3, hg3⟩, y4, y5, y6, y7⟩ := hFM
  refine lv_aload_n hx hb dL_law_447 rfl (lv_at hl 2 rfl) ?_
  refine lv_aload_n hx hb dL_law_448 rfl (lv_at hl 3 rfl) ?_
  refine lv_iload_n hx hb dL_law_449 rfl (lv_at hl 0 rfl) ?_
  refine lv_iconst (v := 1) hx hb dL_law_450 (by decide) ?_
  refine lv_iadd hx hb dL_law_451 ?_
  rw [show (0 : Int32) + 1 = 1 by decide]
  refine va_sld hx hb hX hbl hbA hS (i := 1) (vp_in_iff.mpr (by decide)) dL_law_452 ?_
  refine va_calll (va_runV (As := [.int (xs (1 : Int32).toNatClampNeg)]) (rest := []) ⟨hx, hb, hml, hown, ht⟩ (c_X11_ringTrack l D cy _ (List.range 115) adX enX (fun c h => List.mem_range.mpr h) 0 0 (fun _ => 0) (xs (1 : Int32).toNatClampNeg) x0 x12 x16 x14 x1 x13 xv) (kw_X11_ringTrack ht tw_549 ⟨Nat.le_of_ble_eq_true rfl, Nat.le_of_ble_eq_true rfl⟩) (preV_of (⟨hPX, hDX, hS⟩ : Hp D (AL s) (AL s) s.heap _ _ (List.range 115) adX enX) hK (List.mem_range.mpr (by decide)) x0 rfl) rfl rfl hl.1 rfl (lv_room (Nat.le_of_ble_eq_true rfl)) dL_law_453 ⟨Nat.le_of_ble_eq_true rfl, Nat.le_of_ble_eq_true rfl⟩) hS (fun q _ h => Af_in (⟨hPX, hDX, hS⟩ : Hp D (AL s) (AL s) s.heap _ _ (List.range 115) adX enX) hAL q h) (Af_in (⟨hPX, hDX, hS⟩ : Hp D (AL s) (AL s) s.heap _ _ (List.range 115) adX enX) hAL) (fun r_288 u_288 t_288 H locs ht_288 hvm_288 hw_288 hB_288 hz_288 hk_288 hS => ?_)
  obtain rfl : r_288 = (-9223372036854775808) := hw_288
  have hPM := wl_kept hPM (fun i hi j hj => hdis i j (List.mem_range.mp hi) (List.mem_range.mp hj)) hk_288
  refine lv_aload_n hx hb dL_law_456 rfl (lv_at hl 1 rfl) ?_
  refine lv_aload_n hx hb dL_law_457 rfl (lv_at hl 3 rfl) ?_
  refine lv_iload_n hx hb dL_law_458 rfl (lv_at hl 0 rfl) ?_
  refine lv_iconst (v := 1) hx hb dL_law_459 (by decide) ?_
  refine lv_iadd hx hb dL_law_460 ?_
  rw [show (0 : Int32) + 1 = 1 by decide]
  refine va_sld hx hb hX hbl hbA hS (i := 1) (vp_in_iff.mpr (by decide)) dL_law_461 ?_
  refine va_calll (va_runV (As := [.int (xs (1 : Int32).toNatClampNeg)]) (rest := [.long ((-9223372036854775808))]) ⟨hx, hb, hml, hown, ht⟩ (c_X12_ringTrack l D cy _ (List.range 20) adM enM (fun c h => List.mem_range.mpr h) (fun _ => 0) (fun _ => 0) (xs (1 : Int32).toNatClampNeg) y0 y6 y7) (kw_X12_ringTrack ht tw_1097 ⟨Nat.le_of_ble_eq_true rfl, Nat.le_of_ble_eq_true rfl⟩) (preV_of (⟨hPM, hDM, hS⟩ : Hp D (AL s) (AL s) s.heap _ _ (List.range 20) adM enM) hK (List.mem_range.mpr (by decide)) y0 rfl) rfl rfl hl.1 rfl (lv_room (Nat.le_of_ble_eq_true rfl)) dL_law_462 ⟨Nat.le_of_ble_eq_true rfl, Nat.le_of_ble_eq_true rfl⟩) hS (fun q _ h => Af_in (⟨hPM, hDM, hS⟩ : Hp D (AL s) (AL s) s.heap _ _ (List.range 20) adM enM) hAL q h) (Af_in (⟨hPM, hDM, hS⟩ : Hp D (AL s) (AL s) s.heap _ _ (List.range 20) adM enM) hAL) (fun r_289 u_289 t_289 H locs ht_289 hvm_289 hw_289 hB_289 hz_289 hk_289 hS => ?_)
  obtain rfl : r_289 = (-9223372036854775808) := hw_289
  refine W.lcmp hx hb dL_law_465 ?_
  refine lv_if_eq (tgt := 1171) hx hb dL_law_466 (by decide) (fun _ => ?_) (fun c_0 => absurd ((lg_cmp_eq _ _).mpr rfl) c_0)
  exact law_end C0 hS (lv_sub hl [0, 1, 2, 3] rfl)
set_option maxHeartbeats 4000000 in
set_option maxRecDepth 100000 in
/-- the law at ring -/
theorem op_8 {p : Program} {e : Env} {s : State} {m : MethodId} {below : List Frame} {meth : Method} {c : Code} (l : Launch) {b : Nat} {xs : Nat → Int32} (C0 : lw_At p s m meth c b 5 xs) {D : va_G} {cy : Nat → ClassId} {adX adM : Nat → Nat} {enX enM : Nat → va_E} {H : Heap} {locs : List Loc} {ls : Array Slot} (hK : va_K D vwCl (tyl cy) s) (hFX : FX cy adX enX) (hFM : FMo cy adM enM) (hPX : va_P D vwCl (wl (List.range 115) adX enX) H) (hDX : va_D (AL s) (wl (List.range 115) adX enX)) (hPM : va_P D vwCl (wl (List.range 20) adM enM) H) (hDM : va_D (AL s) (wl (List.range 20) adM enM)) (hdis : ∀ i j, i < 115 → j < 20 → adX i ≠ adM j) (hS : va_S (AL s) s.heap H locs) (hl : lv_has ls 4 [(3, .int 0), (2, .ref (adM 0)), (1, .ref (adX 0)), (0, .ref b)]) : W p l e room_1 s m #[Value.ref b] below meth c H locs 135 27787 (lw_Z below #[Value.ref b] s) (F0 m 471 ls []) := by
  obtain ⟨hx, hb, hr, hml, hown, hts, hX, hbl, hlocks, hgv⟩ := id C0
  have ht : ∀ w ∈ TB, w.before #[Value.ref b] s = true := fun w h => hts w (TB_lw h)
  have hbA : ¬ (AL s) b := Nat.not_le.mpr hbl
  have hAL : ∀ q : Nat, s.heap.size ≤ q → AL s q := fun _ h => h
  obtain ⟨x0, x1, ⟨f10, x10⟩, x12, x13, x14, x16, xv, x70, x75, xs_, xc, x76⟩ := hFX
  obtain ⟨y0, y2, ⟨g3, y3, hg3⟩, y4, y5, y6, y7⟩ := hFM
  refine lv_aload_n hx hb dL_law_471 rfl (lv_at hl 2 rfl) ?_
  refine lv_aload_n hx hb dL_law_472 rfl (lv_at hl 3 rfl) ?_
  refine lv_iload_n hx hb dL_law_473 rfl (lv_at hl 0 rfl) ?_
  refine lv_iconst (v := 1) hx hb dL_law_474 (by decide) ?_
  refine lv_iadd hx hb dL_law_475 ?_
  rw [show (0 : Int32) + 1 = 1 by decide]
  refine va_sld hx hb hX hbl hbA hS (i := 1) (vp_in_iff.mpr (by decide)) dL_law_476 ?_
  refine lv_aload_n hx hb dL_law_477 rfl (lv_at hl 3 rfl) ?_
  refine lv_iload_n hx hb dL_law_478 rfl (lv_at hl 0 rfl) ?_
  refine lv_iconst (v := 2) hx hb dL_law_479 (by decide) ?_
  refine lv_iadd hx hb dL_law_480 ?_
  rw [show (0 : Int32) + 2 = 2 by decide]
  refine va_sld hx hb hX hbl hbA hS (i := 2) (vp_in_iff.mpr (by decide)) dL_law_481 ?_
  refine va_calli (va_runV (As := [.int (xs (1 : Int32).toNatClampNeg), .int (xs (2 : Int32).toNatClampNeg)]) (rest := []) ⟨hx, hb, hml, hown, ht⟩ (c_X11_ring l D cy _ (List.range 115) adX enX (fun c h => List.mem_range.mpr h) 0 0 (fun _ => 0) (xs (1 : Int32).toNatClampNeg) (xs (2 : Int32).toNatClampNeg) x0 x12 x16 x14 x1 x13 xv) (kw_X11_ring ht tw_553 ⟨Nat.le_of_ble_eq_true rfl, Nat.le_of_ble_eq_true rfl⟩) (preV_of (⟨hPX, hDX, hS⟩ : Hp D (AL s) (AL s) s.heap _ _ (List.range 115) adX enX) hK (List.mem_range.mpr (by decide)) x0 rfl) rfl rfl hl.1 rfl (lv_room (Nat.le_of_ble_eq_true rfl)) dL_law_482 ⟨Nat.le_of_ble_eq_true rfl, Nat.le_of_ble_eq_true rfl⟩) hS (fun q _ h => Af_in (⟨hPX, hDX, hS⟩ : Hp D (AL s) (AL s) s.heap _ _ (List.range 115) adX enX) hAL q h) (Af_in (⟨hPX, hDX, hS⟩ : Hp D (AL s) (AL s) s.heap _ _ (List.range 115) adX enX) hAL) (fun r_290 u_290 t_290 H locs ht_290 hvm_290 hw_290 hB_290 hz_290 hk_290 hS => ?_)
  obtain rfl : r_290 = spRing (xs (1 : Int32).toNatClampNeg) (xs (2 : Int32).toNatClampNeg) := hw_290
  have hPM := wl_kept hPM (fun i hi j hj => hdis i j (List.mem_range.mp hi) (List.mem_range.mp hj)) hk_290
  refine lv_aload_n hx hb dL_law_485 rfl (lv_at hl 1 rfl) ?_
  refine lv_aload_n hx hb dL_law_486 rfl (lv_at hl 3 rfl) ?_
  refine lv_iload_n hx hb dL_law_487 rfl (lv_at hl 0 rfl) ?_
  refine lv_iconst (v := 1) hx hb dL_law_488 (by decide) ?_
  refine lv_iadd hx hb dL_law_489 ?_
  rw [show (0 : Int32) + 1 = 1 by decide]
  refine va_sld hx hb hX hbl hbA hS (i := 1) (vp_in_iff.mpr (by decide)) dL_law_490 ?_
  refine lv_aload_n hx hb dL_law_491 rfl (lv_at hl 3 rfl) ?_
  refine lv_iload_n hx hb dL_law_492 rfl (lv_at hl 0 rfl) ?_
  refine lv_iconst (v := 2) hx hb dL_law_493 (by decide) ?_
  refine lv_iadd hx hb dL_law_494 ?_
  rw [show (0 : Int32) + 2 = 2 by decide]
  refine va_sld hx hb hX hbl hbA hS (i := 2) (vp_in_iff.mpr (by decide)) dL_law_495 ?_
  refine va_calli (va_runV (As := [.int (xs (1 : Int32).toNatClampNeg), .int (xs (2 : Int32).toNatClampNeg)]) (rest := [.int (spRing (xs (1 : Int32).toNatClampNeg) (xs (2 : Int32).toNatClampNeg))]) ⟨hx, hb, hml, hown, ht⟩ (c_X12_ring l D cy _ (List.range 20) adM enM (fun c h => List.mem_range.mpr h) (fun _ => 0) (fun _ => 0) (xs (1 : Int32).toNatClampNeg) (xs (2 : Int32).toNatClampNeg) y0 y6 y7) (kw_X12_ring ht tw_1101 ⟨Nat.le_of_ble_eq_true rfl, Nat.le_of_ble_eq_true rfl⟩) (preV_of (⟨hPM, hDM, hS⟩ : Hp D (AL s) (AL s) s.heap _ _ (List.range 20) adM enM) hK (List.mem_range.mpr (by decide)) y0 rfl) rfl rfl hl.1 rfl (lv_room (Nat.le_of_ble_eq_true rfl)) dL_law_496 ⟨Nat.le_of_ble_eq_true rfl, Nat.le_of_ble_eq_true rfl⟩) hS (fun q _ h => Af_in (⟨hPM, hDM, hS⟩ : Hp D (AL s) (AL s) s.heap _ _ (List.range 20) adM enM) hAL q h) (Af_in (⟨hPM, hDM, hS⟩ : Hp D (AL s) (AL s) s.heap _ _ (List.range 20) adM enM) hAL) (fun r_291 u_291 t_291 H locs ht_291 hvm_291 hw_291 hB_291 hz_291 hk_291 hS => ?_)
  obtain rfl : r_291 = spRing (xs (1 : Int32).toNatClampNeg) (xs (2 : Int32).toNatClampNeg) := hw_291
  refine lv_icmp_eq (tgt := 1171) hx hb dL_law_499 (by decide) (fun _ => ?_) (fun c_0 => absurd (rfl) c_0)
  exact law_end C0 hS (lv_sub hl [0, 1, 2, 3] rfl)
set_option maxHeartbeats 4000000 in
set_option maxRecDepth 100000 in
/-- the law at growth -/
theorem op_9 {p : Program} {e : Env} {s : State} {m : MethodId} {below : List Frame} {meth : Method} {c : Code} (l : Launch) {b : Nat} {xs : Nat → Int32} (C0 : lw_At p s m meth c b 5 xs) {D : va_G} {cy : Nat → ClassId} {adX adM : Nat → Nat} {enX enM : Nat → va_E} {H : Heap} {locs : List Loc} {ls : Array Slot} (hK : va_K D vwCl (tyl cy) s) (hFX : FX cy adX enX) (hFM : FMo cy adM enM) (hPX : va_P D vwCl (wl (List.range 115) adX enX) H) (hDX : va_D (AL s) (wl (List.range 115) adX enX)) (hPM : va_P D vwCl (wl (List.range 20) adM enM) H) (hDM : va_D (AL s) (wl (List.range 20) adM enM)) (hdis : ∀ i j, i < 115 → j < 20 → adX i ≠ adM j) (hS : va_S (AL s) s.heap H locs) (hl : lv_has ls 4 [(3, .int 0), (2, .ref (adM 0)), (1, .ref (adX 0)), (0, .ref b)]) : W p l e room_1 s m #[Value.ref b] below meth c H locs 135 27787 (lw_Z below #[Value.ref b] s) (F0 m 504 ls []) := by
  obtain ⟨hx, hb, hr, hml, hown, hts, hX, hbl, hlocks, hgv⟩ := id C0
  have ht : ∀ w ∈ TB, w.before #[Value.ref b] s = true := fun w h => hts w (TB_lw h)
  have hbA : ¬ (AL s) b := Nat.not_le.mpr hbl
  have hAL : ∀ q : Nat, s.heap.size ≤ q → AL s q := fun _ h => h
  obtain ⟨x0, x1, ⟨f10, x10⟩, x12, x13, x14, x16, xv, x70, x75, xs_, xc, x76⟩ := hFX
  obtain ⟨y0, y2, ⟨g3, y3, hg3⟩, y4, y5, y6, y7⟩ := hFM
  refine lv_aload_n hx hb dL_law_504 rfl (lv_at hl 2 rfl) ?_
  refine lv_aload_n hx hb dL_law_505 rfl (lv_at hl 3 rfl) ?_
  refine lv_iload_n hx hb dL_law_506 rfl (lv_at hl 0 rfl) ?_
  refine lv_iconst (v := 1) hx hb dL_law_507 (by decide) ?_
  refine lv_iadd hx hb dL_law_508 ?_
  rw [show (0 : Int32) + 1 = 1 by decide]
  refine va_sld hx hb hX hbl hbA hS (i := 1) (vp_in_iff.mpr (by decide)) dL_law_509 ?_
  refine lv_aload_n hx hb dL_law_510 rfl (lv_at hl 3 rfl) ?_
  refine lv_iload_n hx hb dL_law_511 rfl (lv_at hl 0 rfl) ?_
  refine lv_iconst (v := 2) hx hb dL_law_512 (by decide) ?_
  refine lv_iadd hx hb dL_law_513 ?_
  rw [show (0 : Int32) + 2 = 2 by decide]
  refine va_sld hx hb hX hbl hbA hS (i := 2) (vp_in_iff.mpr (by decide)) dL_law_514 ?_
  refine lv_aload_n hx hb dL_law_515 rfl (lv_at hl 3 rfl) ?_
  refine lv_iload_n hx hb dL_law_516 rfl (lv_at hl 0 rfl) ?_
  refine lv_iconst (v := 3) hx hb dL_law_517 (by decide) ?_
  refine lv_iadd hx hb dL_law_518 ?_
  rw [show (0 : Int32) + 3 = 3 by decide]
  refine va_sld hx hb hX hbl hbA hS (i := 3) (vp_in_iff.mpr (by decide)) dL_law_519 ?_
  refine va_calli (va_runV (As := [.int (xs (1 : Int32).toNatClampNeg), .int (xs (2 : Int32).toNatClampNeg), .int (xs (3 : Int32).toNatClampNeg)]) (rest := []) ⟨hx, hb, hml, hown, ht⟩ (c_X11_growth l D cy _ (List.range 115) adX enX (fun c h => List.mem_range.mpr h) 0 (xs (1 : Int32).toNatClampNeg) (xs (2 : Int32).toNatClampNeg) (xs (3 : Int32).toNatClampNeg) x0 x1) (kw_X11_growth ht tw_557 ⟨Nat.le_of_ble_eq_true rfl, Nat.le_of_ble_eq_true rfl⟩) (preV_of (⟨hPX, hDX, hS⟩ : Hp D (AL s) (AL s) s.heap _ _ (List.range 115) adX enX) hK (List.mem_range.mpr (by decide)) x0 rfl) rfl rfl hl.1 rfl (lv_room (Nat.le_of_ble_eq_true rfl)) dL_law_520 ⟨Nat.le_of_ble_eq_true rfl, Nat.le_of_ble_eq_true rfl⟩) hS (fun q h1 h2 => absurd h2 (Nat.not_le.mpr h1)) (fun q h => Nat.le_trans hS.1 h) (fun r_292 u_292 t_292 H locs ht_292 hvm_292 hw_292 hB_292 hz_292 hk_292 hS => ?_)
  obtain rfl : r_292 = if wi (xs (1 : Int32).toNatClampNeg) 1 9 ∧ wi (xs (2 : Int32).toNatClampNeg) 1 9 ∧ wi (xs (3 : Int32).toNatClampNeg) 1 7 then (-3) else (-2) := hw_292
  have hPM := wl_keptN hPM hk_292
  refine lv_aload_n hx hb dL_law_523 rfl (lv_at hl 1 rfl) ?_
  refine lv_aload_n hx hb dL_law_524 rfl (lv_at hl 3 rfl) ?_
  refine lv_iload_n hx hb dL_law_525 rfl (lv_at hl 0 rfl) ?_
  refine lv_iconst (v := 1) hx hb dL_law_526 (by decide) ?_
  refine lv_iadd hx hb dL_law_527 ?_
  rw [show (0 : Int32) + 1 = 1 by decide]
  refine va_sld hx hb hX hbl hbA hS (i := 1) (vp_in_iff.mpr (by decide)) dL_law_528 ?_
  refine lv_aload_n hx hb dL_law_529 rfl (lv_at hl 3 rfl) ?_
  refine lv_iload_n hx hb dL_law_530 rfl (lv_at hl 0 rfl) ?_
  refine lv_iconst (v := 2) hx hb dL_law_531 (by decide) ?_
  refine lv_iadd hx hb dL_law_532 ?_
  rw [show (0 : Int32) + 2 = 2 by decide]
  refine va_sld hx hb hX hbl hbA hS (i := 2) (vp_in_iff.mpr (by decide)) dL_law_533 ?_
  refine lv_aload_n hx hb dL_law_534 rfl (lv_at hl 3 rfl) ?_
  refine lv_iload_n hx hb dL_law_535 rfl (lv_at hl 0 rfl) ?_
  refine lv_iconst (v := 3) hx hb dL_law_536 (by decide) ?_
  refine lv_iadd hx hb dL_law_537 ?_
  rw [show (0 : Int32) + 3 = 3 by decide]
  refine va_sld hx hb hX hbl hbA hS (i := 3) (vp_in_iff.mpr (by decide)) dL_law_538 ?_
  refine va_calli (va_runV (As := [.int (xs (1 : Int32).toNatClampNeg), .int (xs (2 : Int32).toNatClampNeg), .int (xs (3 : Int32).toNatClampNeg)]) (rest := [.int (if wi (xs (1 : Int32).toNatClampNeg) 1 9 ∧ wi (xs (2 : Int32).toNatClampNeg) 1 9 ∧ wi (xs (3 : Int32).toNatClampNeg) 1 7 then (-3) else (-2))]) ⟨hx, hb, hml, hown, ht⟩ (c_X12_growth l D cy _ (List.range 20) adM enM (fun c h => List.mem_range.mpr h) (xs (1 : Int32).toNatClampNeg) (xs (2 : Int32).toNatClampNeg) (xs (3 : Int32).toNatClampNeg) y0) (kw_X12_growth ht tw_1105 ⟨Nat.le_of_ble_eq_true rfl, Nat.le_of_ble_eq_true rfl⟩) (preV_of (⟨hPM, hDM, hS⟩ : Hp D (AL s) (AL s) s.heap _ _ (List.range 20) adM enM) hK (List.mem_range.mpr (by decide)) y0 rfl) rfl rfl hl.1 rfl (lv_room (Nat.le_of_ble_eq_true rfl)) dL_law_539 ⟨Nat.le_of_ble_eq_true rfl, Nat.le_of_ble_eq_true rfl⟩) hS (fun q _ h => Af_in (⟨hPM, hDM, hS⟩ : Hp D (AL s) (AL s) s.heap _ _ (List.range 20) adM enM) hAL q h) (Af_in (⟨hPM, hDM, hS⟩ : Hp D (AL s) (AL s) s.heap _ _ (List.range 20) adM enM) hAL) (fun r_293 u_293 t_293 H locs ht_293 hvm_293 hw_293 hB_293 hz_293 hk_293 hS => ?_)
  obtain rfl : r_293 = if wi (xs (1 : Int32).toNatClampNeg) 1 9 ∧ wi (xs (2 : Int32).toNatClampNeg) 1 9 ∧ wi (xs (3 : Int32).toNatClampNeg) 1 7 then (-3) else (-2) := hw_293
  refine lv_icmp_eq (tgt := 1171) hx hb dL_law_542 (by decide) (fun _ => ?_) (fun c_0 => absurd (rfl) c_0)
  exact law_end C0 hS (lv_sub hl [0, 1, 2, 3] rfl)
set_option maxHeartbeats 4000000 in
set_option maxRecDepth 100000 in
/-- the law at close -/
theorem op_10 {p : Program} {e : Env} {s : State} {m : MethodId} {below : List Frame} {meth : Method} {c : Code} (l : Launch) {b : Nat} {xs : Nat → Int32} (C0 : lw_At p s m meth c b 5 xs) {D : va_G} {cy : Nat → ClassId} {adX adM : Nat → Nat} {enX enM : Nat → va_E} {H : Heap} {locs : List Loc} {ls : Array Slot} (hK : va_K D vwCl (tyl cy) s) (hFX : FX cy adX enX) (hFM : FMo cy adM enM) (hPX : va_P D vwCl (wl (List.range 115) adX enX) H) (hDX : va_D (AL s) (wl (List.range 115) adX enX)) (hPM : va_P D vwCl (wl (List.range 20) adM enM) H) (hDM : va_D (AL s) (wl (List.range 20) adM enM)) (hdis : ∀ i j, i < 115 → j < 20 → adX i ≠ adM j) (hS : va_S (AL s) s.heap H locs) (hl : lv_has ls 4 [(3, .int 0), (2, .ref (adM 0)), (1, .ref (adX 0)), (0, .ref b)]) : W p l e room_1 s m #[Value.ref b] below meth c H locs 135 27787 (lw_Z below #[Value.ref b] s) (F0 m 547 ls []) := by
  obtain ⟨hx, hb, hr, hml, hown, hts, hX, hbl, hlocks, hgv⟩ := id C0
  have ht : ∀ w ∈ TB, w.before #[Value.ref b] s = true := fun w h => hts w (TB_lw h)
  have hbA : ¬ (AL s) b := Nat.not_le.mpr hbl
  have hAL : ∀ q : Nat, s.heap.size ≤ q → AL s q := fun _ h => h
  obtain ⟨x0, x1, ⟨f10, x10⟩, x12, x13, x14, x16, xv, x70, x75, xs_, xc, x76⟩ := hFX
  obtain ⟨y0, y2, ⟨g3, y3, hg3⟩, y4, y5, y6, y7⟩ := hFM
  refine lv_aload_n hx hb dL_law_547 rfl (lv_at hl 2 rfl) ?_
  refine va_calli (va_runV (As := []) (rest := []) ⟨hx, hb, hml, hown, ht⟩ (c_X11_close l D cy _ (List.range 115) adX enX (fun c h => List.mem_range.mpr h) 0 x0 x1) (kw_X11_close ht tw_574 ⟨Nat.le_of_ble_eq_true rfl, Nat.le_of_ble_eq_true rfl⟩) (preV_of (⟨hPX, hDX, hS⟩ : Hp D (AL s) (AL s) s.heap _ _ (List.range 115) adX enX) hK (List.mem_range.mpr (by decide)) x0 rfl) rfl rfl hl.1 rfl (lv_room (Nat.le_of_ble_eq_true rfl)) dL_law_548 ⟨Nat.le_of_ble_eq_true rfl, Nat.le_of_ble_eq_true rfl⟩) hS (fun q h1 h2 => absurd h2 (Nat.not_le.mpr h1)) (fun q h => Nat.le_trans hS.1 h) (fun r_294 u_294 t_294 H locs ht_294 hvm_294 hw_294 hB_294 hz_294 hk_294 hS => ?_)
  obtain rfl : r_294 = (-3) := hw_294
  have hPM := wl_keptN hPM hk_294
  refine lv_aload_n hx hb dL_law_551 rfl (lv_at hl 1 rfl) ?_
  refine va_calli (va_runV (As := []) (rest := [.int ((-3))]) ⟨hx, hb, hml, hown, ht⟩ (c_X12_close l D cy _ (List.range 20) adM enM (fun c h => List.mem_range.mpr h) y0) (kw_X12_close ht tw_1113 ⟨Nat.le_of_ble_eq_true rfl, Nat.le_of_ble_eq_true rfl⟩) (preV_of (⟨hPM, hDM, hS⟩ : Hp D (AL s) (AL s) s.heap _ _ (List.range 20) adM enM) hK (List.mem_range.mpr (by decide)) y0 rfl) rfl rfl hl.1 rfl (lv_room (Nat.le_of_ble_eq_true rfl)) dL_law_552 ⟨Nat.le_of_ble_eq_true rfl, Nat.le_of_ble_eq_true rfl⟩) hS (fun q _ h => Af_in (⟨hPM, hDM, hS⟩ : Hp D (AL s) (AL s) s.heap _ _ (List.range 20) adM enM) hAL q h) (Af_in (⟨hPM, hDM, hS⟩ : Hp D (AL s) (AL s) s.heap _ _ (List.range 20) adM enM) hAL) (fun r_295 u_295 t_295 H locs ht_295 hvm_295 hw_295 hB_295 hz_295 hk_295 hS => ?_)
  obtain rfl : r_295 = (-3) := hw_295
  refine lv_icmp_eq (tgt := 1171) hx hb dL_law_555 (by decide) (fun _ => ?_) (fun c_0 => absurd (rfl) c_0)
  exact law_end C0 hS (lv_sub hl [0, 1, 2, 3] rfl)
set_option maxHeartbeats 4000000 in
set_option maxRecDepth 100000 in
/-- the law at closed -/
theorem op_11 {p : Program} {e : Env} {s : State} {m : MethodId} {below : List Frame} {meth : Method} {c : Code} (l : Launch) {b : Nat} {xs : Nat → Int32} (C0 : lw_At p s m meth c b 5 xs) {D : va_G} {cy : Nat → ClassId} {adX adM : Nat → Nat} {enX enM : Nat → va_E} {H : Heap} {locs : List Loc} {ls : Array Slot} (hK : va_K D vwCl (tyl cy) s) (hFX : FX cy adX enX) (hFM : FMo cy adM enM) (hPX : va_P D vwCl (wl (List.range 115) adX enX) H) (hDX : va_D (AL s) (wl (List.range 115) adX enX)) (hPM : va_P D vwCl (wl (List.range 20) adM enM) H) (hDM : va_D (AL s) (wl (List.range 20) adM enM)) (hdis : ∀ i j, i < 115 → j < 20 → adX i ≠ adM j) (hS : va_S (AL s) s.heap H locs) (hl : lv_has ls 4 [(3, .int 0), (2, .ref (adM 0)), (1, .ref (adX 0)), (0, .ref b)]) : W p l e room_1 s m #[Value.ref b] below meth c H locs 135 27787 (lw_Z below #[Value.ref b] s) (F0 m 560 ls []) := by
  obtain ⟨hx, hb, hr, hml, hown, hts, hX, hbl, hlocks, hgv⟩ := id C0
  have ht : ∀ w ∈ TB, w.before #[Value.ref b] s = true := fun w h => hts w (TB_lw h)
  have hbA : ¬ (AL s) b := Nat.not_le.mpr hbl
  have hAL : ∀ q : Nat, s.heap.size ≤ q → AL s q := fun _ h => h
  obtain ⟨x0, x1, ⟨f10, x10⟩, x12, x13, x14, x16, xv, x70, x75, xs_, xc, x76⟩ := hFX
  obtain ⟨y0, y2, ⟨g3, y3, hg3⟩, y4, y5, y6, y7⟩ := hFM
  refine lv_aload_n hx hb dL_law_560 rfl (lv_at hl 2 rfl) ?_
  refine lv_aload_n hx hb dL_law_561 rfl (lv_at hl 3 rfl) ?_
  refine lv_iload_n hx hb dL_law_562 rfl (lv_at hl 0 rfl) ?_
  refine lv_iconst (v := 1) hx hb dL_law_563 (by decide) ?_
  refine lv_iadd hx hb dL_law_564 ?_
  rw [show (0 : Int32) + 1 = 1 by decide]
  refine va_sld hx hb hX hbl hbA hS (i := 1) (vp_in_iff.mpr (by decide)) dL_law_565 ?_
  refine va_calli (va_runV (As := [.int (xs (1 : Int32).toNatClampNeg)]) (rest := []) ⟨hx, hb, hml, hown, ht⟩ (c_X11_closed l D cy _ (List.range 115) adX enX (fun c h => List.mem_range.mpr h) 0 (xs (1 : Int32).toNatClampNeg) x0 x70) (kw_X11_closed ht tw_640 ⟨Nat.le_of_ble_eq_true rfl, Nat.le_of_ble_eq_true rfl⟩) (preV_of (⟨hPX, hDX, hS⟩ : Hp D (AL s) (AL s) s.heap _ _ (List.range 115) adX enX) hK (List.mem_range.mpr (by decide)) x0 rfl) rfl rfl hl.1 rfl (lv_room (Nat.le_of_ble_eq_true rfl)) dL_law_566 ⟨Nat.le_of_ble_eq_true rfl, Nat.le_of_ble_eq_true rfl⟩) hS (fun q h1 h2 => absurd h2 (Nat.not_le.mpr h1)) (fun q h => Nat.le_trans hS.1 h) (fun r_296 u_296 t_296 H locs ht_296 hvm_296 hw_296 hB_296 hz_296 hk_296 hS => ?_)
  obtain rfl : r_296 = if wi (xs (1 : Int32).toNatClampNeg) 0 4 then (-3) else (-2) := hw_296
  have hPM := wl_keptN hPM hk_296
  refine lv_aload_n hx hb dL_law_569 rfl (lv_at hl 1 rfl) ?_
  refine lv_aload_n hx hb dL_law_570 rfl (lv_at hl 3 rfl) ?_
  refine lv_iload_n hx hb dL_law_571 rfl (lv_at hl 0 rfl) ?_
  refine lv_iconst (v := 1) hx hb dL_law_572 (by decide) ?_
  refine lv_iadd hx hb dL_law_573 ?_
  rw [show (0 : Int32) + 1 = 1 by decide]
  refine va_sld hx hb hX hbl hbA hS (i := 1) (vp_in_iff.mpr (by decide)) dL_law_574 ?_
  refine va_calli (va_runV (As := [.int (xs (1 : Int32).toNatClampNeg)]) (rest := [.int (if wi (xs (1 : Int32).toNatClampNeg) 0 4 then (-3) else (-2))]) ⟨hx, hb, hml, hown, ht⟩ (c_X12_closed l D cy _ (List.range 20) adM enM (fun c h => List.mem_range.mpr h) (xs (1 : Int32).toNatClampNeg) y0) (kw_X12_closed ht tw_1137 ⟨Nat.le_of_ble_eq_true rfl, Nat.le_of_ble_eq_true rfl⟩) (preV_of (⟨hPM, hDM, hS⟩ : Hp D (AL s) (AL s) s.heap _ _ (List.range 20) adM enM) hK (List.mem_range.mpr (by decide)) y0 rfl) rfl rfl hl.1 rfl (lv_room (Nat.le_of_ble_eq_true rfl)) dL_law_575 ⟨Nat.le_of_ble_eq_true rfl, Nat.le_of_ble_eq_true rfl⟩) hS (fun q _ h => Af_in (⟨hPM, hDM, hS⟩ : Hp D (AL s) (AL s) s.heap _ _ (List.range 20) adM enM) hAL q h) (Af_in (⟨hPM, hDM, hS⟩ : Hp D (AL s) (AL s) s.heap _ _ (List.range 20) adM enM) hAL) (fun r_297 u_297 t_297 H locs ht_297 hvm_297 hw_297 hB_297 hz_297 hk_297 hS => ?_)
  obtain rfl : r_297 = if wi (xs (1 : Int32).toNatClampNeg) 0 4 then (-3) else (-2) := hw_297
  refine lv_icmp_eq (tgt := 1171) hx hb dL_law_578 (by decide) (fun _ => ?_) (fun c_0 => absurd (rfl) c_0)
  exact law_end C0 hS (lv_sub hl [0, 1, 2, 3] rfl)
set_option maxHeartbeats 4000000 in
set_option maxRecDepth 100000 in
/-- the law at product -/
theorem op_12 {p : Program} {e : Env} {s : State} {m : MethodId} {below : List Frame} {meth : Method} {c : Code} (l : Launch) {b : Nat} {xs : Nat → Int32} (C0 : lw_At p s m meth c b 5 xs) {D : va_G} {cy : Nat → ClassId} {adX adM : Nat → Nat} {enX enM : Nat → va_E} {H : Heap} {locs : List Loc} {ls : Array Slot} (hK : va_K D vwCl (tyl cy) s) (hFX : FX cy adX enX) (hFM : FMo cy adM enM) (hPX : va_P D vwCl (wl (List.range 115) adX enX) H) (hDX : va_D (AL s) (wl (List.range 115) adX enX)) (hPM : va_P D vwCl (wl (List.range 20) adM enM) H) (hDM : va_D (AL s) (wl (List.range 20) adM enM)) (hdis : ∀ i j, i < 115 → j < 20 → adX i ≠ adM j) (hS : va_S (AL s) s.heap H locs) (hl : lv_has ls 4 [(3, .int 0), (2, .ref (adM 0)), (1, .ref (adX 0)), (0, .ref b)]) : W p l e room_1 s m #[Value.ref b] below meth c H locs 135 27787 (lw_Z below #[Value.ref b] s) (F0 m 583 ls []) := by
  obtain ⟨hx, hb, hr, hml, hown, hts, hX, hbl, hlocks, hgv⟩ := id C0
  have ht : ∀ w ∈ TB, w.before #[Value.ref b] s = true := fun w h => hts w (TB_lw h)
  have hbA : ¬ (AL s) b := Nat.not_le.mpr hbl
  have hAL : ∀ q : Nat, s.heap.size ≤ q → AL s q := fun _ h => h
  obtain ⟨x0, x1, ⟨f10, x10⟩, x12, x13, x14, x16, xv, x70, x75, xs_, xc, x76⟩ := hFX
  obtain ⟨y0, y2, ⟨g3, y3, hg3⟩, y4, y5, y6, y7⟩ := hFM
  refine lv_aload_n hx hb dL_law_583 rfl (lv_at hl 2 rfl) ?_
  refine lv_aload_n hx hb dL_law_584 rfl (lv_at hl 3 rfl) ?_
  refine lv_iload_n hx hb dL_law_585 rfl (lv_at hl 0 rfl) ?_
  refine lv_iconst (v := 1) hx hb dL_law_586 (by decide) ?_
  refine lv_iadd hx hb dL_law_587 ?_
  rw [show (0 : Int32) + 1 = 1 by decide]
  refine va_sld hx hb hX hbl hbA hS (i := 1) (vp_in_iff.mpr (by decide)) dL_law_588 ?_
  refine lv_aload_n hx hb dL_law_589 rfl (lv_at hl 3 rfl) ?_
  refine lv_iload_n hx hb dL_law_590 rfl (lv_at hl 0 rfl) ?_
  refine lv_iconst (v := 2) hx hb dL_law_591 (by decide) ?_
  refine lv_iadd hx hb dL_law_592 ?_
  rw [show (0 : Int32) + 2 = 2 by decide]
  refine va_sld hx hb hX hbl hbA hS (i := 2) (vp_in_iff.mpr (by decide)) dL_law_593 ?_
  refine lv_aload_n hx hb dL_law_594 rfl (lv_at hl 3 rfl) ?_
  refine lv_iload_n hx hb dL_law_595 rfl (lv_at hl 0 rfl) ?_
  refine lv_iconst (v := 3) hx hb dL_law_596 (by decide) ?_
  refine lv_iadd hx hb dL_law_597 ?_
  rw [show (0 : Int32) + 3 = 3 by decide]
  refine va_sld hx hb hX hbl hbA hS (i := 3) (vp_in_iff.mpr (by decide)) dL_law_598 ?_
  refine va_calll (va_runV (As := [.int (xs (1 : Int32).toNatClampNeg), .int (xs (2 : Int32).toNatClampNeg), .int (xs (3 : Int32).toNatClampNeg)]) (rest := []) ⟨hx, hb, hml, hown, ht⟩ (c_X11_product l D cy _ (List.range 115) adX enX (fun c h => List.mem_range.mpr h) 0 (xs (1 : Int32).toNatClampNeg) (xs (2 : Int32).toNatClampNeg) (xs (3 : Int32).toNatClampNeg) x0 x70) (kw_X11_product ht tw_652 ⟨Nat.le_of_ble_eq_true rfl, Nat.le_of_ble_eq_true rfl⟩) (preV_of (⟨hPX, hDX, hS⟩ : Hp D (AL s) (AL s) s.heap _ _ (List.range 115) adX enX) hK (List.mem_range.mpr (by decide)) x0 rfl) rfl rfl hl.1 rfl (lv_room (Nat.le_of_ble_eq_true rfl)) dL_law_599 ⟨Nat.le_of_ble_eq_true rfl, Nat.le_of_ble_eq_true rfl⟩) hS (fun q h1 h2 => absurd h2 (Nat.not_le.mpr h1)) (fun q h => Nat.le_trans hS.1 h) (fun r_298 u_298 t_298 H locs ht_298 hvm_298 hw_298 hB_298 hz_298 hk_298 hS => ?_)
  obtain rfl : r_298 = (-9223372036854775808) := hw_298
  have hPM := wl_keptN hPM hk_298
  refine lv_aload_n hx hb dL_law_602 rfl (lv_at hl 1 rfl) ?_
  refine lv_aload_n hx hb dL_law_603 rfl (lv_at hl 3 rfl) ?_
  refine lv_iload_n hx hb dL_law_604 rfl (lv_at hl 0 rfl) ?_
  refine lv_iconst (v := 1) hx hb dL_law_605 (by decide) ?_
  refine lv_iadd hx hb dL_law_606 ?_
  rw [show (0 : Int32) + 1 = 1 by decide]
  refine va_sld hx hb hX hbl hbA hS (i := 1) (vp_in_iff.mpr (by decide)) dL_law_607 ?_
  refine lv_aload_n hx hb dL_law_608 rfl (lv_at hl 3 rfl) ?_
  refine lv_iload_n hx hb dL_law_609 rfl (lv_at hl 0 rfl) ?_
  refine lv_iconst (v := 2) hx hb dL_law_610 (by decide) ?_
  refine lv_iadd hx hb dL_law_611 ?_
  rw [show (0 : Int32) + 2 = 2 by decide]
  refine va_sld hx hb hX hbl hbA hS (i := 2) (vp_in_iff.mpr (by decide)) dL_law_612 ?_
  refine lv_aload_n hx hb dL_law_613 rfl (lv_at hl 3 rfl) ?_
  refine lv_iload_n hx hb dL_law_614 rfl (lv_at hl 0 rfl) ?_
  refine lv_iconst (v := 3) hx hb dL_law_615 (by decide) ?_
  refine lv_iadd hx hb dL_law_616 ?_
  rw [show (0 : Int32) + 3 = 3 by decide]
  refine va_sld hx hb hX hbl hbA hS (i := 3) (vp_in_iff.mpr (by decide)) dL_law_617 ?_
  refine va_calll (va_runV (As := [.int (xs (1 : Int32).toNatClampNeg), .int (xs (2 : Int32).toNatClampNeg), .int (xs (3 : Int32).toNatClampNeg)]) (rest := [.long ((-9223372036854775808))]) ⟨hx, hb, hml, hown, ht⟩ (c_X12_product l D cy _ (List.range 20) adM enM (fun c h => List.mem_range.mpr h) (xs (1 : Int32).toNatClampNeg) (xs (2 : Int32).toNatClampNeg) (xs (3 : Int32).toNatClampNeg) y0) (kw_X12_product ht tw_1154 ⟨Nat.le_of_ble_eq_true rfl, Nat.le_of_ble_eq_true rfl⟩) (preV_of (⟨hPM, hDM, hS⟩ : Hp D (AL s) (AL s) s.heap _ _ (List.range 20) adM enM) hK (List.mem_range.mpr (by decide)) y0 rfl) rfl rfl hl.1 rfl (lv_room (Nat.le_of_ble_eq_true rfl)) dL_law_618 ⟨Nat.le_of_ble_eq_true rfl, Nat.le_of_ble_eq_true rfl⟩) hS (fun q _ h => Af_in (⟨hPM, hDM, hS⟩ : Hp D (AL s) (AL s) s.heap _ _ (List.range 20) adM enM) hAL q h) (Af_in (⟨hPM, hDM, hS⟩ : Hp D (AL s) (AL s) s.heap _ _ (List.range 20) adM enM) hAL) (fun r_299 u_299 t_299 H locs ht_299 hvm_299 hw_299 hB_299 hz_299 hk_299 hS => ?_)
  obtain rfl : r_299 = (-9223372036854775808) := hw_299
  refine W.lcmp hx hb dL_law_621 ?_
  refine lv_if_eq (tgt := 1171) hx hb dL_law_622 (by decide) (fun _ => ?_) (fun c_0 => absurd ((lg_cmp_eq _ _).mpr rfl) c_0)
  exact law_end C0 hS (lv_sub hl [0, 1, 2, 3] rfl)
set_option maxHeartbeats 4000000 in
set_option maxRecDepth 100000 in
/-- the law at times -/
theorem op_13 {p : Program} {e : Env} {s : State} {m : MethodId} {below : List Frame} {meth : Method} {c : Code} (l : Launch) {b : Nat} {xs : Nat → Int32} (C0 : lw_At p s m meth c b 5 xs) {D : va_G} {cy : Nat → ClassId} {adX adM : Nat → Nat} {enX enM : Nat → va_E} {H : Heap} {locs : List Loc} {ls : Array Slot} (hK : va_K D vwCl (tyl cy) s) (hFX : FX cy adX enX) (hFM : FMo cy adM enM) (hPX : va_P D vwCl (wl (List.range 115) adX enX) H) (hDX : va_D (AL s) (wl (List.range 115) adX enX)) (hPM : va_P D vwCl (wl (List.range 20) adM enM) H) (hDM : va_D (AL s) (wl (List.range 20) adM enM)) (hdis : ∀ i j, i < 115 → j < 20 → adX i ≠ adM j) (hS : va_S (AL s) s.heap H locs) (hl : lv_has ls 4 [(3, .int 0), (2, .ref (adM 0)), (1, .ref (adX 0)), (0, .ref b)]) : W p l e room_1 s m #[Value.ref b] below meth c H locs 135 27787 (lw_Z below #[Value.ref b] s) (F0 m 627 ls []) := by
  obtain ⟨hx, hb, hr, hml, hown, hts, hX, hbl, hlocks, hgv⟩ := id C0
  have ht : ∀ w ∈ TB, w.before #[Value.ref b] s = true := fun w h => hts w (TB_lw h)
  have hbA : ¬ (AL s) b := Nat.not_le.mpr hbl
  have hAL : ∀ q : Nat, s.heap.size ≤ q → AL s q := fun _ h => h
  obtain ⟨x0, x1, ⟨f10, x10⟩, x12, x13, x14, x16, xv, x70, x75, xs_, xc, x76⟩ := hFX
  obtain ⟨y0, y2, ⟨g3, y3, hg3⟩, y4, y5, y6, y7⟩ := hFM
  refine lv_aload_n hx hb dL_law_627 rfl (lv_at hl 2 rfl) ?_
  refine lv_aload_n hx hb dL_law_628 rfl (lv_at hl 3 rfl) ?_
  refine lv_iload_n hx hb dL_law_629 rfl (lv_at hl 0 rfl) ?_
  refine lv_iconst (v := 1) hx hb dL_law_630 (by decide) ?_
  refine lv_iadd hx hb dL_law_631 ?_
  rw [show (0 : Int32) + 1 = 1 by decide]
  refine va_sld hx hb hX hbl hbA hS (i := 1) (vp_in_iff.mpr (by decide)) dL_law_632 ?_
  refine lv_aload_n hx hb dL_law_633 rfl (lv_at hl 3 rfl) ?_
  refine lv_iload_n hx hb dL_law_634 rfl (lv_at hl 0 rfl) ?_
  refine lv_iconst (v := 2) hx hb dL_law_635 (by decide) ?_
  refine lv_iadd hx hb dL_law_636 ?_
  rw [show (0 : Int32) + 2 = 2 by decide]
  refine va_sld hx hb hX hbl hbA hS (i := 2) (vp_in_iff.mpr (by decide)) dL_law_637 ?_
  refine va_calli (va_runV (As := [.int (xs (1 : Int32).toNatClampNeg), .int (xs (2 : Int32).toNatClampNeg)]) (rest := []) ⟨hx, hb, hml, hown, ht⟩ (c_X11_times l D cy _ (List.range 115) adX enX (fun c h => List.mem_range.mpr h) 0 (xs (1 : Int32).toNatClampNeg) (xs (2 : Int32).toNatClampNeg) x0 x70) (kw_X11_times ht tw_665 ⟨Nat.le_of_ble_eq_true rfl, Nat.le_of_ble_eq_true rfl⟩) (preV_of (⟨hPX, hDX, hS⟩ : Hp D (AL s) (AL s) s.heap _ _ (List.range 115) adX enX) hK (List.mem_range.mpr (by decide)) x0 rfl) rfl rfl hl.1 rfl (lv_room (Nat.le_of_ble_eq_true rfl)) dL_law_638 ⟨Nat.le_of_ble_eq_true rfl, Nat.le_of_ble_eq_true rfl⟩) hS (fun q h1 h2 => absurd h2 (Nat.not_le.mpr h1)) (fun q h => Nat.le_trans hS.1 h) (fun r_300 u_300 t_300 H locs ht_300 hvm_300 hw_300 hB_300 hz_300 hk_300 hS => ?_)
  obtain rfl : r_300 = (-1) := hw_300
  have hPM := wl_keptN hPM hk_300
  refine lv_aload_n hx hb dL_law_641 rfl (lv_at hl 1 rfl) ?_
  refine lv_aload_n hx hb dL_law_642 rfl (lv_at hl 3 rfl) ?_
  refine lv_iload_n hx hb dL_law_643 rfl (lv_at hl 0 rfl) ?_
  refine lv_iconst (v := 1) hx hb dL_law_644 (by decide) ?_
  refine lv_iadd hx hb dL_law_645 ?_
  rw [show (0 : Int32) + 1 = 1 by decide]
  refine va_sld hx hb hX hbl hbA hS (i := 1) (vp_in_iff.mpr (by decide)) dL_law_646 ?_
  refine lv_aload_n hx hb dL_law_647 rfl (lv_at hl 3 rfl) ?_
  refine lv_iload_n hx hb dL_law_648 rfl (lv_at hl 0 rfl) ?_
  refine lv_iconst (v := 2) hx hb dL_law_649 (by decide) ?_
  refine lv_iadd hx hb dL_law_650 ?_
  rw [show (0 : Int32) + 2 = 2 by decide]
  refine va_sld hx hb hX hbl hbA hS (i := 2) (vp_in_iff.mpr (by decide)) dL_law_651 ?_
  refine va_calli (va_runV (As := [.int (xs (1 : Int32).toNatClampNeg), .int (xs (2 : Int32).toNatClampNeg)]) (rest := [.int ((-1))]) ⟨hx, hb, hml, hown, ht⟩ (c_X12_times l D cy _ (List.range 20) adM enM (fun c h => List.mem_range.mpr h) (xs (1 : Int32).toNatClampNeg) (xs (2 : Int32).toNatClampNeg) y0) (kw_X12_times ht tw_1162 ⟨Nat.le_of_ble_eq_true rfl, Nat.le_of_ble_eq_true rfl⟩) (preV_of (⟨hPM, hDM, hS⟩ : Hp D (AL s) (AL s) s.heap _ _ (List.range 20) adM enM) hK (List.mem_range.mpr (by decide)) y0 rfl) rfl rfl hl.1 rfl (lv_room (Nat.le_of_ble_eq_true rfl)) dL_law_652 ⟨Nat.le_of_ble_eq_true rfl, Nat.le_of_ble_eq_true rfl⟩) hS (fun q _ h => Af_in (⟨hPM, hDM, hS⟩ : Hp D (AL s) (AL s) s.heap _ _ (List.range 20) adM enM) hAL q h) (Af_in (⟨hPM, hDM, hS⟩ : Hp D (AL s) (AL s) s.heap _ _ (List.range 20) adM enM) hAL) (fun r_301 u_301 t_301 H locs ht_301 hvm_301 hw_301 hB_301 hz_301 hk_301 hS => ?_)
  obtain rfl : r_301 = (-1) := hw_301
  refine lv_icmp_eq (tgt := 1171) hx hb dL_law_655 (by decide) (fun _ => ?_) (fun c_0 => absurd (rfl) c_0)
  exact law_end C0 hS (lv_sub hl [0, 1, 2, 3] rfl)
set_option maxHeartbeats 4000000 in
set_option maxRecDepth 100000 in
/-- the law at word -/
theorem op_14 {p : Program} {e : Env} {s : State} {m : MethodId} {below : List Frame} {meth : Method} {c : Code} (l : Launch) {b : Nat} {xs : Nat → Int32} (C0 : lw_At p s m meth c b 5 xs) {D : va_G} {cy : Nat → ClassId} {adX adM : Nat → Nat} {enX enM : Nat → va_E} {H : Heap} {locs : List Loc} {ls : Array Slot} (hK : va_K D vwCl (tyl cy) s) (hFX : FX cy adX enX) (hFM : FMo cy adM enM) (hPX : va_P D vwCl (wl (List.range 115) adX enX) H) (hDX : va_D (AL s) (wl (List.range 115) adX enX)) (hPM : va_P D vwCl (wl (List.range 20) adM enM) H) (hDM : va_D (AL s) (wl (List.range 20) adM enM)) (hdis : ∀ i j, i < 115 → j < 20 → adX i ≠ adM j) (hS : va_S (AL s) s.heap H locs) (hl : lv_has ls 4 [(3, .int 0), (2, .ref (adM 0)), (1, .ref (adX 0)), (0, .ref b)]) : W p l e room_1 s m #[Value.ref b] below meth c H locs 135 27787 (lw_Z below #[Value.ref b] s) (F0 m 660 ls []) := by
  obtain ⟨hx, hb, hr, hml, hown, hts, hX, hbl, hlocks, hgv⟩ := id C0
  have ht : ∀ w ∈ TB, w.before #[Value.ref b] s = true := fun w h => hts w (TB_lw h)
  have hbA : ¬ (AL s) b := Nat.not_le.mpr hbl
  have hAL : ∀ q : Nat, s.heap.size ≤ q → AL s q := fun _ h => h
  obtain ⟨x0, x1, ⟨f10, x10⟩, x12, x13, x14, x16, xv, x70, x75, xs_, xc, x76⟩ := hFX
  obtain ⟨y0, y2, ⟨g3, y3, hg3⟩, y4, y5, y6, y7⟩ := hFM
  refine lv_aload_n hx hb dL_law_660 rfl (lv_at hl 2 rfl) ?_
  refine lv_aload_n hx hb dL_law_661 rfl (lv_at hl 3 rfl) ?_
  refine lv_iload_n hx hb dL_law_662 rfl (lv_at hl 0 rfl) ?_
  refine lv_iconst (v := 1) hx hb dL_law_663 (by decide) ?_
  refine lv_iadd hx hb dL_law_664 ?_
  rw [show (0 : Int32) + 1 = 1 by decide]
  refine va_sld hx hb hX hbl hbA hS (i := 1) (vp_in_iff.mpr (by decide)) dL_law_665 ?_
  refine lv_aload_n hx hb dL_law_666 rfl (lv_at hl 3 rfl) ?_
  refine lv_iload_n hx hb dL_law_667 rfl (lv_at hl 0 rfl) ?_
  refine lv_iconst (v := 2) hx hb dL_law_668 (by decide) ?_
  refine lv_iadd hx hb dL_law_669 ?_
  rw [show (0 : Int32) + 2 = 2 by decide]
  refine va_sld hx hb hX hbl hbA hS (i := 2) (vp_in_iff.mpr (by decide)) dL_law_670 ?_
  refine lv_aload_n hx hb dL_law_671 rfl (lv_at hl 3 rfl) ?_
  refine lv_iload_n hx hb dL_law_672 rfl (lv_at hl 0 rfl) ?_
  refine lv_iconst (v := 3) hx hb dL_law_673 (by decide) ?_
  refine lv_iadd hx hb dL_law_674 ?_
  rw [show (0 : Int32) + 3 = 3 by decide]
  refine va_sld hx hb hX hbl hbA hS (i := 3) (vp_in_iff.mpr (by decide)) dL_law_675 ?_
  refine lv_aload_n hx hb dL_law_676 rfl (lv_at hl 3 rfl) ?_
  refine lv_iload_n hx hb dL_law_677 rfl (lv_at hl 0 rfl) ?_
  refine lv_iconst (v := 4) hx hb dL_law_678 (by decide) ?_
  refine lv_iadd hx hb dL_law_679 ?_
  rw [show (0 : Int32) + 4 = 4 by decide]
  refine va_sld hx hb hX hbl hbA hS (i := 4) (vp_in_iff.mpr (by decide)) dL_law_680 ?_
  refine va_calli (va_runV (As := [.int (xs (1 : Int32).toNatClampNeg), .int (xs (2 : Int32).toNatClampNeg), .int (xs (3 : Int32).toNatClampNeg), .int (xs (4 : Int32).toNatClampNeg)]) (rest := []) ⟨hx, hb, hml, hown, ht⟩ (c_X11_word l D cy _ (List.range 115) adX enX (fun c h => List.mem_range.mpr h) 0 (xs (1 : Int32).toNatClampNeg) (xs (2 : Int32).toNatClampNeg) (xs (3 : Int32).toNatClampNeg) (xs (4 : Int32).toNatClampNeg) x0 x1 x75 xs_) (kw_X11_word ht tw_673 ⟨Nat.le_of_ble_eq_true rfl, Nat.le_of_ble_eq_true rfl⟩) (preV_of (⟨hPX, hDX, hS⟩ : Hp D (AL s) (AL s) s.heap _ _ (List.range 115) adX enX) hK (List.mem_range.mpr (by decide)) x0 rfl) rfl rfl hl.1 rfl (lv_room (Nat.le_of_ble_eq_true rfl)) dL_law_681 ⟨Nat.le_of_ble_eq_true rfl, Nat.le_of_ble_eq_true rfl⟩) hS (fun q _ h => Af_in (⟨hPX, hDX, hS⟩ : Hp D (AL s) (AL s) s.heap _ _ (List.range 115) adX enX) hAL q h) (Af_in (⟨hPX, hDX, hS⟩ : Hp D (AL s) (AL s) s.heap _ _ (List.range 115) adX enX) hAL) (fun r_302 u_302 t_302 H locs ht_302 hvm_302 hw_302 hB_302 hz_302 hk_302 hS => ?_)
  obtain rfl : r_302 = sp3 (xs (1 : Int32).toNatClampNeg) (xs (2 : Int32).toNatClampNeg) := hw_302
  have hPM := wl_kept hPM (fun i hi j hj => hdis i j (List.mem_range.mp hi) (List.mem_range.mp hj)) hk_302
  refine lv_aload_n hx hb dL_law_684 rfl (lv_at hl 1 rfl) ?_
  refine lv_aload_n hx hb dL_law_685 rfl (lv_at hl 3 rfl) ?_
  refine lv_iload_n hx hb dL_law_686 rfl (lv_at hl 0 rfl) ?_
  refine lv_iconst (v := 1) hx hb dL_law_687 (by decide) ?_
  refine lv_iadd hx hb dL_law_688 ?_
  rw [show (0 : Int32) + 1 = 1 by decide]
  refine va_sld hx hb hX hbl hbA hS (i := 1) (vp_in_iff.mpr (by decide)) dL_law_689 ?_
  refine lv_aload_n hx hb dL_law_690 rfl (lv_at hl 3 rfl) ?_
  refine lv_iload_n hx hb dL_law_691 rfl (lv_at hl 0 rfl) ?_
  refine lv_iconst (v := 2) hx hb dL_law_692 (by decide) ?_
  refine lv_iadd hx hb dL_law_693 ?_
  rw [show (0 : Int32) + 2 = 2 by decide]
  refine va_sld hx hb hX hbl hbA hS (i := 2) (vp_in_iff.mpr (by decide)) dL_law_694 ?_
  refine lv_aload_n hx hb dL_law_695 rfl (lv_at hl 3 rfl) ?_
  refine lv_iload_n hx hb dL_law_696 rfl (lv_at hl 0 rfl) ?_
  refine lv_iconst (v := 3) hx hb dL_law_697 (by decide) ?_
  refine lv_iadd hx hb dL_law_698 ?_
  rw [show (0 : Int32) + 3 = 3 by decide]
  refine va_sld hx hb hX hbl hbA hS (i := 3) (vp_in_iff.mpr (by decide)) dL_law_699 ?_
  refine lv_aload_n hx hb dL_law_700 rfl (lv_at hl 3 rfl) ?_
  refine lv_iload_n hx hb dL_law_701 rfl (lv_at hl 0 rfl) ?_
  refine lv_iconst (v := 4) hx hb dL_law_702 (by decide) ?_
  refine lv_iadd hx hb dL_law_703 ?_
  rw [show (0 : Int32) + 4 = 4 by decide]
  refine va_sld hx hb hX hbl hbA hS (i := 4) (vp_in_iff.mpr (by decide)) dL_law_704 ?_
  refine va_calli (va_runV (As := [.int (xs (1 : Int32).toNatClampNeg), .int (xs (2 : Int32).toNatClampNeg), .int (xs (3 : Int32).toNatClampNeg), .int (xs (4 : Int32).toNatClampNeg)]) (rest := [.int (sp3 (xs (1 : Int32).toNatClampNeg) (xs (2 : Int32).toNatClampNeg))]) ⟨hx, hb, hml, hown, ht⟩ (c_X12_word l D cy _ (List.range 20) adM enM (fun c h => List.mem_range.mpr h) g3 hg3 (xs (1 : Int32).toNatClampNeg) (xs (2 : Int32).toNatClampNeg) (xs (3 : Int32).toNatClampNeg) (xs (4 : Int32).toNatClampNeg) y0 y3) (kw_X12_word ht tw_1166 ⟨Nat.le_of_ble_eq_true rfl, Nat.le_of_ble_eq_true rfl⟩) (preV_of (⟨hPM, hDM, hS⟩ : Hp D (AL s) (AL s) s.heap _ _ (List.range 20) adM enM) hK (List.mem_range.mpr (by decide)) y0 rfl) rfl rfl hl.1 rfl (lv_room (Nat.le_of_ble_eq_true rfl)) dL_law_705 ⟨Nat.le_of_ble_eq_true rfl, Nat.le_of_ble_eq_true rfl⟩) hS (fun q _ h => Af_in (⟨hPM, hDM, hS⟩ : Hp D (AL s) (AL s) s.heap _ _ (List.range 20) adM enM) hAL q h) (Af_in (⟨hPM, hDM, hS⟩ : Hp D (AL s) (AL s) s.heap _ _ (List.range 20) adM enM) hAL) (fun r_303 u_303 t_303 H locs ht_303 hvm_303 hw_303 hB_303 hz_303 hk_303 hS => ?_)
  obtain rfl : r_303 = sp3 (xs (1 : Int32).toNatClampNeg) (xs (2 : Int32).toNatClampNeg) := hw_303
  refine lv_icmp_eq (tgt := 1171) hx hb dL_law_708 (by decide) (fun _ => ?_) (fun c_0 => absurd (rfl) c_0)
  exact law_end C0 hS (lv_sub hl [0, 1, 2, 3] rfl)
