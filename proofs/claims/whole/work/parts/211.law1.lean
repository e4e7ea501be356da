set_option maxHeartbeats 4000000 in
set_option maxRecDepth 100000 in
theorem law_c0 {p : Program} {l : Launch} {e : Env} {s : State} {m : MethodId} {below : List Frame} {meth : Method} {c : Code} {Q : State → Prop} {b L k : Nat} {xs : Nat → Int32} {X : Cx} {ad : Nat → Nat} {ls : Array Slot} (F : LawFix p s m c b L xs X ad) (hk : k + 6 ≤ L) (hl : lv_has ls 4 [(0, .ref b), (1, .ref (ad 0)), (2, .ref (ad 36)), (3, .int (nI k))]) (KK : ∀ (C : ClS) (g : PF) (H : Heap) (locs : List Loc), LawInv X ad s C g H locs → W p l e room_1 s m #[Value.ref b] below meth c H locs 48 7025 Q (F0 m 1082 ls [])) : ∀ (C : ClS) (g : PF) (H : Heap) (locs : List Loc), LawInv X ad s C g H locs → W p l e room_1 s m #[Value.ref b] below meth c H locs 48 7025 Q (F0 m 156 ls []) := by
  obtain ⟨C0, FX, hX, hbl, hL⟩ := F
  obtain ⟨hx, hb, hml, hown, hts⟩ := id C0
  have hbA : ¬ (fun q : Nat => s.heap.size ≤ q) b := Nat.not_le.mpr hbl
  intro C g H locs hI
  obtain ⟨⟨nm, fa, fb, mc, rd⟩, nr, ar, nb, num, lay, pev, pln, tr⟩ := C
  obtain ⟨hC, hM, hH⟩ := hI
  refine lv_aload_n hx hb dL_law_156 rfl (lv_at hl 1 rfl) ?_
  refine law_arg 157 1 hx hb hX hbl hbA hH.2 hl (by omega) hL dL_law_157 dL_law_158 dL_law_159 (by decide) dL_law_160 dL_law_161 ?_
  refine law_arg 162 2 hx hb hX hbl hbA hH.2 hl (by omega) hL dL_law_162 dL_law_163 dL_law_164 (by decide) dL_law_165 dL_law_166 ?_
  refine rc_Vi (rest := []) C0 FX hH 0 (by decide) hC.1.1 rfl (k_X5_count l X ad FX.2.1 _ _ hC (xs (k + 1)) (xs (k + 2))) (cwV 2 hts gL_law_X5_count rfl rfl rfl (by decide +kernel) ⟨(Nat.le_of_ble_eq_true rfl), (Nat.le_of_ble_eq_true rfl)⟩) rfl rfl hl.1 (Nat.le_of_ble_eq_true rfl) dL_law_167 ⟨(Nat.le_of_ble_eq_true rfl), (Nat.le_of_ble_eq_true rfl)⟩ (fun r1 g1 H1 locs1 h1 hH1 => ?_)
  obtain ⟨e1, hC, f1⟩ := h1
  have hM := hM.same f1
  refine lv_aload_n hx hb dL_law_170 rfl (lv_at hl 2 rfl) ?_
  refine law_arg 171 1 hx hb hX hbl hbA hH1.2 hl (by omega) hL dL_law_171 dL_law_172 dL_law_173 (by decide) dL_law_174 dL_law_175 ?_
  refine law_arg 176 2 hx hb hX hbl hbA hH1.2 hl (by omega) hL dL_law_176 dL_law_177 dL_law_178 (by decide) dL_law_179 dL_law_180 ?_
  obtain ⟨fs6, h36⟩ := mod_g36 hM
  refine rc_Vi (rest := [.int r1]) C0 FX hH1 36 (by decide) h36 rfl (k_X6_count l X ad FX.2.1 _ _ _ _ _ _ _ _ _ _ _ _ _ _ hM (xs (k + 1)) (xs (k + 2))) (cwV 2 hts gL_law_X6_count rfl rfl rfl (by decide +kernel) ⟨(Nat.le_of_ble_eq_true rfl), (Nat.le_of_ble_eq_true rfl)⟩) rfl rfl hl.1 (Nat.le_of_ble_eq_true rfl) dL_law_181 ⟨(Nat.le_of_ble_eq_true rfl), (Nat.le_of_ble_eq_true rfl)⟩ (fun r2 g2 H2 locs2 h2 hH2 => ?_)
  obtain ⟨e2, hM, f2⟩ := h2
  have hC := hC.same f2
  refine lv_icmp_eq (tgt := 1082) hx hb dL_law_184 (by decide) (fun _ => ?_) (fun cc => absurd (e1.trans e2.symm) cc)
  exact KK _ _ _ _ ⟨hC, hM, hH2⟩
set_option maxHeartbeats 4000000 in
set_option maxRecDepth 100000 in
theorem law_c1 {p : Program} {l : Launch} {e : Env} {s : State} {m : MethodId} {below : List Frame} {meth : Method} {c : Code} {Q : State → Prop} {b L k : Nat} {xs : Nat → Int32} {X : Cx} {ad : Nat → Nat} {ls : Array Slot} (F : LawFix p s m c b L xs X ad) (hk : k + 6 ≤ L) (hl : lv_has ls 4 [(0, .ref b), (1, .ref (ad 0)), (2, .ref (ad 36)), (3, .int (nI k))]) (KK : ∀ (C : ClS) (g : PF) (H : Heap) (locs : List Loc), LawInv X ad s C g H locs → W p l e room_1 s m #[Value.ref b] below meth c H locs 48 7025 Q (F0 m 1082 ls [])) : ∀ (C : ClS) (g : PF) (H : Heap) (locs : List Loc), LawInv X ad s C g H locs → W p l e room_1 s m #[Value.ref b] below meth c H locs 48 7025 Q (F0 m 189 ls []) := by
  obtain ⟨C0, FX, hX, hbl, hL⟩ := F
  obtain ⟨hx, hb, hml, hown, hts⟩ := id C0
  have hbA : ¬ (fun q : Nat => s.heap.size ≤ q) b := Nat.not_le.mpr hbl
  intro C g H locs hI
  obtain ⟨⟨nm, fa, fb, mc, rd⟩, nr, ar, nb, num, lay, pev, pln, tr⟩ := C
  obtain ⟨hC, hM, hH⟩ := hI
  refine lv_aload_n hx hb dL_law_189 rfl (lv_at hl 1 rfl) ?_
  refine law_arg 190 1 hx hb hX hbl hbA hH.2 hl (by omega) hL dL_law_190 dL_law_191 dL_law_192 (by decide) dL_law_193 dL_law_194 ?_
  refine law_arg 195 2 hx hb hX hbl hbA hH.2 hl (by omega) hL dL_law_195 dL_law_196 dL_law_197 (by decide) dL_law_198 dL_law_199 ?_
  refine law_arg 200 3 hx hb hX hbl hbA hH.2 hl (by omega) hL dL_law_200 dL_law_201 dL_law_202 (by decide) dL_law_203 dL_law_204 ?_
  refine law_arg 205 4 hx hb hX hbl hbA hH.2 hl (by omega) hL dL_law_205 dL_law_206 dL_law_207 (by decide) dL_law_208 dL_law_209 ?_
  refine rc_Vi (rest := []) C0 FX hH 0 (by decide) hC.1.1 rfl (k_X5_machine l X ad FX.2.1 _ _ hC (xs (k + 1)) (xs (k + 2)) (xs (k + 3)) (xs (k + 4))) (cwV 4 hts gL_law_X5_machine rfl rfl rfl (by decide +kernel) ⟨(Nat.le_of_ble_eq_true rfl), (Nat.le_of_ble_eq_true rfl)⟩) rfl rfl hl.1 (Nat.le_of_ble_eq_true rfl) dL_law_210 ⟨(Nat.le_of_ble_eq_true rfl), (Nat.le_of_ble_eq_true rfl)⟩ (fun r1 g1 H1 locs1 h1 hH1 => ?_)
  obtain ⟨e1, hC, f1⟩ := h1
  have hM := hM.same f1
  refine lv_aload_n hx hb dL_law_213 rfl (lv_at hl 2 rfl) ?_
  refine law_arg 214 1 hx hb hX hbl hbA hH1.2 hl (by omega) hL dL_law_214 dL_law_215 dL_law_216 (by decide) dL_law_217 dL_law_218 ?_
  refine law_arg 219 2 hx hb hX hbl hbA hH1.2 hl (by omega) hL dL_law_219 dL_law_220 dL_law_221 (by decide) dL_law_222 dL_law_223 ?_
  refine law_arg 224 3 hx hb hX hbl hbA hH1.2 hl (by omega) hL dL_law_224 dL_law_225 dL_law_226 (by decide) dL_law_227 dL_law_228 ?_
  refine law_arg 229 4 hx hb hX hbl hbA hH1.2 hl (by omega) hL dL_law_229 dL_law_230 dL_law_231 (by decide) dL_law_232 dL_law_233 ?_
  obtain ⟨fs6, h36⟩ := mod_g36 hM
  refine rc_Vi (rest := [.int r1]) C0 FX hH1 36 (by decide) h36 rfl (k_X6_machine l X ad FX.2.1 _ _ _ _ _ _ _ _ _ _ _ _ _ _ hM (xs (k + 1)) (xs (k + 2)) (xs (k + 3)) (xs (k + 4))) (cwV 4 hts gL_law_X6_machine rfl rfl rfl (by decide +kernel) ⟨(Nat.le_of_ble_eq_true rfl), (Nat.le_of_ble_eq_true rfl)⟩) rfl rfl hl.1 (Nat.le_of_ble_eq_true rfl) dL_law_234 ⟨(Nat.le_of_ble_eq_true rfl), (Nat.le_of_ble_eq_true rfl)⟩ (fun r2 g2 H2 locs2 h2 hH2 => ?_)
  obtain ⟨e2, hM, f2⟩ := h2
  have hC := hC.same f2
  refine lv_icmp_eq (tgt := 1082) hx hb dL_law_237 (by decide) (fun _ => ?_) (fun cc => absurd (e1.trans e2.symm) cc)
  exact KK _ _ _ _ ⟨hC, hM, hH2⟩
set_option maxHeartbeats 4000000 in
set_option maxRecDepth 100000 in
theorem law_c2 {p : Program} {l : Launch} {e : Env} {s : State} {m : MethodId} {below : List Frame} {meth : Method} {c : Code} {Q : State → Prop} {b L k : Nat} {xs : Nat → Int32} {X : Cx} {ad : Nat → Nat} {ls : Array Slot} (F : LawFix p s m c b L xs X ad) (hk : k + 6 ≤ L) (hl : lv_has ls 4 [(0, .ref b), (1, .ref (ad 0)), (2, .ref (ad 36)), (3, .int (nI k))]) (KK : ∀ (C : ClS) (g : PF) (H : Heap) (locs : List Loc), LawInv X ad s C g H locs → W p l e room_1 s m #[Value.ref b] below meth c H locs 48 7025 Q (F0 m 1082 ls [])) : ∀ (C : ClS) (g : PF) (H : Heap) (locs : List Loc), LawInv X ad s C g H locs → W p l e room_1 s m #[Value.ref b] below meth c H locs 48 7025 Q (F0 m 242 ls []) := by
  obtain ⟨C0, FX, hX, hbl, hL⟩ := F
  obtain ⟨hx, hb, hml, hown, hts⟩ := id C0
  have hbA : ¬ (fun q : Nat => s.heap.size ≤ q) b := Nat.not_le.mpr hbl
  intro C g H locs hI
  obtain ⟨⟨nm, fa, fb, mc, rd⟩, nr, ar, nb, num, lay, pev, pln, tr⟩ := C
  obtain ⟨hC, hM, hH⟩ := hI
  refine lv_aload_n hx hb dL_law_242 rfl (lv_at hl 1 rfl) ?_
  refine law_arg 243 1 hx hb hX hbl hbA hH.2 hl (by omega) hL dL_law_243 dL_law_244 dL_law_245 (by decide) dL_law_246 dL_law_247 ?_
  refine law_arg 248 2 hx hb hX hbl hbA hH.2 hl (by omega) hL dL_law_248 dL_law_249 dL_law_250 (by decide) dL_law_251 dL_law_252 ?_
  refine rc_Vi (rest := []) C0 FX hH 0 (by decide) hC.1.1 rfl (k_X5_roller l X ad FX.2.1 _ _ hC (xs (k + 1)) (xs (k + 2))) (cwV 2 hts gL_law_X5_roller rfl rfl rfl (by decide +kernel) ⟨(Nat.le_of_ble_eq_true rfl), (Nat.le_of_ble_eq_true rfl)⟩) rfl rfl hl.1 (Nat.le_of_ble_eq_true rfl) dL_law_253 ⟨(Nat.le_of_ble_eq_true rfl), (Nat.le_of_ble_eq_true rfl)⟩ (fun r1 g1 H1 locs1 h1 hH1 => ?_)
  obtain ⟨e1, hC, f1⟩ := h1
  have hM := hM.same f1
  refine lv_aload_n hx hb dL_law_256 rfl (lv_at hl 2 rfl) ?_
  refine law_arg 257 1 hx hb hX hbl hbA hH1.2 hl (by omega) hL dL_law_257 dL_law_258 dL_law_259 (by decide) dL_law_260 dL_law_261 ?_
  refine law_arg 262 2 hx hb hX hbl hbA hH1.2 hl (by omega) hL dL_law_262 dL_law_263 dL_law_264 (by decide) dL_law_265 dL_law_266 ?_
  obtain ⟨fs6, h36⟩ := mod_g36 hM
  refine rc_Vi (rest := [.int r1]) C0 FX hH1 36 (by decide) h36 rfl (k_X6_roller l X ad FX.2.1 _ _ _ _ _ _ _ _ _ _ _ _ _ _ hM (xs (k + 1)) (xs (k + 2))) (cwV 2 hts gL_law_X6_roller rfl rfl rfl (by decide +kernel) ⟨(Nat.le_of_ble_eq_true rfl), (Nat.le_of_ble_eq_true rfl)⟩) rfl rfl hl.1 (Nat.le_of_ble_eq_true rfl) dL_law_267 ⟨(Nat.le_of_ble_eq_true rfl), (Nat.le_of_ble_eq_true rfl)⟩ (fun r2 g2 H2 locs2 h2 hH2 => ?_)
  obtain ⟨e2, hM, f2⟩ := h2
  have hC := hC.same f2
  refine lv_icmp_eq (tgt := 1082) hx hb dL_law_270 (by decide) (fun _ => ?_) (fun cc => absurd (e1.trans e2.symm) cc)
  exact KK _ _ _ _ ⟨hC, hM, hH2⟩
set_option maxHeartbeats 4000000 in
set_option maxRecDepth 100000 in
theorem law_c3 {p : Program} {l : Launch} {e : Env} {s : State} {m : MethodId} {below : List Frame} {meth : Method} {c : Code} {Q : State → Prop} {b L k : Nat} {xs : Nat → Int32} {X : Cx} {ad : Nat → Nat} {ls : Array Slot} (F : LawFix p s m c b L xs X ad) (hk : k + 6 ≤ L) (hl : lv_has ls 4 [(0, .ref b), (1, .ref (ad 0)), (2, .ref (ad 36)), (3, .int (nI k))]) (KK : ∀ (C : ClS) (g : PF) (H : Heap) (locs : List Loc), LawInv X ad s C g H locs → W p l e room_1 s m #[Value.ref b] below meth c H locs 48 7025 Q (F0 m 1082 ls [])) : ∀ (C : ClS) (g : PF) (H : Heap) (locs : List Loc), LawInv X ad s C g H locs → W p l e room_1 s m #[Value.ref b] below meth c H locs 48 7025 Q (F0 m 275 ls []) := by
  obtain ⟨C0, FX, hX, hbl, hL⟩ := F
  obtain ⟨hx, hb, hml, hown, hts⟩ := id C0
  have hbA : ¬ (fun q : Nat => s.heap.size ≤ q) b := Nat.not_le.mpr hbl
  intro C g H locs hI
  obtain ⟨⟨nm, fa, fb, mc, rd⟩, nr, ar, nb, num, lay, pev, pln, tr⟩ := C
  obtain ⟨hC, hM, hH⟩ := hI
  refine lv_aload_n hx hb dL_law_275 rfl (lv_at hl 1 rfl) ?_
  refine rc_Vi (rest := []) C0 FX hH 0 (by decide) hC.1.1 rfl (k_X5_clear l X ad FX.2.1 _ _ hC ) (cwV 0 hts gL_law_X5_clear rfl rfl rfl (by decide +kernel) ⟨(Nat.le_of_ble_eq_true rfl), (Nat.le_of_ble_eq_true rfl)⟩) rfl rfl hl.1 (Nat.le_of_ble_eq_true rfl) dL_law_276 ⟨(Nat.le_of_ble_eq_true rfl), (Nat.le_of_ble_eq_true rfl)⟩ (fun r1 g1 H1 locs1 h1 hH1 => ?_)
  obtain ⟨e1, hC, f1⟩ := h1
  have hM := hM.same f1
  refine lv_aload_n hx hb dL_law_279 rfl (lv_at hl 2 rfl) ?_
  obtain ⟨fs6, h36⟩ := mod_g36 hM
  refine rc_Vi (rest := [.int r1]) C0 FX hH1 36 (by decide) h36 rfl (k_X6_clear l X ad FX.2.1 _ _ _ _ _ _ _ _ _ _ _ _ _ _ hM ) (cwV 0 hts gL_law_X6_clear rfl rfl rfl (by decide +kernel) ⟨(Nat.le_of_ble_eq_true rfl), (Nat.le_of_ble_eq_true rfl)⟩) rfl rfl hl.1 (Nat.le_of_ble_eq_true rfl) dL_law_280 ⟨(Nat.le_of_ble_eq_true rfl), (Nat.le_of_ble_eq_true rfl)⟩ (fun r2 g2 H2 locs2 h2 hH2 => ?_)
  obtain ⟨e2, hM, f2⟩ := h2
  have hC := hC.same f2
  refine lv_icmp_eq (tgt := 1082) hx hb dL_law_283 (by decide) (fun _ => ?_) (fun cc => absurd (e1.trans e2.symm) cc)
  exact KK _ _ _ _ ⟨hC, hM, hH2⟩
set_option maxHeartbeats 4000000 in
set_option maxRecDepth 100000 in
theorem law_c4 {p : Program} {l : Launch} {e : Env} {s : State} {m : MethodId} {below : List Frame} {meth : Method} {c : Code} {Q : State → Prop} {b L k : Nat} {xs : Nat → Int32} {X : Cx} {ad : Nat → Nat} {ls : Array Slot} (F : LawFix p s m c b L xs X ad) (hk : k + 6 ≤ L) (hl : lv_has ls 4 [(0, .ref b), (1, .ref (ad 0)), (2, .ref (ad 36)), (3, .int (nI k))]) (KK : ∀ (C : ClS) (g : PF) (H : Heap) (locs : List Loc), LawInv X ad s C g H locs → W p l e room_1 s m #[Value.ref b] below meth c H locs 48 7025 Q (F0 m 1082 ls [])) : ∀ (C : ClS) (g : PF) (H : Heap) (locs : List Loc), LawInv X ad s C g H locs → W p l e room_1 s m #[Value.ref b] below meth c H locs 48 7025 Q (F0 m 288 ls []) := by
  obtain ⟨C0, FX, hX, hbl, hL⟩ := F
  obtain ⟨hx, hb, hml, hown, hts⟩ := id C0
  have hbA : ¬ (fun q : Nat => s.heap.size ≤ q) b := Nat.not_le.mpr hbl
  intro C g H locs hI
  obtain ⟨⟨nm, fa, fb, mc, rd⟩, nr, ar, nb, num, lay, pev, pln, tr⟩ := C
  obtain ⟨hC, hM, hH⟩ := hI
  refine lv_aload_n hx hb dL_law_288 rfl (lv_at hl 1 rfl) ?_
  refine law_arg 289 1 hx hb hX hbl hbA hH.2 hl (by omega) hL dL_law_289 dL_law_290 dL_law_291 (by decide) dL_law_292 dL_law_293 ?_
  refine law_arg 294 2 hx hb hX hbl hbA hH.2 hl (by omega) hL dL_law_294 dL_law_295 dL_law_296 (by decide) dL_law_297 dL_law_298 ?_
  refine rc_Vl (rest := []) C0 FX hH 0 (by decide) hC.1.1 rfl (k_X5_countAt l X ad FX.2.1 _ _ hC (xs (k + 1)) (xs (k + 2))) (cwV 2 hts gL_law_X5_countAt rfl rfl rfl (by decide +kernel) ⟨(Nat.le_of_ble_eq_true rfl), (Nat.le_of_ble_eq_true rfl)⟩) rfl rfl hl.1 (Nat.le_of_ble_eq_true rfl) dL_law_299 ⟨(Nat.le_of_ble_eq_true rfl), (Nat.le_of_ble_eq_true rfl)⟩ (fun r1 g1 H1 locs1 h1 hH1 => ?_)
  obtain ⟨e1, hC, f1⟩ := h1
  have hM := hM.same f1
  refine lv_aload_n hx hb dL_law_302 rfl (lv_at hl 2 rfl) ?_
  refine law_arg 303 1 hx hb hX hbl hbA hH1.2 hl (by omega) hL dL_law_303 dL_law_304 dL_law_305 (by decide) dL_law_306 dL_law_307 ?_
  refine law_arg 308 2 hx hb hX hbl hbA hH1.2 hl (by omega) hL dL_law_308 dL_law_309 dL_law_310 (by decide) dL_law_311 dL_law_312 ?_
  obtain ⟨fs6, h36⟩ := mod_g36 hM
  refine rc_Vl (rest := [.long r1]) C0 FX hH1 36 (by decide) h36 rfl (k_X6_countAt l X ad FX.2.1 _ _ _ _ _ _ _ _ _ _ _ _ _ _ hM (xs (k + 1)) (xs (k + 2))) (cwV 2 hts gL_law_X6_countAt rfl rfl rfl (by decide +kernel) ⟨(Nat.le_of_ble_eq_true rfl), (Nat.le_of_ble_eq_true rfl)⟩) rfl rfl hl.1 (Nat.le_of_ble_eq_true rfl) dL_law_313 ⟨(Nat.le_of_ble_eq_true rfl), (Nat.le_of_ble_eq_true rfl)⟩ (fun r2 g2 H2 locs2 h2 hH2 => ?_)
  obtain ⟨rfl, e2⟩ := h2
  refine lc_eq hx hb 1082 dL_law_316 dL_law_317 (by decide) (fun _ => ?_) (fun cc => absurd (e1.trans e2.symm) cc)
  exact KK _ _ _ _ ⟨hC, hM, hH2⟩
set_option maxHeartbeats 4000000 in
set_option maxRecDepth 100000 in
theorem law_c5 {p : Program} {l : Launch} {e : Env} {s : State} {m : MethodId} {below : List Frame} {meth : Method} {c : Code} {Q : State → Prop} {b L k : Nat} {xs : Nat → Int32} {X : Cx} {ad : Nat → Nat} {ls : Array Slot} (F : LawFix p s m c b L xs X ad) (hk : k + 6 ≤ L) (hl : lv_has ls 4 [(0, .ref b), (1, .ref (ad 0)), (2, .ref (ad 36)), (3, .int (nI k))]) (KK : ∀ (C : ClS) (g : PF) (H : Heap) (locs : List Loc), LawInv X ad s C g H locs → W p l e room_1 s m #[Value.ref b] below meth c H locs 48 7025 Q (F0 m 1082 ls [])) : ∀ (C : ClS) (g : PF) (H : Heap) (locs : List Loc), LawInv X ad s C g H locs → W p l e room_1 s m #[Value.ref b] below meth c H locs 48 7025 Q (F0 m 322 ls []) := by
  obtain ⟨C0, FX, hX, hbl, hL⟩ := F
  obtain ⟨hx, hb, hml, hown, hts⟩ := id C0
  have hbA : ¬ (fun q : Nat => s.heap.size ≤ q) b := Nat.not_le.mpr hbl
  intro C g H locs hI
  obtain ⟨⟨nm, fa, fb, mc, rd⟩, nr, ar, nb, num, lay, pev, pln, tr⟩ := C
  obtain ⟨hC, hM, hH⟩ := hI
  refine lv_aload_n hx hb dL_law_322 rfl (lv_at hl 1 rfl) ?_
  refine law_arg 323 1 hx hb hX hbl hbA hH.2 hl (by omega) hL dL_law_323 dL_law_324 dL_law_325 (by decide) dL_law_326 dL_law_327 ?_
  refine law_arg 328 2 hx hb hX hbl hbA hH.2 hl (by omega) hL dL_law_328 dL_law_329 dL_law_330 (by decide) dL_law_331 dL_law_332 ?_
  refine law_arg 333 3 hx hb hX hbl hbA hH.2 hl (by omega) hL dL_law_333 dL_law_334 dL_law_335 (by decide) dL_law_336 dL_law_337 ?_
  refine rc_Vl (rest := []) C0 FX hH 0 (by decide) hC.1.1 rfl (k_X5_period l X ad FX.2.1 _ _ hC (xs (k + 1)) (xs (k + 2)) (xs (k + 3))) (cwV 3 hts gL_law_X5_period rfl rfl rfl (by decide +kernel) ⟨(Nat.le_of_ble_eq_true rfl), (Nat.le_of_ble_eq_true rfl)⟩) rfl rfl hl.1 (Nat.le_of_ble_eq_true rfl) dL_law_338 ⟨(Nat.le_of_ble_eq_true rfl), (Nat.le_of_ble_eq_true rfl)⟩ (fun r1 g1 H1 locs1 h1 hH1 => ?_)
  obtain ⟨e1, hC, f1⟩ := h1
  have hM := hM.same f1
  refine lv_aload_n hx hb dL_law_341 rfl (lv_at hl 2 rfl) ?_
  refine law_arg 342 1 hx hb hX hbl hbA hH1.2 hl (by omega) hL dL_law_342 dL_law_343 dL_law_344 (by decide) dL_law_345 dL_law_346 ?_
  refine law_arg 347 2 hx hb hX hbl hbA hH1.2 hl (by omega) hL dL_law_347 dL_law_348 dL_law_349 (by decide) dL_law_350 dL_law_351 ?_
  refine law_arg 352 3 hx hb hX hbl hbA hH1.2 hl (by omega) hL dL_law_352 dL_law_353 dL_law_354 (by decide) dL_law_355 dL_law_356 ?_
  obtain ⟨fs6, h36⟩ := mod_g36 hM
  refine rc_Vl (rest := [.long r1]) C0 FX hH1 36 (by decide) h36 rfl (k_X6_period l X ad FX.2.1 _ _ _ _ _ _ _ _ _ _ _ _ _ _ hM (xs (k + 1)) (xs (k + 2)) (xs (k + 3))) (cwV 3 hts gL_law_X6_period rfl rfl rfl (by decide +kernel) ⟨(Nat.le_of_ble_eq_true rfl), (Nat.le_of_ble_eq_true rfl)⟩) rfl rfl hl.1 (Nat.le_of_ble_eq_true rfl) dL_law_357 ⟨(Nat.le_of_ble_eq_true rfl), (Nat.le_of_ble_eq_true rfl)⟩ (fun r2 g2 H2 locs2 h2 hH2 => ?_)
  obtain ⟨rfl, e2⟩ := h2
  refine lc_eq hx hb 1082 dL_law_360 dL_law_361 (by decide) (fun _ => ?_) (fun cc => absurd (e1.trans e2.symm) cc)
  exact KK _ _ _ _ ⟨hC, hM, hH2⟩
set_option maxHeartbeats 4000000 in
set_option maxRecDepth 100000 in
theorem law_c6 {p : Program} {l : Launch} {e : Env} {s : State} {m : MethodId} {below : List Frame} {meth : Method} {c : Code} {Q : State → Prop} {b L k : Nat} {xs : Nat → Int32} {X : Cx} {ad : Nat → Nat} {ls : Array Slot} (F : LawFix p s m c b L xs X ad) (hk : k + 6 ≤ L) (hl : lv_has ls 4 [(0, .ref b), (1, .ref (ad 0)), (2, .ref (ad 36)), (3, .int (nI k))]) (KK : ∀ (C : ClS) (g : PF) (H : Heap) (locs : List Loc), LawInv X ad s C g H locs → W p l e room_1 s m #[Value.ref b] below meth c H locs 48 7025 Q (F0 m 1082 ls [])) : ∀ (C : ClS) (g : PF) (H : Heap) (locs : List Loc), LawInv X ad s C g H locs → W p l e room_1 s m #[Value.ref b] below meth c H locs 48 7025 Q (F0 m 366 ls []) := by
  obtain ⟨C0, FX, hX, hbl, hL⟩ := F
  obtain ⟨hx, hb, hml, hown, hts⟩ := id C0
  have hbA : ¬ (fun q : Nat => s.heap.size ≤ q) b := Nat.not_le.mpr hbl
  intro C g H locs hI
  obtain ⟨⟨nm, fa, fb, mc, rd⟩, nr, ar, nb, num, lay, pev, pln, tr⟩ := C
  obtain ⟨hC, hM, hH⟩ := hI
  refine lv_aload_n hx hb dL_law_366 rfl (lv_at hl 1 rfl) ?_
  refine law_arg 367 1 hx hb hX hbl hbA hH.2 hl (by omega) hL dL_law_367 dL_law_368 dL_law_369 (by decide) dL_law_370 dL_law_371 ?_
  refine law_arg 372 2 hx hb hX hbl hbA hH.2 hl (by omega) hL dL_law_372 dL_law_373 dL_law_374 (by decide) dL_law_375 dL_law_376 ?_
  refine law_arg 377 3 hx hb hX hbl hbA hH.2 hl (by omega) hL dL_law_377 dL_law_378 dL_law_379 (by decide) dL_law_380 dL_law_381 ?_
  refine rc_Vi (rest := []) C0 FX hH 0 (by decide) hC.1.1 rfl (k_X5_names l X ad FX.2.1 _ _ hC (xs (k + 1)) (xs (k + 2)) (xs (k + 3))) (cwV 3 hts gL_law_X5_names rfl rfl rfl (by decide +kernel) ⟨(Nat.le_of_ble_eq_true rfl), (Nat.le_of_ble_eq_true rfl)⟩) rfl rfl hl.1 (Nat.le_of_ble_eq_true rfl) dL_law_382 ⟨(Nat.le_of_ble_eq_true rfl), (Nat.le_of_ble_eq_true rfl)⟩ (fun r1 g1 H1 locs1 h1 hH1 => ?_)
  obtain ⟨e1, hC, f1⟩ := h1
  have hM := hM.same f1
  refine lv_aload_n hx hb dL_law_385 rfl (lv_at hl 2 rfl) ?_
  refine law_arg 386 1 hx hb hX hbl hbA hH1.2 hl (by omega) hL dL_law_386 dL_law_387 dL_law_388 (by decide) dL_law_389 dL_law_390 ?_
  refine law_arg 391 2 hx hb hX hbl hbA hH1.2 hl (by omega) hL dL_law_391 dL_law_392 dL_law_393 (by decide) dL_law_394 dL_law_395 ?_
  refine law_arg 396 3 hx hb hX hbl hbA hH1.2 hl (by omega) hL dL_law_396 dL_law_397 dL_law_398 (by decide) dL_law_399 dL_law_400 ?_
  obtain ⟨fs6, h36⟩ := mod_g36 hM
  refine rc_Vi (rest := [.int r1]) C0 FX hH1 36 (by decide) h36 rfl (k_X6_names l X ad FX.2.1 _ _ _ _ _ _ _ _ _ _ _ _ _ _ hM (xs (k + 1)) (xs (k + 2)) (xs (k + 3))) (cwV 3 hts gL_law_X6_names rfl rfl rfl (by decide +kernel) ⟨(Nat.le_of_ble_eq_true rfl), (Nat.le_of_ble_eq_true rfl)⟩) rfl rfl hl.1 (Nat.le_of_ble_eq_true rfl) dL_law_401 ⟨(Nat.le_of_ble_eq_true rfl), (Nat.le_of_ble_eq_true rfl)⟩ (fun r2 g2 H2 locs2 h2 hH2 => ?_)
  obtain ⟨rfl, e2⟩ := h2
  refine lv_icmp_eq (tgt := 1082) hx hb dL_law_404 (by decide) (fun _ => ?_) (fun cc => absurd (e1.trans e2.symm) cc)
  exact KK _ _ _ _ ⟨hC, hM, hH2⟩
set_option maxHeartbeats 4000000 in
set_option maxRecDepth 100000 in
theorem law_c7 {p : Program} {l : Launch} {e : Env} {s : State} {m : MethodId} {below : List Frame} {meth : Method} {c : Code} {Q : State → Prop} {b L k : Nat} {xs : Nat → Int32} {X : Cx} {ad : Nat → Nat} {ls : Array Slot} (F : LawFix p s m c b L xs X ad) (hk : k + 6 ≤ L) (hl : lv_has ls 4 [(0, .ref b), (1, .ref (ad 0)), (2, .ref (ad 36)), (3, .int (nI k))]) (KK : ∀ (C : ClS) (g : PF) (H : Heap) (locs : List Loc), LawInv X ad s C g H locs → W p l e room_1 s m #[Value.ref b] below meth c H locs 48 7025 Q (F0 m 1082 ls [])) : ∀ (C : ClS) (g : PF) (H : Heap) (locs : List Loc), LawInv X ad s C g H locs → W p l e room_1 s m #[Value.ref b] below meth c H locs 48 7025 Q (F0 m 409 ls []) := by
  obtain ⟨C0, FX, hX, hbl, hL⟩ := F
  obtain ⟨hx, hb, hml, hown, hts⟩ := id C0
  have hbA : ¬ (fun q : Nat => s.heap.size ≤ q) b := Nat.not_le.mpr hbl
  intro C g H locs hI
  obtain ⟨⟨nm, fa, fb, mc, rd⟩, nr, ar, nb, num, lay, pev, pln, tr⟩ := C
  obtain ⟨hC, hM, hH⟩ := hI
  refine lv_aload_n hx hb dL_law_409 rfl (lv_at hl 1 rfl) ?_
  refine law_arg 410 1 hx hb hX hbl hbA hH.2 hl (by omega) hL dL_law_410 dL_law_411 dL_law_412 (by decide) dL_law_413 dL_law_414 ?_
  refine law_arg 415 2 hx hb hX hbl hbA hH.2 hl (by omega) hL dL_law_415 dL_law_416 dL_law_417 (by decide) dL_law_418 dL_law_419 ?_
  refine rc_Vi (rest := []) C0 FX hH 0 (by decide) hC.1.1 rfl (k_X5_cell l X ad FX.2.1 _ _ hC (xs (k + 1)) (xs (k + 2))) (cwV 2 hts gL_law_X5_cell rfl rfl rfl (by decide +kernel) ⟨(Nat.le_of_ble_eq_true rfl), (Nat.le_of_ble_eq_true rfl)⟩) rfl rfl hl.1 (Nat.le_of_ble_eq_true rfl) dL_law_420 ⟨(Nat.le_of_ble_eq_true rfl), (Nat.le_of_ble_eq_true rfl)⟩ (fun r1 g1 H1 locs1 h1 hH1 => ?_)
  obtain ⟨e1, hC, f1⟩ := h1
  have hM := hM.same f1
  refine lv_aload_n hx hb dL_law_423 rfl (lv_at hl 2 rfl) ?_
  refine law_arg 424 1 hx hb hX hbl hbA hH1.2 hl (by omega) hL dL_law_424 dL_law_425 dL_law_426 (by decide) dL_law_427 dL_law_428 ?_
  refine law_arg 429 2 hx hb hX hbl hbA hH1.2 hl (by omega) hL dL_law_429 dL_law_430 dL_law_431 (by decide) dL_law_432 dL_law_433 ?_
  obtain ⟨fs6, h36⟩ := mod_g36 hM
  refine rc_Vi (rest := [.int r1]) C0 FX hH1 36 (by decide) h36 rfl (k_X6_cell l X ad FX.2.1 _ _ _ _ _ _ _ _ _ _ _ _ _ _ hM (xs (k + 1)) (xs (k + 2))) (cwV 2 hts gL_law_X6_cell rfl rfl rfl (by decide +kernel) ⟨(Nat.le_of_ble_eq_true rfl), (Nat.le_of_ble_eq_true rfl)⟩) rfl rfl hl.1 (Nat.le_of_ble_eq_true rfl) dL_law_434 ⟨(Nat.le_of_ble_eq_true rfl), (Nat.le_of_ble_eq_true rfl)⟩ (fun r2 g2 H2 locs2 h2 hH2 => ?_)
  obtain ⟨e2, hM, f2⟩ := h2
  have hC := hC.same f2
  refine lv_icmp_eq (tgt := 1082) hx hb dL_law_437 (by decide) (fun _ => ?_) (fun cc => absurd (e1.trans e2.symm) cc)
  exact KK _ _ _ _ ⟨hC, hM, hH2⟩
set_option maxHeartbeats 4000000 in
set_option maxRecDepth 100000 in
theorem law_c8 {p : Program} {l : Launch} {e : Env} {s : State} {m : MethodId} {below : List Frame} {meth : Method} {c : Code} {Q : State → Prop} {b L k : Nat} {xs : Nat → Int32} {X : Cx} {ad : Nat → Nat} {ls : Array Slot} (F : LawFix p s m c b L xs X ad) (hk : k + 6 ≤ L) (hl : lv_has ls 4 [(0, .ref b), (1, .ref (ad 0)), (2, .ref (ad 36)), (3, .int (nI k))]) (KK : ∀ (C : ClS) (g : PF) (H : Heap) (locs : List Loc), LawInv X ad s C g H locs → W p l e room_1 s m #[Value.ref b] below meth c H locs 48 7025 Q (F0 m 1082 ls [])) : ∀ (C : ClS) (g : PF) (H : Heap) (locs : List Loc), LawInv X ad s C g H locs → W p l e room_1 s m #[Value.ref b] below meth c H locs 48 7025 Q (F0 m 442 ls []) := by
  obtain ⟨C0, FX, hX, hbl, hL⟩ := F
  obtain ⟨hx, hb, hml, hown, hts⟩ := id C0
  have hbA : ¬ (fun q : Nat => s.heap.size ≤ q) b := Nat.not_le.mpr hbl
  intro C g H locs hI
  obtain ⟨⟨nm, fa, fb, mc, rd⟩, nr, ar, nb, num, lay, pev, pln, tr⟩ := C
  obtain ⟨hC, hM, hH⟩ := hI
  refine lv_aload_n hx hb dL_law_442 rfl (lv_at hl 1 rfl) ?_
  refine law_arg 443 1 hx hb hX hbl hbA hH.2 hl (by omega) hL dL_law_443 dL_law_444 dL_law_445 (by decide) dL_law_446 dL_law_447 ?_
  refine law_arg 448 2 hx hb hX hbl hbA hH.2 hl (by omega) hL dL_law_448 dL_law_449 dL_law_450 (by decide) dL_law_451 dL_law_452 ?_
  refine law_arg 453 3 hx hb hX hbl hbA hH.2 hl (by omega) hL dL_law_453 dL_law_454 dL_law_455 (by decide) dL_law_456 dL_law_457 ?_
  refine law_arg 458 4 hx hb hX hbl hbA hH.2 hl (by omega) hL dL_law_458 dL_law_459 dL_law_460 (by decide) dL_law_461 dL_law_462 ?_
  refine law_arg 463 5 hx hb hX hbl hbA hH.2 hl (by omega) hL dL_law_463 dL_law_464 dL_law_465 (by decide) dL_law_466 dL_law_467 ?_
  refine rc_Vi (rest := []) C0 FX hH 0 (by decide) hC.1.1 rfl (k_X5_draw l X ad FX.2.1 _ _ hC (xs (k + 1)) (xs (k + 2)) (xs (k + 3)) (xs (k + 4)) (xs (k + 5))) (cwV 5 hts gL_law_X5_draw rfl rfl rfl (by decide +kernel) ⟨(Nat.le_of_ble_eq_true rfl), (Nat.le_of_ble_eq_true rfl)⟩) rfl rfl hl.1 (Nat.le_of_ble_eq_true rfl) dL_law_468 ⟨(Nat.le_of_ble_eq_true rfl), (Nat.le_of_ble_eq_true rfl)⟩ (fun r1 g1 H1 locs1 h1 hH1 => ?_)
  obtain ⟨e1, hC, f1⟩ := h1
  have hM := hM.same f1
  refine lv_aload_n hx hb dL_law_471 rfl (lv_at hl 2 rfl) ?_
  refine law_arg 472 1 hx hb hX hbl hbA hH1.2 hl (by omega) hL dL_law_472 dL_law_473 dL_law_474 (by decide) dL_law_475 dL_law_476 ?_
  refine law_arg 477 2 hx hb hX hbl hbA hH1.2 hl (by omega) hL dL_law_477 dL_law_478 dL_law_479 (by decide) dL_law_480 dL_law_481 ?_
  refine law_arg 482 3 hx hb hX hbl hbA hH1.2 hl (by omega) hL dL_law_482 dL_law_483 dL_law_484 (by decide) dL_law_485 dL_law_486 ?_
  refine law_arg 487 4 hx hb hX hbl hbA hH1.2 hl (by omega) hL dL_law_487 dL_law_488 dL_law_489 (by decide) dL_law_490 dL_law_491 ?_
  refine law_arg 492 5 hx hb hX hbl hbA hH1.2 hl (by omega) hL dL_law_492 dL_law_493 dL_law_494 (by decide) dL_law_495 dL_law_496 ?_
  obtain ⟨fs6, h36⟩ := mod_g36 hM
  refine rc_Vi (rest := [.int r1]) C0 FX hH1 36 (by decide) h36 rfl (k_X6_draw l X ad FX.2.1 _ _ _ _ _ _ _ _ _ _ _ _ _ _ hM (xs (k + 1)) (xs (k + 2)) (xs (k + 3)) (xs (k + 4)) (xs (k + 5))) (cwV 5 hts gL_law_X6_draw rfl rfl rfl (by decide +kernel) ⟨(Nat.le_of_ble_eq_true rfl), (Nat.le_of_ble_eq_true rfl)⟩) rfl rfl hl.1 (Nat.le_of_ble_eq_true rfl) dL_law_497 ⟨(Nat.le_of_ble_eq_true rfl), (Nat.le_of_ble_eq_true rfl)⟩ (fun r2 g2 H2 locs2 h2 hH2 => ?_)
  obtain ⟨e2, hM, f2⟩ := h2
  have hC := hC.same f2
  refine lv_icmp_eq (tgt := 1082) hx hb dL_law_500 (by decide) (fun _ => ?_) (fun cc => absurd (e1.trans e2.symm) cc)
  exact KK _ _ _ _ ⟨hC, hM, hH2⟩
