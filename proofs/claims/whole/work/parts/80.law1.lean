set_option maxHeartbeats 4000000 in
set_option maxRecDepth 100000 in
theorem law_0 {p : Program} {l : Launch} {e : Env} {s : State} {m : MethodId} {below : List Frame} {meth : Method} {c : Code} {D : va_G} {cs : Nat → ClassId} {b L : Nat} {xs : Nat → Int32} {ad : Nat → Nat} {i : Nat} {ws : va_W} (C : VOk p s m #[Value.ref b] c cL_law 4 wsL_law RL D (tz cs) (fun q : Nat => s.heap.size ≤ q) s.heap) (hX : va_X b L xs s s.heap) (hbl : b < s.heap.size) (hbA : ¬ (fun q : Nat => s.heap.size ≤ q) b) (hI : Inv cs ad ws) (hi : i + 6 ≤ L) (hL : L ≤ 384) (kk : ∀ ws2 : va_W, Inv cs ad ws2 → V p l e room_1 s m #[Value.ref b] below meth c 600000 7302250 (lw_Z below #[Value.ref b] s) 4 D (fun q : Nat => s.heap.size ≤ q) s.heap 1156 (lwL b (ad 0) (ad 41) i) [] ws2) : V p l e room_1 s m #[Value.ref b] below meth c 600000 7302250 (lw_Z below #[Value.ref b] s) 4 D (fun q : Nat => s.heap.size ≤ q) s.heap 184 (lwL b (ad 0) (ad 41) i) [] ws := by
  obtain ⟨r, w1, w2, ⟨wcC, u1, isC, hC, c1, c2, c3, c4⟩, ⟨wcM, u2, isM, hM, d1, d2, d3, d4⟩, hI2, gs, h41⟩ := tk_row (l := l) (D := D) hI (xs (i + 1)) (xs (i + 2)) (xs (i + 3))
  obtain ⟨fs, h0⟩ := hI.at0
  refine v_aload_n C 1 dL_law_184 rfl ?_
  refine v_aload_n C 0 dL_law_185 rfl ?_
  refine v_iload_n C 3 dL_law_186 rfl ?_
  refine v_iconst C (v := 1) dL_law_187 (by decide) ?_
  refine v_iadd C dL_law_188 ?_
  refine V.topr (y := nI (i + 1)) (nI_add i 1) ?_
  refine v_sld C hX hbl hbA (xs (i + 1)) (by rw [nI_clamp (by omega)]) (vp_in_nI (by omega) (by omega)) dL_law_189 ?_
  refine v_aload_n C 0 dL_law_190 rfl ?_
  refine v_iload_n C 3 dL_law_191 rfl ?_
  refine v_iconst C (v := 2) dL_law_192 (by decide) ?_
  refine v_iadd C dL_law_193 ?_
  refine V.topr (y := nI (i + 2)) (nI_add i 2) ?_
  refine v_sld C hX hbl hbA (xs (i + 2)) (by rw [nI_clamp (by omega)]) (vp_in_nI (by omega) (by omega)) dL_law_194 ?_
  refine v_aload_n C 0 dL_law_195 rfl ?_
  refine v_iload_n C 3 dL_law_196 rfl ?_
  refine v_iconst C (v := 3) dL_law_197 (by decide) ?_
  refine v_iadd C dL_law_198 ?_
  refine V.topr (y := nI (i + 3)) (nI_add i 3) ?_
  refine v_sld C hX hbl hbA (xs (i + 3)) (by rw [nI_clamp (by omega)]) (vp_in_nI (by omega) (by omega)) dL_law_199 ?_
  refine v_callV (qi := 0) C [.int (xs (i + 1)), .int (xs (i + 2)), .int (xs (i + 3))] [] kX5_row gL_law_X5_row hC ⟨Nat.le_of_ble_eq_true rfl, Nat.le_of_ble_eq_true rfl⟩ ⟨rfl, rfl⟩ ⟨Nat.le_refl _, Nat.le_refl _⟩ rfl 0 h0 rfl rfl rfl (Nat.le_of_ble_eq_true rfl) isC w1 c1 c2 c3 c4 dL_law_200 ?_
  refine V.sts (st' := [.int r]) rfl ?_
  refine v_aload_n C 2 dL_law_203 rfl ?_
  refine v_aload_n C 0 dL_law_204 rfl ?_
  refine v_iload_n C 3 dL_law_205 rfl ?_
  refine v_iconst C (v := 1) dL_law_206 (by decide) ?_
  refine v_iadd C dL_law_207 ?_
  refine V.topr (y := nI (i + 1)) (nI_add i 1) ?_
  refine v_sld C hX hbl hbA (xs (i + 1)) (by rw [nI_clamp (by omega)]) (vp_in_nI (by omega) (by omega)) dL_law_208 ?_
  refine v_aload_n C 0 dL_law_209 rfl ?_
  refine v_iload_n C 3 dL_law_210 rfl ?_
  refine v_iconst C (v := 2) dL_law_211 (by decide) ?_
  refine v_iadd C dL_law_212 ?_
  refine V.topr (y := nI (i + 2)) (nI_add i 2) ?_
  refine v_sld C hX hbl hbA (xs (i + 2)) (by rw [nI_clamp (by omega)]) (vp_in_nI (by omega) (by omega)) dL_law_213 ?_
  refine v_aload_n C 0 dL_law_214 rfl ?_
  refine v_iload_n C 3 dL_law_215 rfl ?_
  refine v_iconst C (v := 3) dL_law_216 (by decide) ?_
  refine v_iadd C dL_law_217 ?_
  refine V.topr (y := nI (i + 3)) (nI_add i 3) ?_
  refine v_sld C hX hbl hbA (xs (i + 3)) (by rw [nI_clamp (by omega)]) (vp_in_nI (by omega) (by omega)) dL_law_218 ?_
  refine v_callV (qi := 0) C [.int (xs (i + 1)), .int (xs (i + 2)), .int (xs (i + 3))] [.int r] kX6_row gL_law_X6_row hM ⟨Nat.le_of_ble_eq_true rfl, Nat.le_of_ble_eq_true rfl⟩ ⟨rfl, rfl⟩ ⟨Nat.le_refl _, Nat.le_refl _⟩ rfl 41 h41 rfl rfl rfl (Nat.le_of_ble_eq_true rfl) isM w2 d1 d2 d3 d4 dL_law_219 ?_
  refine V.sts (st' := [.int r, .int r]) rfl ?_
  exact v_icmp_eq C 1156 dL_law_222 (by decide) (fun _ => kk w2 hI2) (fun z => absurd rfl z)
set_option maxHeartbeats 4000000 in
set_option maxRecDepth 100000 in
theorem law_1 {p : Program} {l : Launch} {e : Env} {s : State} {m : MethodId} {below : List Frame} {meth : Method} {c : Code} {D : va_G} {cs : Nat → ClassId} {b L : Nat} {xs : Nat → Int32} {ad : Nat → Nat} {i : Nat} {ws : va_W} (C : VOk p s m #[Value.ref b] c cL_law 4 wsL_law RL D (tz cs) (fun q : Nat => s.heap.size ≤ q) s.heap) (hX : va_X b L xs s s.heap) (hbl : b < s.heap.size) (hbA : ¬ (fun q : Nat => s.heap.size ≤ q) b) (hI : Inv cs ad ws) (hi : i + 6 ≤ L) (hL : L ≤ 384) (kk : ∀ ws2 : va_W, Inv cs ad ws2 → V p l e room_1 s m #[Value.ref b] below meth c 600000 7302250 (lw_Z below #[Value.ref b] s) 4 D (fun q : Nat => s.heap.size ≤ q) s.heap 1156 (lwL b (ad 0) (ad 41) i) [] ws2) : V p l e room_1 s m #[Value.ref b] below meth c 600000 7302250 (lw_Z below #[Value.ref b] s) 4 D (fun q : Nat => s.heap.size ≤ q) s.heap 227 (lwL b (ad 0) (ad 41) i) [] ws := by
  obtain ⟨r, w1, w2, ⟨wcC, u1, isC, hC, c1, c2, c3, c4⟩, ⟨wcM, u2, isM, hM, d1, d2, d3, d4⟩, hI2, gs, h41⟩ := tk_set (l := l) (D := D) hI (xs (i + 1)) (xs (i + 2)) (xs (i + 3))
  obtain ⟨fs, h0⟩ := hI.at0
  refine v_aload_n C 1 dL_law_227 rfl ?_
  refine v_aload_n C 0 dL_law_228 rfl ?_
  refine v_iload_n C 3 dL_law_229 rfl ?_
  refine v_iconst C (v := 1) dL_law_230 (by decide) ?_
  refine v_iadd C dL_law_231 ?_
  refine V.topr (y := nI (i + 1)) (nI_add i 1) ?_
  refine v_sld C hX hbl hbA (xs (i + 1)) (by rw [nI_clamp (by omega)]) (vp_in_nI (by omega) (by omega)) dL_law_232 ?_
  refine v_aload_n C 0 dL_law_233 rfl ?_
  refine v_iload_n C 3 dL_law_234 rfl ?_
  refine v_iconst C (v := 2) dL_law_235 (by decide) ?_
  refine v_iadd C dL_law_236 ?_
  refine V.topr (y := nI (i + 2)) (nI_add i 2) ?_
  refine v_sld C hX hbl hbA (xs (i + 2)) (by rw [nI_clamp (by omega)]) (vp_in_nI (by omega) (by omega)) dL_law_237 ?_
  refine v_aload_n C 0 dL_law_238 rfl ?_
  refine v_iload_n C 3 dL_law_239 rfl ?_
  refine v_iconst C (v := 3) dL_law_240 (by decide) ?_
  refine v_iadd C dL_law_241 ?_
  refine V.topr (y := nI (i + 3)) (nI_add i 3) ?_
  refine v_sld C hX hbl hbA (xs (i + 3)) (by rw [nI_clamp (by omega)]) (vp_in_nI (by omega) (by omega)) dL_law_242 ?_
  refine v_callV (qi := 0) C [.int (xs (i + 1)), .int (xs (i + 2)), .int (xs (i + 3))] [] kX5_set gL_law_X5_set hC ⟨Nat.le_of_ble_eq_true rfl, Nat.le_of_ble_eq_true rfl⟩ ⟨rfl, rfl⟩ ⟨Nat.le_refl _, Nat.le_refl _⟩ rfl 0 h0 rfl rfl rfl (Nat.le_of_ble_eq_true rfl) isC w1 c1 c2 c3 c4 dL_law_243 ?_
  refine V.sts (st' := [.int r]) rfl ?_
  refine v_aload_n C 2 dL_law_246 rfl ?_
  refine v_aload_n C 0 dL_law_247 rfl ?_
  refine v_iload_n C 3 dL_law_248 rfl ?_
  refine v_iconst C (v := 1) dL_law_249 (by decide) ?_
  refine v_iadd C dL_law_250 ?_
  refine V.topr (y := nI (i + 1)) (nI_add i 1) ?_
  refine v_sld C hX hbl hbA (xs (i + 1)) (by rw [nI_clamp (by omega)]) (vp_in_nI (by omega) (by omega)) dL_law_251 ?_
  refine v_aload_n C 0 dL_law_252 rfl ?_
  refine v_iload_n C 3 dL_law_253 rfl ?_
  refine v_iconst C (v := 2) dL_law_254 (by decide) ?_
  refine v_iadd C dL_law_255 ?_
  refine V.topr (y := nI (i + 2)) (nI_add i 2) ?_
  refine v_sld C hX hbl hbA (xs (i + 2)) (by rw [nI_clamp (by omega)]) (vp_in_nI (by omega) (by omega)) dL_law_256 ?_
  refine v_aload_n C 0 dL_law_257 rfl ?_
  refine v_iload_n C 3 dL_law_258 rfl ?_
  refine v_iconst C (v := 3) dL_law_259 (by decide) ?_
  refine v_iadd C dL_law_260 ?_
  refine V.topr (y := nI (i + 3)) (nI_add i 3) ?_
  refine v_sld C hX hbl hbA (xs (i + 3)) (by rw [nI_clamp (by omega)]) (vp_in_nI (by omega) (by omega)) dL_law_261 ?_
  refine v_callV (qi := 0) C [.int (xs (i + 1)), .int (xs (i + 2)), .int (xs (i + 3))] [.int r] kX6_set gL_law_X6_set hM ⟨Nat.le_of_ble_eq_true rfl, Nat.le_of_ble_eq_true rfl⟩ ⟨rfl, rfl⟩ ⟨Nat.le_refl _, Nat.le_refl _⟩ rfl 41 h41 rfl rfl rfl (Nat.le_of_ble_eq_true rfl) isM w2 d1 d2 d3 d4 dL_law_262 ?_
  refine V.sts (st' := [.int r, .int r]) rfl ?_
  exact v_icmp_eq C 1156 dL_law_265 (by decide) (fun _ => kk w2 hI2) (fun z => absurd rfl z)
set_option maxHeartbeats 4000000 in
set_option maxRecDepth 100000 in
theorem law_2 {p : Program} {l : Launch} {e : Env} {s : State} {m : MethodId} {below : List Frame} {meth : Method} {c : Code} {D : va_G} {cs : Nat → ClassId} {b L : Nat} {xs : Nat → Int32} {ad : Nat → Nat} {i : Nat} {ws : va_W} (C : VOk p s m #[Value.ref b] c cL_law 4 wsL_law RL D (tz cs) (fun q : Nat => s.heap.size ≤ q) s.heap) (hX : va_X b L xs s s.heap) (hbl : b < s.heap.size) (hbA : ¬ (fun q : Nat => s.heap.size ≤ q) b) (hI : Inv cs ad ws) (hi : i + 6 ≤ L) (hL : L ≤ 384) (kk : ∀ ws2 : va_W, Inv cs ad ws2 → V p l e room_1 s m #[Value.ref b] below meth c 600000 7302250 (lw_Z below #[Value.ref b] s) 4 D (fun q : Nat => s.heap.size ≤ q) s.heap 1156 (lwL b (ad 0) (ad 41) i) [] ws2) : V p l e room_1 s m #[Value.ref b] below meth c 600000 7302250 (lw_Z below #[Value.ref b] s) 4 D (fun q : Nat => s.heap.size ≤ q) s.heap 270 (lwL b (ad 0) (ad 41) i) [] ws := by
  obtain ⟨r, w1, w2, ⟨wcC, u1, isC, hC, c1, c2, c3, c4⟩, ⟨wcM, u2, isM, hM, d1, d2, d3, d4⟩, hI2, gs, h41⟩ := tk_copy (l := l) (D := D) hI (xs (i + 1)) (xs (i + 2)) (xs (i + 3)) (xs (i + 4)) (xs (i + 5))
  obtain ⟨fs, h0⟩ := hI.at0
  refine v_aload_n C 1 dL_law_270 rfl ?_
  refine v_aload_n C 0 dL_law_271 rfl ?_
  refine v_iload_n C 3 dL_law_272 rfl ?_
  refine v_iconst C (v := 1) dL_law_273 (by decide) ?_
  refine v_iadd C dL_law_274 ?_
  refine V.topr (y := nI (i + 1)) (nI_add i 1) ?_
  refine v_sld C hX hbl hbA (xs (i + 1)) (by rw [nI_clamp (by omega)]) (vp_in_nI (by omega) (by omega)) dL_law_275 ?_
  refine v_aload_n C 0 dL_law_276 rfl ?_
  refine v_iload_n C 3 dL_law_277 rfl ?_
  refine v_iconst C (v := 2) dL_law_278 (by decide) ?_
  refine v_iadd C dL_law_279 ?_
  refine V.topr (y := nI (i + 2)) (nI_add i 2) ?_
  refine v_sld C hX hbl hbA (xs (i + 2)) (by rw [nI_clamp (by omega)]) (vp_in_nI (by omega) (by omega)) dL_law_280 ?_
  refine v_aload_n C 0 dL_law_281 rfl ?_
  refine v_iload_n C 3 dL_law_282 rfl ?_
  refine v_iconst C (v := 3) dL_law_283 (by decide) ?_
  refine v_iadd C dL_law_284 ?_
  refine V.topr (y := nI (i + 3)) (nI_add i 3) ?_
  refine v_sld C hX hbl hbA (xs (i + 3)) (by rw [nI_clamp (by omega)]) (vp_in_nI (by omega) (by omega)) dL_law_285 ?_
  refine v_aload_n C 0 dL_law_286 rfl ?_
  refine v_iload_n C 3 dL_law_287 rfl ?_
  refine v_iconst C (v := 4) dL_law_288 (by decide) ?_
  refine v_iadd C dL_law_289 ?_
  refine V.topr (y := nI (i + 4)) (nI_add i 4) ?_
  refine v_sld C hX hbl hbA (xs (i + 4)) (by rw [nI_clamp (by omega)]) (vp_in_nI (by omega) (by omega)) dL_law_290 ?_
  refine v_aload_n C 0 dL_law_291 rfl ?_
  refine v_iload_n C 3 dL_law_292 rfl ?_
  refine v_iconst C (v := 5) dL_law_293 (by decide) ?_
  refine v_iadd C dL_law_294 ?_
  refine V.topr (y := nI (i + 5)) (nI_add i 5) ?_
  refine v_sld C hX hbl hbA (xs (i + 5)) (by rw [nI_clamp (by omega)]) (vp_in_nI (by omega) (by omega)) dL_law_295 ?_
  refine v_callV (qi := 0) C [.int (xs (i + 1)), .int (xs (i + 2)), .int (xs (i + 3)), .int (xs (i + 4)), .int (xs (i + 5))] [] kX5_copy gL_law_X5_copy hC ⟨Nat.le_of_ble_eq_true rfl, Nat.le_of_ble_eq_true rfl⟩ ⟨rfl, rfl⟩ ⟨Nat.le_refl _, Nat.le_refl _⟩ rfl 0 h0 rfl rfl rfl (Nat.le_of_ble_eq_true rfl) isC w1 c1 c2 c3 c4 dL_law_296 ?_
  refine V.sts (st' := [.int r]) rfl ?_
  refine v_aload_n C 2 dL_law_299 rfl ?_
  refine v_aload_n C 0 dL_law_300 rfl ?_
  refine v_iload_n C 3 dL_law_301 rfl ?_
  refine v_iconst C (v := 1) dL_law_302 (by decide) ?_
  refine v_iadd C dL_law_303 ?_
  refine V.topr (y := nI (i + 1)) (nI_add i 1) ?_
  refine v_sld C hX hbl hbA (xs (i + 1)) (by rw [nI_clamp (by omega)]) (vp_in_nI (by omega) (by omega)) dL_law_304 ?_
  refine v_aload_n C 0 dL_law_305 rfl ?_
  refine v_iload_n C 3 dL_law_306 rfl ?_
  refine v_iconst C (v := 2) dL_law_307 (by decide) ?_
  refine v_iadd C dL_law_308 ?_
  refine V.topr (y := nI (i + 2)) (nI_add i 2) ?_
  refine v_sld C hX hbl hbA (xs (i + 2)) (by rw [nI_clamp (by omega)]) (vp_in_nI (by omega) (by omega)) dL_law_309 ?_
  refine v_aload_n C 0 dL_law_310 rfl ?_
  refine v_iload_n C 3 dL_law_311 rfl ?_
  refine v_iconst C (v := 3) dL_law_312 (by decide) ?_
  refine v_iadd C dL_law_313 ?_
  refine V.topr (y := nI (i + 3)) (nI_add i 3) ?_
  refine v_sld C hX hbl hbA (xs (i + 3)) (by rw [nI_clamp (by omega)]) (vp_in_nI (by omega) (by omega)) dL_law_314 ?_
  refine v_aload_n C 0 dL_law_315 rfl ?_
  refine v_iload_n C 3 dL_law_316 rfl ?_
  refine v_iconst C (v := 4) dL_law_317 (by decide) ?_
  refine v_iadd C dL_law_318 ?_
  refine V.topr (y := nI (i + 4)) (nI_add i 4) ?_
  refine v_sld C hX hbl hbA (xs (i + 4)) (by rw [nI_clamp (by omega)]) (vp_in_nI (by omega) (by omega)) dL_law_319 ?_
  refine v_aload_n C 0 dL_law_320 rfl ?_
  refine v_iload_n C 3 dL_law_321 rfl ?_
  refine v_iconst C (v := 5) dL_law_322 (by decide) ?_
  refine v_iadd C dL_law_323 ?_
  refine V.topr (y := nI (i + 5)) (nI_add i 5) ?_
  refine v_sld C hX hbl hbA (xs (i + 5)) (by rw [nI_clamp (by omega)]) (vp_in_nI (by omega) (by omega)) dL_law_324 ?_
  refine v_callV (qi := 0) C [.int (xs (i + 1)), .int (xs (i + 2)), .int (xs (i + 3)), .int (xs (i + 4)), .int (xs (i + 5))] [.int r] kX6_copy gL_law_X6_copy hM ⟨Nat.le_of_ble_eq_true rfl, Nat.le_of_ble_eq_true rfl⟩ ⟨rfl, rfl⟩ ⟨Nat.le_refl _, Nat.le_refl _⟩ rfl 41 h41 rfl rfl rfl (Nat.le_of_ble_eq_true rfl) isM w2 d1 d2 d3 d4 dL_law_325 ?_
  refine V.sts (st' := [.int r, .int r]) rfl ?_
  exact v_icmp_eq C 1156 dL_law_328 (by decide) (fun _ => kk w2 hI2) (fun z => absurd rfl z)
set_option maxHeartbeats 4000000 in
set_option maxRecDepth 100000 in
theorem law_3 {p : Program} {l : Launch} {e : Env} {s : State} {m : MethodId} {below : List Frame} {meth : Method} {c : Code} {D : va_G} {cs : Nat → ClassId} {b L : Nat} {xs : Nat → Int32} {ad : Nat → Nat} {i : Nat} {ws : va_W} (C : VOk p s m #[Value.ref b] c cL_law 4 wsL_law RL D (tz cs) (fun q : Nat => s.heap.size ≤ q) s.heap) (hX : va_X b L xs s s.heap) (hbl : b < s.heap.size) (hbA : ¬ (fun q : Nat => s.heap.size ≤ q) b) (hI : Inv cs ad ws) (hi : i + 6 ≤ L) (hL : L ≤ 384) (kk : ∀ ws2 : va_W, Inv cs ad ws2 → V p l e room_1 s m #[Value.ref b] below meth c 600000 7302250 (lw_Z below #[Value.ref b] s) 4 D (fun q : Nat => s.heap.size ≤ q) s.heap 1156 (lwL b (ad 0) (ad 41) i) [] ws2) : V p l e room_1 s m #[Value.ref b] below meth c 600000 7302250 (lw_Z below #[Value.ref b] s) 4 D (fun q : Nat => s.heap.size ≤ q) s.heap 333 (lwL b (ad 0) (ad 41) i) [] ws := by
  obtain ⟨r, w1, w2, ⟨wcC, u1, isC, hC, c1, c2, c3, c4⟩, ⟨wcM, u2, isM, hM, d1, d2, d3, d4⟩, hI2, gs, h41⟩ := tk_drop (l := l) (D := D) hI (xs (i + 1))
  obtain ⟨fs, h0⟩ := hI.at0
  refine v_aload_n C 1 dL_law_333 rfl ?_
  refine v_aload_n C 0 dL_law_334 rfl ?_
  refine v_iload_n C 3 dL_law_335 rfl ?_
  refine v_iconst C (v := 1) dL_law_336 (by decide) ?_
  refine v_iadd C dL_law_337 ?_
  refine V.topr (y := nI (i + 1)) (nI_add i 1) ?_
  refine v_sld C hX hbl hbA (xs (i + 1)) (by rw [nI_clamp (by omega)]) (vp_in_nI (by omega) (by omega)) dL_law_338 ?_
  refine v_callV (qi := 0) C [.int (xs (i + 1))] [] kX5_drop gL_law_X5_drop hC ⟨Nat.le_of_ble_eq_true rfl, Nat.le_of_ble_eq_true rfl⟩ ⟨rfl, rfl⟩ ⟨Nat.le_refl _, Nat.le_refl _⟩ rfl 0 h0 rfl rfl rfl (Nat.le_of_ble_eq_true rfl) isC w1 c1 c2 c3 c4 dL_law_339 ?_
  refine V.sts (st' := [.int r]) rfl ?_
  refine v_aload_n C 2 dL_law_342 rfl ?_
  refine v_aload_n C 0 dL_law_343 rfl ?_
  refine v_iload_n C 3 dL_law_344 rfl ?_
  refine v_iconst C (v := 1) dL_law_345 (by decide) ?_
  refine v_iadd C dL_law_346 ?_
  refine V.topr (y := nI (i + 1)) (nI_add i 1) ?_
  refine v_sld C hX hbl hbA (xs (i + 1)) (by rw [nI_clamp (by omega)]) (vp_in_nI (by omega) (by omega)) dL_law_347 ?_
  refine v_callV (qi := 0) C [.int (xs (i + 1))] [.int r] kX6_drop gL_law_X6_drop hM ⟨Nat.le_of_ble_eq_true rfl, Nat.le_of_ble_eq_true rfl⟩ ⟨rfl, rfl⟩ ⟨Nat.le_refl _, Nat.le_refl _⟩ rfl 41 h41 rfl rfl rfl (Nat.le_of_ble_eq_true rfl) isM w2 d1 d2 d3 d4 dL_law_348 ?_
  refine V.sts (st' := [.int r, .int r]) rfl ?_
  exact v_icmp_eq C 1156 dL_law_351 (by decide) (fun _ => kk w2 hI2) (fun z => absurd rfl z)
set_option maxHeartbeats 4000000 in
set_option maxRecDepth 100000 in
theorem law_4 {p : Program} {l : Launch} {e : Env} {s : State} {m : MethodId} {below : List Frame} {meth : Method} {c : Code} {D : va_G} {cs : Nat → ClassId} {b L : Nat} {xs : Nat → Int32} {ad : Nat → Nat} {i : Nat} {ws : va_W} (C : VOk p s m #[Value.ref b] c cL_law 4 wsL_law RL D (tz cs) (fun q : Nat => s.heap.size ≤ q) s.heap) (hX : va_X b L xs s s.heap) (hbl : b < s.heap.size) (hbA : ¬ (fun q : Nat => s.heap.size ≤ q) b) (hI : Inv cs ad ws) (hi : i + 6 ≤ L) (hL : L ≤ 384) (kk : ∀ ws2 : va_W, Inv cs ad ws2 → V p l e room_1 s m #[Value.ref b] below meth c 600000 7302250 (lw_Z below #[Value.ref b] s) 4 D (fun q : Nat => s.heap.size ≤ q) s.heap 1156 (lwL b (ad 0) (ad 41) i) [] ws2) : V p l e room_1 s m #[Value.ref b] below meth c 600000 7302250 (lw_Z below #[Value.ref b] s) 4 D (fun q : Nat => s.heap.size ≤ q) s.heap 356 (lwL b (ad 0) (ad 41) i) [] ws := by
  obtain ⟨r, w1, w2, ⟨wcC, u1, isC, hC, c1, c2, c3, c4⟩, ⟨wcM, u2, isM, hM, d1, d2, d3, d4⟩, hI2, gs, h41⟩ := tk_feed (l := l) (D := D) hI (xs (i + 1))
  obtain ⟨fs, h0⟩ := hI.at0
  refine v_aload_n C 1 dL_law_356 rfl ?_
  refine v_aload_n C 0 dL_law_357 rfl ?_
  refine v_iload_n C 3 dL_law_358 rfl ?_
  refine v_iconst C (v := 1) dL_law_359 (by decide) ?_
  refine v_iadd C dL_law_360 ?_
  refine V.topr (y := nI (i + 1)) (nI_add i 1) ?_
  refine v_sld C hX hbl hbA (xs (i + 1)) (by rw [nI_clamp (by omega)]) (vp_in_nI (by omega) (by omega)) dL_law_361 ?_
  refine v_callV (qi := 0) C [.int (xs (i + 1))] [] kX5_feed gL_law_X5_feed hC ⟨Nat.le_of_ble_eq_true rfl, Nat.le_of_ble_eq_true rfl⟩ ⟨rfl, rfl⟩ ⟨Nat.le_refl _, Nat.le_refl _⟩ rfl 0 h0 rfl rfl rfl (Nat.le_of_ble_eq_true rfl) isC w1 c1 c2 c3 c4 dL_law_362 ?_
  refine V.sts (st' := [.int r]) rfl ?_
  refine v_aload_n C 2 dL_law_365 rfl ?_
  refine v_aload_n C 0 dL_law_366 rfl ?_
  refine v_iload_n C 3 dL_law_367 rfl ?_
  refine v_iconst C (v := 1) dL_law_368 (by decide) ?_
  refine v_iadd C dL_law_369 ?_
  refine V.topr (y := nI (i + 1)) (nI_add i 1) ?_
  refine v_sld C hX hbl hbA (xs (i + 1)) (by rw [nI_clamp (by omega)]) (vp_in_nI (by omega) (by omega)) dL_law_370 ?_
  refine v_callV (qi := 0) C [.int (xs (i + 1))] [.int r] kX6_feed gL_law_X6_feed hM ⟨Nat.le_of_ble_eq_true rfl, Nat.le_of_ble_eq_true rfl⟩ ⟨rfl, rfl⟩ ⟨Nat.le_refl _, Nat.le_refl _⟩ rfl 41 h41 rfl rfl rfl (Nat.le_of_ble_eq_true rfl) isM w2 d1 d2 d3 d4 dL_law_371 ?_
  refine V.sts (st' := [.int r, .int r]) rfl ?_
  exact v_icmp_eq C 1156 dL_law_374 (by decide) (fun _ => kk w2 hI2) (fun z => absurd rfl z)
set_option maxHeartbeats 4000000 in
set_option maxRecDepth 100000 in
theorem law_5 {p : Program} {l : Launch} {e : Env} {s : State} {m : MethodId} {below : List Frame} {meth : Method} {c : Code} {D : va_G} {cs : Nat → ClassId} {b L : Nat} {xs : Nat → Int32} {ad : Nat → Nat} {i : Nat} {ws : va_W} (C : VOk p s m #[Value.ref b] c cL_law 4 wsL_law RL D (tz cs) (fun q : Nat => s.heap.size ≤ q) s.heap) (hX : va_X b L xs s s.heap) (hbl : b < s.heap.size) (hbA : ¬ (fun q : Nat => s.heap.size ≤ q) b) (hI : Inv cs ad ws) (hi : i + 6 ≤ L) (hL : L ≤ 384) (kk : ∀ ws2 : va_W, Inv cs ad ws2 → V p l e room_1 s m #[Value.ref b] below meth c 600000 7302250 (lw_Z below #[Value.ref b] s) 4 D (fun q : Nat => s.heap.size ≤ q) s.heap 1156 (lwL b (ad 0) (ad 41) i) [] ws2) : V p l e room_1 s m #[Value.ref b] below meth c 600000 7302250 (lw_Z below #[Value.ref b] s) 4 D (fun q : Nat => s.heap.size ≤ q) s.heap 379 (lwL b (ad 0) (ad 41) i) [] ws := by
  obtain ⟨r, w1, w2, ⟨wcC, u1, isC, hC, c1, c2, c3, c4⟩, ⟨wcM, u2, isM, hM, d1, d2, d3, d4⟩, hI2, gs, h41⟩ := tk_table (l := l) (D := D) hI 
  obtain ⟨fs, h0⟩ := hI.at0
  refine v_aload_n C 1 dL_law_379 rfl ?_
  refine v_callV (qi := 0) C [] [] kX5_table gL_law_X5_table hC ⟨Nat.le_of_ble_eq_true rfl, Nat.le_of_ble_eq_true rfl⟩ ⟨rfl, rfl⟩ ⟨Nat.le_refl _, Nat.le_refl _⟩ rfl 0 h0 rfl rfl rfl (Nat.le_of_ble_eq_true rfl) isC w1 c1 c2 c3 c4 dL_law_380 ?_
  refine V.sts (st' := [.int r]) rfl ?_
  refine v_aload_n C 2 dL_law_383 rfl ?_
  refine v_callV (qi := 0) C [] [.int r] kX6_table gL_law_X6_table hM ⟨Nat.le_of_ble_eq_true rfl, Nat.le_of_ble_eq_true rfl⟩ ⟨rfl, rfl⟩ ⟨Nat.le_refl _, Nat.le_refl _⟩ rfl 41 h41 rfl rfl rfl (Nat.le_of_ble_eq_true rfl) isM w2 d1 d2 d3 d4 dL_law_384 ?_
  refine V.sts (st' := [.int r, .int r]) rfl ?_
  exact v_icmp_eq C 1156 dL_law_387 (by decide) (fun _ => kk w2 hI2) (fun z => absurd rfl z)
set_option maxHeartbeats 4000000 in
set_option maxRecDepth 100000 in
theorem law_6 {p : Program} {l : Launch} {e : Env} {s : State} {m : MethodId} {below : List Frame} {meth : Method} {c : Code} {D : va_G} {cs : Nat → ClassId} {b L : Nat} {xs : Nat → Int32} {ad : Nat → Nat} {i : Nat} {ws : va_W} (C : VOk p s m #[Value.ref b] c cL_law 4 wsL_law RL D (tz cs) (fun q : Nat => s.heap.size ≤ q) s.heap) (hX : va_X b L xs s s.heap) (hbl : b < s.heap.size) (hbA : ¬ (fun q : Nat => s.heap.size ≤ q) b) (hI : Inv cs ad ws) (hi : i + 6 ≤ L) (hL : L ≤ 384) (kk : ∀ ws2 : va_W, Inv cs ad ws2 → V p l e room_1 s m #[Value.ref b] below meth c 600000 7302250 (lw_Z below #[Value.ref b] s) 4 D (fun q : Nat => s.heap.size ≤ q) s.heap 1156 (lwL b (ad 0) (ad 41) i) [] ws2) : V p l e room_1 s m #[Value.ref b] below meth c 600000 7302250 (lw_Z below #[Value.ref b] s) 4 D (fun q : Nat => s.heap.size ≤ q) s.heap 392 (lwL b (ad 0) (ad 41) i) [] ws := by
  obtain ⟨r, w1, w2, ⟨wcC, u1, isC, hC, c1, c2, c3, c4⟩, ⟨wcM, u2, isM, hM, d1, d2, d3, d4⟩, hI2, gs, h41⟩ := tk_fault (l := l) (D := D) hI 
  obtain ⟨fs, h0⟩ := hI.at0
  refine v_aload_n C 1 dL_law_392 rfl ?_
  refine v_callV (qi := 0) C [] [] kX5_fault gL_law_X5_fault hC ⟨Nat.le_of_ble_eq_true rfl, Nat.le_of_ble_eq_true rfl⟩ ⟨rfl, rfl⟩ ⟨Nat.le_refl _, Nat.le_refl _⟩ rfl 0 h0 rfl rfl rfl (Nat.le_of_ble_eq_true rfl) isC w1 c1 c2 c3 c4 dL_law_393 ?_
  refine V.sts (st' := [.int r]) rfl ?_
  refine v_aload_n C 2 dL_law_396 rfl ?_
  refine v_callV (qi := 0) C [] [.int r] kX6_fault gL_law_X6_fault hM ⟨Nat.le_of_ble_eq_true rfl, Nat.le_of_ble_eq_true rfl⟩ ⟨rfl, rfl⟩ ⟨Nat.le_refl _, Nat.le_refl _⟩ rfl 41 h41 rfl rfl rfl (Nat.le_of_ble_eq_true rfl) isM w2 d1 d2 d3 d4 dL_law_397 ?_
  refine V.sts (st' := [.int r, .int r]) rfl ?_
  exact v_icmp_eq C 1156 dL_law_400 (by decide) (fun _ => kk w2 hI2) (fun z => absurd rfl z)
set_option maxHeartbeats 4000000 in
set_option maxRecDepth 100000 in
theorem law_7 {p : Program} {l : Launch} {e : Env} {s : State} {m : MethodId} {below : List Frame} {meth : Method} {c : Code} {D : va_G} {cs : Nat → ClassId} {b L : Nat} {xs : Nat → Int32} {ad : Nat → Nat} {i : Nat} {ws : va_W} (C : VOk p s m #[Value.ref b] c cL_law 4 wsL_law RL D (tz cs) (fun q : Nat => s.heap.size ≤ q) s.heap) (hX : va_X b L xs s s.heap) (hbl : b < s.heap.size) (hbA : ¬ (fun q : Nat => s.heap.size ≤ q) b) (hI : Inv cs ad ws) (hi : i + 6 ≤ L) (hL : L ≤ 384) (kk : ∀ ws2 : va_W, Inv cs ad ws2 → V p l e room_1 s m #[Value.ref b] below meth c 600000 7302250 (lw_Z below #[Value.ref b] s) 4 D (fun q : Nat => s.heap.size ≤ q) s.heap 1156 (lwL b (ad 0) (ad 41) i) [] ws2) : V p l e room_1 s m #[Value.ref b] below meth c 600000 7302250 (lw_Z below #[Value.ref b] s) 4 D (fun q : Nat => s.heap.size ≤ q) s.heap 405 (lwL b (ad 0) (ad 41) i) [] ws := by
  obtain ⟨r, w1, w2, ⟨wcC, u1, isC, hC, c1, c2, c3, c4⟩, ⟨wcM, u2, isM, hM, d1, d2, d3, d4⟩, hI2, gs, h41⟩ := tk_away (l := l) (D := D) hI (xs (i + 1)) (xs (i + 2))
  obtain ⟨fs, h0⟩ := hI.at0
  refine v_aload_n C 1 dL_law_405 rfl ?_
  refine v_aload_n C 0 dL_law_406 rfl ?_
  refine v_iload_n C 3 dL_law_407 rfl ?_
  refine v_iconst C (v := 1) dL_law_408 (by decide) ?_
  refine v_iadd C dL_law_409 ?_
  refine V.topr (y := nI (i + 1)) (nI_add i 1) ?_
  refine v_sld C hX hbl hbA (xs (i + 1)) (by rw [nI_clamp (by omega)]) (vp_in_nI (by omega) (by omega)) dL_law_410 ?_
  refine v_aload_n C 0 dL_law_411 rfl ?_
  refine v_iload_n C 3 dL_law_412 rfl ?_
  refine v_iconst C (v := 2) dL_law_413 (by decide) ?_
  refine v_iadd C dL_law_414 ?_
  refine V.topr (y := nI (i + 2)) (nI_add i 2) ?_
  refine v_sld C hX hbl hbA (xs (i + 2)) (by rw [nI_clamp (by omega)]) (vp_in_nI (by omega) (by omega)) dL_law_415 ?_
  refine v_callV (qi := 0) C [.int (xs (i + 1)), .int (xs (i + 2))] [] kX5_away gL_law_X5_away hC ⟨Nat.le_of_ble_eq_true rfl, Nat.le_of_ble_eq_true rfl⟩ ⟨rfl, rfl⟩ ⟨Nat.le_refl _, Nat.le_refl _⟩ rfl 0 h0 rfl rfl rfl (Nat.le_of_ble_eq_true rfl) isC w1 c1 c2 c3 c4 dL_law_416 ?_
  refine V.sts (st' := [.int r]) rfl ?_
  refine v_aload_n C 2 dL_law_419 rfl ?_
  refine v_aload_n C 0 dL_law_420 rfl ?_
  refine v_iload_n C 3 dL_law_421 rfl ?_
  refine v_iconst C (v := 1) dL_law_422 (by decide) ?_
  refine v_iadd C dL_law_423 ?_
  refine V.topr (y := nI (i + 1)) (nI_add i 1) ?_
  refine v_sld C hX hbl hbA (xs (i + 1)) (by rw [nI_clamp (by omega)]) (vp_in_nI (by omega) (by omega)) dL_law_424 ?_
  refine v_aload_n C 0 dL_law_425 rfl ?_
  refine v_iload_n C 3 dL_law_426 rfl ?_
  refine v_iconst C (v := 2) dL_law_427 (by decide) ?_
  refine v_iadd C dL_law_428 ?_
  refine V.topr (y := nI (i + 2)) (nI_add i 2) ?_
  refine v_sld C hX hbl hbA (xs (i + 2)) (by rw [nI_clamp (by omega)]) (vp_in_nI (by omega) (by omega)) dL_law_429 ?_
  refine v_callV (qi := 0) C [.int (xs (i + 1)), .int (xs (i + 2))] [.int r] kX6_away gL_law_X6_away hM ⟨Nat.le_of_ble_eq_true rfl, Nat.le_of_ble_eq_true rfl⟩ ⟨rfl, rfl⟩ ⟨Nat.le_refl _, Nat.le_refl _⟩ rfl 41 h41 rfl rfl rfl (Nat.le_of_ble_eq_true rfl) isM w2 d1 d2 d3 d4 dL_law_430 ?_
  refine V.sts (st' := [.int r, .int r]) rfl ?_
  exact v_icmp_eq C 1156 dL_law_433 (by decide) (fun _ => kk w2 hI2) (fun z => absurd rfl z)
set_option maxHeartbeats 4000000 in
set_option maxRecDepth 100000 in
theorem law_8 {p : Program} {l : Launch} {e : Env} {s : State} {m : MethodId} {below : List Frame} {meth : Method} {c : Code} {D : va_G} {cs : Nat → ClassId} {b L : Nat} {xs : Nat → Int32} {ad : Nat → Nat} {i : Nat} {ws : va_W} (C : VOk p s m #[Value.ref b] c cL_law 4 wsL_law RL D (tz cs) (fun q : Nat => s.heap.size ≤ q) s.heap) (hX : va_X b L xs s s.heap) (hbl : b < s.heap.size) (hbA : ¬ (fun q : Nat => s.heap.size ≤ q) b) (hI : Inv cs ad ws) (hi : i + 6 ≤ L) (hL : L ≤ 384) (kk : ∀ ws2 : va_W, Inv cs ad ws2 → V p l e room_1 s m #[Value.ref b] below meth c 600000 7302250 (lw_Z below #[Value.ref b] s) 4 D (fun q : Nat => s.heap.size ≤ q) s.heap 1156 (lwL b (ad 0) (ad 41) i) [] ws2) : V p l e room_1 s m #[Value.ref b] below meth c 600000 7302250 (lw_Z below #[Value.ref b] s) 4 D (fun q : Nat => s.heap.size ≤ q) s.heap 438 (lwL b (ad 0) (ad 41) i) [] ws := by
  obtain ⟨r, w1, w2, ⟨wcC, u1, isC, hC, c1, c2, c3, c4⟩, ⟨wcM, u2, isM, hM, d1, d2, d3, d4⟩, hI2, gs, h41⟩ := tk_tie (l := l) (D := D) hI (xs (i + 1)) (xs (i + 2)) (xs (i + 3))
  obtain ⟨fs, h0⟩ := hI.at0
  refine v_aload_n C 1 dL_law_438 rfl ?_
  refine v_aload_n C 0 dL_law_439 rfl ?_
  refine v_iload_n C 3 dL_law_440 rfl ?_
  refine v_iconst C (v := 1) dL_law_441 (by decide) ?_
  refine v_iadd C dL_law_442 ?_
  refine V.topr (y := nI (i + 1)) (nI_add i 1) ?_
  refine v_sld C hX hbl hbA (xs (i + 1)) (by rw [nI_clamp (by omega)]) (vp_in_nI (by omega) (by omega)) dL_law_443 ?_
  refine v_aload_n C 0 dL_law_444 rfl ?_
  refine v_iload_n C 3 dL_law_445 rfl ?_
  refine v_iconst C (v := 2) dL_law_446 (by decide) ?_
  refine v_iadd C dL_law_447 ?_
  refine V.topr (y := nI (i + 2)) (nI_add i 2) ?_
  refine v_sld C hX hbl hbA (xs (i + 2)) (by rw [nI_clamp (by omega)]) (vp_in_nI (by omega) (by omega)) dL_law_448 ?_
  refine v_aload_n C 0 dL_law_449 rfl ?_
  refine v_iload_n C 3 dL_law_450 rfl ?_
  refine v_iconst C (v := 3) dL_law_451 (by decide) ?_
  refine v_iadd C dL_law_452 ?_
  refine V.topr (y := nI (i + 3)) (nI_add i 3) ?_
  refine v_sld C hX hbl hbA (xs (i + 3)) (by rw [nI_clamp (by omega)]) (vp_in_nI (by omega) (by omega)) dL_law_453 ?_
  refine v_callV (qi := 0) C [.int (xs (i + 1)), .int (xs (i + 2)), .int (xs (i + 3))] [] kX5_tie gL_law_X5_tie hC ⟨Nat.le_of_ble_eq_true rfl, Nat.le_of_ble_eq_true rfl⟩ ⟨rfl, rfl⟩ ⟨Nat.le_refl _, Nat.le_refl _⟩ rfl 0 h0 rfl rfl rfl (Nat.le_of_ble_eq_true rfl) isC w1 c1 c2 c3 c4 dL_law_454 ?_
  refine V.sts (st' := [.int r]) rfl ?_
  refine v_aload_n C 2 dL_law_457 rfl ?_
  refine v_aload_n C 0 dL_law_458 rfl ?_
  refine v_iload_n C 3 dL_law_459 rfl ?_
  refine v_iconst C (v := 1) dL_law_460 (by decide) ?_
  refine v_iadd C dL_law_461 ?_
  refine V.topr (y := nI (i + 1)) (nI_add i 1) ?_
  refine v_sld C hX hbl hbA (xs (i + 1)) (by rw [nI_clamp (by omega)]) (vp_in_nI (by omega) (by omega)) dL_law_462 ?_
  refine v_aload_n C 0 dL_law_463 rfl ?_
  refine v_iload_n C 3 dL_law_464 rfl ?_
  refine v_iconst C (v := 2) dL_law_465 (by decide) ?_
  refine v_iadd C dL_law_466 ?_
  refine V.topr (y := nI (i + 2)) (nI_add i 2) ?_
  refine v_sld C hX hbl hbA (xs (i + 2)) (by rw [nI_clamp (by omega)]) (vp_in_nI (by omega) (by omega)) dL_law_467 ?_
  refine v_aload_n C 0 dL_law_468 rfl ?_
  refine v_iload_n C 3 dL_law_469 rfl ?_
  refine v_iconst C (v := 3) dL_law_470 (by decide) ?_
  refine v_iadd C dL_law_471 ?_
  refine V.topr (y := nI (i + 3)) (nI_add i 3) ?_
  refine v_sld C hX hbl hbA (xs (i + 3)) (by rw [nI_clamp (by omega)]) (vp_in_nI (by omega) (by omega)) dL_law_472 ?_
  refine v_callV (qi := 0) C [.int (xs (i + 1)), .int (xs (i + 2)), .int (xs (i + 3))] [.int r] kX6_tie gL_law_X6_tie hM ⟨Nat.le_of_ble_eq_true rfl, Nat.le_of_ble_eq_true rfl⟩ ⟨rfl, rfl⟩ ⟨Nat.le_refl _, Nat.le_refl _⟩ rfl 41 h41 rfl rfl rfl (Nat.le_of_ble_eq_true rfl) isM w2 d1 d2 d3 d4 dL_law_473 ?_
  refine V.sts (st' := [.int r, .int r]) rfl ?_
  exact v_icmp_eq C 1156 dL_law_476 (by decide) (fun _ => kk w2 hI2) (fun z => absurd rfl z)
set_option maxHeartbeats 4000000 in
set_option maxRecDepth 100000 in
theorem law_9 {p : Program} {l : Launch} {e : Env} {s : State} {m : MethodId} {below : List Frame} {meth : Method} {c : Code} {D : va_G} {cs : Nat → ClassId} {b L : Nat} {xs : Nat → Int32} {ad : Nat → Nat} {i : Nat} {ws : va_W} (C : VOk p s m #[Value.ref b] c cL_law 4 wsL_law RL D (tz cs) (fun q : Nat => s.heap.size ≤ q) s.heap) (hX : va_X b L xs s s.heap) (hbl : b < s.heap.size) (hbA : ¬ (fun q : Nat => s.heap.size ≤ q) b) (hI : Inv cs ad ws) (hi : i + 6 ≤ L) (hL : L ≤ 384) (kk : ∀ ws2 : va_W, Inv cs ad ws2 → V p l e room_1 s m #[Value.ref b] below meth c 600000 7302250 (lw_Z below #[Value.ref b] s) 4 D (fun q : Nat => s.heap.size ≤ q) s.heap 1156 (lwL b (ad 0) (ad 41) i) [] ws2) : V p l e room_1 s m #[Value.ref b] below meth c 600000 7302250 (lw_Z below #[Value.ref b] s) 4 D (fun q : Nat => s.heap.size ≤ q) s.heap 481 (lwL b (ad 0) (ad 41) i) [] ws := by
  obtain ⟨r, w1, w2, ⟨wcC, u1, isC, hC, c1, c2, c3, c4⟩, ⟨wcM, u2, isM, hM, d1, d2, d3, d4⟩, hI2, gs, h41⟩ := tk_untie (l := l) (D := D) hI 
  obtain ⟨fs, h0⟩ := hI.at0
  refine v_aload_n C 1 dL_law_481 rfl ?_
  refine v_callV (qi := 0) C [] [] kX5_untie gL_law_X5_untie hC ⟨Nat.le_of_ble_eq_true rfl, Nat.le_of_ble_eq_true rfl⟩ ⟨rfl, rfl⟩ ⟨Nat.le_refl _, Nat.le_refl _⟩ rfl 0 h0 rfl rfl rfl (Nat.le_of_ble_eq_true rfl) isC w1 c1 c2 c3 c4 dL_law_482 ?_
  refine V.sts (st' := [.int r]) rfl ?_
  refine v_aload_n C 2 dL_law_485 rfl ?_
  refine v_callV (qi := 0) C [] [.int r] kX6_untie gL_law_X6_untie hM ⟨Nat.le_of_ble_eq_true rfl, Nat.le_of_ble_eq_true rfl⟩ ⟨rfl, rfl⟩ ⟨Nat.le_refl _, Nat.le_refl _⟩ rfl 41 h41 rfl rfl rfl (Nat.le_of_ble_eq_true rfl) isM w2 d1 d2 d3 d4 dL_law_486 ?_
  refine V.sts (st' := [.int r, .int r]) rfl ?_
  exact v_icmp_eq C 1156 dL_law_489 (by decide) (fun _ => kk w2 hI2) (fun z => absurd rfl z)
set_option maxHeartbeats 4000000 in
set_option maxRecDepth 100000 in
theorem law_10 {p : Program} {l : Launch} {e : Env} {s : State} {m : MethodId} {below : List Frame} {meth : Method} {c : Code} {D : va_G} {cs : Nat → ClassId} {b L : Nat} {xs : Nat → Int32} {ad : Nat → Nat} {i : Nat} {ws : va_W} (C : VOk p s m #[Value.ref b] c cL_law 4 wsL_law RL D (tz cs) (fun q : Nat => s.heap.size ≤ q) s.heap) (hX : va_X b L xs s s.heap) (hbl : b < s.heap.size) (hbA : ¬ (fun q : Nat => s.heap.size ≤ q) b) (hI : Inv cs ad ws) (hi : i + 6 ≤ L) (hL : L ≤ 384) (kk : ∀ ws2 : va_W, Inv cs ad ws2 → V p l e room_1 s m #[Value.ref b] below meth c 600000 7302250 (lw_Z below #[Value.ref b] s) 4 D (fun q : Nat => s.heap.size ≤ q) s.heap 1156 (lwL b (ad 0) (ad 41) i) [] ws2) : V p l e room_1 s m #[Value.ref b] below meth c 600000 7302250 (lw_Z below #[Value.ref b] s) 4 D (fun q : Nat => s.heap.size ≤ q) s.heap 494 (lwL b (ad 0) (ad 41) i) [] ws := by
  obtain ⟨r, w1, w2, ⟨wcC, u1, isC, hC, c1, c2, c3, c4⟩, ⟨wcM, u2, isM, hM, d1, d2, d3, d4⟩, hI2, gs, h41⟩ := tk_meals (l := l) (D := D) hI (xs (i + 1))
  obtain ⟨fs, h0⟩ := hI.at0
  refine v_aload_n C 1 dL_law_494 rfl ?_
  refine v_aload_n C 0 dL_law_495 rfl ?_
  refine v_iload_n C 3 dL_law_496 rfl ?_
  refine v_iconst C (v := 1) dL_law_497 (by decide) ?_
  refine v_iadd C dL_law_498 ?_
  refine V.topr (y := nI (i + 1)) (nI_add i 1) ?_
  refine v_sld C hX hbl hbA (xs (i + 1)) (by rw [nI_clamp (by omega)]) (vp_in_nI (by omega) (by omega)) dL_law_499 ?_
  refine v_callV (qi := 0) C [.int (xs (i + 1))] [] kX5_meals gL_law_X5_meals hC ⟨Nat.le_of_ble_eq_true rfl, Nat.le_of_ble_eq_true rfl⟩ ⟨rfl, rfl⟩ ⟨Nat.le_refl _, Nat.le_refl _⟩ rfl 0 h0 rfl rfl rfl (Nat.le_of_ble_eq_true rfl) isC w1 c1 c2 c3 c4 dL_law_500 ?_
  refine V.sts (st' := [.int r]) rfl ?_
  refine v_aload_n C 2 dL_law_503 rfl ?_
  refine v_aload_n C 0 dL_law_504 rfl ?_
  refine v_iload_n C 3 dL_law_505 rfl ?_
  refine v_iconst C (v := 1) dL_law_506 (by decide) ?_
  refine v_iadd C dL_law_507 ?_
  refine V.topr (y := nI (i + 1)) (nI_add i 1) ?_
  refine v_sld C hX hbl hbA (xs (i + 1)) (by rw [nI_clamp (by omega)]) (vp_in_nI (by omega) (by omega)) dL_law_508 ?_
  refine v_callV (qi := 0) C [.int (xs (i + 1))] [.int r] kX6_meals gL_law_X6_meals hM ⟨Nat.le_of_ble_eq_true rfl, Nat.le_of_ble_eq_true rfl⟩ ⟨rfl, rfl⟩ ⟨Nat.le_refl _, Nat.le_refl _⟩ rfl 41 h41 rfl rfl rfl (Nat.le_of_ble_eq_true rfl) isM w2 d1 d2 d3 d4 dL_law_509 ?_
  refine V.sts (st' := [.int r, .int r]) rfl ?_
  exact v_icmp_eq C 1156 dL_law_512 (by decide) (fun _ => kk w2 hI2) (fun z => absurd rfl z)
set_option maxHeartbeats 4000000 in
set_option maxRecDepth 100000 in
theorem law_11 {p : Program} {l : Launch} {e : Env} {s : State} {m : MethodId} {below : List Frame} {meth : Method} {c : Code} {D : va_G} {cs : Nat → ClassId} {b L : Nat} {xs : Nat → Int32} {ad : Nat → Nat} {i : Nat} {ws : va_W} (C : VOk p s m #[Value.ref b] c cL_law 4 wsL_law RL D (tz cs) (fun q : Nat => s.heap.size ≤ q) s.heap) (hX : va_X b L xs s s.heap) (hbl : b < s.heap.size) (hbA : ¬ (fun q : Nat => s.heap.size ≤ q) b) (hI : Inv cs ad ws) (hi : i + 6 ≤ L) (hL : L ≤ 384) (kk : ∀ ws2 : va_W, Inv cs ad ws2 → V p l e room_1 s m #[Value.ref b] below meth c 600000 7302250 (lw_Z below #[Value.ref b] s) 4 D (fun q : Nat => s.heap.size ≤ q) s.heap 1156 (lwL b (ad 0) (ad 41) i) [] ws2) : V p l e room_1 s m #[Value.ref b] below meth c 600000 7302250 (lw_Z below #[Value.ref b] s) 4 D (fun q : Nat => s.heap.size ≤ q) s.heap 517 (lwL b (ad 0) (ad 41) i) [] ws := by
  obtain ⟨r, w1, w2, ⟨wcC, u1, isC, hC, c1, c2, c3, c4⟩, ⟨wcM, u2, isM, hM, d1, d2, d3, d4⟩, hI2, gs, h41⟩ := tk_undo (l := l) (D := D) hI 
  obtain ⟨fs, h0⟩ := hI.at0
  refine v_aload_n C 1 dL_law_517 rfl ?_
  refine v_callV (qi := 0) C [] [] kX5_undo gL_law_X5_undo hC ⟨Nat.le_of_ble_eq_true rfl, Nat.le_of_ble_eq_true rfl⟩ ⟨rfl, rfl⟩ ⟨Nat.le_refl _, Nat.le_refl _⟩ rfl 0 h0 rfl rfl rfl (Nat.le_of_ble_eq_true rfl) isC w1 c1 c2 c3 c4 dL_law_518 ?_
  refine V.sts (st' := [.int r]) rfl ?_
  refine v_aload_n C 2 dL_law_521 rfl ?_
  refine v_callV (qi := 0) C [] [.int r] kX6_undo gL_law_X6_undo hM ⟨Nat.le_of_ble_eq_true rfl, Nat.le_of_ble_eq_true rfl⟩ ⟨rfl, rfl⟩ ⟨Nat.le_refl _, Nat.le_refl _⟩ rfl 41 h41 rfl rfl rfl (Nat.le_of_ble_eq_true rfl) isM w2 d1 d2 d3 d4 dL_law_522 ?_
  refine V.sts (st' := [.int r, .int r]) rfl ?_
  exact v_icmp_eq C 1156 dL_law_525 (by decide) (fun _ => kk w2 hI2) (fun z => absurd rfl z)
set_option maxHeartbeats 4000000 in
set_option maxRecDepth 100000 in
theorem law_12 {p : Program} {l : Launch} {e : Env} {s : State} {m : MethodId} {below : List Frame} {meth : Method} {c : Code} {D : va_G} {cs : Nat → ClassId} {b L : Nat} {xs : Nat → Int32} {ad : Nat → Nat} {i : Nat} {ws : va_W} (C : VOk p s m #[Value.ref b] c cL_law 4 wsL_law RL D (tz cs) (fun q : Nat => s.heap.size ≤ q) s.heap) (hX : va_X b L xs s s.heap) (hbl : b < s.heap.size) (hbA : ¬ (fun q : Nat => s.heap.size ≤ q) b) (hI : Inv cs ad ws) (hi : i + 6 ≤ L) (hL : L ≤ 384) (kk : ∀ ws2 : va_W, Inv cs ad ws2 → V p l e room_1 s m #[Value.ref b] below meth c 600000 7302250 (lw_Z below #[Value.ref b] s) 4 D (fun q : Nat => s.heap.size ≤ q) s.heap 1156 (lwL b (ad 0) (ad 41) i) [] ws2) : V p l e room_1 s m #[Value.ref b] below meth c 600000 7302250 (lw_Z below #[Value.ref b] s) 4 D (fun q : Nat => s.heap.size ≤ q) s.heap 530 (lwL b (ad 0) (ad 41) i) [] ws := by
  obtain ⟨r, w1, w2, ⟨wcC, u1, isC, hC, c1, c2, c3, c4⟩, ⟨wcM, u2, isM, hM, d1, d2, d3, d4⟩, hI2, gs, h41⟩ := tk_tieHas (l := l) (D := D) hI (xs (i + 1)) (xs (i + 2))
  obtain ⟨fs, h0⟩ := hI.at0
  refine v_aload_n C 1 dL_law_530 rfl ?_
  refine v_aload_n C 0 dL_law_531 rfl ?_
  refine v_iload_n C 3 dL_law_532 rfl ?_
  refine v_iconst C (v := 1) dL_law_533 (by decide) ?_
  refine v_iadd C dL_law_534 ?_
  refine V.topr (y := nI (i + 1)) (nI_add i 1) ?_
  refine v_sld C hX hbl hbA (xs (i + 1)) (by rw [nI_clamp (by omega)]) (vp_in_nI (by omega) (by omega)) dL_law_535 ?_
  refine v_aload_n C 0 dL_law_536 rfl ?_
  refine v_iload_n C 3 dL_law_537 rfl ?_
  refine v_iconst C (v := 2) dL_law_538 (by decide) ?_
  refine v_iadd C dL_law_539 ?_
  refine V.topr (y := nI (i + 2)) (nI_add i 2) ?_
  refine v_sld C hX hbl hbA (xs (i + 2)) (by rw [nI_clamp (by omega)]) (vp_in_nI (by omega) (by omega)) dL_law_540 ?_
  refine v_callV (qi := 0) C [.int (xs (i + 1)), .int (xs (i + 2))] [] kX5_tieHas gL_law_X5_tieHas hC ⟨Nat.le_of_ble_eq_true rfl, Nat.le_of_ble_eq_true rfl⟩ ⟨rfl, rfl⟩ ⟨Nat.le_refl _, Nat.le_refl _⟩ rfl 0 h0 rfl rfl rfl (Nat.le_of_ble_eq_true rfl) isC w1 c1 c2 c3 c4 dL_law_541 ?_
  refine V.sts (st' := [.int r]) rfl ?_
  refine v_aload_n C 2 dL_law_544 rfl ?_
  refine v_aload_n C 0 dL_law_545 rfl ?_
  refine v_iload_n C 3 dL_law_546 rfl ?_
  refine v_iconst C (v := 1) dL_law_547 (by decide) ?_
  refine v_iadd C dL_law_548 ?_
  refine V.topr (y := nI (i + 1)) (nI_add i 1) ?_
  refine v_sld C hX hbl hbA (xs (i + 1)) (by rw [nI_clamp (by omega)]) (vp_in_nI (by omega) (by omega)) dL_law_549 ?_
  refine v_aload_n C 0 dL_law_550 rfl ?_
  refine v_iload_n C 3 dL_law_551 rfl ?_
  refine v_iconst C (v := 2) dL_law_552 (by decide) ?_
  refine v_iadd C dL_law_553 ?_
  refine V.topr (y := nI (i + 2)) (nI_add i 2) ?_
  refine v_sld C hX hbl hbA (xs (i + 2)) (by rw [nI_clamp (by omega)]) (vp_in_nI (by omega) (by omega)) dL_law_554 ?_
  refine v_callV (qi := 0) C [.int (xs (i + 1)), .int (xs (i + 2))] [.int r] kX6_tieHas gL_law_X6_tieHas hM ⟨Nat.le_of_ble_eq_true rfl, Nat.le_of_ble_eq_true rfl⟩ ⟨rfl, rfl⟩ ⟨Nat.le_refl _, Nat.le_refl _⟩ rfl 41 h41 rfl rfl rfl (Nat.le_of_ble_eq_true rfl) isM w2 d1 d2 d3 d4 dL_law_555 ?_
  refine V.sts (st' := [.int r, .int r]) rfl ?_
  exact v_icmp_eq C 1156 dL_law_558 (by decide) (fun _ => kk w2 hI2) (fun z => absurd rfl z)
set_option maxHeartbeats 4000000 in
set_option maxRecDepth 100000 in
theorem law_13 {p : Program} {l : Launch} {e : Env} {s : State} {m : MethodId} {below : List Frame} {meth : Method} {c : Code} {D : va_G} {cs : Nat → ClassId} {b L : Nat} {xs : Nat → Int32} {ad : Nat → Nat} {i : Nat} {ws : va_W} (C : VOk p s m #[Value.ref b] c cL_law 4 wsL_law RL D (tz cs) (fun q : Nat => s.heap.size ≤ q) s.heap) (hX : va_X b L xs s s.heap) (hbl : b < s.heap.size) (hbA : ¬ (fun q : Nat => s.heap.size ≤ q) b) (hI : Inv cs ad ws) (hi : i + 6 ≤ L) (hL : L ≤ 384) (kk : ∀ ws2 : va_W, Inv cs ad ws2 → V p l e room_1 s m #[Value.ref b] below meth c 600000 7302250 (lw_Z below #[Value.ref b] s) 4 D (fun q : Nat => s.heap.size ≤ q) s.heap 1156 (lwL b (ad 0) (ad 41) i) [] ws2) : V p l e room_1 s m #[Value.ref b] below meth c 600000 7302250 (lw_Z below #[Value.ref b] s) 4 D (fun q : Nat => s.heap.size ≤ q) s.heap 563 (lwL b (ad 0) (ad 41) i) [] ws := by
  obtain ⟨r, w1, w2, ⟨wcC, u1, isC, hC, c1, c2, c3, c4⟩, ⟨wcM, u2, isM, hM, d1, d2, d3, d4⟩, hI2, gs, h41⟩ := tk_tableHas (l := l) (D := D) hI (xs (i + 1))
  obtain ⟨fs, h0⟩ := hI.at0
  refine v_aload_n C 1 dL_law_563 rfl ?_
  refine v_aload_n C 0 dL_law_564 rfl ?_
  refine v_iload_n C 3 dL_law_565 rfl ?_
  refine v_iconst C (v := 1) dL_law_566 (by decide) ?_
  refine v_iadd C dL_law_567 ?_
  refine V.topr (y := nI (i + 1)) (nI_add i 1) ?_
  refine v_sld C hX hbl hbA (xs (i + 1)) (by rw [nI_clamp (by omega)]) (vp_in_nI (by omega) (by omega)) dL_law_568 ?_
  refine v_callV (qi := 0) C [.int (xs (i + 1))] [] kX5_tableHas gL_law_X5_tableHas hC ⟨Nat.le_of_ble_eq_true rfl, Nat.le_of_ble_eq_true rfl⟩ ⟨rfl, rfl⟩ ⟨Nat.le_refl _, Nat.le_refl _⟩ rfl 0 h0 rfl rfl rfl (Nat.le_of_ble_eq_true rfl) isC w1 c1 c2 c3 c4 dL_law_569 ?_
  refine V.sts (st' := [.int r]) rfl ?_
  refine v_aload_n C 2 dL_law_572 rfl ?_
  refine v_aload_n C 0 dL_law_573 rfl ?_
  refine v_iload_n C 3 dL_law_574 rfl ?_
  refine v_iconst C (v := 1) dL_law_575 (by decide) ?_
  refine v_iadd C dL_law_576 ?_
  refine V.topr (y := nI (i + 1)) (nI_add i 1) ?_
  refine v_sld C hX hbl hbA (xs (i + 1)) (by rw [nI_clamp (by omega)]) (vp_in_nI (by omega) (by omega)) dL_law_577 ?_
  refine v_callV (qi := 0) C [.int (xs (i + 1))] [.int r] kX6_tableHas gL_law_X6_tableHas hM ⟨Nat.le_of_ble_eq_true rfl, Nat.le_of_ble_eq_true rfl⟩ ⟨rfl, rfl⟩ ⟨Nat.le_refl _, Nat.le_refl _⟩ rfl 41 h41 rfl rfl rfl (Nat.le_of_ble_eq_true rfl) isM w2 d1 d2 d3 d4 dL_law_578 ?_
  refine V.sts (st' := [.int r, .int r]) rfl ?_
  exact v_icmp_eq C 1156 dL_law_581 (by decide) (fun _ => kk w2 hI2) (fun z => absurd rfl z)
set_option maxHeartbeats 4000000 in
set_option maxRecDepth 100000 in
theorem law_14 {p : Program} {l : Launch} {e : Env} {s : State} {m : MethodId} {below : List Frame} {meth : Method} {c : Code} {D : va_G} {cs : Nat → ClassId} {b L : Nat} {xs : Nat → Int32} {ad : Nat → Nat} {i : Nat} {ws : va_W} (C : VOk p s m #[Value.ref b] c cL_law 4 wsL_law RL D (tz cs) (fun q : Nat => s.heap.size ≤ q) s.heap) (hX : va_X b L xs s s.heap) (hbl : b < s.heap.size) (hbA : ¬ (fun q : Nat => s.heap.size ≤ q) b) (hI : Inv cs ad ws) (hi : i + 6 ≤ L) (hL : L ≤ 384) (kk : ∀ ws2 : va_W, Inv cs ad ws2 → V p l e room_1 s m #[Value.ref b] below meth c 600000 7302250 (lw_Z below #[Value.ref b] s) 4 D (fun q : Nat => s.heap.size ≤ q) s.heap 1156 (lwL b (ad 0) (ad 41) i) [] ws2) : V p l e room_1 s m #[Value.ref b] below meth c 600000 7302250 (lw_Z below #[Value.ref b] s) 4 D (fun q : Nat => s.heap.size ≤ q) s.heap 586 (lwL b (ad 0) (ad 41) i) [] ws := by
  obtain ⟨r, w1, w2, ⟨wcC, u1, isC, hC, c1, c2, c3, c4⟩, ⟨wcM, u2, isM, hM, d1, d2, d3, d4⟩, hI2, gs, h41⟩ := tk_worth (l := l) (D := D) hI (xs (i + 1))
  obtain ⟨fs, h0⟩ := hI.at0
  refine v_aload_n C 1 dL_law_586 rfl ?_
  refine v_aload_n C 0 dL_law_587 rfl ?_
  refine v_iload_n C 3 dL_law_588 rfl ?_
  refine v_iconst C (v := 1) dL_law_589 (by decide) ?_
  refine v_iadd C dL_law_590 ?_
  refine V.topr (y := nI (i + 1)) (nI_add i 1) ?_
  refine v_sld C hX hbl hbA (xs (i + 1)) (by rw [nI_clamp (by omega)]) (vp_in_nI (by omega) (by omega)) dL_law_591 ?_
  refine v_callV (qi := 0) C [.int (xs (i + 1))] [] kX5_worth gL_law_X5_worth hC ⟨Nat.le_of_ble_eq_true rfl, Nat.le_of_ble_eq_true rfl⟩ ⟨rfl, rfl⟩ ⟨Nat.le_refl _, Nat.le_refl _⟩ rfl 0 h0 rfl rfl rfl (Nat.le_of_ble_eq_true rfl) isC w1 c1 c2 c3 c4 dL_law_592 ?_
  refine V.sts (st' := [.int r]) rfl ?_
  refine v_aload_n C 2 dL_law_595 rfl ?_
  refine v_aload_n C 0 dL_law_596 rfl ?_
  refine v_iload_n C 3 dL_law_597 rfl ?_
  refine v_iconst C (v := 1) dL_law_598 (by decide) ?_
  refine v_iadd C dL_law_599 ?_
  refine V.topr (y := nI (i + 1)) (nI_add i 1) ?_
  refine v_sld C hX hbl hbA (xs (i + 1)) (by rw [nI_clamp (by omega)]) (vp_in_nI (by omega) (by omega)) dL_law_600 ?_
  refine v_callV (qi := 0) C [.int (xs (i + 1))] [.int r] kX6_worth gL_law_X6_worth hM ⟨Nat.le_of_ble_eq_true rfl, Nat.le_of_ble_eq_true rfl⟩ ⟨rfl, rfl⟩ ⟨Nat.le_refl _, Nat.le_refl _⟩ rfl 41 h41 rfl rfl rfl (Nat.le_of_ble_eq_true rfl) isM w2 d1 d2 d3 d4 dL_law_601 ?_
  refine V.sts (st' := [.int r, .int r]) rfl ?_
  exact v_icmp_eq C 1156 dL_law_604 (by decide) (fun _ => kk w2 hI2) (fun z => absurd rfl z)
set_option maxHeartbeats 4000000 in
set_option maxRecDepth 100000 in
theorem law_15 {p : Program} {l : Launch} {e : Env} {s : State} {m : MethodId} {below : List Frame} {meth : Method} {c : Code} {D : va_G} {cs : Nat → ClassId} {b L : Nat} {xs : Nat → Int32} {ad : Nat → Nat} {i : Nat} {ws : va_W} (C : VOk p s m #[Value.ref b] c cL_law 4 wsL_law RL D (tz cs) (fun q : Nat => s.heap.size ≤ q) s.heap) (hX : va_X b L xs s s.heap) (hbl : b < s.heap.size) (hbA : ¬ (fun q : Nat => s.heap.size ≤ q) b) (hI : Inv cs ad ws) (hi : i + 6 ≤ L) (hL : L ≤ 384) (kk : ∀ ws2 : va_W, Inv cs ad ws2 → V p l e room_1 s m #[Value.ref b] below meth c 600000 7302250 (lw_Z below #[Value.ref b] s) 4 D (fun q : Nat => s.heap.size ≤ q) s.heap 1156 (lwL b (ad 0) (ad 41) i) [] ws2) : V p l e room_1 s m #[Value.ref b] below meth c 600000 7302250 (lw_Z below #[Value.ref b] s) 4 D (fun q : Nat => s.heap.size ≤ q) s.heap 609 (lwL b (ad 0) (ad 41) i) [] ws := by
  obtain ⟨r, w1, w2, ⟨wcC, u1, isC, hC, c1, c2, c3, c4⟩, ⟨wcM, u2, isM, hM, d1, d2, d3, d4⟩, hI2, gs, h41⟩ := tk_adds (l := l) (D := D) hI (xs (i + 1)) (xs (i + 2))
  obtain ⟨fs, h0⟩ := hI.at0
  refine v_aload_n C 1 dL_law_609 rfl ?_
  refine v_aload_n C 0 dL_law_610 rfl ?_
  refine v_iload_n C 3 dL_law_611 rfl ?_
  refine v_iconst C (v := 1) dL_law_612 (by decide) ?_
  refine v_iadd C dL_law_613 ?_
  refine V.topr (y := nI (i + 1)) (nI_add i 1) ?_
  refine v_sld C hX hbl hbA (xs (i + 1)) (by rw [nI_clamp (by omega)]) (vp_in_nI (by omega) (by omega)) dL_law_614 ?_
  refine v_aload_n C 0 dL_law_615 rfl ?_
  refine v_iload_n C 3 dL_law_616 rfl ?_
  refine v_iconst C (v := 2) dL_law_617 (by decide) ?_
  refine v_iadd C dL_law_618 ?_
  refine V.topr (y := nI (i + 2)) (nI_add i 2) ?_
  refine v_sld C hX hbl hbA (xs (i + 2)) (by rw [nI_clamp (by omega)]) (vp_in_nI (by omega) (by omega)) dL_law_619 ?_
  refine v_callV (qi := 0) C [.int (xs (i + 1)), .int (xs (i + 2))] [] kX5_adds gL_law_X5_adds hC ⟨Nat.le_of_ble_eq_true rfl, Nat.le_of_ble_eq_true rfl⟩ ⟨rfl, rfl⟩ ⟨Nat.le_refl _, Nat.le_refl _⟩ rfl 0 h0 rfl rfl rfl (Nat.le_of_ble_eq_true rfl) isC w1 c1 c2 c3 c4 dL_law_620 ?_
  refine V.sts (st' := [.int r]) rfl ?_
  refine v_aload_n C 2 dL_law_623 rfl ?_
  refine v_aload_n C 0 dL_law_624 rfl ?_
  refine v_iload_n C 3 dL_law_625 rfl ?_
  refine v_iconst C (v := 1) dL_law_626 (by decide) ?_
  refine v_iadd C dL_law_627 ?_
  refine V.topr (y := nI (i + 1)) (nI_add i 1) ?_
  refine v_sld C hX hbl hbA (xs (i + 1)) (by rw [nI_clamp (by omega)]) (vp_in_nI (by omega) (by omega)) dL_law_628 ?_
  refine v_aload_n C 0 dL_law_629 rfl ?_
  refine v_iload_n C 3 dL_law_630 rfl ?_
  refine v_iconst C (v := 2) dL_law_631 (by decide) ?_
  refine v_iadd C dL_law_632 ?_
  refine V.topr (y := nI (i + 2)) (nI_add i 2) ?_
  refine v_sld C hX hbl hbA (xs (i + 2)) (by rw [nI_clamp (by omega)]) (vp_in_nI (by omega) (by omega)) dL_law_633 ?_
  refine v_callV (qi := 0) C [.int (xs (i + 1)), .int (xs (i + 2))] [.int r] kX6_adds gL_law_X6_adds hM ⟨Nat.le_of_ble_eq_true rfl, Nat.le_of_ble_eq_true rfl⟩ ⟨rfl, rfl⟩ ⟨Nat.le_refl _, Nat.le_refl _⟩ rfl 41 h41 rfl rfl rfl (Nat.le_of_ble_eq_true rfl) isM w2 d1 d2 d3 d4 dL_law_634 ?_
  refine V.sts (st' := [.int r, .int r]) rfl ?_
  exact v_icmp_eq C 1156 dL_law_637 (by decide) (fun _ => kk w2 hI2) (fun z => absurd rfl z)
set_option maxHeartbeats 4000000 in
set_option maxRecDepth 100000 in
theorem law_16 {p : Program} {l : Launch} {e : Env} {s : State} {m : MethodId} {below : List Frame} {meth : Method} {c : Code} {D : va_G} {cs : Nat → ClassId} {b L : Nat} {xs : Nat → Int32} {ad : Nat → Nat} {i : Nat} {ws : va_W} (C : VOk p s m #[Value.ref b] c cL_law 4 wsL_law RL D (tz cs) (fun q : Nat => s.heap.size ≤ q) s.heap) (hX : va_X b L xs s s.heap) (hbl : b < s.heap.size) (hbA : ¬ (fun q : Nat => s.heap.size ≤ q) b) (hI : Inv cs ad ws) (hi : i + 6 ≤ L) (hL : L ≤ 384) (kk : ∀ ws2 : va_W, Inv cs ad ws2 → V p l e room_1 s m #[Value.ref b] below meth c 600000 7302250 (lw_Z below #[Value.ref b] s) 4 D (fun q : Nat => s.heap.size ≤ q) s.heap 1156 (lwL b (ad 0) (ad 41) i) [] ws2) : V p l e room_1 s m #[Value.ref b] below meth c 600000 7302250 (lw_Z below #[Value.ref b] s) 4 D (fun q : Nat => s.heap.size ≤ q) s.heap 642 (lwL b (ad 0) (ad 41) i) [] ws := by
  obtain ⟨r, w1, w2, ⟨wcC, u1, isC, hC, c1, c2, c3, c4⟩, ⟨wcM, u2, isM, hM, d1, d2, d3, d4⟩, hI2, gs, h41⟩ := tk_due (l := l) (D := D) hI (xs (i + 1)) (xs (i + 2))
  obtain ⟨fs, h0⟩ := hI.at0
  refine v_aload_n C 1 dL_law_642 rfl ?_
  refine v_aload_n C 0 dL_law_643 rfl ?_
  refine v_iload_n C 3 dL_law_644 rfl ?_
  refine v_iconst C (v := 1) dL_law_645 (by decide) ?_
  refine v_iadd C dL_law_646 ?_
  refine V.topr (y := nI (i + 1)) (nI_add i 1) ?_
  refine v_sld C hX hbl hbA (xs (i + 1)) (by rw [nI_clamp (by omega)]) (vp_in_nI (by omega) (by omega)) dL_law_647 ?_
  refine v_aload_n C 0 dL_law_648 rfl ?_
  refine v_iload_n C 3 dL_law_649 rfl ?_
  refine v_iconst C (v := 2) dL_law_650 (by decide) ?_
  refine v_iadd C dL_law_651 ?_
  refine V.topr (y := nI (i + 2)) (nI_add i 2) ?_
  refine v_sld C hX hbl hbA (xs (i + 2)) (by rw [nI_clamp (by omega)]) (vp_in_nI (by omega) (by omega)) dL_law_652 ?_
  refine v_callV (qi := 0) C [.int (xs (i + 1)), .int (xs (i + 2))] [] kX5_due gL_law_X5_due hC ⟨Nat.le_of_ble_eq_true rfl, Nat.le_of_ble_eq_true rfl⟩ ⟨rfl, rfl⟩ ⟨Nat.le_refl _, Nat.le_refl _⟩ rfl 0 h0 rfl rfl rfl (Nat.le_of_ble_eq_true rfl) isC w1 c1 c2 c3 c4 dL_law_653 ?_
  refine V.sts (st' := [.int r]) rfl ?_
  refine v_aload_n C 2 dL_law_656 rfl ?_
  refine v_aload_n C 0 dL_law_657 rfl ?_
  refine v_iload_n C 3 dL_law_658 rfl ?_
  refine v_iconst C (v := 1) dL_law_659 (by decide) ?_
  refine v_iadd C dL_law_660 ?_
  refine V.topr (y := nI (i + 1)) (nI_add i 1) ?_
  refine v_sld C hX hbl hbA (xs (i + 1)) (by rw [nI_clamp (by omega)]) (vp_in_nI (by omega) (by omega)) dL_law_661 ?_
  refine v_aload_n C 0 dL_law_662 rfl ?_
  refine v_iload_n C 3 dL_law_663 rfl ?_
  refine v_iconst C (v := 2) dL_law_664 (by decide) ?_
  refine v_iadd C dL_law_665 ?_
  refine V.topr (y := nI (i + 2)) (nI_add i 2) ?_
  refine v_sld C hX hbl hbA (xs (i + 2)) (by rw [nI_clamp (by omega)]) (vp_in_nI (by omega) (by omega)) dL_law_666 ?_
  refine v_callV (qi := 0) C [.int (xs (i + 1)), .int (xs (i + 2))] [.int r] kX6_due gL_law_X6_due hM ⟨Nat.le_of_ble_eq_true rfl, Nat.le_of_ble_eq_true rfl⟩ ⟨rfl, rfl⟩ ⟨Nat.le_refl _, Nat.le_refl _⟩ rfl 41 h41 rfl rfl rfl (Nat.le_of_ble_eq_true rfl) isM w2 d1 d2 d3 d4 dL_law_667 ?_
  refine V.sts (st' := [.int r, .int r]) rfl ?_
  exact v_icmp_eq C 1156 dL_law_670 (by decide) (fun _ => kk w2 hI2) (fun z => absurd rfl z)
