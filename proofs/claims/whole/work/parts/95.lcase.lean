/-! the law's cases, one by one -/
theorem hkt_0 {t : Nat} (h : hkt t = 0) : t = 0 := by
  unfold hkt at h
  repeat' split at h
  all_goals first | assumption | (exact absurd h (by decide))
theorem hk1_0 {t : Nat} (h : hk1 t = 0) : t = 0 := by
  unfold hk1 at h
  split at h
  · assumption
  · exact absurd h (by decide)
theorem hO_0 {t : Nat} {f g : Int32} {o : Int64} (ht : t = 0) (h : t = 0 → f = g) : hO t f o = g.toInt64 := by
  unfold hO
  rw [if_pos ht, h ht]
theorem tcc_le (t : Nat) : tcc t ≤ 1 := by unfold tcc; split <;> omega
theorem tcs_le (t : Nat) : tcs t ≤ 6 := by unfold tcs; split <;> omega
theorem room_ok {n : Nat} (h : n ≤ 511) (t : Nat) : 103 + n + tcc t ≤ room_1.cells ∧ 3604 + 6 * n + tcs t ≤ room_1.slots := by
  have h1 := tcc_le t
  have h2 := tcs_le t
  exact ⟨by show _ ≤ 1142; omega, by show _ ≤ 11886; omega⟩
theorem room_ok0 {n : Nat} (h : n ≤ 511) : 103 + n ≤ room_1.cells ∧ 3604 + 6 * n ≤ room_1.slots := ⟨by show _ ≤ 1142; omega, by show _ ≤ 11886; omega⟩
theorem chr2 (x : Int32) : chr (chr x) = chr x := by
  rw [← chr_nar (chr x)]
  unfold vp_nar
  rw [pk_nc]
section Law
variable {p : Program} {l : Launch} {e : Env} {s : State} {m : MethodId} {b L : Nat} {xs : Nat → Int32} {below : List Frame} {meth : Method} {c : Code} {H : Heap} {locs : List Loc} {Q : State → Prop}
variable {D : va_G} {cy : Nat → ClassId} {z n : Nat} {σ τ : Sg} {o : Int64} {d : UInt64} {ls : Array Slot}
/-- where a case goes on -/
def KNx (p : Program) (l : Launch) (e : Env) (s : State) (m : MethodId) (b : Nat) (below : List Frame) (meth : Method) (c : Code) (D : va_G) (cy : Nat → ClassId) (z n : Nat) (Q : State → Prop) : Prop := ∀ (σ τ : Sg) (o : Int64) (d : UInt64) (H : Heap) (locs : List Loc) (ls : Array Slot), RR (n + 1) σ τ → WP D cy z σ τ o d H → va_S (fz z) s.heap H locs → lv_has ls 9 (lvB b z (4 * n)) → W p l e room_1 s m #[Value.ref b] below meth c H locs (103 + (n + 1)) (3604 + 6 * (n + 1)) Q (F0 m 1786 ls [])
/-- a case's start -/
def CS (p : Program) (l : Launch) (e : Env) (s : State) (m : MethodId) (b L : Nat) (xs : Nat → Int32) (below : List Frame) (meth : Method) (c : Code) (D : va_G) (cy : Nat → ClassId) (z n : Nat) (Q : State → Prop) (pc : Nat) : Prop := ∀ (σ τ : Sg) (o : Int64) (d : UInt64) (H : Heap) (locs : List Loc) (ls : Array Slot), LBd p s m b meth c D cy z → NC s → l.stackTraces = false → va_X b L xs s s.heap → b < s.heap.size → s.heap.size ≤ z → L ≤ 2048 → 4 * n + 4 ≤ L → RR n σ τ → WP D cy z σ τ o d H → va_S (fz z) s.heap H locs → lv_has ls 9 (lvB b z (4 * n)) → KNx p l e s m b below meth c D cy z n Q → W p l e room_1 s m #[Value.ref b] below meth c H locs (103 + n) (3604 + 6 * n) Q (F0 m pc ls [])
set_option maxHeartbeats 4000000 in
set_option maxRecDepth 100000 in
theorem cs_feel : CS p l e s m b L xs below meth c D cy z n Q 192 := by
  intro σ τ o d H locs ls C hNC hfl hX hbl hz hL hn hR hP hS hl kk
  obtain ⟨hx, hb, hr, hml, hown, hW, hlocks, hAm⟩ := id C
  have hnn : n ≤ 511 := by omega
  obtain ⟨g, τ', hM, hA1, hA2, hA3⟩ := am_feel l D cy z o d (xs (4 * n + 1)) (xs (4 * n + 2)) (xs (4 * n + 3)) hR (by omega)
  refine lv_aload_n hx hb dL_law_192 rfl (lv_at hl 1 rfl) ?_
  refine l_arg (k := 1) C hX hbl hz hL (by omega) hS (lv_at hl 0 rfl) (lv_at hl 5 rfl) rfl dL_law_193 dL_law_194 dL_law_196 dL_law_197 dL_law_198 ?_
  refine l_arg (k := 2) C hX hbl hz hL (by omega) hS (lv_at hl 0 rfl) (lv_at hl 5 rfl) rfl dL_law_199 dL_law_200 dL_law_202 dL_law_203 dL_law_204 ?_
  refine l_arg (k := 3) C hX hbl hz hL (by omega) hS (lv_at hl 0 rfl) (lv_at hl 5 rfl) rfl dL_law_205 dL_law_206 dL_law_208 dL_law_209 dL_law_210 ?_
  refine lv_aload_n hx hb dL_law_211 rfl (lv_at hl 3 rfl) ?_
  refine run_H (As := [.ref (z + 0), .int (xs (4 * n + 1)), .int (xs (4 * n + 2)), .int (xs (4 * n + 3)), .ref (z + 101)]) (rest := []) C hNC (k_L_feel l hfl D cy z o d σ τ (xs (4 * n + 1)) (xs (4 * n + 2)) (xs (4 * n + 3)) rfl (tg_feel σ (xs (4 * n + 1)) (xs (4 * n + 2)) (xs (4 * n + 3)))) hP hS (mA2 (i := 15) rfl rfl) (mA2 (i := 16) rfl rfl) (mA1 (i := 0) rfl rfl) (mA2 (i := 17) rfl rfl) ⟨by decide +kernel, by decide +kernel, (show _ = some 5 by decide +kernel)⟩ ⟨(le10 rfl), (le10 rfl)⟩ rfl (le10 rfl) hl.1 (room_ok hnn _) dL_law_212 (fun H locs hP hS => ?_)
  refine lv_istore (lv' := (6, .int (hkt (x_X5_feel σ 0 (xs (4 * n + 1)) (xs (4 * n + 2)) (xs (4 * n + 3))))) :: lvB b z (4 * n)) hx hb dL_law_215 hl (by decide) rfl (fun ls hl => ?_)
  refine lv_aload_n hx hb dL_law_217 rfl (lv_at hl 3 rfl) ?_
  refine l_arg (k := 1) C hX hbl hz hL (by omega) hS (lv_at hl 1 rfl) (lv_at hl 6 rfl) rfl dL_law_218 dL_law_219 dL_law_221 dL_law_222 dL_law_223 ?_
  refine l_arg (k := 2) C hX hbl hz hL (by omega) hS (lv_at hl 1 rfl) (lv_at hl 6 rfl) rfl dL_law_224 dL_law_225 dL_law_227 dL_law_228 dL_law_229 ?_
  refine l_arg (k := 3) C hX hbl hz hL (by omega) hS (lv_at hl 1 rfl) (lv_at hl 6 rfl) rfl dL_law_230 dL_law_231 dL_law_233 dL_law_234 dL_law_235 ?_
  refine run_M (As := [.int (xs (4 * n + 1)), .int (xs (4 * n + 2)), .int (xs (4 * n + 3))]) (rest := []) C (hM _ _ _) hP hS cw_X6_feel (mA4 (i := 41) rfl rfl) (by decide) rfl (le10 rfl) hl.1 (room_ok hnn _) dL_law_236 (fun H locs hP hS => ?_)
  refine tail_A (i := 4 * n) C hP hS hl hA1 (fun k0 => hO_0 (hkt_0 k0) hA2) (room_ok hnn _) dL_law_239 dL_law_241 dL_law_242 dL_law_245 dL_law_247 dL_law_252 dL_law_254 dL_law_257 dL_law_258 dL_law_259 dL_law_260 dL_law_262 dL_law_263 dL_law_264 dL_law_269 (by decide) (fun H locs ls hP hS hl => ?_)
  exact W.widen (k := 103 + (n + 1)) (n := 3604 + 6 * (n + 1)) (by have := tcc_le (x_X5_feel σ 0 (xs (4 * n + 1)) (xs (4 * n + 2)) (xs (4 * n + 3))); omega) (by have := tcs_le (x_X5_feel σ 0 (xs (4 * n + 1)) (xs (4 * n + 2)) (xs (4 * n + 3))); omega) (kk _ _ _ _ _ _ _ hA3 hP hS hl)
set_option maxHeartbeats 4000000 in
set_option maxRecDepth 100000 in
theorem cs_crawl : CS p l e s m b L xs below meth c D cy z n Q 272 := by
  intro σ τ o d H locs ls C hNC hfl hX hbl hz hL hn hR hP hS hl kk
  obtain ⟨hx, hb, hr, hml, hown, hW, hlocks, hAm⟩ := id C
  have hnn : n ≤ 511 := by omega
  obtain ⟨g, τ', hM, hA1, hA2, hA3⟩ := am_crawl l D cy z o d (xs (4 * n + 1)) (xs (4 * n + 2)) hR (by omega)
  refine lv_aload_n hx hb dL_law_272 rfl (lv_at hl 1 rfl) ?_
  refine l_arg (k := 1) C hX hbl hz hL (by omega) hS (lv_at hl 0 rfl) (lv_at hl 5 rfl) rfl dL_law_273 dL_law_274 dL_law_276 dL_law_277 dL_law_278 ?_
  refine l_arg (k := 2) C hX hbl hz hL (by omega) hS (lv_at hl 0 rfl) (lv_at hl 5 rfl) rfl dL_law_279 dL_law_280 dL_law_282 dL_law_283 dL_law_284 ?_
  refine lv_aload_n hx hb dL_law_285 rfl (lv_at hl 3 rfl) ?_
  refine run_H (As := [.ref (z + 0), .int (xs (4 * n + 1)), .int (xs (4 * n + 2)), .ref (z + 101)]) (rest := []) C hNC (k_L_crawl l hfl D cy z o d σ τ (xs (4 * n + 1)) (xs (4 * n + 2)) rfl (tg_crawl σ (xs (4 * n + 1)) (xs (4 * n + 2)))) hP hS (mA2 (i := 189) rfl rfl) (mA2 (i := 190) rfl rfl) (mA1 (i := 0) rfl rfl) (mA2 (i := 191) rfl rfl) ⟨by decide +kernel, by decide +kernel, (show _ = some 4 by decide +kernel)⟩ ⟨(le10 rfl), (le10 rfl)⟩ rfl (le10 rfl) hl.1 (room_ok hnn _) dL_law_286 (fun H locs hP hS => ?_)
  refine lv_istore (lv' := (6, .int (hkt (x_X5_crawl σ 0 (xs (4 * n + 1)) (xs (4 * n + 2))))) :: lvB b z (4 * n)) hx hb dL_law_289 hl (by decide) rfl (fun ls hl => ?_)
  refine lv_aload_n hx hb dL_law_291 rfl (lv_at hl 3 rfl) ?_
  refine l_arg (k := 1) C hX hbl hz hL (by omega) hS (lv_at hl 1 rfl) (lv_at hl 6 rfl) rfl dL_law_292 dL_law_293 dL_law_295 dL_law_296 dL_law_297 ?_
  refine l_arg (k := 2) C hX hbl hz hL (by omega) hS (lv_at hl 1 rfl) (lv_at hl 6 rfl) rfl dL_law_298 dL_law_299 dL_law_301 dL_law_302 dL_law_303 ?_
  refine run_M (As := [.int (xs (4 * n + 1)), .int (xs (4 * n + 2))]) (rest := []) C (hM _ _ _) hP hS cw_X6_crawl (mA4 (i := 101) rfl rfl) (by decide) rfl (le10 rfl) hl.1 (room_ok hnn _) dL_law_304 (fun H locs hP hS => ?_)
  refine tail_A (i := 4 * n) C hP hS hl hA1 (fun k0 => hO_0 (hkt_0 k0) hA2) (room_ok hnn _) dL_law_307 dL_law_309 dL_law_310 dL_law_313 dL_law_315 dL_law_320 dL_law_322 dL_law_325 dL_law_326 dL_law_327 dL_law_328 dL_law_330 dL_law_331 dL_law_332 dL_law_337 (by decide) (fun H locs ls hP hS hl => ?_)
  exact W.widen (k := 103 + (n + 1)) (n := 3604 + 6 * (n + 1)) (by have := tcc_le (x_X5_crawl σ 0 (xs (4 * n + 1)) (xs (4 * n + 2))); omega) (by have := tcs_le (x_X5_crawl σ 0 (xs (4 * n + 1)) (xs (4 * n + 2))); omega) (kk _ _ _ _ _ _ _ hA3 hP hS hl)
set_option maxHeartbeats 4000000 in
set_option maxRecDepth 100000 in
theorem cs_meetMark : CS p l e s m b L xs below meth c D cy z n Q 340 := by
  intro σ τ o d H locs ls C hNC hfl hX hbl hz hL hn hR hP hS hl kk
  obtain ⟨hx, hb, hr, hml, hown, hW, hlocks, hAm⟩ := id C
  have hnn : n ≤ 511 := by omega
  obtain ⟨g, τ', hM, hA1, hA2, hA3⟩ := am_meetMark l D cy z o d (xs (4 * n + 1)) hR (by omega)
  refine lv_aload_n hx hb dL_law_340 rfl (lv_at hl 1 rfl) ?_
  refine l_arg (k := 1) C hX hbl hz hL (by omega) hS (lv_at hl 0 rfl) (lv_at hl 5 rfl) rfl dL_law_341 dL_law_342 dL_law_344 dL_law_345 dL_law_346 ?_
  refine lv_aload_n hx hb dL_law_347 rfl (lv_at hl 3 rfl) ?_
  refine run_H (As := [.ref (z + 0), .int (xs (4 * n + 1)), .ref (z + 101)]) (rest := []) C hNC (k_L_meetMark l hfl D cy z o d σ τ (xs (4 * n + 1)) rfl (tg_meetMark σ (xs (4 * n + 1)))) hP hS (mA2 (i := 198) rfl rfl) (mA2 (i := 199) rfl rfl) (mA1 (i := 0) rfl rfl) (mA2 (i := 200) rfl rfl) ⟨by decide +kernel, by decide +kernel, (show _ = some 3 by decide +kernel)⟩ ⟨(le10 rfl), (le10 rfl)⟩ rfl (le10 rfl) hl.1 (room_ok hnn _) dL_law_348 (fun H locs hP hS => ?_)
  refine lv_istore (lv' := (6, .int (hk1 (x_X5_meetMark σ 0 (xs (4 * n + 1))))) :: lvB b z (4 * n)) hx hb dL_law_351 hl (by decide) rfl (fun ls hl => ?_)
  refine lv_aload_n hx hb dL_law_353 rfl (lv_at hl 3 rfl) ?_
  refine l_arg (k := 1) C hX hbl hz hL (by omega) hS (lv_at hl 1 rfl) (lv_at hl 6 rfl) rfl dL_law_354 dL_law_355 dL_law_357 dL_law_358 dL_law_359 ?_
  refine run_M (As := [.int (xs (4 * n + 1))]) (rest := []) C (hM _ _ _) hP hS cw_X6_meetMark (mA4 (i := 111) rfl rfl) (by decide) rfl (le10 rfl) hl.1 (room_ok hnn _) dL_law_360 (fun H locs hP hS => ?_)
  refine tail_A (i := 4 * n) C hP hS hl hA1 (fun k0 => hO_0 (hk1_0 k0) hA2) (room_ok hnn _) dL_law_363 dL_law_365 dL_law_366 dL_law_369 dL_law_371 dL_law_376 dL_law_378 dL_law_381 dL_law_382 dL_law_383 dL_law_384 dL_law_386 dL_law_387 dL_law_388 dL_law_393 (by decide) (fun H locs ls hP hS hl => ?_)
  exact W.widen (k := 103 + (n + 1)) (n := 3604 + 6 * (n + 1)) (by have := tcc_le (x_X5_meetMark σ 0 (xs (4 * n + 1))); omega) (by have := tcs_le (x_X5_meetMark σ 0 (xs (4 * n + 1))); omega) (kk _ _ _ _ _ _ _ hA3 hP hS hl)
set_option maxHeartbeats 4000000 in
set_option maxRecDepth 100000 in
theorem cs_goBack : CS p l e s m b L xs below meth c D cy z n Q 396 := by
  intro σ τ o d H locs ls C hNC hfl hX hbl hz hL hn hR hP hS hl kk
  obtain ⟨hx, hb, hr, hml, hown, hW, hlocks, hAm⟩ := id C
  have hnn : n ≤ 511 := by omega
  obtain ⟨g, τ', hM, hA1, hA2, hA3⟩ := am_goBack l D cy z o d (xs (4 * n + 1)) (xs (4 * n + 2)) hR (by omega)
  refine lv_aload_n hx hb dL_law_396 rfl (lv_at hl 1 rfl) ?_
  refine l_arg (k := 1) C hX hbl hz hL (by omega) hS (lv_at hl 0 rfl) (lv_at hl 5 rfl) rfl dL_law_397 dL_law_398 dL_law_400 dL_law_401 dL_law_402 ?_
  refine l_arg (k := 2) C hX hbl hz hL (by omega) hS (lv_at hl 0 rfl) (lv_at hl 5 rfl) rfl dL_law_403 dL_law_404 dL_law_406 dL_law_407 dL_law_408 ?_
  refine lv_aload_n hx hb dL_law_409 rfl (lv_at hl 3 rfl) ?_
  refine run_H (As := [.ref (z + 0), .int (xs (4 * n + 1)), .int (xs (4 * n + 2)), .ref (z + 101)]) (rest := []) C hNC (k_L_goBack l hfl D cy z o d σ τ (xs (4 * n + 1)) (xs (4 * n + 2)) hR.2.2.2.2.1 rfl (tg_goBack σ (xs (4 * n + 1)) (xs (4 * n + 2)))) hP hS (mA2 (i := 216) rfl rfl) (mA2 (i := 217) rfl rfl) (mA1 (i := 0) rfl rfl) (mA2 (i := 218) rfl rfl) ⟨by decide +kernel, by decide +kernel, (show _ = some 4 by decide +kernel)⟩ ⟨(le10 rfl), (le10 rfl)⟩ rfl (le10 rfl) hl.1 (room_ok hnn _) dL_law_410 (fun H locs hP hS => ?_)
  refine lv_istore (lv' := (6, .int (hkt (x_X5_goBack σ 0 (xs (4 * n + 1)) (xs (4 * n + 2))))) :: lvB b z (4 * n)) hx hb dL_law_413 hl (by decide) rfl (fun ls hl => ?_)
  refine lv_aload_n hx hb dL_law_415 rfl (lv_at hl 3 rfl) ?_
  refine l_arg (k := 1) C hX hbl hz hL (by omega) hS (lv_at hl 1 rfl) (lv_at hl 6 rfl) rfl dL_law_416 dL_law_417 dL_law_419 dL_law_420 dL_law_421 ?_
  refine l_arg (k := 2) C hX hbl hz hL (by omega) hS (lv_at hl 1 rfl) (lv_at hl 6 rfl) rfl dL_law_422 dL_law_423 dL_law_425 dL_law_426 dL_law_427 ?_
  refine run_M (As := [.int (xs (4 * n + 1)), .int (xs (4 * n + 2))]) (rest := []) C (hM _ _ _) hP hS cw_X6_goBack (mA4 (i := 123) rfl rfl) (by decide) rfl (le10 rfl) hl.1 (room_ok hnn _) dL_law_428 (fun H locs hP hS => ?_)
  refine tail_A (i := 4 * n) C hP hS hl hA1 (fun k0 => hO_0 (hkt_0 k0) hA2) (room_ok hnn _) dL_law_431 dL_law_433 dL_law_434 dL_law_437 dL_law_439 dL_law_444 dL_law_446 dL_law_449 dL_law_450 dL_law_451 dL_law_452 dL_law_454 dL_law_455 dL_law_456 dL_law_461 (by decide) (fun H locs ls hP hS hl => ?_)
  exact W.widen (k := 103 + (n + 1)) (n := 3604 + 6 * (n + 1)) (by have := tcc_le (x_X5_goBack σ 0 (xs (4 * n + 1)) (xs (4 * n + 2))); omega) (by have := tcs_le (x_X5_goBack σ 0 (xs (4 * n + 1)) (xs (4 * n + 2))); omega) (kk _ _ _ _ _ _ _ hA3 hP hS hl)
set_option maxHeartbeats 4000000 in
set_option maxRecDepth 100000 in
theorem cs_setRule : CS p l e s m b L xs below meth c D cy z n Q 464 := by
  intro σ τ o d H locs ls C hNC hfl hX hbl hz hL hn hR hP hS hl kk
  obtain ⟨hx, hb, hr, hml, hown, hW, hlocks, hAm⟩ := id C
  have hnn : n ≤ 511 := by omega
  obtain ⟨g, τ', hM, hA1, hA2, hA3⟩ := am_setRule l D cy z o d (xs (4 * n + 1)) hR (by omega)
  refine lv_aload_n hx hb dL_law_464 rfl (lv_at hl 1 rfl) ?_
  refine l_arg (k := 1) C hX hbl hz hL (by omega) hS (lv_at hl 0 rfl) (lv_at hl 5 rfl) rfl dL_law_465 dL_law_466 dL_law_468 dL_law_469 dL_law_470 ?_
  refine lv_aload_n hx hb dL_law_471 rfl (lv_at hl 3 rfl) ?_
  refine run_H (As := [.ref (z + 0), .int (xs (4 * n + 1)), .ref (z + 101)]) (rest := []) C hNC (k_L_setRule l hfl D cy z o d σ τ (xs (4 * n + 1)) rfl (tg_setRule σ (xs (4 * n + 1)))) hP hS (mA3 (i := 14) rfl rfl) (mA3 (i := 15) rfl rfl) (mA1 (i := 0) rfl rfl) (mA3 (i := 16) rfl rfl) ⟨by decide +kernel, by decide +kernel, (show _ = some 3 by decide +kernel)⟩ ⟨(le10 rfl), (le10 rfl)⟩ rfl (le10 rfl) hl.1 (room_ok hnn _) dL_law_472 (fun H locs hP hS => ?_)
  refine lv_istore (lv' := (6, .int (hk1 (x_X5_setRule σ 0 (xs (4 * n + 1))))) :: lvB b z (4 * n)) hx hb dL_law_475 hl (by decide) rfl (fun ls hl => ?_)
  refine lv_aload_n hx hb dL_law_477 rfl (lv_at hl 3 rfl) ?_
  refine l_arg (k := 1) C hX hbl hz hL (by omega) hS (lv_at hl 1 rfl) (lv_at hl 6 rfl) rfl dL_law_478 dL_law_479 dL_law_481 dL_law_482 dL_law_483 ?_
  refine run_M (As := [.int (xs (4 * n + 1))]) (rest := []) C (hM _ _ _) hP hS cw_X6_setRule (mA4 (i := 135) rfl rfl) (by decide) rfl (le10 rfl) hl.1 (room_ok hnn _) dL_law_484 (fun H locs hP hS => ?_)
  refine tail_A (i := 4 * n) C hP hS hl hA1 (fun k0 => hO_0 (hk1_0 k0) hA2) (room_ok hnn _) dL_law_487 dL_law_489 dL_law_490 dL_law_493 dL_law_495 dL_law_500 dL_law_502 dL_law_505 dL_law_506 dL_law_507 dL_law_508 dL_law_510 dL_law_511 dL_law_512 dL_law_517 (by decide) (fun H locs ls hP hS hl => ?_)
  exact W.widen (k := 103 + (n + 1)) (n := 3604 + 6 * (n + 1)) (by have := tcc_le (x_X5_setRule σ 0 (xs (4 * n + 1))); omega) (by have := tcs_le (x_X5_setRule σ 0 (xs (4 * n + 1))); omega) (kk _ _ _ _ _ _ _ hA3 hP hS hl)
set_option maxHeartbeats 4000000 in
set_option maxRecDepth 100000 in
theorem cs_setCounts : CS p l e s m b L xs below meth c D cy z n Q 520 := by
  intro σ τ o d H locs ls C hNC hfl hX hbl hz hL hn hR hP hS hl kk
  obtain ⟨hx, hb, hr, hml, hown, hW, hlocks, hAm⟩ := id C
  have hnn : n ≤ 511 := by omega
  obtain ⟨g, τ', hM, hA1, hA2, hA3⟩ := am_setCounts l D cy z o d (xs (4 * n + 1)) hR (by omega)
  refine lv_aload_n hx hb dL_law_520 rfl (lv_at hl 1 rfl) ?_
  refine l_arg (k := 1) C hX hbl hz hL (by omega) hS (lv_at hl 0 rfl) (lv_at hl 5 rfl) rfl dL_law_521 dL_law_522 dL_law_524 dL_law_525 dL_law_526 ?_
  refine lv_aload_n hx hb dL_law_527 rfl (lv_at hl 3 rfl) ?_
  refine run_H (As := [.ref (z + 0), .int (xs (4 * n + 1)), .ref (z + 101)]) (rest := []) C hNC (k_L_setCounts l hfl D cy z o d σ τ (xs (4 * n + 1)) rfl (tg_setCounts σ (xs (4 * n + 1)))) hP hS (mA3 (i := 22) rfl rfl) (mA3 (i := 23) rfl rfl) (mA1 (i := 0) rfl rfl) (mA3 (i := 24) rfl rfl) ⟨by decide +kernel, by decide +kernel, (show _ = some 3 by decide +kernel)⟩ ⟨(le10 rfl), (le10 rfl)⟩ rfl (le10 rfl) hl.1 (room_ok hnn _) dL_law_528 (fun H locs hP hS => ?_)
  refine lv_istore (lv' := (6, .int (hk1 (x_X5_setCounts σ 0 (xs (4 * n + 1))))) :: lvB b z (4 * n)) hx hb dL_law_531 hl (by decide) rfl (fun ls hl => ?_)
  refine lv_aload_n hx hb dL_law_533 rfl (lv_at hl 3 rfl) ?_
  refine l_arg (k := 1) C hX hbl hz hL (by omega) hS (lv_at hl 1 rfl) (lv_at hl 6 rfl) rfl dL_law_534 dL_law_535 dL_law_537 dL_law_538 dL_law_539 ?_
  refine run_M (As := [.int (xs (4 * n + 1))]) (rest := []) C (hM _ _ _) hP hS cw_X6_setCounts (mA4 (i := 139) rfl rfl) (by decide) rfl (le10 rfl) hl.1 (room_ok hnn _) dL_law_540 (fun H locs hP hS => ?_)
  refine tail_A (i := 4 * n) C hP hS hl hA1 (fun k0 => hO_0 (hk1_0 k0) hA2) (room_ok hnn _) dL_law_543 dL_law_545 dL_law_546 dL_law_549 dL_law_551 dL_law_556 dL_law_558 dL_law_561 dL_law_562 dL_law_563 dL_law_564 dL_law_566 dL_law_567 dL_law_568 dL_law_573 (by decide) (fun H locs ls hP hS hl => ?_)
  exact W.widen (k := 103 + (n + 1)) (n := 3604 + 6 * (n + 1)) (by have := tcc_le (x_X5_setCounts σ 0 (xs (4 * n + 1))); omega) (by have := tcs_le (x_X5_setCounts σ 0 (xs (4 * n + 1))); omega) (kk _ _ _ _ _ _ _ hA3 hP hS hl)
set_option maxHeartbeats 4000000 in
set_option maxRecDepth 100000 in
theorem cs_type : CS p l e s m b L xs below meth c D cy z n Q 576 := by
  intro σ τ o d H locs ls C hNC hfl hX hbl hz hL hn hR hP hS hl kk
  obtain ⟨hx, hb, hr, hml, hown, hW, hlocks, hAm⟩ := id C
  have hnn : n ≤ 511 := by omega
  obtain ⟨g, τ', hM, hA1, hA2, hA3⟩ := am_type l D cy z o d (chr (xs (4 * n + 1))) hR (by omega) (chr2 _)
  refine lv_aload_n hx hb dL_law_576 rfl (lv_at hl 1 rfl) ?_
  refine l_arg (k := 1) C hX hbl hz hL (by omega) hS (lv_at hl 0 rfl) (lv_at hl 5 rfl) rfl dL_law_577 dL_law_578 dL_law_580 dL_law_581 dL_law_582 ?_
  refine lv_i2c (v := chr (xs (4 * n + 1))) hx hb dL_law_583 rfl ?_
  refine lv_aload_n hx hb dL_law_584 rfl (lv_at hl 3 rfl) ?_
  refine run_H (As := [.ref (z + 0), .int (chr (xs (4 * n + 1))), .ref (z + 101)]) (rest := []) C hNC (k_L_type l hfl D cy z o d σ τ (chr (xs (4 * n + 1))) rfl (tg_type σ (chr (xs (4 * n + 1))))) hP hS (mA3 (i := 30) rfl rfl) (mA3 (i := 31) rfl rfl) (mA1 (i := 0) rfl rfl) (mA3 (i := 32) rfl rfl) ⟨by decide +kernel, by decide +kernel, (show _ = some 3 by decide +kernel)⟩ ⟨(le10 rfl), (le10 rfl)⟩ rfl (le10 rfl) hl.1 (room_ok hnn _) dL_law_585 (fun H locs hP hS => ?_)
  refine lv_istore (lv' := (6, .int (hk1 (x_X5_type σ 0 (chr (xs (4 * n + 1)))))) :: lvB b z (4 * n)) hx hb dL_law_588 hl (by decide) rfl (fun ls hl => ?_)
  refine lv_aload_n hx hb dL_law_590 rfl (lv_at hl 3 rfl) ?_
  refine l_arg (k := 1) C hX hbl hz hL (by omega) hS (lv_at hl 1 rfl) (lv_at hl 6 rfl) rfl dL_law_591 dL_law_592 dL_law_594 dL_law_595 dL_law_596 ?_
  refine lv_i2c (v := chr (xs (4 * n + 1))) hx hb dL_law_597 rfl ?_
  refine run_M (As := [.int (chr (xs (4 * n + 1)))]) (rest := []) C (hM _ _ _) hP hS cw_X6_type (mA4 (i := 143) rfl rfl) (by decide) rfl (le10 rfl) hl.1 (room_ok hnn _) dL_law_598 (fun H locs hP hS => ?_)
  refine tail_A (i := 4 * n) C hP hS hl hA1 (fun k0 => hO_0 (hk1_0 k0) hA2) (room_ok hnn _) dL_law_601 dL_law_603 dL_law_604 dL_law_607 dL_law_609 dL_law_614 dL_law_616 dL_law_619 dL_law_620 dL_law_621 dL_law_622 dL_law_624 dL_law_625 dL_law_626 dL_law_631 (by decide) (fun H locs ls hP hS hl => ?_)
  exact W.widen (k := 103 + (n + 1)) (n := 3604 + 6 * (n + 1)) (by have := tcc_le (x_X5_type σ 0 (chr (xs (4 * n + 1)))); omega) (by have := tcs_le (x_X5_type σ 0 (chr (xs (4 * n + 1)))); omega) (kk _ _ _ _ _ _ _ hA3 hP hS hl)
set_option maxHeartbeats 4000000 in
set_option maxRecDepth 100000 in
theorem cs_clearText : CS p l e s m b L xs below meth c D cy z n Q 634 := by
  intro σ τ o d H locs ls C hNC hfl hX hbl hz hL hn hR hP hS hl kk
  obtain ⟨hx, hb, hr, hml, hown, hW, hlocks, hAm⟩ := id C
  have hnn : n ≤ 511 := by omega
  have hop := op_clearText hR
  refine lv_aload_n hx hb dL_law_634 rfl (lv_at hl 1 rfl) ?_
  refine thn_I (run_V (kr := 0) (As := []) (rest := []) C (k_X5_clearText l D cy z o d σ τ (rfl : kd 0 = 5)) hP hS cw_X5_clearText (mA1 (i := 187) rfl rfl) rfl ⟨rfl, rfl⟩ ⟨(le10 rfl), (le10 rfl)⟩ rfl (le10 rfl) hl.1 (room_ok0 hnn) dL_law_635) hS (fun H locs hP hS => ?_)
  refine lv_aload_n hx hb dL_law_638 rfl (lv_at hl 2 rfl) ?_
  refine thn_I (run_V (As := []) (rest := [.int (f_X5_clearText σ 0)]) C (k_X6_clearText l D cy z o d (s_X5_clearText σ 0) τ k95) hP hS cw_X6_clearText (mA4 (i := 147) rfl rfl) rfl ⟨rfl, rfl⟩ ⟨(le10 rfl), (le10 rfl)⟩ rfl (le10 rfl) hl.1 (room_ok0 hnn) dL_law_639) hS (fun H locs hP hS => ?_)
  refine lv_icmp_eq (tgt := 1786) hx hb dL_law_642 (by decide) (fun _ => ?_) (fun ne => absurd hop.1 ne)
  exact W.widen (k := 103 + (n + 1)) (n := 3604 + 6 * (n + 1)) (by omega) (by omega) (kk _ _ _ _ _ _ _ hop.2 hP hS hl)
set_option maxHeartbeats 4000000 in
set_option maxRecDepth 100000 in
theorem cs_textError : CS p l e s m b L xs below meth c D cy z n Q 647 := by
  intro σ τ o d H locs ls C hNC hfl hX hbl hz hL hn hR hP hS hl kk
  obtain ⟨hx, hb, hr, hml, hown, hW, hlocks, hAm⟩ := id C
  have hnn : n ≤ 511 := by omega
  have hop := op_textError hR
  refine lv_aload_n hx hb dL_law_647 rfl (lv_at hl 1 rfl) ?_
  refine thn_I (run_V (kr := 0) (As := []) (rest := []) C (k_X5_textError l D cy z o d σ τ (rfl : kd 0 = 5) hR.2.2.2.2.2) hP hS cw_X5_textError (mA1 (i := 191) rfl rfl) rfl ⟨rfl, rfl⟩ ⟨(le10 rfl), (le10 rfl)⟩ rfl (le10 rfl) hl.1 (room_ok0 hnn) dL_law_648) hS (fun H locs hP hS => ?_)
  refine lv_aload_n hx hb dL_law_651 rfl (lv_at hl 2 rfl) ?_
  refine thn_I (run_V (As := []) (rest := [.int (f_X5_textError σ 0)]) C (k_X6_textError l D cy z o d σ τ k95 hR.tli) hP hS cw_X6_textError (mA4 (i := 151) rfl rfl) rfl ⟨rfl, rfl⟩ ⟨(le10 rfl), (le10 rfl)⟩ rfl (le10 rfl) hl.1 (room_ok0 hnn) dL_law_652) hS (fun H locs hP hS => ?_)
  refine lv_icmp_eq (tgt := 1786) hx hb dL_law_655 (by decide) (fun _ => ?_) (fun ne => absurd hop.1 ne)
  exact W.widen (k := 103 + (n + 1)) (n := 3604 + 6 * (n + 1)) (by omega) (by omega) (kk _ _ _ _ _ _ _ hop.2.1 hP hS hl)
set_option maxHeartbeats 4000000 in
set_option maxRecDepth 100000 in
theorem cs_impossibleOrder : CS p l e s m b L xs below meth c D cy z n Q 660 := by
  intro σ τ o d H locs ls C hNC hfl hX hbl hz hL hn hR hP hS hl kk
  obtain ⟨hx, hb, hr, hml, hown, hW, hlocks, hAm⟩ := id C
  have hnn : n ≤ 511 := by omega
  obtain ⟨g, τ', hM, hA1, hA2, hA3⟩ := am_impossibleOrder l D cy z o d hR (by omega)
  refine lv_aload_n hx hb dL_law_660 rfl (lv_at hl 1 rfl) ?_
  refine lv_aload_n hx hb dL_law_661 rfl (lv_at hl 3 rfl) ?_
  refine run_H (As := [.ref (z + 0), .ref (z + 101)]) (rest := []) C hNC (k_L_impossibleOrder l hfl D cy z o d σ τ hR.2.2.2.2.1 hR.2.2.2.2.2 rfl (tg_impossibleOrder σ)) hP hS (mA3 (i := 42) rfl rfl) (mA3 (i := 43) rfl rfl) (mA1 (i := 0) rfl rfl) (mA3 (i := 44) rfl rfl) ⟨by decide +kernel, by decide +kernel, (show _ = some 2 by decide +kernel)⟩ ⟨(le10 rfl), (le10 rfl)⟩ rfl (le10 rfl) hl.1 (room_ok hnn _) dL_law_662 (fun H locs hP hS => ?_)
  refine lv_istore (lv' := (6, .int (hk1 (x_X5_impossibleOrder σ 0))) :: lvB b z (4 * n)) hx hb dL_law_665 hl (by decide) rfl (fun ls hl => ?_)
  refine lv_aload_n hx hb dL_law_667 rfl (lv_at hl 3 rfl) ?_
  refine run_M (As := []) (rest := []) C (hM _ _ _) hP hS cw_X6_impossibleOrder (mA4 (i := 175) rfl rfl) (by decide) rfl (le10 rfl) hl.1 (room_ok hnn _) dL_law_668 (fun H locs hP hS => ?_)
  refine tail_A (i := 4 * n) C hP hS hl hA1 (fun k0 => hO_0 (hk1_0 k0) hA2) (room_ok hnn _) dL_law_671 dL_law_673 dL_law_674 dL_law_677 dL_law_679 dL_law_684 dL_law_686 dL_law_689 dL_law_690 dL_law_691 dL_law_692 dL_law_694 dL_law_695 dL_law_696 dL_law_701 (by decide) (fun H locs ls hP hS hl => ?_)
  exact W.widen (k := 103 + (n + 1)) (n := 3604 + 6 * (n + 1)) (by have := tcc_le (x_X5_impossibleOrder σ 0); omega) (by have := tcs_le (x_X5_impossibleOrder σ 0); omega) (kk _ _ _ _ _ _ _ hA3 hP hS hl)
set_option maxHeartbeats 4000000 in
set_option maxRecDepth 100000 in
theorem cs_carryOut : CS p l e s m b L xs below meth c D cy z n Q 704 := by
  intro σ τ o d H locs ls C hNC hfl hX hbl hz hL hn hR hP hS hl kk
  obtain ⟨hx, hb, hr, hml, hown, hW, hlocks, hAm⟩ := id C
  have hnn : n ≤ 511 := by omega
  obtain ⟨g, τ', hM, hA1, hA2, hA3⟩ := am_carryOut l D cy z o d hR (by omega)
  refine lv_aload_n hx hb dL_law_704 rfl (lv_at hl 1 rfl) ?_
  refine lv_aload_n hx hb dL_law_705 rfl (lv_at hl 3 rfl) ?_
  refine run_H (As := [.ref (z + 0), .ref (z + 101)]) (rest := []) C hNC (k_L_carryOut l hfl D cy z o d σ τ hR.2.2.2.2.1 hR.2.2.2.2.2 rfl (tg_carryOut σ)) hP hS (mA3 (i := 84) rfl rfl) (mA3 (i := 85) rfl rfl) (mA1 (i := 0) rfl rfl) (mA3 (i := 86) rfl rfl) ⟨by decide +kernel, by decide +kernel, (show _ = some 2 by decide +kernel)⟩ ⟨(le10 rfl), (le10 rfl)⟩ rfl (le10 rfl) hl.1 (room_ok hnn _) dL_law_706 (fun H locs hP hS => ?_)
  refine lv_istore (lv' := (6, .int (hk1 (x_X5_carryOut σ 0))) :: lvB b z (4 * n)) hx hb dL_law_709 hl (by decide) rfl (fun ls hl => ?_)
  refine lv_aload_n hx hb dL_law_711 rfl (lv_at hl 3 rfl) ?_
  refine run_M (As := []) (rest := []) C (hM _ _ _) hP hS cw_X6_carryOut (mA4 (i := 183) rfl rfl) (by decide) rfl (le10 rfl) hl.1 (room_ok hnn _) dL_law_712 (fun H locs hP hS => ?_)
  refine tail_A (i := 4 * n) C hP hS hl hA1 (fun k0 => hO_0 (hk1_0 k0) hA2) (room_ok hnn _) dL_law_715 dL_law_717 dL_law_718 dL_law_721 dL_law_723 dL_law_728 dL_law_730 dL_law_733 dL_law_734 dL_law_735 dL_law_736 dL_law_738 dL_law_739 dL_law_740 dL_law_745 (by decide) (fun H locs ls hP hS hl => ?_)
  exact W.widen (k := 103 + (n + 1)) (n := 3604 + 6 * (n + 1)) (by have := tcc_le (x_X5_carryOut σ 0); omega) (by have := tcs_le (x_X5_carryOut σ 0); omega) (kk _ _ _ _ _ _ _ hA3 hP hS hl)
set_option maxHeartbeats 4000000 in
set_option maxRecDepth 100000 in
theorem cs_undo : CS p l e s m b L xs below meth c D cy z n Q 748 := by
  intro σ τ o d H locs ls C hNC hfl hX hbl hz hL hn hR hP hS hl kk
  obtain ⟨hx, hb, hr, hml, hown, hW, hlocks, hAm⟩ := id C
  have hnn : n ≤ 511 := by omega
  obtain ⟨g, τ', hM, hA1, hA2, hA3⟩ := am_undo l D cy z o d hR (by omega)
  refine lv_aload_n hx hb dL_law_748 rfl (lv_at hl 1 rfl) ?_
  refine lv_aload_n hx hb dL_law_749 rfl (lv_at hl 3 rfl) ?_
  refine run_H (As := [.ref (z + 0), .ref (z + 101)]) (rest := []) C hNC (k_L_undo l hfl D cy z o d σ τ rfl (tg_undo σ)) hP hS (mA3 (i := 92) rfl rfl) (mA3 (i := 93) rfl rfl) (mA1 (i := 0) rfl rfl) (mA3 (i := 94) rfl rfl) ⟨by decide +kernel, by decide +kernel, (show _ = some 2 by decide +kernel)⟩ ⟨(le10 rfl), (le10 rfl)⟩ rfl (le10 rfl) hl.1 (room_ok hnn _) dL_law_750 (fun H locs hP hS => ?_)
  refine lv_istore (lv' := (6, .int (hk1 (x_X5_undo σ 0))) :: lvB b z (4 * n)) hx hb dL_law_753 hl (by decide) rfl (fun ls hl => ?_)
  refine lv_aload_n hx hb dL_law_755 rfl (lv_at hl 3 rfl) ?_
  refine run_M (As := []) (rest := []) C (hM _ _ _) hP hS cw_X6_undo (mA4 (i := 187) rfl rfl) (by decide) rfl (le10 rfl) hl.1 (room_ok hnn _) dL_law_756 (fun H locs hP hS => ?_)
  refine tail_A (i := 4 * n) C hP hS hl hA1 (fun k0 => hO_0 (hk1_0 k0) hA2) (room_ok hnn _) dL_law_759 dL_law_761 dL_law_762 dL_law_765 dL_law_767 dL_law_772 dL_law_774 dL_law_777 dL_law_778 dL_law_779 dL_law_780 dL_law_782 dL_law_783 dL_law_784 dL_law_789 (by decide) (fun H locs ls hP hS hl => ?_)
  exact W.widen (k := 103 + (n + 1)) (n := 3604 + 6 * (n + 1)) (by have := tcc_le (x_X5_undo σ 0); omega) (by have := tcs_le (x_X5_undo σ 0); omega) (kk _ _ _ _ _ _ _ hA3 hP hS hl)
set_option maxHeartbeats 4000000 in
set_option maxRecDepth 100000 in
theorem cs_takeSnapshot : CS p l e s m b L xs below meth c D cy z n Q 792 := by
  intro σ τ o d H locs ls C hNC hfl hX hbl hz hL hn hR hP hS hl kk
  obtain ⟨hx, hb, hr, hml, hown, hW, hlocks, hAm⟩ := id C
  have hnn : n ≤ 511 := by omega
  have hop := op_takeSnapshot hR
  refine lv_aload_n hx hb dL_law_792 rfl (lv_at hl 1 rfl) ?_
  refine thn_I (run_V (kr := 0) (As := []) (rest := []) C (k_X5_takeSnapshot l D cy z o d σ τ (rfl : kd 0 = 5)) hP hS cw_X5_takeSnapshot (mA1 (i := 215) rfl rfl) rfl ⟨rfl, rfl⟩ ⟨(le10 rfl), (le10 rfl)⟩ rfl (le10 rfl) hl.1 (room_ok0 hnn) dL_law_793) hS (fun H locs hP hS => ?_)
  refine lv_aload_n hx hb dL_law_796 rfl (lv_at hl 2 rfl) ?_
  refine thn_I (run_V (As := []) (rest := [.int (f_X5_takeSnapshot σ 0)]) C (k_X6_takeSnapshot l D cy z o d (s_X5_takeSnapshot σ 0) τ k95) hP hS cw_X6_takeSnapshot (mA4 (i := 191) rfl rfl) rfl ⟨rfl, rfl⟩ ⟨(le10 rfl), (le10 rfl)⟩ rfl (le10 rfl) hl.1 (room_ok0 hnn) dL_law_797) hS (fun H locs hP hS => ?_)
  refine lv_icmp_eq (tgt := 1786) hx hb dL_law_800 (by decide) (fun _ => ?_) (fun ne => absurd hop.1 ne)
  exact W.widen (k := 103 + (n + 1)) (n := 3604 + 6 * (n + 1)) (by omega) (by omega) (kk _ _ _ _ _ _ _ hop.2 hP hS hl)
set_option maxHeartbeats 4000000 in
set_option maxRecDepth 100000 in
theorem cs_restoreSnapshot : CS p l e s m b L xs below meth c D cy z n Q 805 := by
  intro σ τ o d H locs ls C hNC hfl hX hbl hz hL hn hR hP hS hl kk
  obtain ⟨hx, hb, hr, hml, hown, hW, hlocks, hAm⟩ := id C
  have hnn : n ≤ 511 := by omega
  obtain ⟨g, τ', hM, hA1, hA2, hA3⟩ := am_restoreSnapshot l D cy z o d hR (by omega)
  refine lv_aload_n hx hb dL_law_805 rfl (lv_at hl 1 rfl) ?_
  refine lv_aload_n hx hb dL_law_806 rfl (lv_at hl 3 rfl) ?_
  refine run_H (As := [.ref (z + 0), .ref (z + 101)]) (rest := []) C hNC (k_L_restoreSnapshot l hfl D cy z o d σ τ rfl (tg_restoreSnapshot σ)) hP hS (mA3 (i := 104) rfl rfl) (mA3 (i := 105) rfl rfl) (mA1 (i := 0) rfl rfl) (mA3 (i := 106) rfl rfl) ⟨by decide +kernel, by decide +kernel, (show _ = some 2 by decide +kernel)⟩ ⟨(le10 rfl), (le10 rfl)⟩ rfl (le10 rfl) hl.1 (room_ok hnn _) dL_law_807 (fun H locs hP hS => ?_)
  refine lv_istore (lv' := (6, .int (hk1 (x_X5_restoreSnapshot σ 0))) :: lvB b z (4 * n)) hx hb dL_law_810 hl (by decide) rfl (fun ls hl => ?_)
  refine lv_aload_n hx hb dL_law_812 rfl (lv_at hl 3 rfl) ?_
  refine run_M (As := []) (rest := []) C (hM _ _ _) hP hS cw_X6_restoreSnapshot (mA4 (i := 199) rfl rfl) (by decide) rfl (le10 rfl) hl.1 (room_ok hnn _) dL_law_813 (fun H locs hP hS => ?_)
  refine tail_A (i := 4 * n) C hP hS hl hA1 (fun k0 => hO_0 (hk1_0 k0) hA2) (room_ok hnn _) dL_law_816 dL_law_818 dL_law_819 dL_law_822 dL_law_824 dL_law_829 dL_law_831 dL_law_834 dL_law_835 dL_law_836 dL_law_837 dL_law_839 dL_law_840 dL_law_841 dL_law_846 (by decide) (fun H locs ls hP hS hl => ?_)
  exact W.widen (k := 103 + (n + 1)) (n := 3604 + 6 * (n + 1)) (by have := tcc_le (x_X5_restoreSnapshot σ 0); omega) (by have := tcs_le (x_X5_restoreSnapshot σ 0); omega) (kk _ _ _ _ _ _ _ hA3 hP hS hl)
set_option maxHeartbeats 4000000 in
set_option maxRecDepth 100000 in
theorem cs_stateOf : CS p l e s m b L xs below meth c D cy z n Q 849 := by
  intro σ τ o d H locs ls C hNC hfl hX hbl hz hL hn hR hP hS hl kk
  obtain ⟨hx, hb, hr, hml, hown, hW, hlocks, hAm⟩ := id C
  have hnn : n ≤ 511 := by omega
  obtain ⟨g, τ', hM, hA1, hA2, hA3⟩ := am_stateOf l D cy z o d (xs (4 * n + 1)) hR (by omega)
  refine lv_aload_n hx hb dL_law_849 rfl (lv_at hl 1 rfl) ?_
  refine l_arg (k := 1) C hX hbl hz hL (by omega) hS (lv_at hl 0 rfl) (lv_at hl 5 rfl) rfl dL_law_850 dL_law_851 dL_law_853 dL_law_854 dL_law_855 ?_
  refine lv_aload_n hx hb dL_law_856 rfl (lv_at hl 3 rfl) ?_
  refine run_H (As := [.ref (z + 0), .int (xs (4 * n + 1)), .ref (z + 101)]) (rest := []) C hNC (k_L_stateOf l hfl D cy z o d σ τ (xs (4 * n + 1)) rfl (tg_stateOf σ (xs (4 * n + 1)))) hP hS (mA3 (i := 112) rfl rfl) (mA3 (i := 113) rfl rfl) (mA1 (i := 0) rfl rfl) (mA3 (i := 114) rfl rfl) ⟨by decide +kernel, by decide +kernel, (show _ = some 3 by decide +kernel)⟩ ⟨(le10 rfl), (le10 rfl)⟩ rfl (le10 rfl) hl.1 (room_ok hnn _) dL_law_857 (fun H locs hP hS => ?_)
  refine lv_istore (lv' := (6, .int (hk1 (x_X5_stateOf σ 0 (xs (4 * n + 1))))) :: lvB b z (4 * n)) hx hb dL_law_860 hl (by decide) rfl (fun ls hl => ?_)
  refine lv_aload_n hx hb dL_law_862 rfl (lv_at hl 3 rfl) ?_
  refine l_arg (k := 1) C hX hbl hz hL (by omega) hS (lv_at hl 1 rfl) (lv_at hl 6 rfl) rfl dL_law_863 dL_law_864 dL_law_866 dL_law_867 dL_law_868 ?_
  refine run_M (As := [.int (xs (4 * n + 1))]) (rest := []) C (hM _ _ _) hP hS cw_X6_stateOf (mA4 (i := 203) rfl rfl) (by decide) rfl (le10 rfl) hl.1 (room_ok hnn _) dL_law_869 (fun H locs hP hS => ?_)
  refine tail_A (i := 4 * n) C hP hS hl hA1 (fun k0 => hO_0 (hk1_0 k0) hA2) (room_ok hnn _) dL_law_872 dL_law_874 dL_law_875 dL_law_878 dL_law_880 dL_law_885 dL_law_887 dL_law_890 dL_law_891 dL_law_892 dL_law_893 dL_law_895 dL_law_896 dL_law_897 dL_law_902 (by decide) (fun H locs ls hP hS hl => ?_)
  exact W.widen (k := 103 + (n + 1)) (n := 3604 + 6 * (n + 1)) (by have := tcc_le (x_X5_stateOf σ 0 (xs (4 * n + 1))); omega) (by have := tcs_le (x_X5_stateOf σ 0 (xs (4 * n + 1))); omega) (kk _ _ _ _ _ _ _ hA3 hP hS hl)
set_option maxHeartbeats 4000000 in
set_option maxRecDepth 100000 in
theorem cs_positionOf : CS p l e s m b L xs below meth c D cy z n Q 905 := by
  intro σ τ o d H locs ls C hNC hfl hX hbl hz hL hn hR hP hS hl kk
  obtain ⟨hx, hb, hr, hml, hown, hW, hlocks, hAm⟩ := id C
  have hnn : n ≤ 511 := by omega
  obtain ⟨g, τ', hM, hA1, hA2, hA3⟩ := am_positionOf l D cy z o d (xs (4 * n + 1)) hR (by omega)
  refine lv_aload_n hx hb dL_law_905 rfl (lv_at hl 1 rfl) ?_
  refine l_arg (k := 1) C hX hbl hz hL (by omega) hS (lv_at hl 0 rfl) (lv_at hl 5 rfl) rfl dL_law_906 dL_law_907 dL_law_909 dL_law_910 dL_law_911 ?_
  refine lv_aload_n hx hb dL_law_912 rfl (lv_at hl 3 rfl) ?_
  refine run_H (As := [.ref (z + 0), .int (xs (4 * n + 1)), .ref (z + 101)]) (rest := []) C hNC (k_L_positionOf l hfl D cy z o d σ τ (xs (4 * n + 1)) rfl (tg_positionOf σ (xs (4 * n + 1)))) hP hS (mA3 (i := 119) rfl rfl) (mA3 (i := 120) rfl rfl) (mA1 (i := 0) rfl rfl) (mA3 (i := 121) rfl rfl) ⟨by decide +kernel, by decide +kernel, (show _ = some 3 by decide +kernel)⟩ ⟨(le10 rfl), (le10 rfl)⟩ rfl (le10 rfl) hl.1 (room_ok hnn _) dL_law_913 (fun H locs hP hS => ?_)
  refine lv_istore (lv' := (6, .int (hk1 (x_X5_positionOf σ 0 (xs (4 * n + 1))))) :: lvB b z (4 * n)) hx hb dL_law_916 hl (by decide) rfl (fun ls hl => ?_)
  refine lv_aload_n hx hb dL_law_918 rfl (lv_at hl 3 rfl) ?_
  refine l_arg (k := 1) C hX hbl hz hL (by omega) hS (lv_at hl 1 rfl) (lv_at hl 6 rfl) rfl dL_law_919 dL_law_920 dL_law_922 dL_law_923 dL_law_924 ?_
  refine run_M (As := [.int (xs (4 * n + 1))]) (rest := []) C (hM _ _ _) hP hS cw_X6_positionOf (mA4 (i := 211) rfl rfl) (by decide) rfl (le10 rfl) hl.1 (room_ok hnn _) dL_law_925 (fun H locs hP hS => ?_)
  refine tail_A (i := 4 * n) C hP hS hl hA1 (fun k0 => hO_0 (hk1_0 k0) hA2) (room_ok hnn _) dL_law_928 dL_law_930 dL_law_931 dL_law_934 dL_law_936 dL_law_941 dL_law_943 dL_law_946 dL_law_947 dL_law_948 dL_law_949 dL_law_951 dL_law_952 dL_law_953 dL_law_958 (by decide) (fun H locs ls hP hS hl => ?_)
  exact W.widen (k := 103 + (n + 1)) (n := 3604 + 6 * (n + 1)) (by have := tcc_le (x_X5_positionOf σ 0 (xs (4 * n + 1))); omega) (by have := tcs_le (x_X5_positionOf σ 0 (xs (4 * n + 1))); omega) (kk _ _ _ _ _ _ _ hA3 hP hS hl)
set_option maxHeartbeats 4000000 in
set_option maxRecDepth 100000 in
theorem cs_positionByTracks : CS p l e s m b L xs below meth c D cy z n Q 961 := by
  intro σ τ o d H locs ls C hNC hfl hX hbl hz hL hn hR hP hS hl kk
  obtain ⟨hx, hb, hr, hml, hown, hW, hlocks, hAm⟩ := id C
  have hnn : n ≤ 511 := by omega
  obtain ⟨g, τ', hM, hA1, hA2, hA3⟩ := am_positionByTracks l D cy z o d (xs (4 * n + 1)) hR (by omega)
  refine lv_aload_n hx hb dL_law_961 rfl (lv_at hl 1 rfl) ?_
  refine l_arg (k := 1) C hX hbl hz hL (by omega) hS (lv_at hl 0 rfl) (lv_at hl 5 rfl) rfl dL_law_962 dL_law_963 dL_law_965 dL_law_966 dL_law_967 ?_
  refine lv_aload_n hx hb dL_law_968 rfl (lv_at hl 3 rfl) ?_
  refine run_H (As := [.ref (z + 0), .int (xs (4 * n + 1)), .ref (z + 101)]) (rest := []) C hNC (k_L_positionByTracks l hfl D cy z o d σ τ (xs (4 * n + 1)) rfl (tg_positionByTracks σ (xs (4 * n + 1)))) hP hS (mA3 (i := 126) rfl rfl) (mA3 (i := 127) rfl rfl) (mA1 (i := 0) rfl rfl) (mA3 (i := 128) rfl rfl) ⟨by decide +kernel, by decide +kernel, (show _ = some 3 by decide +kernel)⟩ ⟨(le10 rfl), (le10 rfl)⟩ rfl (le10 rfl) hl.1 (room_ok hnn _) dL_law_969 (fun H locs hP hS => ?_)
  refine lv_istore (lv' := (6, .int (hk1 (x_X5_positionByTracks σ 0 (xs (4 * n + 1))))) :: lvB b z (4 * n)) hx hb dL_law_972 hl (by decide) rfl (fun ls hl => ?_)
  refine lv_aload_n hx hb dL_law_974 rfl (lv_at hl 3 rfl) ?_
  refine l_arg (k := 1) C hX hbl hz hL (by omega) hS (lv_at hl 1 rfl) (lv_at hl 6 rfl) rfl dL_law_975 dL_law_976 dL_law_978 dL_law_979 dL_law_980 ?_
  refine run_M (As := [.int (xs (4 * n + 1))]) (rest := []) C (hM _ _ _) hP hS cw_X6_positionByTracks (mA4 (i := 215) rfl rfl) (by decide) rfl (le10 rfl) hl.1 (room_ok hnn _) dL_law_981 (fun H locs hP hS => ?_)
  refine tail_A (i := 4 * n) C hP hS hl hA1 (fun k0 => hO_0 (hk1_0 k0) hA2) (room_ok hnn _) dL_law_984 dL_law_986 dL_law_987 dL_law_990 dL_law_992 dL_law_997 dL_law_999 dL_law_1002 dL_law_1003 dL_law_1004 dL_law_1005 dL_law_1007 dL_law_1008 dL_law_1009 dL_law_1014 (by decide) (fun H locs ls hP hS hl => ?_)
  exact W.widen (k := 103 + (n + 1)) (n := 3604 + 6 * (n + 1)) (by have := tcc_le (x_X5_positionByTracks σ 0 (xs (4 * n + 1))); omega) (by have := tcs_le (x_X5_positionByTracks σ 0 (xs (4 * n + 1))); omega) (kk _ _ _ _ _ _ _ hA3 hP hS hl)
set_option maxHeartbeats 4000000 in
set_option maxRecDepth 100000 in
theorem cs_turnsOf : CS p l e s m b L xs below meth c D cy z n Q 1017 := by
  intro σ τ o d H locs ls C hNC hfl hX hbl hz hL hn hR hP hS hl kk
  obtain ⟨hx, hb, hr, hml, hown, hW, hlocks, hAm⟩ := id C
  have hnn : n ≤ 511 := by omega
  obtain ⟨g, τ', hM, hA1, hA2, hA3⟩ := am_turnsOf l D cy z o d (xs (4 * n + 1)) hR (by omega)
  refine lv_aload_n hx hb dL_law_1017 rfl (lv_at hl 1 rfl) ?_
  refine l_arg (k := 1) C hX hbl hz hL (by omega) hS (lv_at hl 0 rfl) (lv_at hl 5 rfl) rfl dL_law_1018 dL_law_1019 dL_law_1021 dL_law_1022 dL_law_1023 ?_
  refine lv_aload_n hx hb dL_law_1024 rfl (lv_at hl 3 rfl) ?_
  refine run_H (As := [.ref (z + 0), .int (xs (4 * n + 1)), .ref (z + 101)]) (rest := []) C hNC (k_L_turnsOf l hfl D cy z o d σ τ (xs (4 * n + 1)) rfl (tg_turnsOf σ (xs (4 * n + 1)))) hP hS (mA3 (i := 133) rfl rfl) (mA3 (i := 134) rfl rfl) (mA1 (i := 0) rfl rfl) (mA3 (i := 135) rfl rfl) ⟨by decide +kernel, by decide +kernel, (show _ = some 3 by decide +kernel)⟩ ⟨(le10 rfl), (le10 rfl)⟩ rfl (le10 rfl) hl.1 (room_ok hnn _) dL_law_1025 (fun H locs hP hS => ?_)
  refine lv_istore (lv' := (6, .int (hk1 (x_X5_turnsOf σ 0 (xs (4 * n + 1))))) :: lvB b z (4 * n)) hx hb dL_law_1028 hl (by decide) rfl (fun ls hl => ?_)
  refine lv_aload_n hx hb dL_law_1030 rfl (lv_at hl 3 rfl) ?_
  refine l_arg (k := 1) C hX hbl hz hL (by omega) hS (lv_at hl 1 rfl) (lv_at hl 6 rfl) rfl dL_law_1031 dL_law_1032 dL_law_1034 dL_law_1035 dL_law_1036 ?_
  refine run_M (As := [.int (xs (4 * n + 1))]) (rest := []) C (hM _ _ _) hP hS cw_X6_turnsOf (mA4 (i := 219) rfl rfl) (by decide) rfl (le10 rfl) hl.1 (room_ok hnn _) dL_law_1037 (fun H locs hP hS => ?_)
  refine tail_A (i := 4 * n) C hP hS hl hA1 (fun k0 => hO_0 (hk1_0 k0) hA2) (room_ok hnn _) dL_law_1040 dL_law_1042 dL_law_1043 dL_law_1046 dL_law_1048 dL_law_1053 dL_law_1055 dL_law_1058 dL_law_1059 dL_law_1060 dL_law_1061 dL_law_1063 dL_law_1064 dL_law_1065 dL_law_1070 (by decide) (fun H locs ls hP hS hl => ?_)
  exact W.widen (k := 103 + (n + 1)) (n := 3604 + 6 * (n + 1)) (by have := tcc_le (x_X5_turnsOf σ 0 (xs (4 * n + 1))); omega) (by have := tcs_le (x_X5_turnsOf σ 0 (xs (4 * n + 1))); omega) (kk _ _ _ _ _ _ _ hA3 hP hS hl)
set_option maxHeartbeats 4000000 in
set_option maxRecDepth 100000 in
theorem cs_placeOf : CS p l e s m b L xs below meth c D cy z n Q 1073 := by
  intro σ τ o d H locs ls C hNC hfl hX hbl hz hL hn hR hP hS hl kk
  obtain ⟨hx, hb, hr, hml, hown, hW, hlocks, hAm⟩ := id C
  have hnn : n ≤ 511 := by omega
  obtain ⟨g, τ', hM, hA1, hA2, hA3⟩ := am_placeOf l D cy z o d (xs (4 * n + 1)) hR (by omega)
  refine lv_aload_n hx hb dL_law_1073 rfl (lv_at hl 1 rfl) ?_
  refine l_arg (k := 1) C hX hbl hz hL (by omega) hS (lv_at hl 0 rfl) (lv_at hl 5 rfl) rfl dL_law_1074 dL_law_1075 dL_law_1077 dL_law_1078 dL_law_1079 ?_
  refine lv_aload_n hx hb dL_law_1080 rfl (lv_at hl 3 rfl) ?_
  refine run_H (As := [.ref (z + 0), .int (xs (4 * n + 1)), .ref (z + 101)]) (rest := []) C hNC (k_L_placeOf l hfl D cy z o d σ τ (xs (4 * n + 1)) rfl (tg_placeOf σ (xs (4 * n + 1)))) hP hS (mA3 (i := 147) rfl rfl) (mA3 (i := 148) rfl rfl) (mA1 (i := 0) rfl rfl) (mA3 (i := 149) rfl rfl) ⟨by decide +kernel, by decide +kernel, (show _ = some 3 by decide +kernel)⟩ ⟨(le10 rfl), (le10 rfl)⟩ rfl (le10 rfl) hl.1 (room_ok hnn _) dL_law_1081 (fun H locs hP hS => ?_)
  refine lv_istore (lv' := (6, .int (hk1 (x_X5_placeOf σ 0 (xs (4 * n + 1))))) :: lvB b z (4 * n)) hx hb dL_law_1084 hl (by decide) rfl (fun ls hl => ?_)
  refine lv_aload_n hx hb dL_law_1086 rfl (lv_at hl 3 rfl) ?_
  refine l_arg (k := 1) C hX hbl hz hL (by omega) hS (lv_at hl 1 rfl) (lv_at hl 6 rfl) rfl dL_law_1087 dL_law_1088 dL_law_1090 dL_law_1091 dL_law_1092 ?_
  refine run_M (As := [.int (xs (4 * n + 1))]) (rest := []) C (hM _ _ _) hP hS cw_X6_placeOf (mA4 (i := 223) rfl rfl) (by decide) rfl (le10 rfl) hl.1 (room_ok hnn _) dL_law_1093 (fun H locs hP hS => ?_)
  refine tail_A (i := 4 * n) C hP hS hl hA1 (fun k0 => hO_0 (hk1_0 k0) hA2) (room_ok hnn _) dL_law_1096 dL_law_1098 dL_law_1099 dL_law_1102 dL_law_1104 dL_law_1109 dL_law_1111 dL_law_1114 dL_law_1115 dL_law_1116 dL_law_1117 dL_law_1119 dL_law_1120 dL_law_1121 dL_law_1126 (by decide) (fun H locs ls hP hS hl => ?_)
  exact W.widen (k := 103 + (n + 1)) (n := 3604 + 6 * (n + 1)) (by have := tcc_le (x_X5_placeOf σ 0 (xs (4 * n + 1))); omega) (by have := tcs_le (x_X5_placeOf σ 0 (xs (4 * n + 1))); omega) (kk _ _ _ _ _ _ _ hA3 hP hS hl)
set_option maxHeartbeats 4000000 in
set_option maxRecDepth 100000 in
theorem cs_directionOf : CS p l e s m b L xs below meth c D cy z n Q 1129 := by
  intro σ τ o d H locs ls C hNC hfl hX hbl hz hL hn hR hP hS hl kk
  obtain ⟨hx, hb, hr, hml, hown, hW, hlocks, hAm⟩ := id C
  have hnn : n ≤ 511 := by omega
  obtain ⟨g, τ', hM, hA1, hA2, hA3⟩ := am_directionOf l D cy z o d (xs (4 * n + 1)) hR (by omega)
  refine lv_aload_n hx hb dL_law_1129 rfl (lv_at hl 1 rfl) ?_
  refine l_arg (k := 1) C hX hbl hz hL (by omega) hS (lv_at hl 0 rfl) (lv_at hl 5 rfl) rfl dL_law_1130 dL_law_1131 dL_law_1133 dL_law_1134 dL_law_1135 ?_
  refine lv_aload_n hx hb dL_law_1136 rfl (lv_at hl 3 rfl) ?_
  refine run_H (As := [.ref (z + 0), .int (xs (4 * n + 1)), .ref (z + 101)]) (rest := []) C hNC (k_L_directionOf l hfl D cy z o d σ τ (xs (4 * n + 1)) rfl (tg_directionOf σ (xs (4 * n + 1)))) hP hS (mA3 (i := 155) rfl rfl) (mA3 (i := 156) rfl rfl) (mA1 (i := 0) rfl rfl) (mA3 (i := 157) rfl rfl) ⟨by decide +kernel, by decide +kernel, (show _ = some 3 by decide +kernel)⟩ ⟨(le10 rfl), (le10 rfl)⟩ rfl (le10 rfl) hl.1 (room_ok hnn _) dL_law_1137 (fun H locs hP hS => ?_)
  refine lv_istore (lv' := (6, .int (hk1 (x_X5_directionOf σ 0 (xs (4 * n + 1))))) :: lvB b z (4 * n)) hx hb dL_law_1140 hl (by decide) rfl (fun ls hl => ?_)
  refine lv_aload_n hx hb dL_law_1142 rfl (lv_at hl 3 rfl) ?_
  refine l_arg (k := 1) C hX hbl hz hL (by omega) hS (lv_at hl 1 rfl) (lv_at hl 6 rfl) rfl dL_law_1143 dL_law_1144 dL_law_1146 dL_law_1147 dL_law_1148 ?_
  refine run_M (As := [.int (xs (4 * n + 1))]) (rest := []) C (hM _ _ _) hP hS cw_X6_directionOf (mA4 (i := 227) rfl rfl) (by decide) rfl (le10 rfl) hl.1 (room_ok hnn _) dL_law_1149 (fun H locs hP hS => ?_)
  refine tail_A (i := 4 * n) C hP hS hl hA1 (fun k0 => hO_0 (hk1_0 k0) hA2) (room_ok hnn _) dL_law_1152 dL_law_1154 dL_law_1155 dL_law_1158 dL_law_1160 dL_law_1165 dL_law_1167 dL_law_1170 dL_law_1171 dL_law_1172 dL_law_1173 dL_law_1175 dL_law_1176 dL_law_1177 dL_law_1182 (by decide) (fun H locs ls hP hS hl => ?_)
  exact W.widen (k := 103 + (n + 1)) (n := 3604 + 6 * (n + 1)) (by have := tcc_le (x_X5_directionOf σ 0 (xs (4 * n + 1))); omega) (by have := tcs_le (x_X5_directionOf σ 0 (xs (4 * n + 1))); omega) (kk _ _ _ _ _ _ _ hA3 hP hS hl)
set_option maxHeartbeats 4000000 in
set_option maxRecDepth 100000 in
theorem cs_countOfA : CS p l e s m b L xs below meth c D cy z n Q 1185 := by
  intro σ τ o d H locs ls C hNC hfl hX hbl hz hL hn hR hP hS hl kk
  obtain ⟨hx, hb, hr, hml, hown, hW, hlocks, hAm⟩ := id C
  have hnn : n ≤ 511 := by omega
  obtain ⟨g, τ', hM, hA1, hA2, hA3⟩ := am_countOfA l D cy z o d (xs (4 * n + 1)) hR (by omega)
  refine lv_aload_n hx hb dL_law_1185 rfl (lv_at hl 1 rfl) ?_
  refine l_arg (k := 1) C hX hbl hz hL (by omega) hS (lv_at hl 0 rfl) (lv_at hl 5 rfl) rfl dL_law_1186 dL_law_1187 dL_law_1189 dL_law_1190 dL_law_1191 ?_
  refine lv_aload_n hx hb dL_law_1192 rfl (lv_at hl 3 rfl) ?_
  refine run_H (As := [.ref (z + 0), .int (xs (4 * n + 1)), .ref (z + 101)]) (rest := []) C hNC (k_L_countOfA l hfl D cy z o d σ τ (xs (4 * n + 1)) rfl (tg_countOfA σ (xs (4 * n + 1)))) hP hS (mA3 (i := 162) rfl rfl) (mA3 (i := 163) rfl rfl) (mA1 (i := 0) rfl rfl) (mA3 (i := 164) rfl rfl) ⟨by decide +kernel, by decide +kernel, (show _ = some 3 by decide +kernel)⟩ ⟨(le10 rfl), (le10 rfl)⟩ rfl (le10 rfl) hl.1 (room_ok hnn _) dL_law_1193 (fun H locs hP hS => ?_)
  refine lv_istore (lv' := (6, .int (hk1 (x_X5_countOfA σ 0 (xs (4 * n + 1))))) :: lvB b z (4 * n)) hx hb dL_law_1196 hl (by decide) rfl (fun ls hl => ?_)
  refine lv_aload_n hx hb dL_law_1198 rfl (lv_at hl 3 rfl) ?_
  refine l_arg (k := 1) C hX hbl hz hL (by omega) hS (lv_at hl 1 rfl) (lv_at hl 6 rfl) rfl dL_law_1199 dL_law_1200 dL_law_1202 dL_law_1203 dL_law_1204 ?_
  refine run_M (As := [.int (xs (4 * n + 1))]) (rest := []) C (hM _ _ _) hP hS cw_X6_countOfA (mA4 (i := 231) rfl rfl) (by decide) rfl (le10 rfl) hl.1 (room_ok hnn _) dL_law_1205 (fun H locs hP hS => ?_)
  refine tail_A (i := 4 * n) C hP hS hl hA1 (fun k0 => hO_0 (hk1_0 k0) hA2) (room_ok hnn _) dL_law_1208 dL_law_1210 dL_law_1211 dL_law_1214 dL_law_1216 dL_law_1221 dL_law_1223 dL_law_1226 dL_law_1227 dL_law_1228 dL_law_1229 dL_law_1231 dL_law_1232 dL_law_1233 dL_law_1238 (by decide) (fun H locs ls hP hS hl => ?_)
  exact W.widen (k := 103 + (n + 1)) (n := 3604 + 6 * (n + 1)) (by have := tcc_le (x_X5_countOfA σ 0 (xs (4 * n + 1))); omega) (by have := tcs_le (x_X5_countOfA σ 0 (xs (4 * n + 1))); omega) (kk _ _ _ _ _ _ _ hA3 hP hS hl)
set_option maxHeartbeats 4000000 in
set_option maxRecDepth 100000 in
theorem cs_leader : CS p l e s m b L xs below meth c D cy z n Q 1241 := by
  intro σ τ o d H locs ls C hNC hfl hX hbl hz hL hn hR hP hS hl kk
  obtain ⟨hx, hb, hr, hml, hown, hW, hlocks, hAm⟩ := id C
  have hnn : n ≤ 511 := by omega
  have hop := op_leader hR
  refine lv_aload_n hx hb dL_law_1241 rfl (lv_at hl 1 rfl) ?_
  refine thn_I (run_V (kr := 0) (As := []) (rest := []) C (k_X5_leader l D cy z o d σ τ (rfl : kd 0 = 5)) hP hS cw_X5_leader (mA1 (i := 235) rfl rfl) rfl ⟨rfl, rfl⟩ ⟨(le10 rfl), (le10 rfl)⟩ rfl (le10 rfl) hl.1 (room_ok0 hnn) dL_law_1242) hS (fun H locs hP hS => ?_)
  refine lv_aload_n hx hb dL_law_1245 rfl (lv_at hl 2 rfl) ?_
  refine thn_I (run_V (As := []) (rest := [.int (f_X5_leader σ 0)]) C (k_X6_leader l D cy z o d σ τ k95) hP hS cw_X6_leader (mA4 (i := 235) rfl rfl) rfl ⟨rfl, rfl⟩ ⟨(le10 rfl), (le10 rfl)⟩ rfl (le10 rfl) hl.1 (room_ok0 hnn) dL_law_1246) hS (fun H locs hP hS => ?_)
  refine lv_icmp_eq (tgt := 1786) hx hb dL_law_1249 (by decide) (fun _ => ?_) (fun ne => absurd hop.1 ne)
  exact W.widen (k := 103 + (n + 1)) (n := 3604 + 6 * (n + 1)) (by omega) (by omega) (kk _ _ _ _ _ _ _ hop.2 hP hS hl)
set_option maxHeartbeats 4000000 in
set_option maxRecDepth 100000 in
theorem cs_stepTo : CS p l e s m b L xs below meth c D cy z n Q 1254 := by
  intro σ τ o d H locs ls C hNC hfl hX hbl hz hL hn hR hP hS hl kk
  obtain ⟨hx, hb, hr, hml, hown, hW, hlocks, hAm⟩ := id C
  have hnn : n ≤ 511 := by omega
  obtain ⟨g, τ', hM, hA1, hA2, hA3⟩ := am_stepTo l D cy z o d (xs (4 * n + 1)) (xs (4 * n + 2)) hR (by omega)
  refine lv_aload_n hx hb dL_law_1254 rfl (lv_at hl 1 rfl) ?_
  refine l_arg (k := 1) C hX hbl hz hL (by omega) hS (lv_at hl 0 rfl) (lv_at hl 5 rfl) rfl dL_law_1255 dL_law_1256 dL_law_1258 dL_law_1259 dL_law_1260 ?_
  refine l_arg (k := 2) C hX hbl hz hL (by omega) hS (lv_at hl 0 rfl) (lv_at hl 5 rfl) rfl dL_law_1261 dL_law_1262 dL_law_1264 dL_law_1265 dL_law_1266 ?_
  refine lv_aload_n hx hb dL_law_1267 rfl (lv_at hl 3 rfl) ?_
  refine run_H (As := [.ref (z + 0), .int (xs (4 * n + 1)), .int (xs (4 * n + 2)), .ref (z + 101)]) (rest := []) C hNC (k_L_stepTo l hfl D cy z o d σ τ (xs (4 * n + 1)) (xs (4 * n + 2)) rfl (tg_stepTo σ (xs (4 * n + 1)) (xs (4 * n + 2)))) hP hS (mA3 (i := 169) rfl rfl) (mA3 (i := 170) rfl rfl) (mA1 (i := 0) rfl rfl) (mA3 (i := 171) rfl rfl) ⟨by decide +kernel, by decide +kernel, (show _ = some 4 by decide +kernel)⟩ ⟨(le10 rfl), (le10 rfl)⟩ rfl (le10 rfl) hl.1 (room_ok hnn _) dL_law_1268 (fun H locs hP hS => ?_)
  refine lv_istore (lv' := (6, .int (hkt (x_X5_stepTo σ 0 (xs (4 * n + 1)) (xs (4 * n + 2))))) :: lvB b z (4 * n)) hx hb dL_law_1271 hl (by decide) rfl (fun ls hl => ?_)
  refine lv_aload_n hx hb dL_law_1273 rfl (lv_at hl 3 rfl) ?_
  refine l_arg (k := 1) C hX hbl hz hL (by omega) hS (lv_at hl 1 rfl) (lv_at hl 6 rfl) rfl dL_law_1274 dL_law_1275 dL_law_1277 dL_law_1278 dL_law_1279 ?_
  refine l_arg (k := 2) C hX hbl hz hL (by omega) hS (lv_at hl 1 rfl) (lv_at hl 6 rfl) rfl dL_law_1280 dL_law_1281 dL_law_1283 dL_law_1284 dL_law_1285 ?_
  refine run_M (As := [.int (xs (4 * n + 1)), .int (xs (4 * n + 2))]) (rest := []) C (hM _ _ _) hP hS cw_X6_stepTo (mA4 (i := 239) rfl rfl) (by decide) rfl (le10 rfl) hl.1 (room_ok hnn _) dL_law_1286 (fun H locs hP hS => ?_)
  refine tail_A (i := 4 * n) C hP hS hl hA1 (fun k0 => hO_0 (hkt_0 k0) hA2) (room_ok hnn _) dL_law_1289 dL_law_1291 dL_law_1292 dL_law_1295 dL_law_1297 dL_law_1302 dL_law_1304 dL_law_1307 dL_law_1308 dL_law_1309 dL_law_1310 dL_law_1312 dL_law_1313 dL_law_1314 dL_law_1319 (by decide) (fun H locs ls hP hS hl => ?_)
  exact W.widen (k := 103 + (n + 1)) (n := 3604 + 6 * (n + 1)) (by have := tcc_le (x_X5_stepTo σ 0 (xs (4 * n + 1)) (xs (4 * n + 2))); omega) (by have := tcs_le (x_X5_stepTo σ 0 (xs (4 * n + 1)) (xs (4 * n + 2))); omega) (kk _ _ _ _ _ _ _ hA3 hP hS hl)
set_option maxHeartbeats 4000000 in
set_option maxRecDepth 100000 in
theorem cs_logLength : CS p l e s m b L xs below meth c D cy z n Q 1322 := by
  intro σ τ o d H locs ls C hNC hfl hX hbl hz hL hn hR hP hS hl kk
  obtain ⟨hx, hb, hr, hml, hown, hW, hlocks, hAm⟩ := id C
  have hnn : n ≤ 511 := by omega
  obtain ⟨g, τ', hM, hA1, hA2, hA3⟩ := am_logLength l D cy z o d (xs (4 * n + 1)) hR (by omega)
  refine lv_aload_n hx hb dL_law_1322 rfl (lv_at hl 1 rfl) ?_
  refine l_arg (k := 1) C hX hbl hz hL (by omega) hS (lv_at hl 0 rfl) (lv_at hl 5 rfl) rfl dL_law_1323 dL_law_1324 dL_law_1326 dL_law_1327 dL_law_1328 ?_
  refine lv_aload_n hx hb dL_law_1329 rfl (lv_at hl 3 rfl) ?_
  refine run_H (As := [.ref (z + 0), .int (xs (4 * n + 1)), .ref (z + 101)]) (rest := []) C hNC (k_L_logLength l hfl D cy z o d σ τ (xs (4 * n + 1)) rfl (tg_logLength σ (xs (4 * n + 1)))) hP hS (mA3 (i := 176) rfl rfl) (mA3 (i := 177) rfl rfl) (mA1 (i := 0) rfl rfl) (mA3 (i := 178) rfl rfl) ⟨by decide +kernel, by decide +kernel, (show _ = some 3 by decide +kernel)⟩ ⟨(le10 rfl), (le10 rfl)⟩ rfl (le10 rfl) hl.1 (room_ok hnn _) dL_law_1330 (fun H locs hP hS => ?_)
  refine lv_istore (lv' := (6, .int (hk1 (x_X5_logLength σ 0 (xs (4 * n + 1))))) :: lvB b z (4 * n)) hx hb dL_law_1333 hl (by decide) rfl (fun ls hl => ?_)
  refine lv_aload_n hx hb dL_law_1335 rfl (lv_at hl 3 rfl) ?_
  refine l_arg (k := 1) C hX hbl hz hL (by omega) hS (lv_at hl 1 rfl) (lv_at hl 6 rfl) rfl dL_law_1336 dL_law_1337 dL_law_1339 dL_law_1340 dL_law_1341 ?_
  refine run_M (As := [.int (xs (4 * n + 1))]) (rest := []) C (hM _ _ _) hP hS cw_X6_logLength (mA5 (i := 3) rfl rfl) (by decide) rfl (le10 rfl) hl.1 (room_ok hnn _) dL_law_1342 (fun H locs hP hS => ?_)
  refine tail_A (i := 4 * n) C hP hS hl hA1 (fun k0 => hO_0 (hk1_0 k0) hA2) (room_ok hnn _) dL_law_1345 dL_law_1347 dL_law_1348 dL_law_1351 dL_law_1353 dL_law_1358 dL_law_1360 dL_law_1363 dL_law_1364 dL_law_1365 dL_law_1366 dL_law_1368 dL_law_1369 dL_law_1370 dL_law_1375 (by decide) (fun H locs ls hP hS hl => ?_)
  exact W.widen (k := 103 + (n + 1)) (n := 3604 + 6 * (n + 1)) (by have := tcc_le (x_X5_logLength σ 0 (xs (4 * n + 1))); omega) (by have := tcs_le (x_X5_logLength σ 0 (xs (4 * n + 1))); omega) (kk _ _ _ _ _ _ _ hA3 hP hS hl)
set_option maxHeartbeats 4000000 in
set_option maxRecDepth 100000 in
theorem cs_loggedStep : CS p l e s m b L xs below meth c D cy z n Q 1378 := by
  intro σ τ o d H locs ls C hNC hfl hX hbl hz hL hn hR hP hS hl kk
  obtain ⟨hx, hb, hr, hml, hown, hW, hlocks, hAm⟩ := id C
  have hnn : n ≤ 511 := by omega
  obtain ⟨g, τ', hM, hA1, hA2, hA3⟩ := am_loggedStep l D cy z o d (xs (4 * n + 1)) (xs (4 * n + 2)) hR (by omega)
  refine lv_aload_n hx hb dL_law_1378 rfl (lv_at hl 1 rfl) ?_
  refine l_arg (k := 1) C hX hbl hz hL (by omega) hS (lv_at hl 0 rfl) (lv_at hl 5 rfl) rfl dL_law_1379 dL_law_1380 dL_law_1382 dL_law_1383 dL_law_1384 ?_
  refine l_arg (k := 2) C hX hbl hz hL (by omega) hS (lv_at hl 0 rfl) (lv_at hl 5 rfl) rfl dL_law_1385 dL_law_1386 dL_law_1388 dL_law_1389 dL_law_1390 ?_
  refine lv_aload_n hx hb dL_law_1391 rfl (lv_at hl 3 rfl) ?_
  refine run_H (As := [.ref (z + 0), .int (xs (4 * n + 1)), .int (xs (4 * n + 2)), .ref (z + 101)]) (rest := []) C hNC (k_L_loggedStep l hfl D cy z o d σ τ (xs (4 * n + 1)) (xs (4 * n + 2)) rfl (tg_loggedStep σ (xs (4 * n + 1)) (xs (4 * n + 2)))) hP hS (mA3 (i := 183) rfl rfl) (mA3 (i := 184) rfl rfl) (mA1 (i := 0) rfl rfl) (mA3 (i := 185) rfl rfl) ⟨by decide +kernel, by decide +kernel, (show _ = some 4 by decide +kernel)⟩ ⟨(le10 rfl), (le10 rfl)⟩ rfl (le10 rfl) hl.1 (room_ok hnn _) dL_law_1392 (fun H locs hP hS => ?_)
  refine lv_istore (lv' := (6, .int (hk1 (x_X5_loggedStep σ 0 (xs (4 * n + 1)) (xs (4 * n + 2))))) :: lvB b z (4 * n)) hx hb dL_law_1395 hl (by decide) rfl (fun ls hl => ?_)
  refine lv_aload_n hx hb dL_law_1397 rfl (lv_at hl 3 rfl) ?_
  refine l_arg (k := 1) C hX hbl hz hL (by omega) hS (lv_at hl 1 rfl) (lv_at hl 6 rfl) rfl dL_law_1398 dL_law_1399 dL_law_1401 dL_law_1402 dL_law_1403 ?_
  refine l_arg (k := 2) C hX hbl hz hL (by omega) hS (lv_at hl 1 rfl) (lv_at hl 6 rfl) rfl dL_law_1404 dL_law_1405 dL_law_1407 dL_law_1408 dL_law_1409 ?_
  refine run_M (As := [.int (xs (4 * n + 1)), .int (xs (4 * n + 2))]) (rest := []) C (hM _ _ _) hP hS cw_X6_loggedStep (mA5 (i := 7) rfl rfl) (by decide) rfl (le10 rfl) hl.1 (room_ok hnn _) dL_law_1410 (fun H locs hP hS => ?_)
  refine tail_A (i := 4 * n) C hP hS hl hA1 (fun k0 => hO_0 (hk1_0 k0) hA2) (room_ok hnn _) dL_law_1413 dL_law_1415 dL_law_1416 dL_law_1419 dL_law_1421 dL_law_1426 dL_law_1428 dL_law_1431 dL_law_1432 dL_law_1433 dL_law_1434 dL_law_1436 dL_law_1437 dL_law_1438 dL_law_1443 (by decide) (fun H locs ls hP hS hl => ?_)
  exact W.widen (k := 103 + (n + 1)) (n := 3604 + 6 * (n + 1)) (by have := tcc_le (x_X5_loggedStep σ 0 (xs (4 * n + 1)) (xs (4 * n + 2))); omega) (by have := tcs_le (x_X5_loggedStep σ 0 (xs (4 * n + 1)) (xs (4 * n + 2))); omega) (kk _ _ _ _ _ _ _ hA3 hP hS hl)
set_option maxHeartbeats 4000000 in
set_option maxRecDepth 100000 in
theorem cs_speedOf : CS p l e s m b L xs below meth c D cy z n Q 1446 := by
  intro σ τ o d H locs ls C hNC hfl hX hbl hz hL hn hR hP hS hl kk
  obtain ⟨hx, hb, hr, hml, hown, hW, hlocks, hAm⟩ := id C
  have hnn : n ≤ 511 := by omega
  obtain ⟨gd, τ', ⟨f9, lo9, hf9, hlo9, hM⟩, hA1, hA2, hA3⟩ := am_speedOf l D cy z o (hD (x_X5_speedOf σ 0 (xs (4 * n + 1))) (f_X5_speedOf σ 0 (xs (4 * n + 1))) d) (xs (4 * n + 1)) hR
  refine lv_aload_n hx hb dL_law_1446 rfl (lv_at hl 1 rfl) ?_
  refine l_arg (k := 1) C hX hbl hz hL (by omega) hS (lv_at hl 0 rfl) (lv_at hl 5 rfl) rfl dL_law_1447 dL_law_1448 dL_law_1450 dL_law_1451 dL_law_1452 ?_
  refine lv_aload hx hb dL_law_1453 (lv_at hl 4 rfl) ?_
  refine run_H (As := [.ref (z + 0), .int (xs (4 * n + 1)), .ref (z + 102)]) (rest := []) C hNC (k_L_speedOf l hfl D cy z o d σ τ (xs (4 * n + 1)) hR.2.2.2.2.1 rfl (tg_speedOf σ (xs (4 * n + 1)))) hP hS (mA3 (i := 192) rfl rfl) (mA3 (i := 193) rfl rfl) (mA1 (i := 0) rfl rfl) (mA3 (i := 194) rfl rfl) ⟨by decide +kernel, by decide +kernel, (show _ = some 3 by decide +kernel)⟩ ⟨(le10 rfl), (le10 rfl)⟩ rfl (le10 rfl) hl.1 (room_ok hnn _) dL_law_1455 (fun H locs hP hS => ?_)
  refine lv_istore (lv' := (6, .int (hk1 (x_X5_speedOf σ 0 (xs (4 * n + 1))))) :: lvB b z (4 * n)) hx hb dL_law_1458 hl (by decide) rfl (fun ls hl => ?_)
  refine lv_aload_n hx hb dL_law_1460 rfl (lv_at hl 3 rfl) ?_
  refine l_arg (k := 1) C hX hbl hz hL (by omega) hS (lv_at hl 1 rfl) (lv_at hl 6 rfl) rfl dL_law_1461 dL_law_1462 dL_law_1464 dL_law_1465 dL_law_1466 ?_
  refine thn_D (run_V (As := [.int (xs (4 * n + 1))]) (rest := []) C hM hP hS cw_X6_speedOf (mA5 (i := 11) rfl rfl) rfl ⟨rfl, rfl⟩ ⟨by show f9 + 1 ≤ 11; omega, by show 8 + (5 + 11) + lo9 ≤ 414; omega⟩ rfl (le10 rfl) hl.1 (room_ok hnn _) dL_law_1467) hS (fun H locs hP hS => ?_)
  refine lv_dstore (lv' := (7, .double gd) :: (6, .int (hk1 (x_X5_speedOf σ 0 (xs (4 * n + 1))))) :: lvB b z (4 * n)) hx hb dL_law_1470 hl (by decide) rfl (fun ls hl => ?_)
  refine lv_aload_n hx hb dL_law_1472 rfl (lv_at hl 4 rfl) ?_
  refine thn_I (run_V (As := []) (rest := []) C (k_X6_thrown l D cy z o _ σ τ' k95) hP hS cw_X6_thrown (mA4 (i := 37) rfl rfl) rfl ⟨rfl, rfl⟩ ⟨le10 rfl, le10 rfl⟩ rfl (le10 rfl) hl.1 (room_ok hnn _) dL_law_1473) hS (fun H locs hP hS => ?_)
  refine lv_iload hx hb dL_law_1476 (lv_at hl 1 rfl) ?_
  have ek : f_X6_thrown τ' = hk1 (x_X5_speedOf σ 0 (xs (4 * n + 1))) := hA1
  rw [ek]
  refine lv_icmp_eq (tgt := 1483) hx hb dL_law_1478 (by decide) (fun _ => ?_) (fun ne => absurd rfl ne)
  refine lv_iload hx hb dL_law_1483 (lv_at hl 1 rfl) ?_
  have hend : W p l e room_1 s m #[Value.ref b] below meth c H locs (103 + n + tcc (x_X5_speedOf σ 0 (xs (4 * n + 1)))) (3604 + 6 * n + tcs (x_X5_speedOf σ 0 (xs (4 * n + 1)))) Q (F0 m 1520 ls []) := lv_goto (tgt := 1786) hx hb dL_law_1520 (by decide) (W.widen (k := 103 + (n + 1)) (n := 3604 + 6 * (n + 1)) (by have := tcc_le (x_X5_speedOf σ 0 (xs (4 * n + 1))); omega) (by have := tcs_le (x_X5_speedOf σ 0 (xs (4 * n + 1))); omega) (kk _ _ _ _ _ _ _ hA3 hP hS (lv_sub hl [2, 3, 4, 5, 6, 7] rfl)))
  refine lv_if_ne (tgt := 1520) hx hb dL_law_1485 (by decide) (fun _ => hend) (fun k0 => ?_)
  have t0 := hk1_0 k0
  have eg : hD (x_X5_speedOf σ 0 (xs (4 * n + 1))) (f_X5_speedOf σ 0 (xs (4 * n + 1))) d = gd := (if_pos t0).trans (hA2 t0)
  rw [eg] at hP
  refine lv_aload hx hb dL_law_1488 (lv_at hl 6 rfl) ?_
  refine lv_iconst (v := 0) hx hb dL_law_1490 (by decide) ?_
  refine va_dald hx hb hAm.1 hP 102 3 (n := 1) (f := fun _ => gd) (by rw [mwl_at (by decide), ent_16 (by decide)]) rfl (by unfold vp_in; decide) dL_law_1491 ?_
  refine lv_dload hx hb dL_law_1492 (lv_at hl 0 rfl) ?_
  refine lv_dcmp hx hb dL_law_1494 ?_
  refine lv_if_eq (tgt := 1520) hx hb dL_law_1495 (by decide) (fun _ => hend) (fun v0 => ?_)
  refine lv_aload hx hb dL_law_1498 (lv_at hl 6 rfl) ?_
  refine lv_iconst (v := 0) hx hb dL_law_1500 (by decide) ?_
  refine va_dald hx hb hAm.1 hP 102 3 (n := 1) (f := fun _ => gd) (by rw [mwl_at (by decide), ent_16 (by decide)]) rfl (by unfold vp_in; decide) dL_law_1501 ?_
  refine lv_aload hx hb dL_law_1502 (lv_at hl 6 rfl) ?_
  refine lv_iconst (v := 0) hx hb dL_law_1504 (by decide) ?_
  refine va_dald hx hb hAm.1 hP 102 3 (n := 1) (f := fun _ => gd) (by rw [mwl_at (by decide), ent_16 (by decide)]) rfl (by unfold vp_in; decide) dL_law_1505 ?_
  refine lv_dcmp hx hb dL_law_1506 ?_
  refine lv_if_eq (tgt := 1518) hx hb dL_law_1507 (by decide) (fun v1 => absurd v1 v0) (fun _ => ?_)
  refine lv_dload hx hb dL_law_1510 (lv_at hl 0 rfl) ?_
  refine lv_dload hx hb dL_law_1512 (lv_at hl 0 rfl) ?_
  refine lv_dcmp hx hb dL_law_1514 ?_
  exact lv_if_ne (tgt := 1520) hx hb dL_law_1515 (by decide) (fun _ => hend) (fun v1 => absurd v1 v0)
set_option maxHeartbeats 4000000 in
set_option maxRecDepth 100000 in
theorem cs_errorsOf : CS p l e s m b L xs below meth c D cy z n Q 1523 := by
  intro σ τ o d H locs ls C hNC hfl hX hbl hz hL hn hR hP hS hl kk
  obtain ⟨hx, hb, hr, hml, hown, hW, hlocks, hAm⟩ := id C
  have hnn : n ≤ 511 := by omega
  obtain ⟨g, τ', hM, hA1, hA2, hA3⟩ := am_errorsOf l D cy z o d (xs (4 * n + 1)) hR (by omega)
  refine lv_aload_n hx hb dL_law_1523 rfl (lv_at hl 1 rfl) ?_
  refine l_arg (k := 1) C hX hbl hz hL (by omega) hS (lv_at hl 0 rfl) (lv_at hl 5 rfl) rfl dL_law_1524 dL_law_1525 dL_law_1527 dL_law_1528 dL_law_1529 ?_
  refine lv_aload_n hx hb dL_law_1530 rfl (lv_at hl 3 rfl) ?_
  refine run_H (As := [.ref (z + 0), .int (xs (4 * n + 1)), .ref (z + 101)]) (rest := []) C hNC (k_L_errorsOf l hfl D cy z o d σ τ (xs (4 * n + 1)) rfl (tg_errorsOf σ (xs (4 * n + 1)))) hP hS (mA3 (i := 206) rfl rfl) (mA3 (i := 207) rfl rfl) (mA1 (i := 0) rfl rfl) (mA3 (i := 208) rfl rfl) ⟨by decide +kernel, by decide +kernel, (show _ = some 3 by decide +kernel)⟩ ⟨(le10 rfl), (le10 rfl)⟩ rfl (le10 rfl) hl.1 (room_ok hnn _) dL_law_1531 (fun H locs hP hS => ?_)
  refine lv_istore (lv' := (6, .int (hk1 (x_X5_errorsOf σ 0 (xs (4 * n + 1))))) :: lvB b z (4 * n)) hx hb dL_law_1534 hl (by decide) rfl (fun ls hl => ?_)
  refine lv_aload_n hx hb dL_law_1536 rfl (lv_at hl 3 rfl) ?_
  refine l_arg (k := 1) C hX hbl hz hL (by omega) hS (lv_at hl 1 rfl) (lv_at hl 6 rfl) rfl dL_law_1537 dL_law_1538 dL_law_1540 dL_law_1541 dL_law_1542 ?_
  refine run_M (As := [.int (xs (4 * n + 1))]) (rest := []) C (hM _ _ _) hP hS cw_X6_errorsOf (mA5 (i := 15) rfl rfl) (by decide) rfl (le10 rfl) hl.1 (room_ok hnn _) dL_law_1543 (fun H locs hP hS => ?_)
  refine tail_A (i := 4 * n) C hP hS hl hA1 (fun k0 => hO_0 (hk1_0 k0) hA2) (room_ok hnn _) dL_law_1546 dL_law_1548 dL_law_1549 dL_law_1552 dL_law_1554 dL_law_1559 dL_law_1561 dL_law_1564 dL_law_1565 dL_law_1566 dL_law_1567 dL_law_1569 dL_law_1570 dL_law_1571 dL_law_1576 (by decide) (fun H locs ls hP hS hl => ?_)
  exact W.widen (k := 103 + (n + 1)) (n := 3604 + 6 * (n + 1)) (by have := tcc_le (x_X5_errorsOf σ 0 (xs (4 * n + 1))); omega) (by have := tcs_le (x_X5_errorsOf σ 0 (xs (4 * n + 1))); omega) (kk _ _ _ _ _ _ _ hA3 hP hS hl)
set_option maxHeartbeats 4000000 in
set_option maxRecDepth 100000 in
theorem cs_slipsOf : CS p l e s m b L xs below meth c D cy z n Q 1579 := by
  intro σ τ o d H locs ls C hNC hfl hX hbl hz hL hn hR hP hS hl kk
  obtain ⟨hx, hb, hr, hml, hown, hW, hlocks, hAm⟩ := id C
  have hnn : n ≤ 511 := by omega
  obtain ⟨g, τ', hM, hA1, hA2, hA3⟩ := am_slipsOf l D cy z o d (xs (4 * n + 1)) hR (by omega)
  refine lv_aload_n hx hb dL_law_1579 rfl (lv_at hl 1 rfl) ?_
  refine l_arg (k := 1) C hX hbl hz hL (by omega) hS (lv_at hl 0 rfl) (lv_at hl 5 rfl) rfl dL_law_1580 dL_law_1581 dL_law_1583 dL_law_1584 dL_law_1585 ?_
  refine lv_aload_n hx hb dL_law_1586 rfl (lv_at hl 3 rfl) ?_
  refine run_H (As := [.ref (z + 0), .int (xs (4 * n + 1)), .ref (z + 101)]) (rest := []) C hNC (k_L_slipsOf l hfl D cy z o d σ τ (xs (4 * n + 1)) rfl (tg_slipsOf σ (xs (4 * n + 1)))) hP hS (mA3 (i := 213) rfl rfl) (mA3 (i := 214) rfl rfl) (mA1 (i := 0) rfl rfl) (mA3 (i := 215) rfl rfl) ⟨by decide +kernel, by decide +kernel, (show _ = some 3 by decide +kernel)⟩ ⟨(le10 rfl), (le10 rfl)⟩ rfl (le10 rfl) hl.1 (room_ok hnn _) dL_law_1587 (fun H locs hP hS => ?_)
  refine lv_istore (lv' := (6, .int (hk1 (x_X5_slipsOf σ 0 (xs (4 * n + 1))))) :: lvB b z (4 * n)) hx hb dL_law_1590 hl (by decide) rfl (fun ls hl => ?_)
  refine lv_aload_n hx hb dL_law_1592 rfl (lv_at hl 3 rfl) ?_
  refine l_arg (k := 1) C hX hbl hz hL (by omega) hS (lv_at hl 1 rfl) (lv_at hl 6 rfl) rfl dL_law_1593 dL_law_1594 dL_law_1596 dL_law_1597 dL_law_1598 ?_
  refine run_M (As := [.int (xs (4 * n + 1))]) (rest := []) C (hM _ _ _) hP hS cw_X6_slipsOf (mA5 (i := 19) rfl rfl) (by decide) rfl (le10 rfl) hl.1 (room_ok hnn _) dL_law_1599 (fun H locs hP hS => ?_)
  refine tail_A (i := 4 * n) C hP hS hl hA1 (fun k0 => hO_0 (hk1_0 k0) hA2) (room_ok hnn _) dL_law_1602 dL_law_1604 dL_law_1605 dL_law_1608 dL_law_1610 dL_law_1615 dL_law_1617 dL_law_1620 dL_law_1621 dL_law_1622 dL_law_1623 dL_law_1625 dL_law_1626 dL_law_1627 dL_law_1632 (by decide) (fun H locs ls hP hS hl => ?_)
  exact W.widen (k := 103 + (n + 1)) (n := 3604 + 6 * (n + 1)) (by have := tcc_le (x_X5_slipsOf σ 0 (xs (4 * n + 1))); omega) (by have := tcs_le (x_X5_slipsOf σ 0 (xs (4 * n + 1))); omega) (kk _ _ _ _ _ _ _ hA3 hP hS hl)
set_option maxHeartbeats 4000000 in
set_option maxRecDepth 100000 in
theorem cs_distanceOf : CS p l e s m b L xs below meth c D cy z n Q 1635 := by
  intro σ τ o d H locs ls C hNC hfl hX hbl hz hL hn hR hP hS hl kk
  obtain ⟨hx, hb, hr, hml, hown, hW, hlocks, hAm⟩ := id C
  have hnn : n ≤ 511 := by omega
  obtain ⟨g, τ', hM, hA1, hA2, hA3⟩ := am_distanceOf l D cy z o d (xs (4 * n + 1)) hR (by omega)
  refine lv_aload_n hx hb dL_law_1635 rfl (lv_at hl 1 rfl) ?_
  refine l_arg (k := 1) C hX hbl hz hL (by omega) hS (lv_at hl 0 rfl) (lv_at hl 5 rfl) rfl dL_law_1636 dL_law_1637 dL_law_1639 dL_law_1640 dL_law_1641 ?_
  refine lv_aload_n hx hb dL_law_1642 rfl (lv_at hl 3 rfl) ?_
  refine run_H (As := [.ref (z + 0), .int (xs (4 * n + 1)), .ref (z + 101)]) (rest := []) C hNC (k_L_distanceOf l hfl D cy z o d σ τ (xs (4 * n + 1)) rfl (tg_distanceOf σ (xs (4 * n + 1)))) hP hS (mA3 (i := 220) rfl rfl) (mA3 (i := 221) rfl rfl) (mA1 (i := 0) rfl rfl) (mA3 (i := 222) rfl rfl) ⟨by decide +kernel, by decide +kernel, (show _ = some 3 by decide +kernel)⟩ ⟨(le10 rfl), (le10 rfl)⟩ rfl (le10 rfl) hl.1 (room_ok hnn _) dL_law_1643 (fun H locs hP hS => ?_)
  refine lv_istore (lv' := (6, .int (hk1 (x_X5_distanceOf σ 0 (xs (4 * n + 1))))) :: lvB b z (4 * n)) hx hb dL_law_1646 hl (by decide) rfl (fun ls hl => ?_)
  refine lv_aload_n hx hb dL_law_1648 rfl (lv_at hl 3 rfl) ?_
  refine l_arg (k := 1) C hX hbl hz hL (by omega) hS (lv_at hl 1 rfl) (lv_at hl 6 rfl) rfl dL_law_1649 dL_law_1650 dL_law_1652 dL_law_1653 dL_law_1654 ?_
  refine run_M (As := [.int (xs (4 * n + 1))]) (rest := []) C (hM _ _ _) hP hS cw_X6_distanceOf (mA5 (i := 23) rfl rfl) (by decide) rfl (le10 rfl) hl.1 (room_ok hnn _) dL_law_1655 (fun H locs hP hS => ?_)
  refine tail_A (i := 4 * n) C hP hS hl hA1 (fun k0 => hO_0 (hk1_0 k0) hA2) (room_ok hnn _) dL_law_1658 dL_law_1660 dL_law_1661 dL_law_1664 dL_law_1666 dL_law_1671 dL_law_1673 dL_law_1676 dL_law_1677 dL_law_1678 dL_law_1679 dL_law_1681 dL_law_1682 dL_law_1683 dL_law_1688 (by decide) (fun H locs ls hP hS hl => ?_)
  exact W.widen (k := 103 + (n + 1)) (n := 3604 + 6 * (n + 1)) (by have := tcc_le (x_X5_distanceOf σ 0 (xs (4 * n + 1))); omega) (by have := tcs_le (x_X5_distanceOf σ 0 (xs (4 * n + 1))); omega) (kk _ _ _ _ _ _ _ hA3 hP hS hl)
set_option maxHeartbeats 4000000 in
set_option maxRecDepth 100000 in
theorem cs_ticksOf : CS p l e s m b L xs below meth c D cy z n Q 1691 := by
  intro σ τ o d H locs ls C hNC hfl hX hbl hz hL hn hR hP hS hl kk
  obtain ⟨hx, hb, hr, hml, hown, hW, hlocks, hAm⟩ := id C
  have hnn : n ≤ 511 := by omega
  obtain ⟨g, τ', hM, hA1, hA2, hA3⟩ := am_ticksOf l D cy z o d (xs (4 * n + 1)) hR (by omega)
  refine lv_aload_n hx hb dL_law_1691 rfl (lv_at hl 1 rfl) ?_
  refine l_arg (k := 1) C hX hbl hz hL (by omega) hS (lv_at hl 0 rfl) (lv_at hl 5 rfl) rfl dL_law_1692 dL_law_1693 dL_law_1695 dL_law_1696 dL_law_1697 ?_
  refine lv_aload_n hx hb dL_law_1698 rfl (lv_at hl 3 rfl) ?_
  refine run_H (As := [.ref (z + 0), .int (xs (4 * n + 1)), .ref (z + 101)]) (rest := []) C hNC (k_L_ticksOf l hfl D cy z o d σ τ (xs (4 * n + 1)) rfl (tg_ticksOf σ (xs (4 * n + 1)))) hP hS (mA3 (i := 227) rfl rfl) (mA3 (i := 228) rfl rfl) (mA1 (i := 0) rfl rfl) (mA3 (i := 229) rfl rfl) ⟨by decide +kernel, by decide +kernel, (show _ = some 3 by decide +kernel)⟩ ⟨(le10 rfl), (le10 rfl)⟩ rfl (le10 rfl) hl.1 (room_ok hnn _) dL_law_1699 (fun H locs hP hS => ?_)
  refine lv_istore (lv' := (6, .int (hk1 (x_X5_ticksOf σ 0 (xs (4 * n + 1))))) :: lvB b z (4 * n)) hx hb dL_law_1702 hl (by decide) rfl (fun ls hl => ?_)
  refine lv_aload_n hx hb dL_law_1704 rfl (lv_at hl 3 rfl) ?_
  refine l_arg (k := 1) C hX hbl hz hL (by omega) hS (lv_at hl 1 rfl) (lv_at hl 6 rfl) rfl dL_law_1705 dL_law_1706 dL_law_1708 dL_law_1709 dL_law_1710 ?_
  refine run_M (As := [.int (xs (4 * n + 1))]) (rest := []) C (hM _ _ _) hP hS cw_X6_ticksOf (mA5 (i := 27) rfl rfl) (by decide) rfl (le10 rfl) hl.1 (room_ok hnn _) dL_law_1711 (fun H locs hP hS => ?_)
  refine tail_A (i := 4 * n) C hP hS hl hA1 (fun k0 => hO_0 (hk1_0 k0) hA2) (room_ok hnn _) dL_law_1714 dL_law_1716 dL_law_1717 dL_law_1720 dL_law_1722 dL_law_1727 dL_law_1729 dL_law_1732 dL_law_1733 dL_law_1734 dL_law_1735 dL_law_1737 dL_law_1738 dL_law_1739 dL_law_1744 (by decide) (fun H locs ls hP hS hl => ?_)
  exact W.widen (k := 103 + (n + 1)) (n := 3604 + 6 * (n + 1)) (by have := tcc_le (x_X5_ticksOf σ 0 (xs (4 * n + 1))); omega) (by have := tcs_le (x_X5_ticksOf σ 0 (xs (4 * n + 1))); omega) (kk _ _ _ _ _ _ _ hA3 hP hS hl)
set_option maxHeartbeats 4000000 in
set_option maxRecDepth 100000 in
theorem cs_counts : CS p l e s m b L xs below meth c D cy z n Q 1747 := by
  intro σ τ o d H locs ls C hNC hfl hX hbl hz hL hn hR hP hS hl kk
  obtain ⟨hx, hb, hr, hml, hown, hW, hlocks, hAm⟩ := id C
  have hnn : n ≤ 511 := by omega
  have hop := (⟨hR.1.2.2.2.1, hR.up8.nx⟩ : f_X5_counts σ 0 = f_X6_counts τ ∧ RR (n + 1) σ (t_X6_counts τ))
  refine lv_aload_n hx hb dL_law_1747 rfl (lv_at hl 1 rfl) ?_
  refine thn_I (run_V (kr := 0) (As := []) (rest := []) C (k_X5_counts l D cy z o d σ τ (rfl : kd 0 = 5)) hP hS cw_X5_counts (mA2 (i := 3) rfl rfl) rfl ⟨rfl, rfl⟩ ⟨(le10 rfl), (le10 rfl)⟩ rfl (le10 rfl) hl.1 (room_ok0 hnn) dL_law_1748) hS (fun H locs hP hS => ?_)
  refine lv_aload_n hx hb dL_law_1751 rfl (lv_at hl 2 rfl) ?_
  refine thn_I (run_V (As := []) (rest := [.int (f_X5_counts σ 0)]) C (k_X6_counts l D cy z o d σ τ k95) hP hS cw_X6_counts (mA5 (i := 31) rfl rfl) rfl ⟨rfl, rfl⟩ ⟨(le10 rfl), (le10 rfl)⟩ rfl (le10 rfl) hl.1 (room_ok0 hnn) dL_law_1752) hS (fun H locs hP hS => ?_)
  refine lv_icmp_eq (tgt := 1786) hx hb dL_law_1755 (by decide) (fun _ => ?_) (fun ne => absurd hop.1 ne)
  exact W.widen (k := 103 + (n + 1)) (n := 3604 + 6 * (n + 1)) (by omega) (by omega) (kk _ _ _ _ _ _ _ hop.2 hP hS hl)
set_option maxHeartbeats 4000000 in
set_option maxRecDepth 100000 in
theorem cs_rule : CS p l e s m b L xs below meth c D cy z n Q 1760 := by
  intro σ τ o d H locs ls C hNC hfl hX hbl hz hL hn hR hP hS hl kk
  obtain ⟨hx, hb, hr, hml, hown, hW, hlocks, hAm⟩ := id C
  have hnn : n ≤ 511 := by omega
  have hop := (⟨hR.1.2.1, hR.up8.nx⟩ : f_X5_rule σ 0 = f_X6_rule τ ∧ RR (n + 1) σ (t_X6_rule τ))
  refine lv_aload_n hx hb dL_law_1760 rfl (lv_at hl 1 rfl) ?_
  refine thn_I (run_V (kr := 0) (As := []) (rest := []) C (k_X5_rule l D cy z o d σ τ (rfl : kd 0 = 5)) hP hS cw_X5_rule (mA2 (i := 7) rfl rfl) rfl ⟨rfl, rfl⟩ ⟨(le10 rfl), (le10 rfl)⟩ rfl (le10 rfl) hl.1 (room_ok0 hnn) dL_law_1761) hS (fun H locs hP hS => ?_)
  refine lv_aload_n hx hb dL_law_1764 rfl (lv_at hl 2 rfl) ?_
  refine thn_I (run_V (As := []) (rest := [.int (f_X5_rule σ 0)]) C (k_X6_rule l D cy z o d σ τ k95) hP hS cw_X6_rule (mA5 (i := 35) rfl rfl) rfl ⟨rfl, rfl⟩ ⟨(le10 rfl), (le10 rfl)⟩ rfl (le10 rfl) hl.1 (room_ok0 hnn) dL_law_1765) hS (fun H locs hP hS => ?_)
  refine lv_icmp_eq (tgt := 1786) hx hb dL_law_1768 (by decide) (fun _ => ?_) (fun ne => absurd hop.1 ne)
  exact W.widen (k := 103 + (n + 1)) (n := 3604 + 6 * (n + 1)) (by omega) (by omega) (kk _ _ _ _ _ _ _ hop.2 hP hS hl)
set_option maxHeartbeats 4000000 in
set_option maxRecDepth 100000 in
theorem cs_recordedStates : CS p l e s m b L xs below meth c D cy z n Q 1773 := by
  intro σ τ o d H locs ls C hNC hfl hX hbl hz hL hn hR hP hS hl kk
  obtain ⟨hx, hb, hr, hml, hown, hW, hlocks, hAm⟩ := id C
  have hnn : n ≤ 511 := by omega
  have hop := (op_recorded hR)
  refine lv_aload_n hx hb dL_law_1773 rfl (lv_at hl 1 rfl) ?_
  refine thn_I (run_V (kr := 0) (As := []) (rest := []) C (k_X5_recordedStates l D cy z o d σ τ (rfl : kd 0 = 5)) hP hS cw_X5_recordedStates (mA2 (i := 11) rfl rfl) rfl ⟨rfl, rfl⟩ ⟨(le10 rfl), (le10 rfl)⟩ rfl (le10 rfl) hl.1 (room_ok0 hnn) dL_law_1774) hS (fun H locs hP hS => ?_)
  refine lv_aload_n hx hb dL_law_1777 rfl (lv_at hl 2 rfl) ?_
  refine thn_I (run_V (As := []) (rest := [.int (f_X5_recordedStates σ 0)]) C (k_X6_recordedStates l D cy z o d σ τ k95) hP hS cw_X6_recordedStates (mA5 (i := 39) rfl rfl) rfl ⟨rfl, rfl⟩ ⟨(le10 rfl), (le10 rfl)⟩ rfl (le10 rfl) hl.1 (room_ok0 hnn) dL_law_1778) hS (fun H locs hP hS => ?_)
  refine lv_icmp_eq (tgt := 1786) hx hb dL_law_1781 (by decide) (fun _ => ?_) (fun ne => absurd hop.1 ne)
  exact W.widen (k := 103 + (n + 1)) (n := 3604 + 6 * (n + 1)) (by omega) (by omega) (kk _ _ _ _ _ _ _ hop.2 hP hS hl)
end Law
