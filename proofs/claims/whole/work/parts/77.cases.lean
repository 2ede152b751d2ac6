theorem law_clock {g : Cx} {p : Program} {e : Env} {s : State} {m : MethodId} {below : List Frame} {meth : Method} {c : Code} {b L : Nat} {xs : Nat → Int32} {rk rn : Nat} {w : Wd} {i : Nat} (hX : LX g p s m meth c b L xs) (hL : L ≤ 3072) (hi : i + 6 ≤ L) (hm : 3 ≤ rk ∧ 200 ≤ rn) (h : Rel w) (KI : ∀ w', Rel w' → LR g p e s m below meth c b (rk - 3) (rn - 200) 1456 (lvL g b i) [] w') : LR g p e s m below meth c b rk rn 224 (lvL g b i) [] w := by
  obtain ⟨r1, r2, r3, ⟨hG, h99, hN⟩, r5, r6, r7, r8, r9⟩ := id h
  refine jl_x hX dL_law_224 ?_
  refine jl_arg (k := 1) hX hL hi (by decide) rfl dL_law_225 dL_law_226 dL_law_227 dL_law_228 dL_law_229 ?_
  refine jl_arg (k := 2) hX hL hi (by decide) rfl dL_law_230 dL_law_231 dL_law_232 dL_law_233 dL_law_234 ?_
  refine jl_arg (k := 3) hX hL hi (by decide) rfl dL_law_235 dL_law_236 dL_law_237 dL_law_238 dL_law_239 ?_
  refine jl_call (st := []) hX (p_clock g w r1 (wI w 79) hG hN (xs (i + 1)) (xs (i + 2)) (xs (i + 3))) lkL_13 (r1.k rfl) rfl rfl (by decide) (Nat.le_of_ble_eq_true rfl) ⟨Nat.zero_le _, Nat.zero_le _⟩ dL_law_240 (fun x w1 hx => ?_)
  obtain ⟨ex, h1⟩ := hx
  have hw1 : Wf w1 := h1.2.wf r1
  have hs1 : wI w1 79 = wI w 79 := h1.2.row (by unfold scX scK; omega)
  refine jl_m hX dL_law_243 ?_
  refine jl_arg (k := 1) hX hL hi (by decide) rfl dL_law_244 dL_law_245 dL_law_246 dL_law_247 dL_law_248 ?_
  refine jl_arg (k := 2) hX hL hi (by decide) rfl dL_law_249 dL_law_250 dL_law_251 dL_law_252 dL_law_253 ?_
  refine jl_arg (k := 3) hX hL hi (by decide) rfl dL_law_254 dL_law_255 dL_law_256 dL_law_257 dL_law_258 ?_
  refine jl_call (st := [.int x]) hX (m_clock g w1 hw1 (wI w 79) hs1 hG (xs (i + 1)) (xs (i + 2)) (xs (i + 3))) lkL_17 (hw1.k rfl) rfl rfl (by decide) (Nat.le_of_ble_eq_true rfl) ⟨Nat.zero_le _, Nat.zero_le _⟩ dL_law_259 (fun y w2 hy => ?_)
  obtain ⟨ey, h2⟩ := hy
  have hq := GG_clock ⟨hG, h99⟩ (xs (i + 1)) (xs (i + 2)) (xs (i + 3))
  exact jl_same 1456 hX dL_law_262 (by decide) (ex.trans ey.symm) (jl_mono (by omega) (by omega) (KI _ (h.cnms h1 h2 hq.1 hq.2)))
theorem law_told {g : Cx} {p : Program} {e : Env} {s : State} {m : MethodId} {below : List Frame} {meth : Method} {c : Code} {b L : Nat} {xs : Nat → Int32} {rk rn : Nat} {w : Wd} {i : Nat} (hX : LX g p s m meth c b L xs) (hL : L ≤ 3072) (hi : i + 6 ≤ L) (hm : 3 ≤ rk ∧ 200 ≤ rn) (h : Rel w) (KI : ∀ w', Rel w' → LR g p e s m below meth c b (rk - 3) (rn - 200) 1456 (lvL g b i) [] w') : LR g p e s m below meth c b rk rn 267 (lvL g b i) [] w := by
  obtain ⟨r1, r2, r3, ⟨hG, h99, hN⟩, r5, r6, r7, r8, r9⟩ := id h
  refine jl_x hX dL_law_267 ?_
  refine jl_arg (k := 1) hX hL hi (by decide) rfl dL_law_268 dL_law_269 dL_law_270 dL_law_271 dL_law_272 ?_
  refine jl_arg (k := 2) hX hL hi (by decide) rfl dL_law_273 dL_law_274 dL_law_275 dL_law_276 dL_law_277 ?_
  refine jl_call (st := []) hX (p_told g w r1 (wI w 79) hG hN (xs (i + 1)) (xs (i + 2))) lkL_18 (r1.k rfl) rfl rfl (by decide) (Nat.le_of_ble_eq_true rfl) ⟨Nat.zero_le _, Nat.zero_le _⟩ dL_law_278 (fun x w1 hx => ?_)
  obtain ⟨ex, h1⟩ := hx
  have hw1 : Wf w1 := h1.2.wf r1
  have hs1 : wI w1 79 = wI w 79 := h1.2.row (by unfold scX scK; omega)
  refine jl_m hX dL_law_281 ?_
  refine jl_arg (k := 1) hX hL hi (by decide) rfl dL_law_282 dL_law_283 dL_law_284 dL_law_285 dL_law_286 ?_
  refine jl_arg (k := 2) hX hL hi (by decide) rfl dL_law_287 dL_law_288 dL_law_289 dL_law_290 dL_law_291 ?_
  refine jl_call (st := [.int x]) hX (m_told g w1 hw1 (wI w 79) hs1 hG (xs (i + 1)) (xs (i + 2))) lkL_22 (hw1.k rfl) rfl rfl (by decide) (Nat.le_of_ble_eq_true rfl) ⟨Nat.zero_le _, Nat.zero_le _⟩ dL_law_292 (fun y w2 hy => ?_)
  obtain ⟨ey, h2⟩ := hy
  exact jl_same 1456 hX dL_law_295 (by decide) (ex.trans ey.symm) (jl_mono (by omega) (by omega) (KI _ (h.cnms h1 h2 hG h99)))
theorem law_as {g : Cx} {p : Program} {e : Env} {s : State} {m : MethodId} {below : List Frame} {meth : Method} {c : Code} {b L : Nat} {xs : Nat → Int32} {rk rn : Nat} {w : Wd} {i : Nat} (hX : LX g p s m meth c b L xs) (hL : L ≤ 3072) (hi : i + 6 ≤ L) (hm : 3 ≤ rk ∧ 200 ≤ rn) (h : Rel w) (KI : ∀ w', Rel w' → LR g p e s m below meth c b (rk - 3) (rn - 200) 1456 (lvL g b i) [] w') : LR g p e s m below meth c b rk rn 300 (lvL g b i) [] w := by
  obtain ⟨r1, r2, r3, ⟨hG, h99, hN⟩, r5, r6, r7, r8, r9⟩ := id h
  refine jl_x hX dL_law_300 ?_
  refine jl_arg (k := 1) hX hL hi (by decide) rfl dL_law_301 dL_law_302 dL_law_303 dL_law_304 dL_law_305 ?_
  refine jl_arg (k := 2) hX hL hi (by decide) rfl dL_law_306 dL_law_307 dL_law_308 dL_law_309 dL_law_310 ?_
  refine jl_call (st := []) hX (p_as g w r1 (wI w 79) hG hN (xs (i + 1)) (xs (i + 2))) lkL_23 (r1.k rfl) rfl rfl (by decide) (Nat.le_of_ble_eq_true rfl) ⟨Nat.zero_le _, Nat.zero_le _⟩ dL_law_311 (fun x w1 hx => ?_)
  obtain ⟨ex, h1⟩ := hx
  have hw1 : Wf w1 := h1.2.wf r1
  have hs1 : wI w1 79 = wI w 79 := h1.2.row (by unfold scX scK; omega)
  refine jl_m hX dL_law_314 ?_
  refine jl_arg (k := 1) hX hL hi (by decide) rfl dL_law_315 dL_law_316 dL_law_317 dL_law_318 dL_law_319 ?_
  refine jl_arg (k := 2) hX hL hi (by decide) rfl dL_law_320 dL_law_321 dL_law_322 dL_law_323 dL_law_324 ?_
  refine jl_call (st := [.int x]) hX (m_as g w1 hw1 (wI w 79) hs1 hG (xs (i + 1)) (xs (i + 2))) lkL_26 (hw1.k rfl) rfl rfl (by decide) (Nat.le_of_ble_eq_true rfl) ⟨Nat.zero_le _, Nat.zero_le _⟩ dL_law_325 (fun y w2 hy => ?_)
  obtain ⟨ey, h2⟩ := hy
  exact jl_same 1456 hX dL_law_328 (by decide) (ex.trans ey.symm) (jl_mono (by omega) (by omega) (KI _ (h.cnms h1 h2 hG h99)))
theorem law_turns {g : Cx} {p : Program} {e : Env} {s : State} {m : MethodId} {below : List Frame} {meth : Method} {c : Code} {b L : Nat} {xs : Nat → Int32} {rk rn : Nat} {w : Wd} {i : Nat} (hX : LX g p s m meth c b L xs) (hL : L ≤ 3072) (hi : i + 6 ≤ L) (hm : 3 ≤ rk ∧ 200 ≤ rn) (h : Rel w) (KI : ∀ w', Rel w' → LR g p e s m below meth c b (rk - 3) (rn - 200) 1456 (lvL g b i) [] w') : LR g p e s m below meth c b rk rn 333 (lvL g b i) [] w := by
  obtain ⟨r1, r2, r3, ⟨hG, h99, hN⟩, r5, r6, r7, r8, r9⟩ := id h
  refine jl_x hX dL_law_333 ?_
  refine jl_arg (k := 1) hX hL hi (by decide) rfl dL_law_334 dL_law_335 dL_law_336 dL_law_337 dL_law_338 ?_
  refine jl_arg (k := 2) hX hL hi (by decide) rfl dL_law_339 dL_law_340 dL_law_341 dL_law_342 dL_law_343 ?_
  refine jl_call (st := []) hX (p_turns g w r1 (wI w 79) hG hN (xs (i + 1)) (xs (i + 2))) lkL_27 (r1.k rfl) rfl rfl (by decide) (Nat.le_of_ble_eq_true rfl) ⟨Nat.zero_le _, Nat.zero_le _⟩ dL_law_344 (fun x w1 hx => ?_)
  obtain ⟨ex, h1⟩ := hx
  have hw1 : Wf w1 := h1.2.wf r1
  have hs1 : wI w1 79 = wI w 79 := h1.2.row (by unfold scX scK; omega)
  refine jl_m hX dL_law_347 ?_
  refine jl_arg (k := 1) hX hL hi (by decide) rfl dL_law_348 dL_law_349 dL_law_350 dL_law_351 dL_law_352 ?_
  refine jl_arg (k := 2) hX hL hi (by decide) rfl dL_law_353 dL_law_354 dL_law_355 dL_law_356 dL_law_357 ?_
  refine jl_call (st := [.int x]) hX (m_turns g w1 hw1 (wI w 79) hs1 hG (xs (i + 1)) (xs (i + 2))) lkL_30 (hw1.k rfl) rfl rfl (by decide) (Nat.le_of_ble_eq_true rfl) ⟨Nat.zero_le _, Nat.zero_le _⟩ dL_law_358 (fun y w2 hy => ?_)
  obtain ⟨ey, h2⟩ := hy
  have hq := GG_turns ⟨hG, h99⟩ (xs (i + 1)) (xs (i + 2))
  exact jl_same 1456 hX dL_law_361 (by decide) (ex.trans ey.symm) (jl_mono (by omega) (by omega) (KI _ (h.cnms h1 h2 hq.1 hq.2)))
theorem law_set {g : Cx} {p : Program} {e : Env} {s : State} {m : MethodId} {below : List Frame} {meth : Method} {c : Code} {b L : Nat} {xs : Nat → Int32} {rk rn : Nat} {w : Wd} {i : Nat} (hX : LX g p s m meth c b L xs) (hL : L ≤ 3072) (hi : i + 6 ≤ L) (hm : 3 ≤ rk ∧ 200 ≤ rn) (h : Rel w) (KI : ∀ w', Rel w' → LR g p e s m below meth c b (rk - 3) (rn - 200) 1456 (lvL g b i) [] w') : LR g p e s m below meth c b rk rn 366 (lvL g b i) [] w := by
  obtain ⟨r1, r2, r3, ⟨hG, h99, hN⟩, r5, r6, r7, r8, r9⟩ := id h
  refine jl_x hX dL_law_366 ?_
  refine jl_arg (k := 1) hX hL hi (by decide) rfl dL_law_367 dL_law_368 dL_law_369 dL_law_370 dL_law_371 ?_
  refine jl_arg (k := 2) hX hL hi (by decide) rfl dL_law_372 dL_law_373 dL_law_374 dL_law_375 dL_law_376 ?_
  refine jl_arg (k := 3) hX hL hi (by decide) rfl dL_law_377 dL_law_378 dL_law_379 dL_law_380 dL_law_381 ?_
  refine jl_call (st := []) hX (p_set g w r1 (wI w 79) hG hN (xs (i + 1)) (xs (i + 2)) (xs (i + 3))) lkL_31 (r1.k rfl) rfl rfl (by decide) (Nat.le_of_ble_eq_true rfl) ⟨Nat.zero_le _, Nat.zero_le _⟩ dL_law_382 (fun x w1 hx => ?_)
  obtain ⟨ex, h1⟩ := hx
  have hw1 : Wf w1 := h1.2.wf r1
  have hs1 : wI w1 79 = wI w 79 := h1.2.row (by unfold scX scK; omega)
  refine jl_m hX dL_law_385 ?_
  refine jl_arg (k := 1) hX hL hi (by decide) rfl dL_law_386 dL_law_387 dL_law_388 dL_law_389 dL_law_390 ?_
  refine jl_arg (k := 2) hX hL hi (by decide) rfl dL_law_391 dL_law_392 dL_law_393 dL_law_394 dL_law_395 ?_
  refine jl_arg (k := 3) hX hL hi (by decide) rfl dL_law_396 dL_law_397 dL_law_398 dL_law_399 dL_law_400 ?_
  refine jl_call (st := [.int x]) hX (m_set g w1 hw1 (wI w 79) hs1 hG (xs (i + 1)) (xs (i + 2)) (xs (i + 3))) lkL_34 (hw1.k rfl) rfl rfl (by decide) (Nat.le_of_ble_eq_true rfl) ⟨Nat.zero_le _, Nat.zero_le _⟩ dL_law_401 (fun y w2 hy => ?_)
  obtain ⟨ey, h2⟩ := hy
  have hq := GG_set ⟨hG, h99⟩ (xs (i + 1)) (xs (i + 2)) (xs (i + 3))
  exact jl_same 1456 hX dL_law_404 (by decide) (ex.trans ey.symm) (jl_mono (by omega) (by omega) (KI _ (h.cnms h1 h2 hq.1 hq.2)))
theorem law_strokes {g : Cx} {p : Program} {e : Env} {s : State} {m : MethodId} {below : List Frame} {meth : Method} {c : Code} {b L : Nat} {xs : Nat → Int32} {rk rn : Nat} {w : Wd} {i : Nat} (hX : LX g p s m meth c b L xs) (hL : L ≤ 3072) (hi : i + 6 ≤ L) (hm : 3 ≤ rk ∧ 200 ≤ rn) (h : Rel w) (KI : ∀ w', Rel w' → LR g p e s m below meth c b (rk - 3) (rn - 200) 1456 (lvL g b i) [] w') : LR g p e s m below meth c b rk rn 409 (lvL g b i) [] w := by
  obtain ⟨r1, r2, r3, ⟨hG, h99, hN⟩, r5, r6, r7, r8, r9⟩ := id h
  refine jl_x hX dL_law_409 ?_
  refine jl_arg (k := 1) hX hL hi (by decide) rfl dL_law_410 dL_law_411 dL_law_412 dL_law_413 dL_law_414 ?_
  refine jl_arg (k := 2) hX hL hi (by decide) rfl dL_law_415 dL_law_416 dL_law_417 dL_law_418 dL_law_419 ?_
  refine jl_call (st := []) hX (p_strokes g w r1 (wI w 79) hG hN (xs (i + 1)) (xs (i + 2))) lkL_35 (r1.k rfl) rfl rfl (by decide) (Nat.le_of_ble_eq_true rfl) ⟨Nat.zero_le _, Nat.zero_le _⟩ dL_law_420 (fun x w1 hx => ?_)
  obtain ⟨ex, h1⟩ := hx
  have hw1 : Wf w1 := h1.2.wf r1
  have hs1 : wI w1 79 = wI w 79 := h1.2.row (by unfold scX scK; omega)
  refine jl_m hX dL_law_423 ?_
  refine jl_arg (k := 1) hX hL hi (by decide) rfl dL_law_424 dL_law_425 dL_law_426 dL_law_427 dL_law_428 ?_
  refine jl_arg (k := 2) hX hL hi (by decide) rfl dL_law_429 dL_law_430 dL_law_431 dL_law_432 dL_law_433 ?_
  refine jl_call (st := [.int x]) hX (m_strokes g w1 hw1 (wI w 79) hs1 hG (xs (i + 1)) (xs (i + 2))) lkL_38 (hw1.k rfl) rfl rfl (by decide) (Nat.le_of_ble_eq_true rfl) ⟨Nat.zero_le _, Nat.zero_le _⟩ dL_law_434 (fun y w2 hy => ?_)
  obtain ⟨ey, h2⟩ := hy
  exact jl_same 1456 hX dL_law_437 (by decide) (ex.trans ey.symm) (jl_mono (by omega) (by omega) (KI _ (h.cnms h1 h2 hG h99)))
theorem law_total {g : Cx} {p : Program} {e : Env} {s : State} {m : MethodId} {below : List Frame} {meth : Method} {c : Code} {b L : Nat} {xs : Nat → Int32} {rk rn : Nat} {w : Wd} {i : Nat} (hX : LX g p s m meth c b L xs) (hL : L ≤ 3072) (hi : i + 6 ≤ L) (hm : 3 ≤ rk ∧ 200 ≤ rn) (h : Rel w) (KI : ∀ w', Rel w' → LR g p e s m below meth c b (rk - 3) (rn - 200) 1456 (lvL g b i) [] w') : LR g p e s m below meth c b rk rn 442 (lvL g b i) [] w := by
  obtain ⟨r1, r2, r3, ⟨hG, h99, hN⟩, r5, r6, r7, r8, r9⟩ := id h
  refine jl_x hX dL_law_442 ?_
  refine jl_arg (k := 1) hX hL hi (by decide) rfl dL_law_443 dL_law_444 dL_law_445 dL_law_446 dL_law_447 ?_
  refine jl_call (st := []) hX (p_total g w r1 (wI w 79) hG hN (xs (i + 1))) lkL_39 (r1.k rfl) rfl rfl (by decide) (Nat.le_of_ble_eq_true rfl) ⟨Nat.zero_le _, Nat.zero_le _⟩ dL_law_448 (fun x w1 hx => ?_)
  obtain ⟨ex, h1⟩ := hx
  have hw1 : Wf w1 := h1.2.wf r1
  have hs1 : wI w1 79 = wI w 79 := h1.2.row (by unfold scX scK; omega)
  refine jl_m hX dL_law_451 ?_
  refine jl_arg (k := 1) hX hL hi (by decide) rfl dL_law_452 dL_law_453 dL_law_454 dL_law_455 dL_law_456 ?_
  refine jl_call (st := [.int x]) hX (m_total g w1 hw1 (wI w 79) hs1 hG (xs (i + 1))) lkL_43 (hw1.k rfl) rfl rfl (by decide) (Nat.le_of_ble_eq_true rfl) ⟨Nat.zero_le _, Nat.zero_le _⟩ dL_law_457 (fun y w2 hy => ?_)
  obtain ⟨ey, h2⟩ := hy
  exact jl_same 1456 hX dL_law_460 (by decide) (ex.trans ey.symm) (jl_mono (by omega) (by omega) (KI _ (h.cnms h1 h2 hG h99)))
theorem law_ear {g : Cx} {p : Program} {e : Env} {s : State} {m : MethodId} {below : List Frame} {meth : Method} {c : Code} {b L : Nat} {xs : Nat → Int32} {rk rn : Nat} {w : Wd} {i : Nat} (hX : LX g p s m meth c b L xs) (hL : L ≤ 3072) (hi : i + 6 ≤ L) (hm : 3 ≤ rk ∧ 200 ≤ rn) (h : Rel w) (KI : ∀ w', Rel w' → LR g p e s m below meth c b (rk - 3) (rn - 200) 1456 (lvL g b i) [] w') : LR g p e s m below meth c b rk rn 465 (lvL g b i) [] w := by
  obtain ⟨r1, r2, r3, ⟨hG, h99, hN⟩, r5, r6, r7, r8, r9⟩ := id h
  refine jl_x hX dL_law_465 ?_
  refine jl_arg (k := 1) hX hL hi (by decide) rfl dL_law_466 dL_law_467 dL_law_468 dL_law_469 dL_law_470 ?_
  refine jl_arg (k := 2) hX hL hi (by decide) rfl dL_law_471 dL_law_472 dL_law_473 dL_law_474 dL_law_475 ?_
  refine jl_call (st := []) hX (p_ear g w r1 (wI w 79) hG hN (xs (i + 1)) (xs (i + 2))) lkL_44 (r1.k rfl) rfl rfl (by decide) (Nat.le_of_ble_eq_true rfl) ⟨Nat.zero_le _, Nat.zero_le _⟩ dL_law_476 (fun x w1 hx => ?_)
  obtain ⟨ex, h1⟩ := hx
  have hw1 : Wf w1 := h1.2.wf r1
  have hs1 : wI w1 79 = wI w 79 := h1.2.row (by unfold scX scK; omega)
  refine jl_m hX dL_law_479 ?_
  refine jl_arg (k := 1) hX hL hi (by decide) rfl dL_law_480 dL_law_481 dL_law_482 dL_law_483 dL_law_484 ?_
  refine jl_arg (k := 2) hX hL hi (by decide) rfl dL_law_485 dL_law_486 dL_law_487 dL_law_488 dL_law_489 ?_
  refine jl_call (st := [.int x]) hX (m_ear g w1 hw1 (wI w 79) hs1 (xs (i + 1)) (xs (i + 2))) lkL_47 (hw1.k rfl) rfl rfl (by decide) (Nat.le_of_ble_eq_true rfl) ⟨Nat.zero_le _, Nat.zero_le _⟩ dL_law_490 (fun y w2 hy => ?_)
  obtain ⟨ey, h2⟩ := hy
  have hq := GG_ear ⟨hG, h99⟩ (xs (i + 1)) (xs (i + 2))
  exact jl_same 1456 hX dL_law_493 (by decide) (ex.trans ey.symm) (jl_mono (by omega) (by omega) (KI _ (h.cnms h1 h2 hq.1 hq.2)))
theorem law_deal {g : Cx} {p : Program} {e : Env} {s : State} {m : MethodId} {below : List Frame} {meth : Method} {c : Code} {b L : Nat} {xs : Nat → Int32} {rk rn : Nat} {w : Wd} {i : Nat} (hX : LX g p s m meth c b L xs) (hL : L ≤ 3072) (hi : i + 6 ≤ L) (hm : 3 ≤ rk ∧ 200 ≤ rn) (h : Rel w) (KI : ∀ w', Rel w' → LR g p e s m below meth c b (rk - 3) (rn - 200) 1456 (lvL g b i) [] w') : LR g p e s m below meth c b rk rn 498 (lvL g b i) [] w := by
  obtain ⟨r1, r2, r3, ⟨hG, h99, hN⟩, r5, r6, r7, r8, r9⟩ := id h
  refine jl_x hX dL_law_498 ?_
  refine jl_arg (k := 1) hX hL hi (by decide) rfl dL_law_499 dL_law_500 dL_law_501 dL_law_502 dL_law_503 ?_
  refine jl_call (st := []) hX (p_deal g w r1 (wI w 79) hG hN (xs (i + 1))) lkL_48 (r1.k rfl) rfl rfl (by decide) (Nat.le_of_ble_eq_true rfl) ⟨Nat.zero_le _, Nat.zero_le _⟩ dL_law_504 (fun x w1 hx => ?_)
  obtain ⟨ex, h1⟩ := hx
  have hw1 : Wf w1 := h1.2.wf r1
  have hs1 : wI w1 79 = wI w 79 := h1.2.row (by unfold scX scK; omega)
  refine jl_m hX dL_law_507 ?_
  refine jl_arg (k := 1) hX hL hi (by decide) rfl dL_law_508 dL_law_509 dL_law_510 dL_law_511 dL_law_512 ?_
  refine jl_call (st := [.int x]) hX (m_deal g w1 hw1 (wI w 79) hs1 hG (xs (i + 1))) lkL_51 (hw1.k rfl) rfl rfl (by decide) (Nat.le_of_ble_eq_true rfl) ⟨Nat.zero_le _, Nat.zero_le _⟩ dL_law_513 (fun y w2 hy => ?_)
  obtain ⟨ey, h2⟩ := hy
  have hq := GG_deal ⟨hG, h99⟩ (xs (i + 1))
  exact jl_same 1456 hX dL_law_516 (by decide) (ex.trans ey.symm) (jl_mono (by omega) (by omega) (KI _ (h.cnms h1 h2 hq.1 hq.2)))
theorem law_seed {g : Cx} {p : Program} {e : Env} {s : State} {m : MethodId} {below : List Frame} {meth : Method} {c : Code} {b L : Nat} {xs : Nat → Int32} {rk rn : Nat} {w : Wd} {i : Nat} (hX : LX g p s m meth c b L xs) (hL : L ≤ 3072) (hi : i + 6 ≤ L) (hm : 3 ≤ rk ∧ 200 ≤ rn) (h : Rel w) (KI : ∀ w', Rel w' → LR g p e s m below meth c b (rk - 3) (rn - 200) 1456 (lvL g b i) [] w') : LR g p e s m below meth c b rk rn 521 (lvL g b i) [] w := by
  obtain ⟨r1, r2, r3, ⟨hG, h99, hN⟩, r5, r6, r7, r8, r9⟩ := id h
  refine jl_x hX dL_law_521 ?_
  refine jl_arg (k := 1) hX hL hi (by decide) rfl dL_law_522 dL_law_523 dL_law_524 dL_law_525 dL_law_526 ?_
  refine jl_call (st := []) hX (p_seed g w r1 (wI w 79) hG hN (xs (i + 1))) lkL_52 (r1.k rfl) rfl rfl (by decide) (Nat.le_of_ble_eq_true rfl) ⟨Nat.zero_le _, Nat.zero_le _⟩ dL_law_527 (fun x w1 hx => ?_)
  obtain ⟨ex, h1⟩ := hx
  have hw1 : Wf w1 := h1.2.wf r1
  have hs1 : wI w1 79 = wI w 79 := h1.2.row (by unfold scX scK; omega)
  refine jl_m hX dL_law_530 ?_
  refine jl_arg (k := 1) hX hL hi (by decide) rfl dL_law_531 dL_law_532 dL_law_533 dL_law_534 dL_law_535 ?_
  refine jl_call (st := [.int x]) hX (m_seed g w1 hw1 (wI w 79) hs1 (xs (i + 1))) lkL_55 (hw1.k rfl) rfl rfl (by decide) (Nat.le_of_ble_eq_true rfl) ⟨Nat.zero_le _, Nat.zero_le _⟩ dL_law_536 (fun y w2 hy => ?_)
  obtain ⟨ey, h2⟩ := hy
  have hq := GG_9 ⟨hG, h99⟩ (xs (i + 1))
  exact jl_same 1456 hX dL_law_539 (by decide) (ex.trans ey.symm) (jl_mono (by omega) (by omega) (KI _ (h.cnms h1 h2 hq.1 hq.2)))
theorem law_minutes {g : Cx} {p : Program} {e : Env} {s : State} {m : MethodId} {below : List Frame} {meth : Method} {c : Code} {b L : Nat} {xs : Nat → Int32} {rk rn : Nat} {w : Wd} {i : Nat} (hX : LX g p s m meth c b L xs) (hL : L ≤ 3072) (hi : i + 6 ≤ L) (hm : 3 ≤ rk ∧ 200 ≤ rn) (h : Rel w) (KI : ∀ w', Rel w' → LR g p e s m below meth c b (rk - 3) (rn - 200) 1456 (lvL g b i) [] w') : LR g p e s m below meth c b rk rn 544 (lvL g b i) [] w := by
  obtain ⟨r1, r2, r3, ⟨hG, h99, hN⟩, r5, r6, r7, r8, r9⟩ := id h
  refine jl_x hX dL_law_544 ?_
  refine jl_arg (k := 1) hX hL hi (by decide) rfl dL_law_545 dL_law_546 dL_law_547 dL_law_548 dL_law_549 ?_
  refine jl_call (st := []) hX (p_minutes g w r1 (wI w 79) hG h99 hN (xs (i + 1))) lkL_56 (r1.k rfl) rfl rfl (by decide) (Nat.le_of_ble_eq_true rfl) ⟨Nat.zero_le _, Nat.zero_le _⟩ dL_law_550 (fun x w1 hx => ?_)
  obtain ⟨ex, h1⟩ := hx
  have hw1 : Wf w1 := h1.2.wf r1
  have hs1 : wI w1 79 = wI w 79 := h1.2.row (by unfold scX scK; omega)
  refine jl_m hX dL_law_553 ?_
  refine jl_arg (k := 1) hX hL hi (by decide) rfl dL_law_554 dL_law_555 dL_law_556 dL_law_557 dL_law_558 ?_
  refine jl_call (st := [.int x]) hX (m_minutes g w1 hw1 (wI w 79) hs1 hG h99 (xs (i + 1))) lkL_59 (hw1.k rfl) rfl rfl (by decide) (Nat.le_of_ble_eq_true rfl) ⟨Nat.zero_le _, Nat.zero_le _⟩ dL_law_559 (fun y w2 hy => ?_)
  obtain ⟨ey, h2⟩ := hy
  have hq := GG_minutes ⟨hG, h99⟩ (xs (i + 1))
  exact jl_same 1456 hX dL_law_562 (by decide) (ex.trans ey.symm) (jl_mono (by omega) (by omega) (KI _ (h.cnms h1 h2 hq.1 hq.2)))
theorem law_bed {g : Cx} {p : Program} {e : Env} {s : State} {m : MethodId} {below : List Frame} {meth : Method} {c : Code} {b L : Nat} {xs : Nat → Int32} {rk rn : Nat} {w : Wd} {i : Nat} (hX : LX g p s m meth c b L xs) (hL : L ≤ 3072) (hi : i + 6 ≤ L) (hm : 3 ≤ rk ∧ 200 ≤ rn) (h : Rel w) (KI : ∀ w', Rel w' → LR g p e s m below meth c b (rk - 3) (rn - 200) 1456 (lvL g b i) [] w') : LR g p e s m below meth c b rk rn 567 (lvL g b i) [] w := by
  obtain ⟨r1, r2, r3, ⟨hG, h99, hN⟩, r5, r6, r7, r8, r9⟩ := id h
  refine jl_x hX dL_law_567 ?_
  refine jl_arg (k := 1) hX hL hi (by decide) rfl dL_law_568 dL_law_569 dL_law_570 dL_law_571 dL_law_572 ?_
  refine jl_call (st := []) hX (p_bed g w r1 (wI w 79) hN (xs (i + 1))) lkL_60 (r1.k rfl) rfl rfl (by decide) (Nat.le_of_ble_eq_true rfl) ⟨Nat.zero_le _, Nat.zero_le _⟩ dL_law_573 (fun x w1 hx => ?_)
  obtain ⟨ex, h1⟩ := hx
  have hw1 : Wf w1 := h1.2.wf r1
  have hs1 : wI w1 79 = wI w 79 := h1.2.row (by unfold scX scK; omega)
  refine jl_m hX dL_law_576 ?_
  refine jl_arg (k := 1) hX hL hi (by decide) rfl dL_law_577 dL_law_578 dL_law_579 dL_law_580 dL_law_581 ?_
  refine jl_call (st := [.int x]) hX (m_bed g w1 hw1 (wI w 79) hs1 (xs (i + 1))) lkL_63 (hw1.k rfl) rfl rfl (by decide) (Nat.le_of_ble_eq_true rfl) ⟨Nat.zero_le _, Nat.zero_le _⟩ dL_law_582 (fun y w2 hy => ?_)
  obtain ⟨ey, h2⟩ := hy
  exact jl_same 1456 hX dL_law_585 (by decide) (ex.trans ey.symm) (jl_mono (by omega) (by omega) (KI _ (h.cnms h1 h2 hG h99)))
theorem law_note {g : Cx} {p : Program} {e : Env} {s : State} {m : MethodId} {below : List Frame} {meth : Method} {c : Code} {b L : Nat} {xs : Nat → Int32} {rk rn : Nat} {w : Wd} {i : Nat} (hX : LX g p s m meth c b L xs) (hL : L ≤ 3072) (hi : i + 6 ≤ L) (hm : 3 ≤ rk ∧ 200 ≤ rn) (h : Rel w) (KI : ∀ w', Rel w' → LR g p e s m below meth c b (rk - 3) (rn - 200) 1456 (lvL g b i) [] w') : LR g p e s m below meth c b rk rn 590 (lvL g b i) [] w := by
  obtain ⟨r1, r2, r3, ⟨hG, h99, hN⟩, r5, r6, r7, r8, r9⟩ := id h
  refine jl_x hX dL_law_590 ?_
  refine jl_arg (k := 1) hX hL hi (by decide) rfl dL_law_591 dL_law_592 dL_law_593 dL_law_594 dL_law_595 ?_
  refine jl_call (st := []) hX (p_note g w r1 (wI w 79) hN (xs (i + 1))) lkL_64 (r1.k rfl) rfl rfl (by decide) (Nat.le_of_ble_eq_true rfl) ⟨Nat.zero_le _, Nat.zero_le _⟩ dL_law_596 (fun x w1 hx => ?_)
  obtain ⟨ex, h1⟩ := hx
  have hw1 : Wf w1 := h1.2.wf r1
  have hs1 : wI w1 79 = wI w 79 := h1.2.row (by unfold scX scK; omega)
  refine jl_m hX dL_law_599 ?_
  refine jl_arg (k := 1) hX hL hi (by decide) rfl dL_law_600 dL_law_601 dL_law_602 dL_law_603 dL_law_604 ?_
  refine jl_call (st := [.int x]) hX (m_note g w1 hw1 (wI w 79) hs1 (xs (i + 1))) lkL_67 (hw1.k rfl) rfl rfl (by decide) (Nat.le_of_ble_eq_true rfl) ⟨Nat.zero_le _, Nat.zero_le _⟩ dL_law_605 (fun y w2 hy => ?_)
  obtain ⟨ey, h2⟩ := hy
  exact jl_same 1456 hX dL_law_608 (by decide) (ex.trans ey.symm) (jl_mono (by omega) (by omega) (KI _ (h.cnms h1 h2 hG h99)))
theorem law_fits {g : Cx} {p : Program} {e : Env} {s : State} {m : MethodId} {below : List Frame} {meth : Method} {c : Code} {b L : Nat} {xs : Nat → Int32} {rk rn : Nat} {w : Wd} {i : Nat} (hX : LX g p s m meth c b L xs) (hL : L ≤ 3072) (hi : i + 6 ≤ L) (hm : 3 ≤ rk ∧ 200 ≤ rn) (h : Rel w) (KI : ∀ w', Rel w' → LR g p e s m below meth c b (rk - 3) (rn - 200) 1456 (lvL g b i) [] w') : LR g p e s m below meth c b rk rn 613 (lvL g b i) [] w := by
  obtain ⟨r1, r2, r3, ⟨hG, h99, hN⟩, r5, r6, r7, r8, r9⟩ := id h
  refine jl_x hX dL_law_613 ?_
  refine jl_arg (k := 1) hX hL hi (by decide) rfl dL_law_614 dL_law_615 dL_law_616 dL_law_617 dL_law_618 ?_
  refine jl_call (st := []) hX (p_fits g w r1 (wI w 79) hG hN (xs (i + 1))) lkL_68 (r1.k rfl) rfl rfl (by decide) (Nat.le_of_ble_eq_true rfl) ⟨Nat.zero_le _, Nat.zero_le _⟩ dL_law_619 (fun x w1 hx => ?_)
  obtain ⟨ex, h1⟩ := hx
  have hw1 : Wf w1 := h1.2.wf r1
  have hs1 : wI w1 79 = wI w 79 := h1.2.row (by unfold scX scK; omega)
  refine jl_m hX dL_law_622 ?_
  refine jl_arg (k := 1) hX hL hi (by decide) rfl dL_law_623 dL_law_624 dL_law_625 dL_law_626 dL_law_627 ?_
  refine jl_call (st := [.int x]) hX (m_fits g w1 hw1 (wI w 79) hs1 hG (xs (i + 1))) lkL_71 (hw1.k rfl) rfl rfl (by decide) (Nat.le_of_ble_eq_true rfl) ⟨Nat.zero_le _, Nat.zero_le _⟩ dL_law_628 (fun y w2 hy => ?_)
  obtain ⟨ey, h2⟩ := hy
  exact jl_same 1456 hX dL_law_631 (by decide) (ex.trans ey.symm) (jl_mono (by omega) (by omega) (KI _ (h.cnms h1 h2 hG h99)))
theorem law_may {g : Cx} {p : Program} {e : Env} {s : State} {m : MethodId} {below : List Frame} {meth : Method} {c : Code} {b L : Nat} {xs : Nat → Int32} {rk rn : Nat} {w : Wd} {i : Nat} (hX : LX g p s m meth c b L xs) (hL : L ≤ 3072) (hi : i + 6 ≤ L) (hm : 3 ≤ rk ∧ 200 ≤ rn) (h : Rel w) (KI : ∀ w', Rel w' → LR g p e s m below meth c b (rk - 3) (rn - 200) 1456 (lvL g b i) [] w') : LR g p e s m below meth c b rk rn 636 (lvL g b i) [] w := by
  obtain ⟨r1, r2, r3, ⟨hG, h99, hN⟩, r5, r6, r7, r8, r9⟩ := id h
  refine jl_x hX dL_law_636 ?_
  refine jl_arg (k := 1) hX hL hi (by decide) rfl dL_law_637 dL_law_638 dL_law_639 dL_law_640 dL_law_641 ?_
  refine jl_call (st := []) hX (p_may g w r1 (wI w 79) hG hN (xs (i + 1))) lkL_72 (r1.k rfl) rfl rfl (by decide) (Nat.le_of_ble_eq_true rfl) ⟨Nat.zero_le _, Nat.zero_le _⟩ dL_law_642 (fun x w1 hx => ?_)
  obtain ⟨ex, h1⟩ := hx
  have hw1 : Wf w1 := h1.2.wf r1
  have hs1 : wI w1 79 = wI w 79 := h1.2.row (by unfold scX scK; omega)
  refine jl_m hX dL_law_645 ?_
  refine jl_arg (k := 1) hX hL hi (by decide) rfl dL_law_646 dL_law_647 dL_law_648 dL_law_649 dL_law_650 ?_
  refine jl_call (st := [.int x]) hX (m_may g w1 hw1 (wI w 79) hs1 hG (xs (i + 1))) lkL_75 (hw1.k rfl) rfl rfl (by decide) (Nat.le_of_ble_eq_true rfl) ⟨Nat.zero_le _, Nat.zero_le _⟩ dL_law_651 (fun y w2 hy => ?_)
  obtain ⟨ey, h2⟩ := hy
  exact jl_same 1456 hX dL_law_654 (by decide) (ex.trans ey.symm) (jl_mono (by omega) (by omega) (KI _ (h.cnms h1 h2 hG h99)))
theorem law_next {g : Cx} {p : Program} {e : Env} {s : State} {m : MethodId} {below : List Frame} {meth : Method} {c : Code} {b L : Nat} {xs : Nat → Int32} {rk rn : Nat} {w : Wd} {i : Nat} (hX : LX g p s m meth c b L xs) (hL : L ≤ 3072) (hi : i + 6 ≤ L) (hm : 3 ≤ rk ∧ 200 ≤ rn) (h : Rel w) (KI : ∀ w', Rel w' → LR g p e s m below meth c b (rk - 3) (rn - 200) 1456 (lvL g b i) [] w') : LR g p e s m below meth c b rk rn 659 (lvL g b i) [] w := by
  obtain ⟨r1, r2, r3, ⟨hG, h99, hN⟩, r5, r6, r7, r8, r9⟩ := id h
  refine jl_x hX dL_law_659 ?_
  refine jl_call (st := []) hX (p_next g w r1 (wI w 79) hG hN) lkL_76 (r1.k rfl) rfl rfl (by decide) (Nat.le_of_ble_eq_true rfl) ⟨Nat.zero_le _, Nat.zero_le _⟩ dL_law_660 (fun x w1 hx => ?_)
  obtain ⟨ex, h1⟩ := hx
  have hw1 : Wf w1 := h1.2.wf r1
  have hs1 : wI w1 79 = wI w 79 := h1.2.row (by unfold scX scK; omega)
  refine jl_m hX dL_law_663 ?_
  refine jl_call (st := [.int x]) hX (m_next g w1 hw1 (wI w 79) hs1 hG) lkL_80 (hw1.k rfl) rfl rfl (by decide) (Nat.le_of_ble_eq_true rfl) ⟨Nat.zero_le _, Nat.zero_le _⟩ dL_law_664 (fun y w2 hy => ?_)
  obtain ⟨ey, h2⟩ := hy
  exact jl_same 1456 hX dL_law_667 (by decide) (ex.trans ey.symm) (jl_mono (by omega) (by omega) (KI _ (h.cnms h1 h2 hG h99)))
theorem law_parts {g : Cx} {p : Program} {e : Env} {s : State} {m : MethodId} {below : List Frame} {meth : Method} {c : Code} {b L : Nat} {xs : Nat → Int32} {rk rn : Nat} {w : Wd} {i : Nat} (hX : LX g p s m meth c b L xs) (hL : L ≤ 3072) (hi : i + 6 ≤ L) (hm : 3 ≤ rk ∧ 200 ≤ rn) (h : Rel w) (KI : ∀ w', Rel w' → LR g p e s m below meth c b (rk - 3) (rn - 200) 1456 (lvL g b i) [] w') : LR g p e s m below meth c b rk rn 672 (lvL g b i) [] w := by
  obtain ⟨r1, r2, r3, ⟨hG, h99, hN⟩, r5, r6, r7, r8, r9⟩ := id h
  refine jl_x hX dL_law_672 ?_
  refine jl_arg (k := 1) hX hL hi (by decide) rfl dL_law_673 dL_law_674 dL_law_675 dL_law_676 dL_law_677 ?_
  refine jl_arg (k := 2) hX hL hi (by decide) rfl dL_law_678 dL_law_679 dL_law_680 dL_law_681 dL_law_682 ?_
  refine jl_call (st := []) hX (p_parts g w r1 (wI w 79) hG hN (xs (i + 1)) (xs (i + 2))) lkL_81 (r1.k rfl) rfl rfl (by decide) (Nat.le_of_ble_eq_true rfl) ⟨Nat.zero_le _, Nat.zero_le _⟩ dL_law_683 (fun x w1 hx => ?_)
  obtain ⟨ex, h1⟩ := hx
  have hw1 : Wf w1 := h1.2.wf r1
  have hs1 : wI w1 79 = wI w 79 := h1.2.row (by unfold scX scK; omega)
  refine jl_m hX dL_law_686 ?_
  refine jl_arg (k := 1) hX hL hi (by decide) rfl dL_law_687 dL_law_688 dL_law_689 dL_law_690 dL_law_691 ?_
  refine jl_arg (k := 2) hX hL hi (by decide) rfl dL_law_692 dL_law_693 dL_law_694 dL_law_695 dL_law_696 ?_
  refine jl_call (st := [.int x]) hX (m_parts g w1 hw1 (wI w 79) hs1 hG (xs (i + 1)) (xs (i + 2))) lkL_84 (hw1.k rfl) rfl rfl (by decide) (Nat.le_of_ble_eq_true rfl) ⟨Nat.zero_le _, Nat.zero_le _⟩ dL_law_697 (fun y w2 hy => ?_)
  obtain ⟨ey, h2⟩ := hy
  exact jl_same 1456 hX dL_law_700 (by decide) (ex.trans ey.symm) (jl_mono (by omega) (by omega) (KI _ (h.cnms h1 h2 hG h99)))
theorem law_astray {g : Cx} {p : Program} {e : Env} {s : State} {m : MethodId} {below : List Frame} {meth : Method} {c : Code} {b L : Nat} {xs : Nat → Int32} {rk rn : Nat} {w : Wd} {i : Nat} (hX : LX g p s m meth c b L xs) (hL : L ≤ 3072) (hi : i + 6 ≤ L) (hm : 3 ≤ rk ∧ 200 ≤ rn) (h : Rel w) (KI : ∀ w', Rel w' → LR g p e s m below meth c b (rk - 3) (rn - 200) 1456 (lvL g b i) [] w') : LR g p e s m below meth c b rk rn 705 (lvL g b i) [] w := by
  obtain ⟨r1, r2, r3, ⟨hG, h99, hN⟩, r5, r6, r7, r8, r9⟩ := id h
  refine jl_x hX dL_law_705 ?_
  refine jl_arg (k := 1) hX hL hi (by decide) rfl dL_law_706 dL_law_707 dL_law_708 dL_law_709 dL_law_710 ?_
  refine jl_call (st := []) hX (p_astray g w r1 (wI w 79) hG hN (xs (i + 1))) lkL_85 (r1.k rfl) rfl rfl (by decide) (Nat.le_of_ble_eq_true rfl) ⟨Nat.zero_le _, Nat.zero_le _⟩ dL_law_711 (fun x w1 hx => ?_)
  obtain ⟨ex, h1⟩ := hx
  have hw1 : Wf w1 := h1.2.wf r1
  have hs1 : wI w1 79 = wI w 79 := h1.2.row (by unfold scX scK; omega)
  refine jl_m hX dL_law_714 ?_
  refine jl_arg (k := 1) hX hL hi (by decide) rfl dL_law_715 dL_law_716 dL_law_717 dL_law_718 dL_law_719 ?_
  refine jl_call (st := [.int x]) hX (m_astray g w1 hw1 (wI w 79) hs1 hG (xs (i + 1))) lkL_88 (hw1.k rfl) rfl rfl (by decide) (Nat.le_of_ble_eq_true rfl) ⟨Nat.zero_le _, Nat.zero_le _⟩ dL_law_720 (fun y w2 hy => ?_)
  obtain ⟨ey, h2⟩ := hy
  exact jl_same 1456 hX dL_law_723 (by decide) (ex.trans ey.symm) (jl_mono (by omega) (by omega) (KI _ (h.cnms h1 h2 hG h99)))
theorem law_right {g : Cx} {p : Program} {e : Env} {s : State} {m : MethodId} {below : List Frame} {meth : Method} {c : Code} {b L : Nat} {xs : Nat → Int32} {rk rn : Nat} {w : Wd} {i : Nat} (hX : LX g p s m meth c b L xs) (hL : L ≤ 3072) (hi : i + 6 ≤ L) (hm : 3 ≤ rk ∧ 200 ≤ rn) (h : Rel w) (KI : ∀ w', Rel w' → LR g p e s m below meth c b (rk - 3) (rn - 200) 1456 (lvL g b i) [] w') : LR g p e s m below meth c b rk rn 728 (lvL g b i) [] w := by
  obtain ⟨r1, r2, r3, ⟨hG, h99, hN⟩, r5, r6, r7, r8, r9⟩ := id h
  refine jl_x hX dL_law_728 ?_
  refine jl_arg (k := 1) hX hL hi (by decide) rfl dL_law_729 dL_law_730 dL_law_731 dL_law_732 dL_law_733 ?_
  refine jl_arg (k := 2) hX hL hi (by decide) rfl dL_law_734 dL_law_735 dL_law_736 dL_law_737 dL_law_738 ?_
  refine jl_call (st := []) hX (p_right g w r1 (wI w 79) hG hN (xs (i + 1)) (xs (i + 2))) lkL_89 (r1.k rfl) rfl rfl (by decide) (Nat.le_of_ble_eq_true rfl) ⟨Nat.zero_le _, Nat.zero_le _⟩ dL_law_739 (fun x w1 hx => ?_)
  obtain ⟨ex, h1⟩ := hx
  have hw1 : Wf w1 := h1.2.wf r1
  have hs1 : wI w1 79 = wI w 79 := h1.2.row (by unfold scX scK; omega)
  refine jl_m hX dL_law_742 ?_
  refine jl_arg (k := 1) hX hL hi (by decide) rfl dL_law_743 dL_law_744 dL_law_745 dL_law_746 dL_law_747 ?_
  refine jl_arg (k := 2) hX hL hi (by decide) rfl dL_law_748 dL_law_749 dL_law_750 dL_law_751 dL_law_752 ?_
  refine jl_call (st := [.int x]) hX (m_right g w1 hw1 (wI w 79) hs1 hG (xs (i + 1)) (xs (i + 2))) lkL_92 (hw1.k rfl) rfl rfl (by decide) (Nat.le_of_ble_eq_true rfl) ⟨Nat.zero_le _, Nat.zero_le _⟩ dL_law_753 (fun y w2 hy => ?_)
  obtain ⟨ey, h2⟩ := hy
  exact jl_same 1456 hX dL_law_756 (by decide) (ex.trans ey.symm) (jl_mono (by omega) (by omega) (KI _ (h.cnms h1 h2 hG h99)))
theorem law_telling {g : Cx} {p : Program} {e : Env} {s : State} {m : MethodId} {below : List Frame} {meth : Method} {c : Code} {b L : Nat} {xs : Nat → Int32} {rk rn : Nat} {w : Wd} {i : Nat} (hX : LX g p s m meth c b L xs) (hL : L ≤ 3072) (hi : i + 6 ≤ L) (hm : 3 ≤ rk ∧ 200 ≤ rn) (h : Rel w) (KI : ∀ w', Rel w' → LR g p e s m below meth c b (rk - 3) (rn - 200) 1456 (lvL g b i) [] w') : LR g p e s m below meth c b rk rn 761 (lvL g b i) [] w := by
  obtain ⟨r1, r2, r3, ⟨hG, h99, hN⟩, r5, r6, r7, r8, r9⟩ := id h
  refine jl_x hX dL_law_761 ?_
  refine jl_call (st := []) hX (p_telling g w r1 (wI w 79) hG hN) lkL_93 (r1.k rfl) rfl rfl (by decide) (Nat.le_of_ble_eq_true rfl) ⟨Nat.zero_le _, Nat.zero_le _⟩ dL_law_762 (fun x w1 hx => ?_)
  obtain ⟨ex, h1⟩ := hx
  have hw1 : Wf w1 := h1.2.wf r1
  have hs1 : wI w1 79 = wI w 79 := h1.2.row (by unfold scX scK; omega)
  refine jl_m hX dL_law_765 ?_
  refine jl_call (st := [.int x]) hX (m_telling g w1 hw1 (wI w 79) hs1 hG) lkL_96 (hw1.k rfl) rfl rfl (by decide) (Nat.le_of_ble_eq_true rfl) ⟨Nat.zero_le _, Nat.zero_le _⟩ dL_law_766 (fun y w2 hy => ?_)
  obtain ⟨ey, h2⟩ := hy
  exact jl_same 1456 hX dL_law_769 (by decide) (ex.trans ey.symm) (jl_mono (by omega) (by omega) (KI _ (h.cnms h1 h2 hG h99)))
theorem law_like {g : Cx} {p : Program} {e : Env} {s : State} {m : MethodId} {below : List Frame} {meth : Method} {c : Code} {b L : Nat} {xs : Nat → Int32} {rk rn : Nat} {w : Wd} {i : Nat} (hX : LX g p s m meth c b L xs) (hL : L ≤ 3072) (hi : i + 6 ≤ L) (hm : 3 ≤ rk ∧ 200 ≤ rn) (h : Rel w) (KI : ∀ w', Rel w' → LR g p e s m below meth c b (rk - 3) (rn - 200) 1456 (lvL g b i) [] w') : LR g p e s m below meth c b rk rn 774 (lvL g b i) [] w := by
  obtain ⟨r1, r2, r3, ⟨hG, h99, hN⟩, r5, r6, r7, r8, r9⟩ := id h
  refine jl_x hX dL_law_774 ?_
  refine jl_arg (k := 1) hX hL hi (by decide) rfl dL_law_775 dL_law_776 dL_law_777 dL_law_778 dL_law_779 ?_
  refine jl_arg (k := 2) hX hL hi (by decide) rfl dL_law_780 dL_law_781 dL_law_782 dL_law_783 dL_law_784 ?_
  refine jl_call (st := []) hX (p_like g w r1 (wI w 79) hG hN (shS w) r6.1 r6.2.1 r6.2.2 (xs (i + 1)) (xs (i + 2))) lkL_97 (r1.k rfl) rfl rfl (by decide) (Nat.le_of_ble_eq_true rfl) ⟨Nat.zero_le _, Nat.zero_le _⟩ dL_law_785 (fun x w1 hx => ?_)
  obtain ⟨ex, h1⟩ := hx
  have hw1 : Wf w1 := h1.2.wf r1
  have hs1 : wI w1 79 = wI w 79 := h1.2.row (by unfold scX scK; omega)
  have hR1 : wI w1 82 = (shS w).1 ∧ wI w1 83 = (shS w).2.1 ∧ wI w1 84 = (shS w).2.2 := ⟨h1.2.row (by unfold scX scK; omega), h1.2.row (by unfold scX scK; omega), h1.2.row (by unfold scX scK; omega)⟩
  refine jl_m hX dL_law_788 ?_
  refine jl_arg (k := 1) hX hL hi (by decide) rfl dL_law_789 dL_law_790 dL_law_791 dL_law_792 dL_law_793 ?_
  refine jl_arg (k := 2) hX hL hi (by decide) rfl dL_law_794 dL_law_795 dL_law_796 dL_law_797 dL_law_798 ?_
  refine jl_call (st := [.int x]) hX (m_like g w1 hw1 (wI w 79) hs1 hG (shS w) hR1 r6.2.1 (xs (i + 1)) (xs (i + 2))) lkL_100 (hw1.k rfl) rfl rfl (by decide) (Nat.le_of_ble_eq_true rfl) ⟨Nat.zero_le _, Nat.zero_le _⟩ dL_law_799 (fun y w2 hy => ?_)
  obtain ⟨ey, h2⟩ := hy
  exact jl_same 1456 hX dL_law_802 (by decide) (ex.trans ey.symm) (jl_mono (by omega) (by omega) (KI _ (h.cnms h1 h2 hG h99)))
theorem law_behind {g : Cx} {p : Program} {e : Env} {s : State} {m : MethodId} {below : List Frame} {meth : Method} {c : Code} {b L : Nat} {xs : Nat → Int32} {rk rn : Nat} {w : Wd} {i : Nat} (hX : LX g p s m meth c b L xs) (hL : L ≤ 3072) (hi : i + 6 ≤ L) (hm : 3 ≤ rk ∧ 200 ≤ rn) (h : Rel w) (KI : ∀ w', Rel w' → LR g p e s m below meth c b (rk - 3) (rn - 200) 1456 (lvL g b i) [] w') : LR g p e s m below meth c b rk rn 807 (lvL g b i) [] w := by
  obtain ⟨r1, r2, r3, ⟨hG, h99, hN⟩, r5, r6, r7, r8, r9⟩ := id h
  refine jl_x hX dL_law_807 ?_
  refine jl_arg (k := 1) hX hL hi (by decide) rfl dL_law_808 dL_law_809 dL_law_810 dL_law_811 dL_law_812 ?_
  refine jl_arg (k := 2) hX hL hi (by decide) rfl dL_law_813 dL_law_814 dL_law_815 dL_law_816 dL_law_817 ?_
  refine jl_call (st := []) hX (p_behind g w r1 (wI w 79) hG h99 hN r3 (xs (i + 1)) (xs (i + 2))) lkL_101 (r1.k rfl) rfl rfl (by decide) (Nat.le_of_ble_eq_true rfl) ⟨Nat.zero_le _, Nat.zero_le _⟩ dL_law_818 (fun x w1 hx => ?_)
  obtain ⟨ex, h1⟩ := hx
  have hw1 : Wf w1 := h1.wf r1
  have hs1 : wI w1 79 = wI w 79 := h1.2.2.1 79 (by unfold scT2 scK; omega)
  refine jl_m hX dL_law_821 ?_
  refine jl_arg (k := 1) hX hL hi (by decide) rfl dL_law_822 dL_law_823 dL_law_824 dL_law_825 dL_law_826 ?_
  refine jl_arg (k := 2) hX hL hi (by decide) rfl dL_law_827 dL_law_828 dL_law_829 dL_law_830 dL_law_831 ?_
  refine jl_call (st := [.int x]) hX (m_behind g w1 hw1 (wI w 79) hs1 hG h99 (xs (i + 1)) (xs (i + 2))) lkL_104 (hw1.k rfl) rfl rfl (by decide) (Nat.le_of_ble_eq_true rfl) ⟨Nat.zero_le _, Nat.zero_le _⟩ dL_law_832 (fun y w2 hy => ?_)
  obtain ⟨ey, h2⟩ := hy
  exact jl_same 1456 hX dL_law_835 (by decide) (ex.trans ey.symm) (jl_mono (by omega) (by omega) (KI _ (h.sth h1 h2)))
theorem law_listen {g : Cx} {p : Program} {e : Env} {s : State} {m : MethodId} {below : List Frame} {meth : Method} {c : Code} {b L : Nat} {xs : Nat → Int32} {rk rn : Nat} {w : Wd} {i : Nat} (hX : LX g p s m meth c b L xs) (hL : L ≤ 3072) (hi : i + 6 ≤ L) (hm : 3 ≤ rk ∧ 200 ≤ rn) (h : Rel w) (KI : ∀ w', Rel w' → LR g p e s m below meth c b (rk - 3) (rn - 200) 1456 (lvL g b i) [] w') : LR g p e s m below meth c b rk rn 840 (lvL g b i) [] w := by
  obtain ⟨r1, r2, r3, ⟨hG, h99, hN⟩, r5, r6, r7, r8, r9⟩ := id h
  refine jl_x hX dL_law_840 ?_
  refine jl_call (st := []) hX (p_listen g w r1 (wI w 79) hG h99 hN r3) lkL_105 (r1.k rfl) rfl rfl (by decide) (Nat.le_of_ble_eq_true rfl) ⟨Nat.zero_le _, Nat.zero_le _⟩ dL_law_841 (fun x w1 hx => ?_)
  obtain ⟨ex, h1⟩ := hx
  have hw1 : Wf w1 := h1.wf r1
  have hs1 : wI w1 79 = wI w 79 := h1.2.2.1 79 (by unfold scT2 scK; omega)
  refine jl_m hX dL_law_844 ?_
  refine jl_call (st := [.int x]) hX (m_listen g w1 hw1 (wI w 79) hs1 hG h99) lkL_108 (hw1.k rfl) rfl rfl (by decide) (Nat.le_of_ble_eq_true rfl) ⟨Nat.zero_le _, Nat.zero_le _⟩ dL_law_845 (fun y w2 hy => ?_)
  obtain ⟨ey, h2⟩ := hy
  exact jl_same 1456 hX dL_law_848 (by decide) (ex.trans ey.symm) (jl_mono (by omega) (by omega) (KI _ (h.sth h1 h2)))
theorem law_fee {g : Cx} {p : Program} {e : Env} {s : State} {m : MethodId} {below : List Frame} {meth : Method} {c : Code} {b L : Nat} {xs : Nat → Int32} {rk rn : Nat} {w : Wd} {i : Nat} (hX : LX g p s m meth c b L xs) (hL : L ≤ 3072) (hi : i + 6 ≤ L) (hm : 3 ≤ rk ∧ 200 ≤ rn) (h : Rel w) (KI : ∀ w', Rel w' → LR g p e s m below meth c b (rk - 3) (rn - 200) 1456 (lvL g b i) [] w') : LR g p e s m below meth c b rk rn 853 (lvL g b i) [] w := by
  obtain ⟨r1, r2, r3, ⟨hG, h99, hN⟩, r5, r6, r7, r8, r9⟩ := id h
  refine jl_x hX dL_law_853 ?_
  refine jl_call (st := []) hX (p_fee g w r1 (wI w 79) hG hN) lkL_109 (r1.k rfl) rfl rfl (by decide) (Nat.le_of_ble_eq_true rfl) ⟨Nat.zero_le _, Nat.zero_le _⟩ dL_law_854 (fun x w1 hx => ?_)
  obtain ⟨ex, h1⟩ := hx
  have hw1 : Wf w1 := h1.2.wf r1
  have hs1 : wI w1 79 = wI w 79 := h1.2.row (by unfold scX scK; omega)
  refine jl_m hX dL_law_857 ?_
  refine jl_call (st := [.int x]) hX (m_fee g w1 hw1 (wI w 79) hs1 hG) lkL_112 (hw1.k rfl) rfl rfl (by decide) (Nat.le_of_ble_eq_true rfl) ⟨Nat.zero_le _, Nat.zero_le _⟩ dL_law_858 (fun y w2 hy => ?_)
  obtain ⟨ey, h2⟩ := hy
  exact jl_same 1456 hX dL_law_861 (by decide) (ex.trans ey.symm) (jl_mono (by omega) (by omega) (KI _ (h.cnms h1 h2 hG h99)))
theorem law_fine {g : Cx} {p : Program} {e : Env} {s : State} {m : MethodId} {below : List Frame} {meth : Method} {c : Code} {b L : Nat} {xs : Nat → Int32} {rk rn : Nat} {w : Wd} {i : Nat} (hX : LX g p s m meth c b L xs) (hL : L ≤ 3072) (hi : i + 6 ≤ L) (hm : 3 ≤ rk ∧ 200 ≤ rn) (h : Rel w) (KI : ∀ w', Rel w' → LR g p e s m below meth c b (rk - 3) (rn - 200) 1456 (lvL g b i) [] w') : LR g p e s m below meth c b rk rn 866 (lvL g b i) [] w := by
  obtain ⟨r1, r2, r3, ⟨hG, h99, hN⟩, r5, r6, r7, r8, r9⟩ := id h
  refine jl_x hX dL_law_866 ?_
  refine jl_arg (k := 1) hX hL hi (by decide) rfl dL_law_867 dL_law_868 dL_law_869 dL_law_870 dL_law_871 ?_
  refine jl_call (st := []) hX (p_fine g w r1 (wI w 79) hG hN (xs (i + 1))) lkL_113 (r1.k rfl) rfl rfl (by decide) (Nat.le_of_ble_eq_true rfl) ⟨Nat.zero_le _, Nat.zero_le _⟩ dL_law_872 (fun x w1 hx => ?_)
  obtain ⟨ex, h1⟩ := hx
  have hw1 : Wf w1 := h1.2.wf r1
  have hs1 : wI w1 79 = wI w 79 := h1.2.row (by unfold scX scK; omega)
  refine jl_m hX dL_law_875 ?_
  refine jl_arg (k := 1) hX hL hi (by decide) rfl dL_law_876 dL_law_877 dL_law_878 dL_law_879 dL_law_880 ?_
  refine jl_call (st := [.int x]) hX (m_fine g w1 hw1 (wI w 79) hs1 hG (xs (i + 1))) lkL_116 (hw1.k rfl) rfl rfl (by decide) (Nat.le_of_ble_eq_true rfl) ⟨Nat.zero_le _, Nat.zero_le _⟩ dL_law_881 (fun y w2 hy => ?_)
  obtain ⟨ey, h2⟩ := hy
  exact jl_same 1456 hX dL_law_884 (by decide) (ex.trans ey.symm) (jl_mono (by omega) (by omega) (KI _ (h.cnms h1 h2 hG h99)))
theorem law_feed {g : Cx} {p : Program} {e : Env} {s : State} {m : MethodId} {below : List Frame} {meth : Method} {c : Code} {b L : Nat} {xs : Nat → Int32} {rk rn : Nat} {w : Wd} {i : Nat} (hX : LX g p s m meth c b L xs) (hL : L ≤ 3072) (hi : i + 6 ≤ L) (hm : 3 ≤ rk ∧ 200 ≤ rn) (h : Rel w) (KI : ∀ w', Rel w' → LR g p e s m below meth c b (rk - 3) (rn - 200) 1456 (lvL g b i) [] w') : LR g p e s m below meth c b rk rn 889 (lvL g b i) [] w := by
  obtain ⟨r1, r2, r3, ⟨hG, h99, hN⟩, r5, r6, r7, r8, r9⟩ := id h
  obtain ⟨n, hn, t1, t2, t3, t4⟩ := r8
  refine jl_x hX dL_law_889 ?_
  refine jl_arg (k := 1) hX hL hi (by decide) rfl dL_law_890 dL_law_891 dL_law_892 dL_law_893 dL_law_894 ?_
  refine jl_arg (k := 2) hX hL hi (by decide) rfl dL_law_895 dL_law_896 dL_law_897 dL_law_898 dL_law_899 ?_
  refine jl_arg (k := 3) hX hL hi (by decide) rfl dL_law_900 dL_law_901 dL_law_902 dL_law_903 dL_law_904 ?_
  refine jl_call (st := []) hX (p_feed g w r1 n hn t2 (xs (i + 1)) (xs (i + 2)) (xs (i + 3))) lkL_117 (r1.k rfl) rfl rfl (by decide) (Nat.le_of_ble_eq_true rfl) ⟨Nat.zero_le _, Nat.zero_le _⟩ dL_law_905 (fun x w1 hx => ?_)
  rcases hx with ⟨c0, ex, rfl⟩ | ⟨c0, ex, k1, k2, k3⟩
  · refine jl_m hX dL_law_908 ?_
    refine jl_arg (k := 1) hX hL hi (by decide) rfl dL_law_909 dL_law_910 dL_law_911 dL_law_912 dL_law_913 ?_
    refine jl_arg (k := 2) hX hL hi (by decide) rfl dL_law_914 dL_law_915 dL_law_916 dL_law_917 dL_law_918 ?_
    refine jl_arg (k := 3) hX hL hi (by decide) rfl dL_law_919 dL_law_920 dL_law_921 dL_law_922 dL_law_923 ?_
    refine jl_call (st := [.int x]) hX (m_feed g w r1 n hn t1 (xs (i + 1)) (xs (i + 2)) (xs (i + 3))) lkL_120 (r1.k rfl) rfl rfl (by decide) (Nat.le_of_ble_eq_true rfl) ⟨Nat.zero_le _, Nat.zero_le _⟩ dL_law_924 (fun y w2 hy => ?_)
    rcases hy with ⟨d0, ey, rfl⟩ | ⟨d0, ey, -⟩
    · exact jl_same 1456 hX dL_law_927 (by decide) (ex.trans ey.symm) (jl_mono (by omega) (by omega) (KI _ h))
    · exact absurd d0 (by omega)
  · have hw1 : Wf w1 := k3.wf r1
    have e78 : wI w1 78 = wI w 78 := k3.row (by omega)
    refine jl_m hX dL_law_908 ?_
    refine jl_arg (k := 1) hX hL hi (by decide) rfl dL_law_909 dL_law_910 dL_law_911 dL_law_912 dL_law_913 ?_
    refine jl_arg (k := 2) hX hL hi (by decide) rfl dL_law_914 dL_law_915 dL_law_916 dL_law_917 dL_law_918 ?_
    refine jl_arg (k := 3) hX hL hi (by decide) rfl dL_law_919 dL_law_920 dL_law_921 dL_law_922 dL_law_923 ?_
    refine jl_call (st := [.int x]) hX (m_feed g w1 hw1 n hn (by rw [e78]; exact t1) (xs (i + 1)) (xs (i + 2)) (xs (i + 3))) lkL_120 (hw1.k rfl) rfl rfl (by decide) (Nat.le_of_ble_eq_true rfl) ⟨Nat.zero_le _, Nat.zero_le _⟩ dL_law_924 (fun y w2 hy => ?_)
    rcases hy with ⟨d0, ey, -⟩ | ⟨d0, ey, h2⟩
    · exact absurd c0 (by omega)
    · exact jl_same 1456 hX dL_law_927 (by decide) (ex.trans ey.symm) (jl_mono (by omega) (by omega) (KI _ (h.feed c0 t3 t4 k1 k2 k3 h2)))
theorem law_trim {g : Cx} {p : Program} {e : Env} {s : State} {m : MethodId} {below : List Frame} {meth : Method} {c : Code} {b L : Nat} {xs : Nat → Int32} {rk rn : Nat} {w : Wd} {i : Nat} (hX : LX g p s m meth c b L xs) (hL : L ≤ 3072) (hi : i + 6 ≤ L) (hm : 3 ≤ rk ∧ 200 ≤ rn) (h : Rel w) (KI : ∀ w', Rel w' → LR g p e s m below meth c b (rk - 3) (rn - 200) 1456 (lvL g b i) [] w') : LR g p e s m below meth c b rk rn 932 (lvL g b i) [] w := by
  obtain ⟨r1, r2, r3, ⟨hG, h99, hN⟩, r5, r6, r7, r8, r9⟩ := id h
  obtain ⟨n, hn, t1, t2, t3, t4⟩ := r8
  refine jl_x hX dL_law_932 ?_
  refine jl_arg (k := 1) hX hL hi (by decide) rfl dL_law_933 dL_law_934 dL_law_935 dL_law_936 dL_law_937 ?_
  refine jl_call (st := []) hX (p_trim g w r1 n hn t2 (xs (i + 1))) lkL_121 (r1.k rfl) rfl rfl (by decide) (Nat.le_of_ble_eq_true rfl) ⟨Nat.zero_le _, Nat.zero_le _⟩ dL_law_938 (fun x w1 hx => ?_)
  rcases hx with ⟨c0, ex, rfl⟩ | ⟨c0, ex, k1⟩
  · refine jl_m hX dL_law_941 ?_
    refine jl_arg (k := 1) hX hL hi (by decide) rfl dL_law_942 dL_law_943 dL_law_944 dL_law_945 dL_law_946 ?_
    refine jl_call (st := [.int x]) hX (m_trim g w r1 n hn t1 (xs (i + 1))) lkL_124 (r1.k rfl) rfl rfl (by decide) (Nat.le_of_ble_eq_true rfl) ⟨Nat.zero_le _, Nat.zero_le _⟩ dL_law_947 (fun y w2 hy => ?_)
    rcases hy with ⟨d0, ey, rfl⟩ | ⟨d0, ey, -⟩
    · exact jl_same 1456 hX dL_law_950 (by decide) (ex.trans ey.symm) (jl_mono (by omega) (by omega) (KI _ h))
    · exact absurd d0 c0
  · have hw1 : Wf w1 := by rw [k1]; exact r1.sR _ _
    have e78 : wI w1 78 = wI w 78 := by rw [k1, wI_sR_n _ (by decide)]
    refine jl_m hX dL_law_941 ?_
    refine jl_arg (k := 1) hX hL hi (by decide) rfl dL_law_942 dL_law_943 dL_law_944 dL_law_945 dL_law_946 ?_
    refine jl_call (st := [.int x]) hX (m_trim g w1 hw1 n hn (by rw [e78]; exact t1) (xs (i + 1))) lkL_124 (hw1.k rfl) rfl rfl (by decide) (Nat.le_of_ble_eq_true rfl) ⟨Nat.zero_le _, Nat.zero_le _⟩ dL_law_947 (fun y w2 hy => ?_)
    rcases hy with ⟨d0, ey, -⟩ | ⟨d0, ey, h2⟩
    · exact absurd c0 d0
    · exact jl_same 1456 hX dL_law_950 (by decide) (ex.trans ey.symm) (jl_mono (by omega) (by omega) (KI _ (h.trim hn c0 t3 t4 k1 h2)))
theorem law_text {g : Cx} {p : Program} {e : Env} {s : State} {m : MethodId} {below : List Frame} {meth : Method} {c : Code} {b L : Nat} {xs : Nat → Int32} {rk rn : Nat} {w : Wd} {i : Nat} (hX : LX g p s m meth c b L xs) (hL : L ≤ 3072) (hi : i + 6 ≤ L) (hm : 3 ≤ rk ∧ 200 ≤ rn) (h : Rel w) (KI : ∀ w', Rel w' → LR g p e s m below meth c b (rk - 3) (rn - 200) 1456 (lvL g b i) [] w') : LR g p e s m below meth c b rk rn 955 (lvL g b i) [] w := by
  obtain ⟨r1, r2, r3, ⟨hG, h99, hN⟩, r5, r6, r7, r8, r9⟩ := id h
  obtain ⟨n, hn, t1, t2, t3, t4⟩ := r8
  refine jl_x hX dL_law_955 ?_
  refine jl_call (st := []) hX (p_text g w r1 (wI w 79) hG hN (wI w 92) n hn t3 t4 t2 r2 (wI w 78 19) (wI w 78 20)) lkL_125 (r1.k rfl) rfl rfl (by decide) (Nat.le_of_ble_eq_true rfl) hm dL_law_956 (fun x w1 hx => ?_)
  obtain ⟨ex, q1, q2, q3, q4, q5, q6⟩ := hx
  have e79 : wI w1 79 = wI w 79 := q6.row r1 (by decide) (by unfold scTx; omega)
  have e78 : wI w1 78 = wI w 78 := q6.row r1 (by decide) (by unfold scTx; omega)
  have e92 : wI w1 92 = wI w 92 := q6.row r1 (by decide) (by unfold scTx; omega)
  refine jl_m hX dL_law_959 ?_
  refine jl_call (st := [.int x]) hX (m_text g w1 q1 (wI w 79) (wI w 92) e79 e92 n hn (by rw [e78]; exact t1) hG.2.1) lkL_128 (q1.k rfl) rfl rfl (by decide) (Nat.le_of_ble_eq_true rfl) ⟨Nat.zero_le _, Nat.zero_le _⟩ dL_law_960 (fun y w2 hy => ?_)
  obtain ⟨ey, m1, m2, m3, m4⟩ := hy
  rw [e78] at ey m1
  exact jl_same 1456 hX dL_law_963 (by decide) (ex.trans ey.symm) (jl_mono (by omega) (by omega) (KI _ (h.text (GG_text ⟨hG, h99⟩ (wI w 92) n hn (wI w 78 19) (wI w 78 20)) q1 q2 q3 q4 q5 q6 m1 m2 m3 m4)))
theorem law_textTold {g : Cx} {p : Program} {e : Env} {s : State} {m : MethodId} {below : List Frame} {meth : Method} {c : Code} {b L : Nat} {xs : Nat → Int32} {rk rn : Nat} {w : Wd} {i : Nat} (hX : LX g p s m meth c b L xs) (hL : L ≤ 3072) (hi : i + 6 ≤ L) (hm : 3 ≤ rk ∧ 200 ≤ rn) (h : Rel w) (KI : ∀ w', Rel w' → LR g p e s m below meth c b (rk - 3) (rn - 200) 1456 (lvL g b i) [] w') : LR g p e s m below meth c b rk rn 968 (lvL g b i) [] w := by
  obtain ⟨r1, r2, r3, ⟨hG, h99, hN⟩, r5, r6, r7, r8, r9⟩ := id h
  refine jl_x hX dL_law_968 ?_
  refine jl_arg (k := 1) hX hL hi (by decide) rfl dL_law_969 dL_law_970 dL_law_971 dL_law_972 dL_law_973 ?_
  refine jl_arg (k := 2) hX hL hi (by decide) rfl dL_law_974 dL_law_975 dL_law_976 dL_law_977 dL_law_978 ?_
  refine jl_call (st := []) hX (p_textTold g w r1 (wI w 79) hG hN (xs (i + 1)) (xs (i + 2))) lkL_129 (r1.k rfl) rfl rfl (by decide) (Nat.le_of_ble_eq_true rfl) ⟨Nat.zero_le _, Nat.zero_le _⟩ dL_law_979 (fun x w1 hx => ?_)
  obtain ⟨ex, h1⟩ := hx
  have hw1 : Wf w1 := h1.2.wf r1
  have hs1 : wI w1 79 = wI w 79 := h1.2.row (by unfold scX scK; omega)
  refine jl_m hX dL_law_982 ?_
  refine jl_arg (k := 1) hX hL hi (by decide) rfl dL_law_983 dL_law_984 dL_law_985 dL_law_986 dL_law_987 ?_
  refine jl_arg (k := 2) hX hL hi (by decide) rfl dL_law_988 dL_law_989 dL_law_990 dL_law_991 dL_law_992 ?_
  refine jl_call (st := [.int x]) hX (m_textTold g w1 hw1 (wI w 79) hs1 hG (xs (i + 1)) (xs (i + 2))) lkL_132 (hw1.k rfl) rfl rfl (by decide) (Nat.le_of_ble_eq_true rfl) ⟨Nat.zero_le _, Nat.zero_le _⟩ dL_law_993 (fun y w2 hy => ?_)
  obtain ⟨ey, h2⟩ := hy
  exact jl_same 1456 hX dL_law_996 (by decide) (ex.trans ey.symm) (jl_mono (by omega) (by omega) (KI _ (h.cnms h1 h2 hG h99)))
theorem law_why {g : Cx} {p : Program} {e : Env} {s : State} {m : MethodId} {below : List Frame} {meth : Method} {c : Code} {b L : Nat} {xs : Nat → Int32} {rk rn : Nat} {w : Wd} {i : Nat} (hX : LX g p s m meth c b L xs) (hL : L ≤ 3072) (hi : i + 6 ≤ L) (hm : 3 ≤ rk ∧ 200 ≤ rn) (h : Rel w) (KI : ∀ w', Rel w' → LR g p e s m below meth c b (rk - 3) (rn - 200) 1456 (lvL g b i) [] w') : LR g p e s m below meth c b rk rn 1001 (lvL g b i) [] w := by
  obtain ⟨r1, r2, r3, ⟨hG, h99, hN⟩, r5, r6, r7, r8, r9⟩ := id h
  refine jl_x hX dL_law_1001 ?_
  refine jl_arg (k := 1) hX hL hi (by decide) rfl dL_law_1002 dL_law_1003 dL_law_1004 dL_law_1005 dL_law_1006 ?_
  refine jl_call (st := []) hX (p_why g w r1 (wI w 79) hG hN (xs (i + 1))) lkL_133 (r1.k rfl) rfl rfl (by decide) (Nat.le_of_ble_eq_true rfl) ⟨Nat.zero_le _, Nat.zero_le _⟩ dL_law_1007 (fun x w1 hx => ?_)
  obtain ⟨ex, h1⟩ := hx
  have hw1 : Wf w1 := h1.2.wf r1
  have hs1 : wI w1 79 = wI w 79 := h1.2.row (by unfold scX scK; omega)
  refine jl_m hX dL_law_1010 ?_
  refine jl_arg (k := 1) hX hL hi (by decide) rfl dL_law_1011 dL_law_1012 dL_law_1013 dL_law_1014 dL_law_1015 ?_
  refine jl_call (st := [.int x]) hX (m_why g w1 hw1 (wI w 79) hs1 hG (xs (i + 1))) lkL_136 (hw1.k rfl) rfl rfl (by decide) (Nat.le_of_ble_eq_true rfl) ⟨Nat.zero_le _, Nat.zero_le _⟩ dL_law_1016 (fun y w2 hy => ?_)
  obtain ⟨ey, h2⟩ := hy
  exact jl_same 1456 hX dL_law_1019 (by decide) (ex.trans ey.symm) (jl_mono (by omega) (by omega) (KI _ (h.cnms h1 h2 hG h99)))
theorem law_sheet {g : Cx} {p : Program} {e : Env} {s : State} {m : MethodId} {below : List Frame} {meth : Method} {c : Code} {b L : Nat} {xs : Nat → Int32} {rk rn : Nat} {w : Wd} {i : Nat} (hX : LX g p s m meth c b L xs) (hL : L ≤ 3072) (hi : i + 6 ≤ L) (hm : 3 ≤ rk ∧ 200 ≤ rn) (h : Rel w) (KI : ∀ w', Rel w' → LR g p e s m below meth c b (rk - 3) (rn - 200) 1456 (lvL g b i) [] w') : LR g p e s m below meth c b rk rn 1024 (lvL g b i) [] w := by
  obtain ⟨r1, r2, r3, ⟨hG, h99, hN⟩, r5, r6, r7, r8, r9⟩ := id h
  refine jl_x hX dL_law_1024 ?_
  refine jl_arg (k := 1) hX hL hi (by decide) rfl dL_law_1025 dL_law_1026 dL_law_1027 dL_law_1028 dL_law_1029 ?_
  refine jl_arg (k := 2) hX hL hi (by decide) rfl dL_law_1030 dL_law_1031 dL_law_1032 dL_law_1033 dL_law_1034 ?_
  refine jl_arg (k := 3) hX hL hi (by decide) rfl dL_law_1035 dL_law_1036 dL_law_1037 dL_law_1038 dL_law_1039 ?_
  refine jl_call (st := []) hX (p_sheet g w r1 (shS w) r6.1 (xs (i + 1)) (xs (i + 2)) (xs (i + 3))) lkL_137 (r1.k rfl) rfl rfl (by decide) (Nat.le_of_ble_eq_true rfl) ⟨Nat.zero_le _, Nat.zero_le _⟩ dL_law_1040 (fun x w1 hx => ?_)
  obtain ⟨ex, h1⟩ := hx
  have hw1 : Wf w1 := h1.2.wf r1
  have hR1 : wI w1 82 = (shS w).1 ∧ wI w1 83 = (shS w).2.1 ∧ wI w1 84 = (shS w).2.2 := ⟨h1.2.row (by unfold scSh; omega), h1.2.row (by unfold scSh; omega), h1.2.row (by unfold scSh; omega)⟩
  refine jl_m hX dL_law_1043 ?_
  refine jl_arg (k := 1) hX hL hi (by decide) rfl dL_law_1044 dL_law_1045 dL_law_1046 dL_law_1047 dL_law_1048 ?_
  refine jl_arg (k := 2) hX hL hi (by decide) rfl dL_law_1049 dL_law_1050 dL_law_1051 dL_law_1052 dL_law_1053 ?_
  refine jl_arg (k := 3) hX hL hi (by decide) rfl dL_law_1054 dL_law_1055 dL_law_1056 dL_law_1057 dL_law_1058 ?_
  refine jl_call (st := [.int x]) hX (m_sheet g w1 hw1 (shS w) hR1 (xs (i + 1)) (xs (i + 2)) (xs (i + 3))) lkL_140 (hw1.k rfl) rfl rfl (by decide) (Nat.le_of_ble_eq_true rfl) ⟨Nat.zero_le _, Nat.zero_le _⟩ dL_law_1059 (fun y w2 hy => ?_)
  obtain ⟨ey, h2⟩ := hy
  have hq := sheet_ok r6.2.1 r6.2.2 (xs (i + 1)) (xs (i + 2)) (xs (i + 3))
  exact jl_same 1456 hX dL_law_1062 (by decide) (ex.trans ey.symm) (jl_mono (by omega) (by omega) (KI _ (h.sheets hq.1 hq.2 h1 h2)))
theorem law_mark {g : Cx} {p : Program} {e : Env} {s : State} {m : MethodId} {below : List Frame} {meth : Method} {c : Code} {b L : Nat} {xs : Nat → Int32} {rk rn : Nat} {w : Wd} {i : Nat} (hX : LX g p s m meth c b L xs) (hL : L ≤ 3072) (hi : i + 6 ≤ L) (hm : 3 ≤ rk ∧ 200 ≤ rn) (h : Rel w) (KI : ∀ w', Rel w' → LR g p e s m below meth c b (rk - 3) (rn - 200) 1456 (lvL g b i) [] w') : LR g p e s m below meth c b rk rn 1067 (lvL g b i) [] w := by
  obtain ⟨r1, r2, r3, ⟨hG, h99, hN⟩, r5, r6, r7, r8, r9⟩ := id h
  refine jl_x hX dL_law_1067 ?_
  refine jl_arg (k := 1) hX hL hi (by decide) rfl dL_law_1068 dL_law_1069 dL_law_1070 dL_law_1071 dL_law_1072 ?_
  refine jl_arg (k := 2) hX hL hi (by decide) rfl dL_law_1073 dL_law_1074 dL_law_1075 dL_law_1076 dL_law_1077 ?_
  refine jl_arg (k := 3) hX hL hi (by decide) rfl dL_law_1078 dL_law_1079 dL_law_1080 dL_law_1081 dL_law_1082 ?_
  refine jl_call (st := []) hX (p_mark g w r1 (shS w) r6.1 r6.2.1 (xs (i + 1)) (xs (i + 2)) (xs (i + 3))) lkL_141 (r1.k rfl) rfl rfl (by decide) (Nat.le_of_ble_eq_true rfl) ⟨Nat.zero_le _, Nat.zero_le _⟩ dL_law_1083 (fun x w1 hx => ?_)
  obtain ⟨ex, h1⟩ := hx
  have hw1 : Wf w1 := h1.2.wf r1
  have hR1 : wI w1 82 = (shS w).1 ∧ wI w1 83 = (shS w).2.1 ∧ wI w1 84 = (shS w).2.2 := ⟨h1.2.row (by unfold scSh; omega), h1.2.row (by unfold scSh; omega), h1.2.row (by unfold scSh; omega)⟩
  refine jl_m hX dL_law_1086 ?_
  refine jl_arg (k := 1) hX hL hi (by decide) rfl dL_law_1087 dL_law_1088 dL_law_1089 dL_law_1090 dL_law_1091 ?_
  refine jl_arg (k := 2) hX hL hi (by decide) rfl dL_law_1092 dL_law_1093 dL_law_1094 dL_law_1095 dL_law_1096 ?_
  refine jl_arg (k := 3) hX hL hi (by decide) rfl dL_law_1097 dL_law_1098 dL_law_1099 dL_law_1100 dL_law_1101 ?_
  refine jl_call (st := [.int x]) hX (m_mark g w1 hw1 (shS w) hR1 r6.2.1 (xs (i + 1)) (xs (i + 2)) (xs (i + 3))) lkL_144 (hw1.k rfl) rfl rfl (by decide) (Nat.le_of_ble_eq_true rfl) ⟨Nat.zero_le _, Nat.zero_le _⟩ dL_law_1102 (fun y w2 hy => ?_)
  obtain ⟨ey, h2⟩ := hy
  have hq := mark_ok r6.2.1 r6.2.2 (xs (i + 1)) (xs (i + 2)) (xs (i + 3))
  exact jl_same 1456 hX dL_law_1105 (by decide) (ex.trans ey.symm) (jl_mono (by omega) (by omega) (KI _ (h.sheets hq.1 hq.2 h1 h2)))
theorem law_pour {g : Cx} {p : Program} {e : Env} {s : State} {m : MethodId} {below : List Frame} {meth : Method} {c : Code} {b L : Nat} {xs : Nat → Int32} {rk rn : Nat} {w : Wd} {i : Nat} (hX : LX g p s m meth c b L xs) (hL : L ≤ 3072) (hi : i + 6 ≤ L) (hm : 3 ≤ rk ∧ 200 ≤ rn) (h : Rel w) (KI : ∀ w', Rel w' → LR g p e s m below meth c b (rk - 3) (rn - 200) 1456 (lvL g b i) [] w') : LR g p e s m below meth c b rk rn 1110 (lvL g b i) [] w := by
  obtain ⟨r1, r2, r3, ⟨hG, h99, hN⟩, r5, r6, r7, r8, r9⟩ := id h
  refine jl_x hX dL_law_1110 ?_
  refine jl_arg (k := 1) hX hL hi (by decide) rfl dL_law_1111 dL_law_1112 dL_law_1113 dL_law_1114 dL_law_1115 ?_
  refine jl_call (st := []) hX (p_pour g w r1 (wI w 79) hG hN (shS w) r6.1 r6.2.1 (xs (i + 1))) lkL_145 (r1.k rfl) rfl rfl (by decide) (Nat.le_of_ble_eq_true rfl) ⟨Nat.zero_le _, Nat.zero_le _⟩ dL_law_1116 (fun x w1 hx => ?_)
  obtain ⟨ex, h1⟩ := hx
  have hw1 : Wf w1 := h1.2.wf r1
  have hs1 : wI w1 79 = wI w 79 := h1.2.row (by unfold scX scK; omega)
  have hR1 : wI w1 82 = (shS w).1 ∧ wI w1 83 = (shS w).2.1 ∧ wI w1 84 = (shS w).2.2 := ⟨h1.2.row (by unfold scX scK; omega), h1.2.row (by unfold scX scK; omega), h1.2.row (by unfold scX scK; omega)⟩
  refine jl_m hX dL_law_1119 ?_
  refine jl_arg (k := 1) hX hL hi (by decide) rfl dL_law_1120 dL_law_1121 dL_law_1122 dL_law_1123 dL_law_1124 ?_
  refine jl_call (st := [.int x]) hX (m_pour g w1 hw1 (wI w 79) hs1 hG (shS w) hR1 r6.2.1 (xs (i + 1))) lkL_148 (hw1.k rfl) rfl rfl (by decide) (Nat.le_of_ble_eq_true rfl) ⟨Nat.zero_le _, Nat.zero_le _⟩ dL_law_1125 (fun y w2 hy => ?_)
  obtain ⟨ey, h2⟩ := hy
  have hq := GG_pour ⟨hG, h99⟩ (shS w) (xs (i + 1))
  exact jl_same 1456 hX dL_law_1128 (by decide) (ex.trans ey.symm) (jl_mono (by omega) (by omega) (KI _ (h.cnms h1 h2 hq.1 hq.2)))
theorem law_reads {g : Cx} {p : Program} {e : Env} {s : State} {m : MethodId} {below : List Frame} {meth : Method} {c : Code} {b L : Nat} {xs : Nat → Int32} {rk rn : Nat} {w : Wd} {i : Nat} (hX : LX g p s m meth c b L xs) (hL : L ≤ 3072) (hi : i + 6 ≤ L) (hm : 3 ≤ rk ∧ 200 ≤ rn) (h : Rel w) (KI : ∀ w', Rel w' → LR g p e s m below meth c b (rk - 3) (rn - 200) 1456 (lvL g b i) [] w') : LR g p e s m below meth c b rk rn 1133 (lvL g b i) [] w := by
  obtain ⟨r1, r2, r3, ⟨hG, h99, hN⟩, r5, r6, r7, r8, r9⟩ := id h
  refine jl_x hX dL_law_1133 ?_
  refine jl_arg (k := 1) hX hL hi (by decide) rfl dL_law_1134 dL_law_1135 dL_law_1136 dL_law_1137 dL_law_1138 ?_
  refine jl_call (st := []) hX (p_reads g w r1 (wI w 79) hG hN (shS w) r6.1 r6.2.1 (xs (i + 1))) lkL_149 (r1.k rfl) rfl rfl (by decide) (Nat.le_of_ble_eq_true rfl) ⟨Nat.zero_le _, Nat.zero_le _⟩ dL_law_1139 (fun x w1 hx => ?_)
  obtain ⟨ex, h1⟩ := hx
  have hw1 : Wf w1 := h1.2.wf r1
  have hs1 : wI w1 79 = wI w 79 := h1.2.row (by unfold scX scK; omega)
  have hR1 : wI w1 82 = (shS w).1 ∧ wI w1 83 = (shS w).2.1 ∧ wI w1 84 = (shS w).2.2 := ⟨h1.2.row (by unfold scX scK; omega), h1.2.row (by unfold scX scK; omega), h1.2.row (by unfold scX scK; omega)⟩
  refine jl_m hX dL_law_1142 ?_
  refine jl_arg (k := 1) hX hL hi (by decide) rfl dL_law_1143 dL_law_1144 dL_law_1145 dL_law_1146 dL_law_1147 ?_
  refine jl_call (st := [.int x]) hX (m_reads g w1 hw1 (wI w 79) hs1 hG (shS w) hR1 r6.2.1 (xs (i + 1))) lkL_152 (hw1.k rfl) rfl rfl (by decide) (Nat.le_of_ble_eq_true rfl) ⟨Nat.zero_le _, Nat.zero_le _⟩ dL_law_1148 (fun y w2 hy => ?_)
  obtain ⟨ey, h2⟩ := hy
  exact jl_same 1456 hX dL_law_1151 (by decide) (ex.trans ey.symm) (jl_mono (by omega) (by omega) (KI _ (h.cnms h1 h2 hG h99)))
theorem law_copy {g : Cx} {p : Program} {e : Env} {s : State} {m : MethodId} {below : List Frame} {meth : Method} {c : Code} {b L : Nat} {xs : Nat → Int32} {rk rn : Nat} {w : Wd} {i : Nat} (hX : LX g p s m meth c b L xs) (hL : L ≤ 3072) (hi : i + 6 ≤ L) (hm : 3 ≤ rk ∧ 200 ≤ rn) (h : Rel w) (KI : ∀ w', Rel w' → LR g p e s m below meth c b (rk - 3) (rn - 200) 1456 (lvL g b i) [] w') : LR g p e s m below meth c b rk rn 1156 (lvL g b i) [] w := by
  obtain ⟨r1, r2, r3, ⟨hG, h99, hN⟩, r5, r6, r7, r8, r9⟩ := id h
  refine jl_x hX dL_law_1156 ?_
  refine jl_arg (k := 1) hX hL hi (by decide) rfl dL_law_1157 dL_law_1158 dL_law_1159 dL_law_1160 dL_law_1161 ?_
  refine jl_arg (k := 2) hX hL hi (by decide) rfl dL_law_1162 dL_law_1163 dL_law_1164 dL_law_1165 dL_law_1166 ?_
  refine jl_arg (k := 3) hX hL hi (by decide) rfl dL_law_1167 dL_law_1168 dL_law_1169 dL_law_1170 dL_law_1171 ?_
  refine jl_arg (k := 4) hX hL hi (by decide) rfl dL_law_1172 dL_law_1173 dL_law_1174 dL_law_1175 dL_law_1176 ?_
  refine jl_arg (k := 5) hX hL hi (by decide) rfl dL_law_1177 dL_law_1178 dL_law_1179 dL_law_1180 dL_law_1181 ?_
  refine jl_call (st := []) hX (p_copy g w r1 (shS w) r6.1 r6.2.1 (xs (i + 1)) (xs (i + 2)) (xs (i + 3)) (xs (i + 4)) (xs (i + 5))) lkL_153 (r1.k rfl) rfl rfl (by decide) (Nat.le_of_ble_eq_true rfl) ⟨Nat.zero_le _, Nat.zero_le _⟩ dL_law_1182 (fun x w1 hx => ?_)
  obtain ⟨ex, h1⟩ := hx
  have hw1 : Wf w1 := h1.2.wf r1
  have hR1 : wI w1 82 = (shS w).1 ∧ wI w1 83 = (shS w).2.1 ∧ wI w1 84 = (shS w).2.2 := ⟨h1.2.row (by unfold scSh; omega), h1.2.row (by unfold scSh; omega), h1.2.row (by unfold scSh; omega)⟩
  refine jl_m hX dL_law_1185 ?_
  refine jl_arg (k := 1) hX hL hi (by decide) rfl dL_law_1186 dL_law_1187 dL_law_1188 dL_law_1189 dL_law_1190 ?_
  refine jl_arg (k := 2) hX hL hi (by decide) rfl dL_law_1191 dL_law_1192 dL_law_1193 dL_law_1194 dL_law_1195 ?_
  refine jl_arg (k := 3) hX hL hi (by decide) rfl dL_law_1196 dL_law_1197 dL_law_1198 dL_law_1199 dL_law_1200 ?_
  refine jl_arg (k := 4) hX hL hi (by decide) rfl dL_law_1201 dL_law_1202 dL_law_1203 dL_law_1204 dL_law_1205 ?_
  refine jl_arg (k := 5) hX hL hi (by decide) rfl dL_law_1206 dL_law_1207 dL_law_1208 dL_law_1209 dL_law_1210 ?_
  refine jl_call (st := [.int x]) hX (m_copy g w1 hw1 (shS w) hR1 r6.2.1 (xs (i + 1)) (xs (i + 2)) (xs (i + 3)) (xs (i + 4)) (xs (i + 5))) lkL_157 (hw1.k rfl) rfl rfl (by decide) (Nat.le_of_ble_eq_true rfl) ⟨Nat.zero_le _, Nat.zero_le _⟩ dL_law_1211 (fun y w2 hy => ?_)
  obtain ⟨ey, h2⟩ := hy
  have hq := copy_ok r6.2.1 r6.2.2 (xs (i + 1)) (xs (i + 2)) (xs (i + 3)) (xs (i + 4)) (xs (i + 5))
  exact jl_same 1456 hX dL_law_1214 (by decide) (ex.trans ey.symm) (jl_mono (by omega) (by omega) (KI _ (h.sheets hq.1 hq.2 h1 h2)))
theorem law_lay {g : Cx} {p : Program} {e : Env} {s : State} {m : MethodId} {below : List Frame} {meth : Method} {c : Code} {b L : Nat} {xs : Nat → Int32} {rk rn : Nat} {w : Wd} {i : Nat} (hX : LX g p s m meth c b L xs) (hL : L ≤ 3072) (hi : i + 6 ≤ L) (hm : 3 ≤ rk ∧ 200 ≤ rn) (h : Rel w) (KI : ∀ w', Rel w' → LR g p e s m below meth c b (rk - 3) (rn - 200) 1456 (lvL g b i) [] w') : LR g p e s m below meth c b rk rn 1219 (lvL g b i) [] w := by
  obtain ⟨r1, r2, r3, ⟨hG, h99, hN⟩, r5, r6, r7, r8, r9⟩ := id h
  refine jl_x hX dL_law_1219 ?_
  refine jl_arg (k := 1) hX hL hi (by decide) rfl dL_law_1220 dL_law_1221 dL_law_1222 dL_law_1223 dL_law_1224 ?_
  refine jl_arg (k := 2) hX hL hi (by decide) rfl dL_law_1225 dL_law_1226 dL_law_1227 dL_law_1228 dL_law_1229 ?_
  refine jl_arg (k := 3) hX hL hi (by decide) rfl dL_law_1230 dL_law_1231 dL_law_1232 dL_law_1233 dL_law_1234 ?_
  refine jl_call (st := []) hX (p_lay g w r1 (wI w 79) hG hN (shS w) r6.1 r6.2.1 (slS w) r7.1 (xs (i + 1)) (xs (i + 2)) (xs (i + 3))) lkL_158 (r1.k rfl) rfl rfl (by decide) (Nat.le_of_ble_eq_true rfl) ⟨Nat.zero_le _, Nat.zero_le _⟩ dL_law_1235 (fun x w1 hx => ?_)
  obtain ⟨ex, h1⟩ := hx
  have hw1 : Wf w1 := h1.2.wf r1
  have hs1 : wI w1 79 = wI w 79 := h1.2.row (by unfold scSl; omega)
  have hR1 : wI w1 82 = (shS w).1 ∧ wI w1 83 = (shS w).2.1 ∧ wI w1 84 = (shS w).2.2 := ⟨h1.2.row (by unfold scSl; omega), h1.2.row (by unfold scSl; omega), h1.2.row (by unfold scSl; omega)⟩
  have hL1 : wI w1 85 = (slS w).1 ∧ wI w1 86 = (slS w).2.1 ∧ wI w1 87 = (slS w).2.2.1 ∧ wI w1 88 = (slS w).2.2.2.1 ∧ wI w1 89 = (slS w).2.2.2.2 := ⟨h1.2.row (by unfold scSl; omega), h1.2.row (by unfold scSl; omega), h1.2.row (by unfold scSl; omega), h1.2.row (by unfold scSl; omega), h1.2.row (by unfold scSl; omega)⟩
  refine jl_m hX dL_law_1238 ?_
  refine jl_arg (k := 1) hX hL hi (by decide) rfl dL_law_1239 dL_law_1240 dL_law_1241 dL_law_1242 dL_law_1243 ?_
  refine jl_arg (k := 2) hX hL hi (by decide) rfl dL_law_1244 dL_law_1245 dL_law_1246 dL_law_1247 dL_law_1248 ?_
  refine jl_arg (k := 3) hX hL hi (by decide) rfl dL_law_1249 dL_law_1250 dL_law_1251 dL_law_1252 dL_law_1253 ?_
  refine jl_call (st := [.int x]) hX (m_lay g w1 hw1 (wI w 79) hs1 hG (shS w) hR1 (slS w) hL1 (xs (i + 1)) (xs (i + 2)) (xs (i + 3))) lkL_161 (hw1.k rfl) rfl rfl (by decide) (Nat.le_of_ble_eq_true rfl) ⟨Nat.zero_le _, Nat.zero_le _⟩ dL_law_1254 (fun y w2 hy => ?_)
  obtain ⟨ey, h2⟩ := hy
  exact jl_same 1456 hX dL_law_1257 (by decide) (ex.trans ey.symm) (jl_mono (by omega) (by omega) (KI _ (h.slots (lay_hz (xs (i + 1)) (xs (i + 2)) (xs (i + 3)) r6.2.1 r7.2) h1 h2)))
theorem law_ask {g : Cx} {p : Program} {e : Env} {s : State} {m : MethodId} {below : List Frame} {meth : Method} {c : Code} {b L : Nat} {xs : Nat → Int32} {rk rn : Nat} {w : Wd} {i : Nat} (hX : LX g p s m meth c b L xs) (hL : L ≤ 3072) (hi : i + 6 ≤ L) (hm : 3 ≤ rk ∧ 200 ≤ rn) (h : Rel w) (KI : ∀ w', Rel w' → LR g p e s m below meth c b (rk - 3) (rn - 200) 1456 (lvL g b i) [] w') : LR g p e s m below meth c b rk rn 1262 (lvL g b i) [] w := by
  obtain ⟨r1, r2, r3, ⟨hG, h99, hN⟩, r5, r6, r7, r8, r9⟩ := id h
  refine jl_x hX dL_law_1262 ?_
  refine jl_arg (k := 1) hX hL hi (by decide) rfl dL_law_1263 dL_law_1264 dL_law_1265 dL_law_1266 dL_law_1267 ?_
  refine jl_arg (k := 2) hX hL hi (by decide) rfl dL_law_1268 dL_law_1269 dL_law_1270 dL_law_1271 dL_law_1272 ?_
  refine jl_call (st := []) hX (p_ask g w r1 (slS w) r7.1 (xs (i + 1)) (xs (i + 2))) lkL_162 (r1.k rfl) rfl rfl (by decide) (Nat.le_of_ble_eq_true rfl) ⟨Nat.zero_le _, Nat.zero_le _⟩ dL_law_1273 (fun x w1 hx => ?_)
  obtain ⟨ex, rfl⟩ := hx
  refine jl_m hX dL_law_1276 ?_
  refine jl_arg (k := 1) hX hL hi (by decide) rfl dL_law_1277 dL_law_1278 dL_law_1279 dL_law_1280 dL_law_1281 ?_
  refine jl_arg (k := 2) hX hL hi (by decide) rfl dL_law_1282 dL_law_1283 dL_law_1284 dL_law_1285 dL_law_1286 ?_
  refine jl_call (st := [.int x]) hX (m_ask g w r1 (xs (i + 1)) (xs (i + 2))) lkL_165 (r1.k rfl) rfl rfl (by decide) (Nat.le_of_ble_eq_true rfl) ⟨Nat.zero_le _, Nat.zero_le _⟩ dL_law_1287 (fun y w2 hy => ?_)
  obtain ⟨ey, rfl⟩ := hy
  exact jl_same 1456 hX dL_law_1290 (by decide) (ex.trans ey.symm) (jl_mono (by omega) (by omega) (KI _ h))
theorem law_item {g : Cx} {p : Program} {e : Env} {s : State} {m : MethodId} {below : List Frame} {meth : Method} {c : Code} {b L : Nat} {xs : Nat → Int32} {rk rn : Nat} {w : Wd} {i : Nat} (hX : LX g p s m meth c b L xs) (hL : L ≤ 3072) (hi : i + 6 ≤ L) (hm : 3 ≤ rk ∧ 200 ≤ rn) (h : Rel w) (KI : ∀ w', Rel w' → LR g p e s m below meth c b (rk - 3) (rn - 200) 1456 (lvL g b i) [] w') : LR g p e s m below meth c b rk rn 1295 (lvL g b i) [] w := by
  obtain ⟨r1, r2, r3, ⟨hG, h99, hN⟩, r5, r6, r7, r8, r9⟩ := id h
  refine jl_x hX dL_law_1295 ?_
  refine jl_arg (k := 1) hX hL hi (by decide) rfl dL_law_1296 dL_law_1297 dL_law_1298 dL_law_1299 dL_law_1300 ?_
  refine jl_arg (k := 2) hX hL hi (by decide) rfl dL_law_1301 dL_law_1302 dL_law_1303 dL_law_1304 dL_law_1305 ?_
  refine jl_call (st := []) hX (p_item g w r1 (slS w) r7.1 (xs (i + 1)) (xs (i + 2))) lkL_166 (r1.k rfl) rfl rfl (by decide) (Nat.le_of_ble_eq_true rfl) ⟨Nat.zero_le _, Nat.zero_le _⟩ dL_law_1306 (fun x w1 hx => ?_)
  obtain ⟨ex, rfl⟩ := hx
  refine jl_m hX dL_law_1309 ?_
  refine jl_arg (k := 1) hX hL hi (by decide) rfl dL_law_1310 dL_law_1311 dL_law_1312 dL_law_1313 dL_law_1314 ?_
  refine jl_arg (k := 2) hX hL hi (by decide) rfl dL_law_1315 dL_law_1316 dL_law_1317 dL_law_1318 dL_law_1319 ?_
  refine jl_call (st := [.int x]) hX (m_item g w r1 (xs (i + 1)) (xs (i + 2)) r7.2) lkL_169 (r1.k rfl) rfl rfl (by decide) (Nat.le_of_ble_eq_true rfl) ⟨Nat.zero_le _, Nat.zero_le _⟩ dL_law_1320 (fun y w2 hy => ?_)
  obtain ⟨ey, rfl⟩ := hy
  exact jl_same 1456 hX dL_law_1323 (by decide) (ex.trans ey.symm) (jl_mono (by omega) (by omega) (KI _ h))
theorem law_rest {g : Cx} {p : Program} {e : Env} {s : State} {m : MethodId} {below : List Frame} {meth : Method} {c : Code} {b L : Nat} {xs : Nat → Int32} {rk rn : Nat} {w : Wd} {i : Nat} (hX : LX g p s m meth c b L xs) (hL : L ≤ 3072) (hi : i + 6 ≤ L) (hm : 3 ≤ rk ∧ 200 ≤ rn) (h : Rel w) (KI : ∀ w', Rel w' → LR g p e s m below meth c b (rk - 3) (rn - 200) 1456 (lvL g b i) [] w') : LR g p e s m below meth c b rk rn 1328 (lvL g b i) [] w := by
  obtain ⟨r1, r2, r3, ⟨hG, h99, hN⟩, r5, r6, r7, r8, r9⟩ := id h
  refine jl_x hX dL_law_1328 ?_
  refine jl_arg (k := 1) hX hL hi (by decide) rfl dL_law_1329 dL_law_1330 dL_law_1331 dL_law_1332 dL_law_1333 ?_
  refine jl_arg (k := 2) hX hL hi (by decide) rfl dL_law_1334 dL_law_1335 dL_law_1336 dL_law_1337 dL_law_1338 ?_
  refine jl_call (st := []) hX (p_rest g w r1 (slS w) r7.1 (xs (i + 1)) (xs (i + 2))) lkL_170 (r1.k rfl) rfl rfl (by decide) (Nat.le_of_ble_eq_true rfl) ⟨Nat.zero_le _, Nat.zero_le _⟩ dL_law_1339 (fun x w1 hx => ?_)
  obtain ⟨ex, rfl⟩ := hx
  refine jl_m hX dL_law_1342 ?_
  refine jl_arg (k := 1) hX hL hi (by decide) rfl dL_law_1343 dL_law_1344 dL_law_1345 dL_law_1346 dL_law_1347 ?_
  refine jl_arg (k := 2) hX hL hi (by decide) rfl dL_law_1348 dL_law_1349 dL_law_1350 dL_law_1351 dL_law_1352 ?_
  refine jl_call (st := [.int x]) hX (m_rest g w r1 (xs (i + 1)) (xs (i + 2))) lkL_173 (r1.k rfl) rfl rfl (by decide) (Nat.le_of_ble_eq_true rfl) ⟨Nat.zero_le _, Nat.zero_le _⟩ dL_law_1353 (fun y w2 hy => ?_)
  obtain ⟨ey, rfl⟩ := hy
  exact jl_same 1456 hX dL_law_1356 (by decide) (ex.trans ey.symm) (jl_mono (by omega) (by omega) (KI _ h))
theorem law_tell {g : Cx} {p : Program} {e : Env} {s : State} {m : MethodId} {below : List Frame} {meth : Method} {c : Code} {b L : Nat} {xs : Nat → Int32} {rk rn : Nat} {w : Wd} {i : Nat} (hX : LX g p s m meth c b L xs) (hL : L ≤ 3072) (hi : i + 6 ≤ L) (hm : 3 ≤ rk ∧ 200 ≤ rn) (h : Rel w) (KI : ∀ w', Rel w' → LR g p e s m below meth c b (rk - 3) (rn - 200) 1456 (lvL g b i) [] w') : LR g p e s m below meth c b rk rn 1361 (lvL g b i) [] w := by
  obtain ⟨r1, r2, r3, ⟨hG, h99, hN⟩, r5, r6, r7, r8, r9⟩ := id h
  obtain ⟨W, hW, t1, t2, t3⟩ := r9
  refine jl_x hX dL_law_1361 ?_
  refine jl_arg (k := 1) hX hL hi (by decide) rfl dL_law_1362 dL_law_1363 dL_law_1364 dL_law_1365 dL_law_1366 ?_
  refine jl_call (st := []) hX (p_tell g w r1 W hW t2 (xs (i + 1))) lkL_174 (r1.k rfl) rfl rfl (by decide) (Nat.le_of_ble_eq_true rfl) ⟨Nat.zero_le _, Nat.zero_le _⟩ dL_law_1367 (fun x w1 hx => ?_)
  rcases hx with ⟨c0, ex, rfl⟩ | ⟨c0, ex, k1⟩
  · refine jl_m hX dL_law_1370 ?_
    refine jl_arg (k := 1) hX hL hi (by decide) rfl dL_law_1371 dL_law_1372 dL_law_1373 dL_law_1374 dL_law_1375 ?_
    refine jl_call (st := [.int x]) hX (m_tell g w r1 W hW t1 (xs (i + 1))) lkL_177 (r1.k rfl) rfl rfl (by decide) (Nat.le_of_ble_eq_true rfl) ⟨Nat.zero_le _, Nat.zero_le _⟩ dL_law_1376 (fun y w2 hy => ?_)
    rcases hy with ⟨d0, ey, rfl⟩ | ⟨d0, ey, -⟩
    · exact jl_same 1456 hX dL_law_1379 (by decide) (ex.trans ey.symm) (jl_mono (by omega) (by omega) (KI _ h))
    · exact absurd d0 (by omega)
  · have hw1 : Wf w1 := by rw [k1]; exact (r1.sR _ _).sR _ _
    have e78 : wI w1 78 = wI w 78 := by rw [k1, wI_sR_n _ (by decide), wI_sR_n _ (by decide)]
    refine jl_m hX dL_law_1370 ?_
    refine jl_arg (k := 1) hX hL hi (by decide) rfl dL_law_1371 dL_law_1372 dL_law_1373 dL_law_1374 dL_law_1375 ?_
    refine jl_call (st := [.int x]) hX (m_tell g w1 hw1 W hW (by rw [e78]; exact t1) (xs (i + 1))) lkL_177 (hw1.k rfl) rfl rfl (by decide) (Nat.le_of_ble_eq_true rfl) ⟨Nat.zero_le _, Nat.zero_le _⟩ dL_law_1376 (fun y w2 hy => ?_)
    rcases hy with ⟨d0, ey, -⟩ | ⟨d0, ey, h2⟩
    · exact absurd c0 (by omega)
    · exact jl_same 1456 hX dL_law_1379 (by decide) (ex.trans ey.symm) (jl_mono (by omega) (by omega) (KI _ (h.tell c0 t3 k1 h2)))
theorem law_check {g : Cx} {p : Program} {e : Env} {s : State} {m : MethodId} {below : List Frame} {meth : Method} {c : Code} {b L : Nat} {xs : Nat → Int32} {rk rn : Nat} {w : Wd} {i : Nat} (hX : LX g p s m meth c b L xs) (hL : L ≤ 3072) (hi : i + 6 ≤ L) (hm : 3 ≤ rk ∧ 200 ≤ rn) (h : Rel w) (KI : ∀ w', Rel w' → LR g p e s m below meth c b (rk - 3) (rn - 200) 1456 (lvL g b i) [] w') : LR g p e s m below meth c b rk rn 1384 (lvL g b i) [] w := by
  obtain ⟨r1, r2, r3, ⟨hG, h99, hN⟩, r5, r6, r7, r8, r9⟩ := id h
  obtain ⟨W, hW, t1, t2, t3⟩ := r9
  refine jl_x hX dL_law_1384 ?_
  refine jl_arg (k := 1) hX hL hi (by decide) rfl dL_law_1385 dL_law_1386 dL_law_1387 dL_law_1388 dL_law_1389 ?_
  refine jl_call (st := []) hX (p_check g w r1 W hW t2 (wI w 96) (asR (wI w 80) (wI w 79)) t3 (fun hk => ⟨(r5.2.2 hk (wI w 79)).2.2, (r5.2.2 hk (wI w 79)).1, (r5.2.2 hk (wI w 79)).2.1, r5.2.1⟩) (xs (i + 1))) lkL_178 (r1.k rfl) rfl rfl (by decide) (Nat.le_of_ble_eq_true rfl) ⟨Nat.zero_le _, Nat.zero_le _⟩ dL_law_1390 (fun x w1 hx => ?_)
  obtain ⟨ex, k1, k2⟩ := hx
  have hw1 : Wf w1 := Sq.wf k2 r1 (fun i e k => by unfold p26 at e; subst e; exact RF_txt NA3 k)
  have e79 : wI w1 79 = wI w 79 := k2.2.2.1 79 (by unfold scC2 scT2 scK; omega)
  have e78 : wI w1 78 = wI w 78 := k2.2.2.1 78 (by unfold scC2 scT2 scK; omega)
  have e96 : wI w1 96 = wI w 96 := k2.2.2.1 96 (by unfold scC2 scT2 scK; omega)
  have e80 : wI w1 80 = wI w 80 := k2.2.2.1 80 (by unfold scC2 scT2 scK; omega)
  refine jl_m hX dL_law_1393 ?_
  refine jl_arg (k := 1) hX hL hi (by decide) rfl dL_law_1394 dL_law_1395 dL_law_1396 dL_law_1397 dL_law_1398 ?_
  refine jl_call (st := [.int x]) hX (m_check g w1 hw1 (wI w 79) e79 W hW (by rw [e78]; exact t1) (fun hk => by rw [e78, r5.1] at hk; rw [e80]; exact ⟨(r5.2.2 hk (wI w 79)).1, (r5.2.2 hk (wI w 79)).2.1⟩) (xs (i + 1))) lkL_181 (hw1.k rfl) rfl rfl (by decide) (Nat.le_of_ble_eq_true rfl) ⟨Nat.zero_le _, Nat.zero_le _⟩ dL_law_1399 (fun y w2 hy => ?_)
  obtain ⟨ey, k3, k4, k5⟩ := hy
  rw [e78, e96, e80, r5.1] at ey
  exact jl_same 1456 hX dL_law_1402 (by decide) (ex.trans ey.symm) (jl_mono (by omega) (by omega) (KI _ (h.check k1 k2 (k3.trans e79.symm) k4 k5)))
theorem law_keep {g : Cx} {p : Program} {e : Env} {s : State} {m : MethodId} {below : List Frame} {meth : Method} {c : Code} {b L : Nat} {xs : Nat → Int32} {rk rn : Nat} {w : Wd} {i : Nat} (hX : LX g p s m meth c b L xs) (hL : L ≤ 3072) (hi : i + 6 ≤ L) (hm : 3 ≤ rk ∧ 200 ≤ rn) (h : Rel w) (KI : ∀ w', Rel w' → LR g p e s m below meth c b (rk - 3) (rn - 200) 1456 (lvL g b i) [] w') : LR g p e s m below meth c b rk rn 1407 (lvL g b i) [] w := by
  obtain ⟨r1, r2, r3, ⟨hG, h99, hN⟩, r5, r6, r7, r8, r9⟩ := id h
  refine jl_x hX dL_law_1407 ?_
  refine jl_call (st := []) hX (p_keep g w r1 (wI w 79) hN r3) lkL_182 (r1.k rfl) rfl rfl (by decide) (Nat.le_of_ble_eq_true rfl) ⟨Nat.zero_le _, Nat.zero_le _⟩ dL_law_1408 (fun x w1 hx => ?_)
  obtain ⟨ex, wa, k1, k2⟩ := hx
  have hw1 : Wf w1 := by rw [k2]; exact (k1.wf (Or.inr (Or.inl rfl)) r1).sR _ _
  have hs1 : wI w1 79 = wI w 79 := by rw [k2, wI_sR_n _ (by decide)]; exact k1.2.2.2.2.2.2.2.1 79 (by omega)
  refine jl_m hX dL_law_1411 ?_
  refine jl_call (st := [.int x]) hX (m_keep g w1 hw1) lkL_185 (hw1.k rfl) rfl rfl (by decide) (Nat.le_of_ble_eq_true rfl) ⟨Nat.zero_le _, Nat.zero_le _⟩ dL_law_1412 (fun y w2 hy => ?_)
  obtain ⟨ey, h2⟩ := hy
  rw [hs1] at ey
  exact jl_same 1456 hX dL_law_1415 (by decide) (ex.trans ey.symm) (jl_mono (by omega) (by omega) (KI _ (h.keep k1 k2 h2)))
theorem law_back {g : Cx} {p : Program} {e : Env} {s : State} {m : MethodId} {below : List Frame} {meth : Method} {c : Code} {b L : Nat} {xs : Nat → Int32} {rk rn : Nat} {w : Wd} {i : Nat} (hX : LX g p s m meth c b L xs) (hL : L ≤ 3072) (hi : i + 6 ≤ L) (hm : 3 ≤ rk ∧ 200 ≤ rn) (h : Rel w) (KI : ∀ w', Rel w' → LR g p e s m below meth c b (rk - 3) (rn - 200) 1456 (lvL g b i) [] w') : LR g p e s m below meth c b rk rn 1420 (lvL g b i) [] w := by
  obtain ⟨r1, r2, r3, ⟨hG, h99, hN⟩, r5, r6, r7, r8, r9⟩ := id h
  refine jl_x hX dL_law_1420 ?_
  refine jl_call (st := []) hX (p_back g w r1 r5.2.1) lkL_186 (r1.k rfl) rfl rfl (by decide) (Nat.le_of_ble_eq_true rfl) ⟨Nat.zero_le _, Nat.zero_le _⟩ dL_law_1421 (fun x w1 hx => ?_)
  rcases hx with ⟨c0, ex, rfl⟩ | ⟨c0, ex, k1⟩
  · refine jl_m hX dL_law_1424 ?_
    refine jl_call (st := [.int x]) hX (m_back g w r1) lkL_189 (r1.k rfl) rfl rfl (by decide) (Nat.le_of_ble_eq_true rfl) ⟨Nat.zero_le _, Nat.zero_le _⟩ dL_law_1425 (fun y w2 hy => ?_)
    rcases hy with ⟨d0, ey, rfl⟩ | ⟨d0, ey, -⟩
    · exact jl_same 1456 hX dL_law_1428 (by decide) (ex.trans ey.symm) (jl_mono (by omega) (by omega) (KI _ h))
    · exact absurd (r5.1.trans c0) d0
  · have hw1 : Wf w1 := k1.wf NA1 r1
    have e78 : wI w1 78 = wI w 78 := k1.2.2.2.2.2.2.2.1 78 (by omega)
    have e80 : wI w1 80 = wI w 80 := k1.2.2.2.2.2.2.2.1 80 (by omega)
    refine jl_m hX dL_law_1424 ?_
    refine jl_call (st := [.int x]) hX (m_back g w1 hw1) lkL_189 (hw1.k rfl) rfl rfl (by decide) (Nat.le_of_ble_eq_true rfl) ⟨Nat.zero_le _, Nat.zero_le _⟩ dL_law_1425 (fun y w2 hy => ?_)
    rw [e78, e80] at hy
    rcases hy with ⟨d0, ey, -⟩ | ⟨d0, ey, h2⟩
    · exact absurd (r5.1.symm.trans d0) c0
    · have hq : wI w 12 1 = wI w 80 0 := by
        have q := (r5.2.2 c0 (wI w 79)).2.2.n0
        rw [q]
        unfold asR
        rw [if_pos (by decide)]
      rw [← e80] at h2
      exact jl_same 1456 hX dL_law_1428 (by decide) (ex.trans (hq.trans ey.symm)) (jl_mono (by omega) (by omega) (KI _ (h.back c0 k1 h2)))
theorem law_count {g : Cx} {p : Program} {e : Env} {s : State} {m : MethodId} {below : List Frame} {meth : Method} {c : Code} {b L : Nat} {xs : Nat → Int32} {rk rn : Nat} {w : Wd} {i : Nat} (hX : LX g p s m meth c b L xs) (hL : L ≤ 3072) (hi : i + 6 ≤ L) (hm : 3 ≤ rk ∧ 200 ≤ rn) (h : Rel w) (KI : ∀ w', Rel w' → LR g p e s m below meth c b (rk - 3) (rn - 200) 1456 (lvL g b i) [] w') : LR g p e s m below meth c b rk rn 1433 (lvL g b i) [] w := by
  obtain ⟨r1, r2, r3, ⟨hG, h99, hN⟩, r5, r6, r7, r8, r9⟩ := id h
  obtain ⟨W, hW, t1, t2, t3⟩ := r9
  obtain ⟨n, hn, u1, u2, u3, u4⟩ := r8
  refine jl_x hX dL_law_1433 ?_
  refine jl_arg (k := 1) hX hL hi (by decide) rfl dL_law_1434 dL_law_1435 dL_law_1436 dL_law_1437 dL_law_1438 ?_
  refine jl_call (st := []) hX (p_count g w r1 (wI w 79) hN (wI w 78) (t2.trans t1.symm) (u2.trans u1.symm) (xs (i + 1))) lkL_190 (r1.k rfl) rfl rfl (by decide) (Nat.le_of_ble_eq_true rfl) ⟨Nat.zero_le _, Nat.zero_le _⟩ dL_law_1439 (fun x w1 hx => ?_)
  obtain ⟨ex, h1⟩ := hx
  have hw1 : Wf w1 := h1.2.wf r1
  have hs1 : wI w1 79 = wI w 79 := h1.2.row (by unfold scX scK; omega)
  have e78 : wI w1 78 = wI w 78 := h1.2.row (by unfold scX scK; omega)
  refine jl_m hX dL_law_1442 ?_
  refine jl_arg (k := 1) hX hL hi (by decide) rfl dL_law_1443 dL_law_1444 dL_law_1445 dL_law_1446 dL_law_1447 ?_
  refine jl_call (st := [.int x]) hX (m_count g w1 hw1 (xs (i + 1))) lkL_193 (hw1.k rfl) rfl rfl (by decide) (Nat.le_of_ble_eq_true rfl) ⟨Nat.zero_le _, Nat.zero_le _⟩ dL_law_1448 (fun y w2 hy => ?_)
  obtain ⟨ey, rfl⟩ := hy
  rw [hs1, e78] at ey
  exact jl_same 1456 hX dL_law_1451 (by decide) (ex.trans ey.symm) (jl_mono (by omega) (by omega) (KI _ (h.cnms h1 ⟨hs1, Sm.rf⟩ hG h99)))
