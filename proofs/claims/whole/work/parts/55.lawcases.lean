/-! the law's cases -/
set_option maxHeartbeats 4000000 in
theorem L_supply {K : KT} {b L i : Nat} {xs : Nat → Int32} {σ : Mem} (h : LC K b L xs) (hR : RR σ) (hi : i + 4 < L) (kk : ∀ σ2, RR σ2 → M K 1129 (lls i) [] σ2) : M K 168 (lls i) [] σ := by
  refine mi_aload_n h.1 dL_law_168 (by rfl) ?_
  refine lw_arg (k := 1) h (by omega) dL_law_169 dL_law_170 dL_law_171 dL_law_172 dL_law_173 ?_
  refine lw_arg (k := 2) h (by omega) dL_law_174 dL_law_175 dL_law_176 dL_law_177 dL_law_178 ?_
  refine mi_cV2i (hw := Nat.le_of_ble_eq_true rfl) h.1 dL_law_179 ml_RL_13 ym_yX5_supply (by rfl) (by rfl) (c_X5_supply hR.1.1 (xv_r _ _) (xv_r _ _)) (fun r σ1 h5 => ?_)
  have hJ1 := JJ_same (pA_supply h5) (RR_J hR)
  refine mi_aload_n h.1 dL_law_182 (by rfl) ?_
  refine lw_arg (k := 1) h (by omega) dL_law_183 dL_law_184 dL_law_185 dL_law_186 dL_law_187 ?_
  refine lw_arg (k := 2) h (by omega) dL_law_188 dL_law_189 dL_law_190 dL_law_191 dL_law_192 ?_
  refine mi_cV2i (hw := Nat.le_of_ble_eq_true rfl) h.1 dL_law_193 ml_RL_17 ym_yX6_supply (by rfl) (by rfl) (c_X6_supply (xv_r _ _) (xv_r _ _)) (fun r2 σ2 h6 => ?_)
  obtain ⟨rfl, hR2⟩ := pB_supply hR h5 h6
  exact lw_eqi h.1 dL_law_196 (by decide) (kk σ2 hR2)
set_option maxHeartbeats 4000000 in
theorem L_size {K : KT} {b L i : Nat} {xs : Nat → Int32} {σ : Mem} (h : LC K b L xs) (hR : RR σ) (hi : i + 4 < L) (kk : ∀ σ2, RR σ2 → M K 1129 (lls i) [] σ2) : M K 201 (lls i) [] σ := by
  refine mi_aload_n h.1 dL_law_201 (by rfl) ?_
  refine lw_arg (k := 1) h (by omega) dL_law_202 dL_law_203 dL_law_204 dL_law_205 dL_law_206 ?_
  refine lw_arg (k := 2) h (by omega) dL_law_207 dL_law_208 dL_law_209 dL_law_210 dL_law_211 ?_
  refine mi_cV2i (hw := Nat.le_of_ble_eq_true rfl) h.1 dL_law_212 ml_RL_18 ym_yX5_size (by rfl) (by rfl) (c_X5_size hR.1.1 (xv_r _ _) (xv_r _ _)) (fun r σ1 h5 => ?_)
  have hJ1 := JJ_same (pA_size h5) (RR_J hR)
  refine mi_aload_n h.1 dL_law_215 (by rfl) ?_
  refine lw_arg (k := 1) h (by omega) dL_law_216 dL_law_217 dL_law_218 dL_law_219 dL_law_220 ?_
  refine lw_arg (k := 2) h (by omega) dL_law_221 dL_law_222 dL_law_223 dL_law_224 dL_law_225 ?_
  refine mi_cV2i (hw := Nat.le_of_ble_eq_true rfl) h.1 dL_law_226 ml_RL_21 ym_yX6_size (by rfl) (by rfl) (c_X6_size hJ1.1 (xv_r _ _) (xv_r _ _)) (fun r2 σ2 h6 => ?_)
  obtain ⟨rfl, hR2⟩ := pB_size hR h5 h6
  exact lw_eqi h.1 dL_law_229 (by decide) (kk σ2 hR2)
set_option maxHeartbeats 4000000 in
theorem L_pipe {K : KT} {b L i : Nat} {xs : Nat → Int32} {σ : Mem} (h : LC K b L xs) (hR : RR σ) (hi : i + 4 < L) (kk : ∀ σ2, RR σ2 → M K 1129 (lls i) [] σ2) : M K 234 (lls i) [] σ := by
  refine mi_aload_n h.1 dL_law_234 (by rfl) ?_
  refine lw_arg (k := 1) h (by omega) dL_law_235 dL_law_236 dL_law_237 dL_law_238 dL_law_239 ?_
  refine lw_arg (k := 2) h (by omega) dL_law_240 dL_law_241 dL_law_242 dL_law_243 dL_law_244 ?_
  refine lw_arg (k := 3) h (by omega) dL_law_245 dL_law_246 dL_law_247 dL_law_248 dL_law_249 ?_
  refine mi_cV3i (hw := Nat.le_of_ble_eq_true rfl) h.1 dL_law_250 ml_RL_22 ym_yX5_pipe (by rfl) (by rfl) (c_X5_pipe hR.1.1 hR.1.2.2.2.1 (xv_r _ _) (xv_r _ _) (xv_r _ _)) (fun r σ1 h5 => ?_)
  have hJ1 := JJ_same (pA_pipe h5) (RR_J hR)
  refine mi_aload_n h.1 dL_law_253 (by rfl) ?_
  refine lw_arg (k := 1) h (by omega) dL_law_254 dL_law_255 dL_law_256 dL_law_257 dL_law_258 ?_
  refine lw_arg (k := 2) h (by omega) dL_law_259 dL_law_260 dL_law_261 dL_law_262 dL_law_263 ?_
  refine lw_arg (k := 3) h (by omega) dL_law_264 dL_law_265 dL_law_266 dL_law_267 dL_law_268 ?_
  refine mi_cV3i (hw := Nat.le_of_ble_eq_true rfl) h.1 dL_law_269 ml_RL_26 ym_yX6_pipe (by rfl) (by rfl) (c_X6_pipe hJ1.1 hJ1.2.2.1 (xv_r _ _) (xv_r _ _) (xv_r _ _)) (fun r2 σ2 h6 => ?_)
  obtain ⟨rfl, hR2⟩ := pB_pipe hR h5 h6
  exact lw_eqi h.1 dL_law_272 (by decide) (kk σ2 hR2)
set_option maxHeartbeats 4000000 in
theorem L_head {K : KT} {b L i : Nat} {xs : Nat → Int32} {σ : Mem} (h : LC K b L xs) (hR : RR σ) (hi : i + 4 < L) (kk : ∀ σ2, RR σ2 → M K 1129 (lls i) [] σ2) : M K 277 (lls i) [] σ := by
  refine mi_aload_n h.1 dL_law_277 (by rfl) ?_
  refine lw_arg (k := 1) h (by omega) dL_law_278 dL_law_279 dL_law_280 dL_law_281 dL_law_282 ?_
  refine lw_arg (k := 2) h (by omega) dL_law_283 dL_law_284 dL_law_285 dL_law_286 dL_law_287 ?_
  refine lw_arg (k := 3) h (by omega) dL_law_288 dL_law_289 dL_law_290 dL_law_291 dL_law_292 ?_
  refine mi_cV3i (hw := Nat.le_of_ble_eq_true rfl) h.1 dL_law_293 ml_RL_27 ym_yX5_head (by rfl) (by rfl) (c_X5_head hR.1.1 (xv_r _ _) (xv_r _ _) (xv_r _ _)) (fun r σ1 h5 => ?_)
  have hJ1 := JJ_same (pA_head h5) (RR_J hR)
  refine mi_aload_n h.1 dL_law_296 (by rfl) ?_
  refine lw_arg (k := 1) h (by omega) dL_law_297 dL_law_298 dL_law_299 dL_law_300 dL_law_301 ?_
  refine lw_arg (k := 2) h (by omega) dL_law_302 dL_law_303 dL_law_304 dL_law_305 dL_law_306 ?_
  refine lw_arg (k := 3) h (by omega) dL_law_307 dL_law_308 dL_law_309 dL_law_310 dL_law_311 ?_
  refine mi_cV3i (hw := Nat.le_of_ble_eq_true rfl) h.1 dL_law_312 ml_RL_30 ym_yX6_head (by rfl) (by rfl) (c_X6_head hJ1.1 (xv_r _ _) (xv_r _ _) (xv_r _ _)) (fun r2 σ2 h6 => ?_)
  obtain ⟨rfl, hR2⟩ := pB_head hR h5 h6
  exact lw_eqi h.1 dL_law_315 (by decide) (kk σ2 hR2)
set_option maxHeartbeats 4000000 in
theorem L_open {K : KT} {b L i : Nat} {xs : Nat → Int32} {σ : Mem} (h : LC K b L xs) (hR : RR σ) (hi : i + 4 < L) (kk : ∀ σ2, RR σ2 → M K 1129 (lls i) [] σ2) : M K 320 (lls i) [] σ := by
  refine mi_aload_n h.1 dL_law_320 (by rfl) ?_
  refine lw_arg (k := 1) h (by omega) dL_law_321 dL_law_322 dL_law_323 dL_law_324 dL_law_325 ?_
  refine lw_arg (k := 2) h (by omega) dL_law_326 dL_law_327 dL_law_328 dL_law_329 dL_law_330 ?_
  refine lw_bool h.1 (xv_r _ _) dL_law_331 dL_law_334 dL_law_335 dL_law_338 ?_
  refine mi_cV2i (hw := Nat.le_of_ble_eq_true rfl) h.1 dL_law_339 ml_RL_31 ym_yX5_open (by rfl) (by rfl) (c_X5_open hR.1.1 (xv_r _ _) (nz_01 _)) (fun r σ1 h5 => ?_)
  have hJ1 := JJ_same (pA_open h5) (RR_J hR)
  refine mi_aload_n h.1 dL_law_342 (by rfl) ?_
  refine lw_arg (k := 1) h (by omega) dL_law_343 dL_law_344 dL_law_345 dL_law_346 dL_law_347 ?_
  refine lw_arg (k := 2) h (by omega) dL_law_348 dL_law_349 dL_law_350 dL_law_351 dL_law_352 ?_
  refine lw_bool h.1 (xv_r _ _) dL_law_353 dL_law_356 dL_law_357 dL_law_360 ?_
  refine mi_cV2i (hw := Nat.le_of_ble_eq_true rfl) h.1 dL_law_361 ml_RL_35 ym_yX6_open (by rfl) (by rfl) (c_X6_open hJ1.1 hJ1.2.2.2.1 (xv_r _ _) (nz_01 _)) (fun r2 σ2 h6 => ?_)
  obtain ⟨rfl, hR2⟩ := pB_open hR h5 h6 (nz_01 _)
  exact lw_eqi h.1 dL_law_364 (by decide) (kk σ2 hR2)
set_option maxHeartbeats 4000000 in
theorem L_shut {K : KT} {b L i : Nat} {xs : Nat → Int32} {σ : Mem} (h : LC K b L xs) (hR : RR σ) (hi : i + 4 < L) (kk : ∀ σ2, RR σ2 → M K 1129 (lls i) [] σ2) : M K 369 (lls i) [] σ := by
  refine mi_aload_n h.1 dL_law_369 (by rfl) ?_
  refine lw_arg (k := 1) h (by omega) dL_law_370 dL_law_371 dL_law_372 dL_law_373 dL_law_374 ?_
  refine lw_arg (k := 2) h (by omega) dL_law_375 dL_law_376 dL_law_377 dL_law_378 dL_law_379 ?_
  refine lw_bool h.1 (xv_r _ _) dL_law_380 dL_law_383 dL_law_384 dL_law_387 ?_
  refine mi_cV2i (hw := Nat.le_of_ble_eq_true rfl) h.1 dL_law_388 ml_RL_36 ym_yX5_shut (by rfl) (by rfl) (c_X5_shut hR.1.1 (xv_r _ _) (nz_01 _)) (fun r σ1 h5 => ?_)
  have hJ1 := JJ_same (pA_shut h5) (RR_J hR)
  refine mi_aload_n h.1 dL_law_391 (by rfl) ?_
  refine lw_arg (k := 1) h (by omega) dL_law_392 dL_law_393 dL_law_394 dL_law_395 dL_law_396 ?_
  refine lw_arg (k := 2) h (by omega) dL_law_397 dL_law_398 dL_law_399 dL_law_400 dL_law_401 ?_
  refine lw_bool h.1 (xv_r _ _) dL_law_402 dL_law_405 dL_law_406 dL_law_409 ?_
  refine mi_cV2i (hw := Nat.le_of_ble_eq_true rfl) h.1 dL_law_410 ml_RL_39 ym_yX6_shut (by rfl) (by rfl) (c_X6_shut hJ1.1 hJ1.2.2.2.1 (xv_r _ _) (nz_01 _)) (fun r2 σ2 h6 => ?_)
  obtain ⟨rfl, hR2⟩ := pB_shut hR h5 h6 (nz_01 _)
  exact lw_eqi h.1 dL_law_413 (by decide) (kk σ2 hR2)
set_option maxHeartbeats 4000000 in
theorem L_clog {K : KT} {b L i : Nat} {xs : Nat → Int32} {σ : Mem} (h : LC K b L xs) (hR : RR σ) (hi : i + 4 < L) (kk : ∀ σ2, RR σ2 → M K 1129 (lls i) [] σ2) : M K 418 (lls i) [] σ := by
  refine mi_aload_n h.1 dL_law_418 (by rfl) ?_
  refine lw_arg (k := 1) h (by omega) dL_law_419 dL_law_420 dL_law_421 dL_law_422 dL_law_423 ?_
  refine lw_arg (k := 2) h (by omega) dL_law_424 dL_law_425 dL_law_426 dL_law_427 dL_law_428 ?_
  refine mi_cV2i (hw := Nat.le_of_ble_eq_true rfl) h.1 dL_law_429 ml_RL_40 ym_yX5_clog (by rfl) (by rfl) (c_X5_clog hR.1.1 (xv_r _ _) (xv_r _ _)) (fun r σ1 h5 => ?_)
  have hJ1 := JJ_same (pA_clog h5) (RR_J hR)
  refine mi_aload_n h.1 dL_law_432 (by rfl) ?_
  refine lw_arg (k := 1) h (by omega) dL_law_433 dL_law_434 dL_law_435 dL_law_436 dL_law_437 ?_
  refine lw_arg (k := 2) h (by omega) dL_law_438 dL_law_439 dL_law_440 dL_law_441 dL_law_442 ?_
  refine mi_cV2i (hw := Nat.le_of_ble_eq_true rfl) h.1 dL_law_443 ml_RL_43 ym_yX6_clog (by rfl) (by rfl) (c_X6_clog hJ1.1 hJ1.2.2.2.1 (xv_r _ _) (xv_r _ _)) (fun r2 σ2 h6 => ?_)
  obtain ⟨rfl, hR2⟩ := pB_clog hR h5 h6
  exact lw_eqi h.1 dL_law_446 (by decide) (kk σ2 hR2)
set_option maxHeartbeats 4000000 in
theorem L_resize {K : KT} {b L i : Nat} {xs : Nat → Int32} {σ : Mem} (h : LC K b L xs) (hR : RR σ) (hi : i + 4 < L) (kk : ∀ σ2, RR σ2 → M K 1129 (lls i) [] σ2) : M K 451 (lls i) [] σ := by
  refine mi_aload_n h.1 dL_law_451 (by rfl) ?_
  refine lw_arg (k := 1) h (by omega) dL_law_452 dL_law_453 dL_law_454 dL_law_455 dL_law_456 ?_
  refine lw_arg (k := 2) h (by omega) dL_law_457 dL_law_458 dL_law_459 dL_law_460 dL_law_461 ?_
  refine mi_cV2i (hw := Nat.le_of_ble_eq_true rfl) h.1 dL_law_462 ml_RL_44 ym_yX5_resize (by rfl) (by rfl) (c_X5_resize hR.1.1 (xv_r _ _) (xv_r _ _)) (fun r σ1 h5 => ?_)
  have hJ1 := JJ_same (pA_resize h5) (RR_J hR)
  refine mi_aload_n h.1 dL_law_465 (by rfl) ?_
  refine lw_arg (k := 1) h (by omega) dL_law_466 dL_law_467 dL_law_468 dL_law_469 dL_law_470 ?_
  refine lw_arg (k := 2) h (by omega) dL_law_471 dL_law_472 dL_law_473 dL_law_474 dL_law_475 ?_
  refine mi_cV2i (hw := Nat.le_of_ble_eq_true rfl) h.1 dL_law_476 ml_RL_47 ym_yX6_resize (by rfl) (by rfl) (c_X6_resize hJ1.1 (xv_r _ _) (xv_r _ _)) (fun r2 σ2 h6 => ?_)
  obtain ⟨rfl, hR2⟩ := pB_resize hR h5 h6
  exact lw_eqi h.1 dL_law_479 (by decide) (kk σ2 hR2)
set_option maxHeartbeats 4000000 in
theorem L_conduct {K : KT} {b L i : Nat} {xs : Nat → Int32} {σ : Mem} (h : LC K b L xs) (hR : RR σ) (hi : i + 4 < L) (kk : ∀ σ2, RR σ2 → M K 1129 (lls i) [] σ2) : M K 484 (lls i) [] σ := by
  refine mi_aload_n h.1 dL_law_484 (by rfl) ?_
  refine lw_arg (k := 1) h (by omega) dL_law_485 dL_law_486 dL_law_487 dL_law_488 dL_law_489 ?_
  refine lw_arg (k := 2) h (by omega) dL_law_490 dL_law_491 dL_law_492 dL_law_493 dL_law_494 ?_
  refine mi_cV2l (hw := Nat.le_of_ble_eq_true rfl) h.1 dL_law_495 ml_RL_48 ym_yX5_conduct (by rfl) (by rfl) (c_X5_conduct hR.1.1 hR.1.2.2.1 hR.1.2.2.2.1 hR.1.2.2.2.2.1 (xv_r _ _) (xv_r _ _)) (fun r σ1 h5 => ?_)
  have hJ1 := JJ_same (pA_conduct h5) (RR_J hR)
  refine mi_aload_n h.1 dL_law_498 (by rfl) ?_
  refine lw_arg (k := 1) h (by omega) dL_law_499 dL_law_500 dL_law_501 dL_law_502 dL_law_503 ?_
  refine lw_arg (k := 2) h (by omega) dL_law_504 dL_law_505 dL_law_506 dL_law_507 dL_law_508 ?_
  refine mi_cV2l (hw := Nat.le_of_ble_eq_true rfl) h.1 dL_law_509 ml_RL_52 ym_yX6_conduct (by rfl) (by rfl) (c_X6_conduct hJ1.1 hJ1.2.1 hJ1.2.2.1 hJ1.2.2.2.1 hJ1.2.2.2.2.1 (xv_r _ _) (xv_r _ _)) (fun r2 σ2 h6 => ?_)
  obtain ⟨rfl, hR2⟩ := pB_conduct hR h5 h6
  exact lw_eql h.1 dL_law_512 dL_law_513 (by decide) (kk σ2 hR2)
set_option maxHeartbeats 4000000 in
theorem L_pressure {K : KT} {b L i : Nat} {xs : Nat → Int32} {σ : Mem} (h : LC K b L xs) (hR : RR σ) (hi : i + 4 < L) (kk : ∀ σ2, RR σ2 → M K 1129 (lls i) [] σ2) : M K 518 (lls i) [] σ := by
  refine mi_aload_n h.1 dL_law_518 (by rfl) ?_
  refine lw_arg (k := 1) h (by omega) dL_law_519 dL_law_520 dL_law_521 dL_law_522 dL_law_523 ?_
  refine lw_arg (k := 2) h (by omega) dL_law_524 dL_law_525 dL_law_526 dL_law_527 dL_law_528 ?_
  refine mi_cV2l (hw := Nat.le_of_ble_eq_true rfl) h.1 dL_law_529 ml_RL_53 ym_yX5_pressure (by rfl) (by rfl) (c_X5_pressure hR.1.1 hR.1.2.2.1 hR.1.2.2.2.1 hR.1.2.2.2.2.1 (xv_r _ _) (xv_r _ _)) (fun r σ1 h5 => ?_)
  have hJ1 := JJ_same (pA_pressure h5) (RR_J hR)
  refine mi_aload_n h.1 dL_law_532 (by rfl) ?_
  refine lw_arg (k := 1) h (by omega) dL_law_533 dL_law_534 dL_law_535 dL_law_536 dL_law_537 ?_
  refine lw_arg (k := 2) h (by omega) dL_law_538 dL_law_539 dL_law_540 dL_law_541 dL_law_542 ?_
  refine mi_cV2l (hw := Nat.le_of_ble_eq_true rfl) h.1 dL_law_543 ml_RL_56 ym_yX6_pressure (by rfl) (by rfl) (c_X6_pressure hJ1.1 hJ1.2.1 hJ1.2.2.1 hJ1.2.2.2.1 hJ1.2.2.2.2.1 (xv_r _ _) (xv_r _ _)) (fun r2 σ2 h6 => ?_)
  obtain ⟨rfl, hR2⟩ := pB_pressure hR h5 h6
  exact lw_eql h.1 dL_law_546 dL_law_547 (by decide) (kk σ2 hR2)
set_option maxHeartbeats 4000000 in
theorem L_flow {K : KT} {b L i : Nat} {xs : Nat → Int32} {σ : Mem} (h : LC K b L xs) (hR : RR σ) (hi : i + 4 < L) (kk : ∀ σ2, RR σ2 → M K 1129 (lls i) [] σ2) : M K 552 (lls i) [] σ := by
  refine mi_aload_n h.1 dL_law_552 (by rfl) ?_
  refine lw_arg (k := 1) h (by omega) dL_law_553 dL_law_554 dL_law_555 dL_law_556 dL_law_557 ?_
  refine lw_arg (k := 2) h (by omega) dL_law_558 dL_law_559 dL_law_560 dL_law_561 dL_law_562 ?_
  refine mi_cV2l (hw := Nat.le_of_ble_eq_true rfl) h.1 dL_law_563 ml_RL_57 ym_yX5_flow (by rfl) (by rfl) (c_X5_flow hR.1.1 hR.1.2.2.1 hR.1.2.2.2.1 hR.1.2.2.2.2.1 (xv_r _ _) (xv_r _ _)) (fun r σ1 h5 => ?_)
  have hJ1 := JJ_same (pA_flow h5) (RR_J hR)
  refine mi_aload_n h.1 dL_law_566 (by rfl) ?_
  refine lw_arg (k := 1) h (by omega) dL_law_567 dL_law_568 dL_law_569 dL_law_570 dL_law_571 ?_
  refine lw_arg (k := 2) h (by omega) dL_law_572 dL_law_573 dL_law_574 dL_law_575 dL_law_576 ?_
  refine mi_cV2l (hw := Nat.le_of_ble_eq_true rfl) h.1 dL_law_577 ml_RL_60 ym_yX6_flow (by rfl) (by rfl) (c_X6_flow hJ1.1 hJ1.2.1 hJ1.2.2.1 hJ1.2.2.2.1 hJ1.2.2.2.2.1 (xv_r _ _) (xv_r _ _)) (fun r2 σ2 h6 => ?_)
  obtain ⟨rfl, hR2⟩ := pB_flow hR h5 h6
  exact lw_eql h.1 dL_law_580 dL_law_581 (by decide) (kk σ2 hR2)
set_option maxHeartbeats 4000000 in
theorem L_total {K : KT} {b L i : Nat} {xs : Nat → Int32} {σ : Mem} (h : LC K b L xs) (hR : RR σ) (hi : i + 4 < L) (kk : ∀ σ2, RR σ2 → M K 1129 (lls i) [] σ2) : M K 586 (lls i) [] σ := by
  refine mi_aload_n h.1 dL_law_586 (by rfl) ?_
  refine lw_arg (k := 1) h (by omega) dL_law_587 dL_law_588 dL_law_589 dL_law_590 dL_law_591 ?_
  refine mi_cV1l (hw := Nat.le_of_ble_eq_true rfl) h.1 dL_law_592 ml_RL_61 ym_yX5_total (by rfl) (by rfl) (c_X5_total hR.1.1 hR.1.2.2.1 hR.1.2.2.2.1 hR.1.2.2.2.2.1 (xv_r _ _)) (fun r σ1 h5 => ?_)
  have hJ1 := JJ_same (pA_total h5) (RR_J hR)
  refine mi_aload_n h.1 dL_law_595 (by rfl) ?_
  refine lw_arg (k := 1) h (by omega) dL_law_596 dL_law_597 dL_law_598 dL_law_599 dL_law_600 ?_
  refine mi_cV1l (hw := Nat.le_of_ble_eq_true rfl) h.1 dL_law_601 ml_RL_65 ym_yX6_total (by rfl) (by rfl) (c_X6_total hJ1.1 hJ1.2.1 hJ1.2.2.1 hJ1.2.2.2.1 hJ1.2.2.2.2.1 (xv_r _ _)) (fun r2 σ2 h6 => ?_)
  obtain ⟨rfl, hR2⟩ := pB_total hR h5 h6
  exact lw_eql h.1 dL_law_604 dL_law_605 (by decide) (kk σ2 hR2)
set_option maxHeartbeats 4000000 in
theorem L_about {K : KT} {b L i : Nat} {xs : Nat → Int32} {σ : Mem} (h : LC K b L xs) (hR : RR σ) (hi : i + 4 < L) (kk : ∀ σ2, RR σ2 → M K 1129 (lls i) [] σ2) : M K 610 (lls i) [] σ := by
  refine mi_aload_n h.1 dL_law_610 (by rfl) ?_
  refine lw_arg (k := 1) h (by omega) dL_law_611 dL_law_612 dL_law_613 dL_law_614 dL_law_615 ?_
  refine lw_arg (k := 2) h (by omega) dL_law_616 dL_law_617 dL_law_618 dL_law_619 dL_law_620 ?_
  refine mi_cV2i (hw := Nat.le_of_ble_eq_true rfl) h.1 dL_law_621 ml_RL_66 ym_yX5_about (by rfl) (by rfl) (c_X5_about hR.1.1 hR.1.2.2.1 hR.1.2.2.2.2.1 (xv_r _ _) (xv_r _ _)) (fun r σ1 h5 => ?_)
  have hJ1 := JJ_same (pA_about h5) (RR_J hR)
  refine mi_aload_n h.1 dL_law_624 (by rfl) ?_
  refine lw_arg (k := 1) h (by omega) dL_law_625 dL_law_626 dL_law_627 dL_law_628 dL_law_629 ?_
  refine lw_arg (k := 2) h (by omega) dL_law_630 dL_law_631 dL_law_632 dL_law_633 dL_law_634 ?_
  refine mi_cV2i (hw := Nat.le_of_ble_eq_true rfl) h.1 dL_law_635 ml_RL_69 ym_yX6_about (by rfl) (by rfl) (c_X6_about hJ1.1 hJ1.2.2.1 hJ1.2.2.2.1 (xv_r _ _) (xv_r _ _)) (fun r2 σ2 h6 => ?_)
  obtain ⟨rfl, hR2⟩ := pB_about hR h5 h6
  exact lw_eqi h.1 dL_law_638 (by decide) (kk σ2 hR2)
set_option maxHeartbeats 4000000 in
theorem L_worst {K : KT} {b L i : Nat} {xs : Nat → Int32} {σ : Mem} (h : LC K b L xs) (hR : RR σ) (hi : i + 4 < L) (kk : ∀ σ2, RR σ2 → M K 1129 (lls i) [] σ2) : M K 643 (lls i) [] σ := by
  refine mi_aload_n h.1 dL_law_643 (by rfl) ?_
  refine mi_cV0i (hw := Nat.le_of_ble_eq_true rfl) h.1 dL_law_644 ml_RL_70 ym_yX5_worst (by rfl) (by rfl) (c_X5_worst hR.1.1 hR.1.2.2.1 hR.1.2.2.2.1 hR.1.2.2.2.2.1) (fun r σ1 h5 => ?_)
  have hJ1 := JJ_same (pA_worst h5) (RR_J hR)
  refine mi_aload_n h.1 dL_law_647 (by rfl) ?_
  refine mi_cV0i (hw := Nat.le_of_ble_eq_true rfl) h.1 dL_law_648 ml_RL_74 ym_yX6_worst (by rfl) (by rfl) (c_X6_worst hJ1.1 hJ1.2.1 hJ1.2.2.1 hJ1.2.2.2.1 hJ1.2.2.2.2.1) (fun r2 σ2 h6 => ?_)
  obtain ⟨rfl, hR2⟩ := pB_worst hR h5 h6
  exact lw_eqi h.1 dL_law_651 (by decide) (kk σ2 hR2)
set_option maxHeartbeats 4000000 in
theorem L_heap {K : KT} {b L i : Nat} {xs : Nat → Int32} {σ : Mem} (h : LC K b L xs) (hR : RR σ) (hi : i + 4 < L) (kk : ∀ σ2, RR σ2 → M K 1129 (lls i) [] σ2) : M K 656 (lls i) [] σ := by
  refine mi_aload_n h.1 dL_law_656 (by rfl) ?_
  refine mi_cV0i (hw := Nat.le_of_ble_eq_true rfl) h.1 dL_law_657 ml_RL_75 ym_yX5_heap (by rfl) (by rfl) (c_X5_heap hR.1.1) (fun r σ1 h5 => ?_)
  have hJ1 := JJ_same (pA_heap h5) (RR_J hR)
  refine mi_aload_n h.1 dL_law_660 (by rfl) ?_
  refine mi_cV0i (hw := Nat.le_of_ble_eq_true rfl) h.1 dL_law_661 ml_RL_78 ym_yX6_heap (by rfl) (by rfl) (c_X6_heap hJ1.1) (fun r2 σ2 h6 => ?_)
  obtain ⟨rfl, hR2⟩ := pB_heap hR h5 h6
  exact lw_eqi h.1 dL_law_664 (by decide) (kk σ2 hR2)
set_option maxHeartbeats 4000000 in
theorem L_put {K : KT} {b L i : Nat} {xs : Nat → Int32} {σ : Mem} (h : LC K b L xs) (hR : RR σ) (hi : i + 4 < L) (kk : ∀ σ2, RR σ2 → M K 1129 (lls i) [] σ2) : M K 669 (lls i) [] σ := by
  refine mi_aload_n h.1 dL_law_669 (by rfl) ?_
  refine lw_arg (k := 1) h (by omega) dL_law_670 dL_law_671 dL_law_672 dL_law_673 dL_law_674 ?_
  refine lw_arg (k := 2) h (by omega) dL_law_675 dL_law_676 dL_law_677 dL_law_678 dL_law_679 ?_
  refine lw_arg (k := 3) h (by omega) dL_law_680 dL_law_681 dL_law_682 dL_law_683 dL_law_684 ?_
  refine lw_bool h.1 (xv_r _ _) dL_law_685 dL_law_688 dL_law_689 dL_law_692 ?_
  refine mi_cV3i (hw := Nat.le_of_ble_eq_true rfl) h.1 dL_law_693 ml_RL_79 ym_yX5_put (by rfl) (by rfl) (c_X5_put hR.1.1 hR.1.2.1 (xv_r _ _) (xv_r _ _) (nz_01 _)) (fun r σ1 h5 => ?_)
  have hJ1 := JJ_same (pA_put h5) (RR_J hR)
  refine mi_aload_n h.1 dL_law_696 (by rfl) ?_
  refine lw_arg (k := 1) h (by omega) dL_law_697 dL_law_698 dL_law_699 dL_law_700 dL_law_701 ?_
  refine lw_arg (k := 2) h (by omega) dL_law_702 dL_law_703 dL_law_704 dL_law_705 dL_law_706 ?_
  refine lw_arg (k := 3) h (by omega) dL_law_707 dL_law_708 dL_law_709 dL_law_710 dL_law_711 ?_
  refine lw_bool h.1 (xv_r _ _) dL_law_712 dL_law_715 dL_law_716 dL_law_719 ?_
  refine mi_cV3i (hw := Nat.le_of_ble_eq_true rfl) h.1 dL_law_720 ml_RL_83 ym_yX6_put (by rfl) (by rfl) (c_X6_put hJ1.1 hJ1.2.2.2.1 (xv_r _ _) (xv_r _ _) (nz_01 _)) (fun r2 σ2 h6 => ?_)
  obtain ⟨rfl, hR2⟩ := pB_put hR h5 h6 (nz_01 _)
  exact lw_eqi h.1 dL_law_723 (by decide) (kk σ2 hR2)
set_option maxHeartbeats 4000000 in
theorem L_least {K : KT} {b L i : Nat} {xs : Nat → Int32} {σ : Mem} (h : LC K b L xs) (hR : RR σ) (hi : i + 4 < L) (kk : ∀ σ2, RR σ2 → M K 1129 (lls i) [] σ2) : M K 728 (lls i) [] σ := by
  refine mi_aload_n h.1 dL_law_728 (by rfl) ?_
  refine lw_arg (k := 1) h (by omega) dL_law_729 dL_law_730 dL_law_731 dL_law_732 dL_law_733 ?_
  refine mi_cV1l (hw := Nat.le_of_ble_eq_true rfl) h.1 dL_law_734 ml_RL_84 ym_yX5_least (by rfl) (by rfl) (c_X5_least hR.1.1 hR.1.2.1 hR.1.2.2.1 hR.1.2.2.2.1 hR.1.2.2.2.2.1 hR.1.2.2.2.2.2.1 (xv_r _ _)) (fun r σ1 h5 => ?_)
  have hJ1 := JJ_same (pA_least h5) (RR_J hR)
  refine mi_aload_n h.1 dL_law_737 (by rfl) ?_
  refine lw_arg (k := 1) h (by omega) dL_law_738 dL_law_739 dL_law_740 dL_law_741 dL_law_742 ?_
  refine mi_cV1l (hw := Nat.le_of_ble_eq_true rfl) h.1 dL_law_743 ml_RL_87 ym_yX6_least (by rfl) (by rfl) (c_X6_least hJ1.1 hJ1.2.1 hJ1.2.2.1 hJ1.2.2.2.1 hJ1.2.2.2.2.1 (xv_r _ _)) (fun r2 σ2 h6 => ?_)
  obtain ⟨rfl, hR2⟩ := pB_least hR h5 h6
  exact lw_eql h.1 dL_law_746 dL_law_747 (by decide) (kk σ2 hR2)
set_option maxHeartbeats 4000000 in
theorem L_thinnest {K : KT} {b L i : Nat} {xs : Nat → Int32} {σ : Mem} (h : LC K b L xs) (hR : RR σ) (hi : i + 4 < L) (kk : ∀ σ2, RR σ2 → M K 1129 (lls i) [] σ2) : M K 752 (lls i) [] σ := by
  refine mi_aload_n h.1 dL_law_752 (by rfl) ?_
  refine mi_cV0i (hw := Nat.le_of_ble_eq_true rfl) h.1 dL_law_753 ml_RL_88 ym_yX5_thinnest (by rfl) (by rfl) (c_X5_thinnest hR.1.1 hR.1.2.1 hR.1.2.2.1 hR.1.2.2.2.1 hR.1.2.2.2.2.1 hR.1.2.2.2.2.2.1) (fun r σ1 h5 => ?_)
  have hJ1 := JJ_same (pA_thinnest h5) (RR_J hR)
  refine mi_aload_n h.1 dL_law_756 (by rfl) ?_
  refine mi_cV0i (hw := Nat.le_of_ble_eq_true rfl) h.1 dL_law_757 ml_RL_91 ym_yX6_thinnest (by rfl) (by rfl) (c_X6_thinnest hJ1.1 hJ1.2.1 hJ1.2.2.1 hJ1.2.2.2.1 hJ1.2.2.2.2.1) (fun r2 σ2 h6 => ?_)
  obtain ⟨rfl, hR2⟩ := pB_thinnest hR h5 h6
  exact lw_eqi h.1 dL_law_760 (by decide) (kk σ2 hR2)
set_option maxHeartbeats 4000000 in
theorem L_free {K : KT} {b L i : Nat} {xs : Nat → Int32} {σ : Mem} (h : LC K b L xs) (hR : RR σ) (hi : i + 4 < L) (kk : ∀ σ2, RR σ2 → M K 1129 (lls i) [] σ2) : M K 765 (lls i) [] σ := by
  refine mi_aload_n h.1 dL_law_765 (by rfl) ?_
  refine lw_arg (k := 1) h (by omega) dL_law_766 dL_law_767 dL_law_768 dL_law_769 dL_law_770 ?_
  refine lw_arg (k := 2) h (by omega) dL_law_771 dL_law_772 dL_law_773 dL_law_774 dL_law_775 ?_
  refine lw_bool h.1 (xv_r _ _) dL_law_776 dL_law_779 dL_law_780 dL_law_783 ?_
  refine mi_cV2i (hw := Nat.le_of_ble_eq_true rfl) h.1 dL_law_784 ml_RL_92 ym_yX5_free (by rfl) (by rfl) (c_X5_free hR.1.1 (xv_r _ _) (nz_01 _)) (fun r σ1 h5 => ?_)
  have hJ1 := JJ_same (pA_free h5) (RR_J hR)
  refine mi_aload_n h.1 dL_law_787 (by rfl) ?_
  refine lw_arg (k := 1) h (by omega) dL_law_788 dL_law_789 dL_law_790 dL_law_791 dL_law_792 ?_
  refine lw_arg (k := 2) h (by omega) dL_law_793 dL_law_794 dL_law_795 dL_law_796 dL_law_797 ?_
  refine lw_bool h.1 (xv_r _ _) dL_law_798 dL_law_801 dL_law_802 dL_law_805 ?_
  refine mi_cV2i (hw := Nat.le_of_ble_eq_true rfl) h.1 dL_law_806 ml_RL_95 ym_yX6_free (by rfl) (by rfl) (c_X6_free hJ1.1 hJ1.2.2.2.1 (xv_r _ _) (nz_01 _)) (fun r2 σ2 h6 => ?_)
  obtain ⟨rfl, hR2⟩ := pB_free hR h5 h6 (nz_01 _)
  exact lw_eqi h.1 dL_law_809 (by decide) (kk σ2 hR2)
set_option maxHeartbeats 4000000 in
theorem L_choose {K : KT} {b L i : Nat} {xs : Nat → Int32} {σ : Mem} (h : LC K b L xs) (hR : RR σ) (hi : i + 4 < L) (kk : ∀ σ2, RR σ2 → M K 1129 (lls i) [] σ2) : M K 814 (lls i) [] σ := by
  refine mi_aload_n h.1 dL_law_814 (by rfl) ?_
  refine mi_cV0l (hw := Nat.le_of_ble_eq_true rfl) h.1 dL_law_815 ml_RL_96 ym_yX5_choose (by rfl) (by rfl) (c_X5_choose hR.1.1 hR.1.2.1 hR.1.2.2.1 hR.1.2.2.2.1 hR.1.2.2.2.2.1 hR.1.2.2.2.2.2.1) (fun r σ1 h5 => ?_)
  have hJ1 := JJ_same (pA_choose h5) (RR_J hR)
  refine mi_aload_n h.1 dL_law_818 (by rfl) ?_
  refine mi_cV0l (hw := Nat.le_of_ble_eq_true rfl) h.1 dL_law_819 ml_RL_100 ym_yX6_choose (by rfl) (by rfl) (c_X6_choose hJ1.1 hJ1.2.1 hJ1.2.2.1 hJ1.2.2.2.1 hJ1.2.2.2.2.1 hJ1.2.2.2.2.2.2.2) (fun r2 σ2 h6 => ?_)
  obtain ⟨rfl, hR2⟩ := pB_choose hR h5 h6
  exact lw_eql h.1 dL_law_822 dL_law_823 (by decide) (kk σ2 hR2)
set_option maxHeartbeats 4000000 in
theorem L_bill {K : KT} {b L i : Nat} {xs : Nat → Int32} {σ : Mem} (h : LC K b L xs) (hR : RR σ) (hi : i + 4 < L) (kk : ∀ σ2, RR σ2 → M K 1129 (lls i) [] σ2) : M K 828 (lls i) [] σ := by
  refine mi_aload_n h.1 dL_law_828 (by rfl) ?_
  refine mi_cV0l (hw := Nat.le_of_ble_eq_true rfl) h.1 dL_law_829 ml_RL_101 ym_yX5_bill (by rfl) (by rfl) (c_X5_bill hR.1.1 hR.1.2.1 hR.1.2.2.1) (fun r σ1 h5 => ?_)
  have hJ1 := JJ_same (pA_bill h5) (RR_J hR)
  refine mi_aload_n h.1 dL_law_832 (by rfl) ?_
  refine mi_cV0l (hw := Nat.le_of_ble_eq_true rfl) h.1 dL_law_833 ml_RL_104 ym_yX6_bill (by rfl) (by rfl) (c_X6_bill hJ1.1 hJ1.2.1 hJ1.2.2.1) (fun r2 σ2 h6 => ?_)
  obtain ⟨rfl, hR2⟩ := pB_bill hR h5 h6
  exact lw_eql h.1 dL_law_836 dL_law_837 (by decide) (kk σ2 hR2)
set_option maxHeartbeats 4000000 in
theorem L_margin {K : KT} {b L i : Nat} {xs : Nat → Int32} {σ : Mem} (h : LC K b L xs) (hR : RR σ) (hi : i + 4 < L) (kk : ∀ σ2, RR σ2 → M K 1129 (lls i) [] σ2) : M K 842 (lls i) [] σ := by
  refine mi_aload_n h.1 dL_law_842 (by rfl) ?_
  refine lw_arg (k := 1) h (by omega) dL_law_843 dL_law_844 dL_law_845 dL_law_846 dL_law_847 ?_
  refine mi_cV1i (hw := Nat.le_of_ble_eq_true rfl) h.1 dL_law_848 ml_RL_105 ym_yX5_margin (by rfl) (by rfl) (c_X5_margin hR.1.1 hR.1.2.1 hR.1.2.2.1 hR.1.2.2.2.1 hR.1.2.2.2.2.1 hR.1.2.2.2.2.2.1 (xv_r _ _)) (fun r σ1 h5 => ?_)
  have hJ1 := JJ_same (pA_margin h5) (RR_J hR)
  refine mi_aload_n h.1 dL_law_851 (by rfl) ?_
  refine lw_arg (k := 1) h (by omega) dL_law_852 dL_law_853 dL_law_854 dL_law_855 dL_law_856 ?_
  refine mi_cV1i (hw := Nat.le_of_ble_eq_true rfl) h.1 dL_law_857 ml_RL_109 ym_yX6_margin (by rfl) (by rfl) (c_X6_margin hJ1.1 hJ1.2.1 hJ1.2.2.1 hJ1.2.2.2.1 hJ1.2.2.2.2.1 (xv_r _ _)) (fun r2 σ2 h6 => ?_)
  obtain ⟨rfl, hR2⟩ := pB_margin hR h5 h6
  exact lw_eqi h.1 dL_law_860 (by decide) (kk σ2 hR2)
set_option maxHeartbeats 4000000 in
theorem L_floor {K : KT} {b L i : Nat} {xs : Nat → Int32} {σ : Mem} (h : LC K b L xs) (hR : RR σ) (hi : i + 4 < L) (kk : ∀ σ2, RR σ2 → M K 1129 (lls i) [] σ2) : M K 865 (lls i) [] σ := by
  refine mi_aload_n h.1 dL_law_865 (by rfl) ?_
  refine lw_arg (k := 1) h (by omega) dL_law_866 dL_law_867 dL_law_868 dL_law_869 dL_law_870 ?_
  refine lw_arg (k := 2) h (by omega) dL_law_871 dL_law_872 dL_law_873 dL_law_874 dL_law_875 ?_
  refine mi_cV2i (hw := Nat.le_of_ble_eq_true rfl) h.1 dL_law_876 ml_RL_110 ym_yX5_floor (by rfl) (by rfl) (c_X5_floor (xv_r _ _) (xv_r _ _)) (fun r σ1 h5 => ?_)
  have hJ1 := JJ_same (pA_floor h5) (RR_J hR)
  refine mi_aload_n h.1 dL_law_879 (by rfl) ?_
  refine lw_arg (k := 1) h (by omega) dL_law_880 dL_law_881 dL_law_882 dL_law_883 dL_law_884 ?_
  refine lw_arg (k := 2) h (by omega) dL_law_885 dL_law_886 dL_law_887 dL_law_888 dL_law_889 ?_
  refine mi_cV2i (hw := Nat.le_of_ble_eq_true rfl) h.1 dL_law_890 ml_RL_113 ym_yX6_floor (by rfl) (by rfl) (c_X6_floor (xv_r _ _) (xv_r _ _)) (fun r2 σ2 h6 => ?_)
  obtain ⟨rfl, hR2⟩ := pB_floor hR h5 h6
  exact lw_eqi h.1 dL_law_893 (by decide) (kk σ2 hR2)
set_option maxHeartbeats 4000000 in
theorem L_cell {K : KT} {b L i : Nat} {xs : Nat → Int32} {σ : Mem} (h : LC K b L xs) (hR : RR σ) (hi : i + 4 < L) (kk : ∀ σ2, RR σ2 → M K 1129 (lls i) [] σ2) : M K 898 (lls i) [] σ := by
  refine mi_aload_n h.1 dL_law_898 (by rfl) ?_
  refine lw_arg (k := 1) h (by omega) dL_law_899 dL_law_900 dL_law_901 dL_law_902 dL_law_903 ?_
  refine lw_arg (k := 2) h (by omega) dL_law_904 dL_law_905 dL_law_906 dL_law_907 dL_law_908 ?_
  refine lw_arg (k := 3) h (by omega) dL_law_909 dL_law_910 dL_law_911 dL_law_912 dL_law_913 ?_
  refine mi_cV3i (hw := Nat.le_of_ble_eq_true rfl) h.1 dL_law_914 ml_RL_114 ym_yX5_cell (by rfl) (by rfl) (c_X5_cell hR.1.2.2.2.2.2.2 (xv_r _ _) (xv_r _ _) (xv_r _ _)) (fun r σ1 h5 => ?_)
  have hJ1 := JJ_same (pA_cell h5) (RR_J hR)
  refine mi_aload_n h.1 dL_law_917 (by rfl) ?_
  refine lw_arg (k := 1) h (by omega) dL_law_918 dL_law_919 dL_law_920 dL_law_921 dL_law_922 ?_
  refine lw_arg (k := 2) h (by omega) dL_law_923 dL_law_924 dL_law_925 dL_law_926 dL_law_927 ?_
  refine lw_arg (k := 3) h (by omega) dL_law_928 dL_law_929 dL_law_930 dL_law_931 dL_law_932 ?_
  refine mi_cV3i (hw := Nat.le_of_ble_eq_true rfl) h.1 dL_law_933 ml_RL_117 ym_yX6_cell (by rfl) (by rfl) (c_X6_cell hJ1.1 hJ1.2.2.2.1 hJ1.2.2.2.2.2.1 (xv_r _ _) (xv_r _ _) (xv_r _ _)) (fun r2 σ2 h6 => ?_)
  obtain ⟨rfl, hR2⟩ := pB_cell hR h5 h6
  exact lw_eqi h.1 dL_law_936 (by decide) (kk σ2 hR2)
set_option maxHeartbeats 4000000 in
theorem L_stand {K : KT} {b L i : Nat} {xs : Nat → Int32} {σ : Mem} (h : LC K b L xs) (hR : RR σ) (hi : i + 4 < L) (kk : ∀ σ2, RR σ2 → M K 1129 (lls i) [] σ2) : M K 941 (lls i) [] σ := by
  refine mi_aload_n h.1 dL_law_941 (by rfl) ?_
  refine lw_arg (k := 1) h (by omega) dL_law_942 dL_law_943 dL_law_944 dL_law_945 dL_law_946 ?_
  refine lw_arg (k := 2) h (by omega) dL_law_947 dL_law_948 dL_law_949 dL_law_950 dL_law_951 ?_
  refine lw_arg (k := 3) h (by omega) dL_law_952 dL_law_953 dL_law_954 dL_law_955 dL_law_956 ?_
  refine lw_arg (k := 4) h (by omega) dL_law_957 dL_law_958 dL_law_959 dL_law_960 dL_law_961 ?_
  refine mi_cV4i (hw := Nat.le_of_ble_eq_true rfl) h.1 dL_law_962 ml_RL_118 ym_yX5_stand (by rfl) (by rfl) (c_X5_stand hR.1.1 hR.1.2.2.2.2.2.2 (xv_r _ _) (xv_r _ _) (xv_r _ _) (xv_r _ _)) (fun r σ1 h5 => ?_)
  have hJ1 := JJ_same (pA_stand h5) (RR_J hR)
  refine mi_aload_n h.1 dL_law_965 (by rfl) ?_
  refine lw_arg (k := 1) h (by omega) dL_law_966 dL_law_967 dL_law_968 dL_law_969 dL_law_970 ?_
  refine lw_arg (k := 2) h (by omega) dL_law_971 dL_law_972 dL_law_973 dL_law_974 dL_law_975 ?_
  refine lw_arg (k := 3) h (by omega) dL_law_976 dL_law_977 dL_law_978 dL_law_979 dL_law_980 ?_
  refine lw_arg (k := 4) h (by omega) dL_law_981 dL_law_982 dL_law_983 dL_law_984 dL_law_985 ?_
  refine mi_cV4i (hw := Nat.le_of_ble_eq_true rfl) h.1 dL_law_986 ml_RL_122 ym_yX6_stand (by rfl) (by rfl) (c_X6_stand hJ1.1 hJ1.2.2.2.1 hJ1.2.2.2.2.2.1 (xv_r _ _) (xv_r _ _) (xv_r _ _) (xv_r _ _)) (fun r2 σ2 h6 => ?_)
  obtain ⟨rfl, hR2⟩ := pB_stand hR h5 h6
  exact lw_eqi h.1 dL_law_989 (by decide) (kk σ2 hR2)
set_option maxHeartbeats 4000000 in
theorem L_lift {K : KT} {b L i : Nat} {xs : Nat → Int32} {σ : Mem} (h : LC K b L xs) (hR : RR σ) (hi : i + 4 < L) (kk : ∀ σ2, RR σ2 → M K 1129 (lls i) [] σ2) : M K 994 (lls i) [] σ := by
  refine mi_aload_n h.1 dL_law_994 (by rfl) ?_
  refine lw_arg (k := 1) h (by omega) dL_law_995 dL_law_996 dL_law_997 dL_law_998 dL_law_999 ?_
  refine mi_cV1i (hw := Nat.le_of_ble_eq_true rfl) h.1 dL_law_1000 ml_RL_123 ym_yX5_lift (by rfl) (by rfl) (c_X5_lift hR.1.1 hR.1.2.2.2.2.2.2 (xv_r _ _)) (fun r σ1 h5 => ?_)
  have hJ1 := JJ_same (pA_lift h5) (RR_J hR)
  refine mi_aload_n h.1 dL_law_1003 (by rfl) ?_
  refine lw_arg (k := 1) h (by omega) dL_law_1004 dL_law_1005 dL_law_1006 dL_law_1007 dL_law_1008 ?_
  refine mi_cV1i (hw := Nat.le_of_ble_eq_true rfl) h.1 dL_law_1009 ml_RL_126 ym_yX6_lift (by rfl) (by rfl) (c_X6_lift hJ1.1 hJ1.2.2.2.1 (xv_r _ _)) (fun r2 σ2 h6 => ?_)
  obtain ⟨rfl, hR2⟩ := pB_lift hR h5 h6
  exact lw_eqi h.1 dL_law_1012 (by decide) (kk σ2 hR2)
set_option maxHeartbeats 4000000 in
theorem L_wets {K : KT} {b L i : Nat} {xs : Nat → Int32} {σ : Mem} (h : LC K b L xs) (hR : RR σ) (hi : i + 4 < L) (kk : ∀ σ2, RR σ2 → M K 1129 (lls i) [] σ2) : M K 1017 (lls i) [] σ := by
  refine mi_aload_n h.1 dL_law_1017 (by rfl) ?_
  refine lw_arg (k := 1) h (by omega) dL_law_1018 dL_law_1019 dL_law_1020 dL_law_1021 dL_law_1022 ?_
  refine lw_arg (k := 2) h (by omega) dL_law_1023 dL_law_1024 dL_law_1025 dL_law_1026 dL_law_1027 ?_
  refine lw_arg (k := 3) h (by omega) dL_law_1028 dL_law_1029 dL_law_1030 dL_law_1031 dL_law_1032 ?_
  refine mi_cV3i (hw := Nat.le_of_ble_eq_true rfl) h.1 dL_law_1033 ml_RL_127 ym_yX5_wets (by rfl) (by rfl) (c_X5_wets hR.1.1 hR.1.2.2.2.2.2.2 (xv_r _ _) (xv_r _ _) (xv_r _ _)) (fun r σ1 h5 => ?_)
  have hJ1 := JJ_same (pA_wets h5) (RR_J hR)
  refine mi_aload_n h.1 dL_law_1036 (by rfl) ?_
  refine lw_arg (k := 1) h (by omega) dL_law_1037 dL_law_1038 dL_law_1039 dL_law_1040 dL_law_1041 ?_
  refine lw_arg (k := 2) h (by omega) dL_law_1042 dL_law_1043 dL_law_1044 dL_law_1045 dL_law_1046 ?_
  refine lw_arg (k := 3) h (by omega) dL_law_1047 dL_law_1048 dL_law_1049 dL_law_1050 dL_law_1051 ?_
  refine mi_cV3i (hw := Nat.le_of_ble_eq_true rfl) h.1 dL_law_1052 ml_RL_130 ym_yX6_wets (by rfl) (by rfl) (c_X6_wets hJ1.1 hJ1.2.2.2.1 hJ1.2.2.2.2.2.1 (xv_r _ _) (xv_r _ _) (xv_r _ _)) (fun r2 σ2 h6 => ?_)
  obtain ⟨rfl, hR2⟩ := pB_wets hR h5 h6
  exact lw_eqi h.1 dL_law_1055 (by decide) (kk σ2 hR2)
set_option maxHeartbeats 4000000 in
theorem L_dry {K : KT} {b L i : Nat} {xs : Nat → Int32} {σ : Mem} (h : LC K b L xs) (hR : RR σ) (hi : i + 4 < L) (kk : ∀ σ2, RR σ2 → M K 1129 (lls i) [] σ2) : M K 1060 (lls i) [] σ := by
  refine mi_aload_n h.1 dL_law_1060 (by rfl) ?_
  refine lw_arg (k := 1) h (by omega) dL_law_1061 dL_law_1062 dL_law_1063 dL_law_1064 dL_law_1065 ?_
  refine mi_cV1i (hw := Nat.le_of_ble_eq_true rfl) h.1 dL_law_1066 ml_RL_131 ym_yX5_dry (by rfl) (by rfl) (c_X5_dry hR.1.2.2.2.2.2.2 (xv_r _ _)) (fun r σ1 h5 => ?_)
  have hJ1 := JJ_same (pA_dry h5) (RR_J hR)
  refine mi_aload_n h.1 dL_law_1069 (by rfl) ?_
  refine lw_arg (k := 1) h (by omega) dL_law_1070 dL_law_1071 dL_law_1072 dL_law_1073 dL_law_1074 ?_
  refine mi_cV1i (hw := Nat.le_of_ble_eq_true rfl) h.1 dL_law_1075 ml_RL_134 ym_yX6_dry (by rfl) (by rfl) (c_X6_dry hJ1.1 hJ1.2.2.2.1 hJ1.2.2.2.2.2.1 hJ1.2.2.2.2.2.2.1 (xv_r _ _)) (fun r2 σ2 h6 => ?_)
  obtain ⟨rfl, hR2⟩ := pB_dry hR h5 h6
  exact lw_eqi h.1 dL_law_1078 (by decide) (kk σ2 hR2)
set_option maxHeartbeats 4000000 in
theorem L_near {K : KT} {b L i : Nat} {xs : Nat → Int32} {σ : Mem} (h : LC K b L xs) (hR : RR σ) (hi : i + 4 < L) (kk : ∀ σ2, RR σ2 → M K 1129 (lls i) [] σ2) : M K 1083 (lls i) [] σ := by
  refine mi_aload_n h.1 dL_law_1083 (by rfl) ?_
  refine lw_arg (k := 1) h (by omega) dL_law_1084 dL_law_1085 dL_law_1086 dL_law_1087 dL_law_1088 ?_
  refine mi_cV1i (hw := Nat.le_of_ble_eq_true rfl) h.1 dL_law_1089 ml_RL_135 ym_yX5_near (by rfl) (by rfl) (c_X5_near hR.1.2.2.2.2.2.2 (xv_r _ _)) (fun r σ1 h5 => ?_)
  have hJ1 := JJ_same (pA_near h5) (RR_J hR)
  refine mi_aload_n h.1 dL_law_1092 (by rfl) ?_
  refine lw_arg (k := 1) h (by omega) dL_law_1093 dL_law_1094 dL_law_1095 dL_law_1096 dL_law_1097 ?_
  refine mi_cV1i (hw := Nat.le_of_ble_eq_true rfl) h.1 dL_law_1098 ml_RL_138 ym_yX6_near (by rfl) (by rfl) (c_X6_near hJ1.1 hJ1.2.2.2.1 hJ1.2.2.2.2.2.1 hJ1.2.2.2.2.2.2.1 (xv_r _ _)) (fun r2 σ2 h6 => ?_)
  obtain ⟨rfl, hR2⟩ := pB_near hR h5 h6
  exact lw_eqi h.1 dL_law_1101 (by decide) (kk σ2 hR2)
set_option maxHeartbeats 4000000 in
theorem L_told {K : KT} {b L i : Nat} {xs : Nat → Int32} {σ : Mem} (h : LC K b L xs) (hR : RR σ) (hi : i + 4 < L) (kk : ∀ σ2, RR σ2 → M K 1129 (lls i) [] σ2) : M K 1106 (lls i) [] σ := by
  refine mi_aload_n h.1 dL_law_1106 (by rfl) ?_
  refine lw_arg (k := 1) h (by omega) dL_law_1107 dL_law_1108 dL_law_1109 dL_law_1110 dL_law_1111 ?_
  refine mi_cV1i (hw := Nat.le_of_ble_eq_true rfl) h.1 dL_law_1112 ml_RL_139 ym_yX5_told (by rfl) (by rfl) (c_X5_told hR.1.1 hR.1.2.2.2.2.2.2 (xv_r _ _)) (fun r σ1 h5 => ?_)
  have hJ1 := JJ_same (pA_told h5) (RR_J hR)
  refine mi_aload_n h.1 dL_law_1115 (by rfl) ?_
  refine lw_arg (k := 1) h (by omega) dL_law_1116 dL_law_1117 dL_law_1118 dL_law_1119 dL_law_1120 ?_
  refine mi_cV1i (hw := Nat.le_of_ble_eq_true rfl) h.1 dL_law_1121 ml_RL_142 ym_yX6_told (by rfl) (by rfl) (c_X6_told hJ1.1 hJ1.2.2.2.1 hJ1.2.2.2.2.2.1 (xv_r _ _)) (fun r2 σ2 h6 => ?_)
  obtain ⟨rfl, hR2⟩ := pB_told hR h5 h6
  exact lw_eqi h.1 dL_law_1124 (by decide) (kk σ2 hR2)
