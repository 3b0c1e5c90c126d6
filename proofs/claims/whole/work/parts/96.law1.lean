set_option maxHeartbeats 4000000 in
set_option maxRecDepth 100000 in
theorem lw_c0 {b L i : Nat} {xs : Nat → Int32} {S : St} {N : Nat → Nat → Int64} {X : St} {Y : Nat → Int64} (R : Rel S N X Y) (hL : L ≤ 3072) (hi : i + 6 ≤ L) (K : ∀ h, RH h → GoL b L xs 1564 i [] h) : GoL b L xs 228 i [] (hp S N X Y) := by
  refine gl_x (q := 229) dL_law_228 rfl ?_
  refine gl_arg 1 (q := 234) dL_law_229 dL_law_230 dL_law_231 dL_law_232 dL_law_233 (by omega) hL rfl ?_
  refine gl_arg 2 (q := 239) dL_law_234 dL_law_235 dL_law_236 dL_law_237 dL_law_238 (by omega) hL rfl ?_
  refine gl_inv (a := 0) (As := [.int (xs (i + 1)), .int (xs (i + 2))]) (q := 242) dL_law_239 lk_L_13 (by decide) (by decide) (by decide) (by decide) hp_0 rfl rfl (p_soil R) (fun v1 h1 hq => ?_)
  obtain ⟨⟨z, rfl⟩, ⟨fs, h69⟩, hq⟩ := hq
  refine gl_m (q := 243) dL_law_242 rfl ?_
  refine gl_arg 1 (q := 248) dL_law_243 dL_law_244 dL_law_245 dL_law_246 dL_law_247 (by omega) hL rfl ?_
  refine gl_arg 2 (q := 253) dL_law_248 dL_law_249 dL_law_250 dL_law_251 dL_law_252 (by omega) hL rfl ?_
  refine gl_inv (a := 69) (As := [.int (xs (i + 1)), .int (xs (i + 2))]) (q := 256) dL_law_253 lk_L_17 (by decide) (by decide) (Nat.le_of_ble_eq_true rfl) (by decide) h69 rfl rfl hq (fun v2 h2 hq2 => ?_)
  obtain ⟨rfl, hR⟩ := hq2
  exact gl_eq (tgt := 1564) dL_law_256 (by decide) (K h2 hR)

set_option maxHeartbeats 4000000 in
set_option maxRecDepth 100000 in
theorem lw_c1 {b L i : Nat} {xs : Nat → Int32} {S : St} {N : Nat → Nat → Int64} {X : St} {Y : Nat → Int64} (R : Rel S N X Y) (hL : L ≤ 3072) (hi : i + 6 ≤ L) (K : ∀ h, RH h → GoL b L xs 1564 i [] h) : GoL b L xs 261 i [] (hp S N X Y) := by
  refine gl_x (q := 262) dL_law_261 rfl ?_
  refine gl_arg 1 (q := 267) dL_law_262 dL_law_263 dL_law_264 dL_law_265 dL_law_266 (by omega) hL rfl ?_
  refine gl_arg 2 (q := 272) dL_law_267 dL_law_268 dL_law_269 dL_law_270 dL_law_271 (by omega) hL rfl ?_
  refine gl_inv (a := 0) (As := [.int (xs (i + 1)), .int (xs (i + 2))]) (q := 275) dL_law_272 lk_L_18 (by decide) (by decide) (by decide) (by decide) hp_0 rfl rfl (p_price R) (fun v1 h1 hq => ?_)
  obtain ⟨⟨z, rfl⟩, ⟨fs, h69⟩, hq⟩ := hq
  refine gl_m (q := 276) dL_law_275 rfl ?_
  refine gl_arg 1 (q := 281) dL_law_276 dL_law_277 dL_law_278 dL_law_279 dL_law_280 (by omega) hL rfl ?_
  refine gl_arg 2 (q := 286) dL_law_281 dL_law_282 dL_law_283 dL_law_284 dL_law_285 (by omega) hL rfl ?_
  refine gl_inv (a := 69) (As := [.int (xs (i + 1)), .int (xs (i + 2))]) (q := 289) dL_law_286 lk_L_21 (by decide) (by decide) (Nat.le_of_ble_eq_true rfl) (by decide) h69 rfl rfl hq (fun v2 h2 hq2 => ?_)
  obtain ⟨rfl, hR⟩ := hq2
  exact gl_eq (tgt := 1564) dL_law_289 (by decide) (K h2 hR)

set_option maxHeartbeats 4000000 in
set_option maxRecDepth 100000 in
theorem lw_c2 {b L i : Nat} {xs : Nat → Int32} {S : St} {N : Nat → Nat → Int64} {X : St} {Y : Nat → Int64} (R : Rel S N X Y) (hL : L ≤ 3072) (hi : i + 6 ≤ L) (K : ∀ h, RH h → GoL b L xs 1564 i [] h) : GoL b L xs 294 i [] (hp S N X Y) := by
  refine gl_x (q := 295) dL_law_294 rfl ?_
  refine gl_arg 1 (q := 300) dL_law_295 dL_law_296 dL_law_297 dL_law_298 dL_law_299 (by omega) hL rfl ?_
  refine gl_arg 2 (q := 305) dL_law_300 dL_law_301 dL_law_302 dL_law_303 dL_law_304 (by omega) hL rfl ?_
  refine gl_arg 3 (q := 310) dL_law_305 dL_law_306 dL_law_307 dL_law_308 dL_law_309 (by omega) hL rfl ?_
  refine gl_inv (a := 0) (As := [.int (xs (i + 1)), .int (xs (i + 2)), .int (xs (i + 3))]) (q := 313) dL_law_310 lk_L_22 (by decide) (by decide) (by decide) (by decide) hp_0 rfl rfl (p_coin R) (fun v1 h1 hq => ?_)
  obtain ⟨⟨z, rfl⟩, ⟨fs, h69⟩, hq⟩ := hq
  refine gl_m (q := 314) dL_law_313 rfl ?_
  refine gl_arg 1 (q := 319) dL_law_314 dL_law_315 dL_law_316 dL_law_317 dL_law_318 (by omega) hL rfl ?_
  refine gl_arg 2 (q := 324) dL_law_319 dL_law_320 dL_law_321 dL_law_322 dL_law_323 (by omega) hL rfl ?_
  refine gl_arg 3 (q := 329) dL_law_324 dL_law_325 dL_law_326 dL_law_327 dL_law_328 (by omega) hL rfl ?_
  refine gl_inv (a := 69) (As := [.int (xs (i + 1)), .int (xs (i + 2)), .int (xs (i + 3))]) (q := 332) dL_law_329 lk_L_26 (by decide) (by decide) (Nat.le_of_ble_eq_true rfl) (by decide) h69 rfl rfl hq (fun v2 h2 hq2 => ?_)
  obtain ⟨rfl, hR⟩ := hq2
  exact gl_eq (tgt := 1564) dL_law_332 (by decide) (K h2 hR)

set_option maxHeartbeats 4000000 in
set_option maxRecDepth 100000 in
theorem lw_c3 {b L i : Nat} {xs : Nat → Int32} {S : St} {N : Nat → Nat → Int64} {X : St} {Y : Nat → Int64} (R : Rel S N X Y) (hL : L ≤ 3072) (hi : i + 6 ≤ L) (K : ∀ h, RH h → GoL b L xs 1564 i [] h) : GoL b L xs 337 i [] (hp S N X Y) := by
  refine gl_x (q := 338) dL_law_337 rfl ?_
  refine gl_arg 1 (q := 343) dL_law_338 dL_law_339 dL_law_340 dL_law_341 dL_law_342 (by omega) hL rfl ?_
  refine gl_arg 2 (q := 348) dL_law_343 dL_law_344 dL_law_345 dL_law_346 dL_law_347 (by omega) hL rfl ?_
  refine gl_inv (a := 0) (As := [.int (xs (i + 1)), .int (xs (i + 2))]) (q := 351) dL_law_348 lk_L_27 (by decide) (by decide) (by decide) (by decide) hp_0 rfl rfl (p_of R) (fun v1 h1 hq => ?_)
  obtain ⟨⟨z, rfl⟩, ⟨fs, h69⟩, hq⟩ := hq
  refine gl_m (q := 352) dL_law_351 rfl ?_
  refine gl_arg 1 (q := 357) dL_law_352 dL_law_353 dL_law_354 dL_law_355 dL_law_356 (by omega) hL rfl ?_
  refine gl_arg 2 (q := 362) dL_law_357 dL_law_358 dL_law_359 dL_law_360 dL_law_361 (by omega) hL rfl ?_
  refine gl_inv (a := 69) (As := [.int (xs (i + 1)), .int (xs (i + 2))]) (q := 365) dL_law_362 lk_L_30 (by decide) (by decide) (Nat.le_of_ble_eq_true rfl) (by decide) h69 rfl rfl hq (fun v2 h2 hq2 => ?_)
  obtain ⟨rfl, hR⟩ := hq2
  exact gl_eq (tgt := 1564) dL_law_365 (by decide) (K h2 hR)

set_option maxHeartbeats 4000000 in
set_option maxRecDepth 100000 in
theorem lw_c4 {b L i : Nat} {xs : Nat → Int32} {S : St} {N : Nat → Nat → Int64} {X : St} {Y : Nat → Int64} (R : Rel S N X Y) (hL : L ≤ 3072) (hi : i + 6 ≤ L) (K : ∀ h, RH h → GoL b L xs 1564 i [] h) : GoL b L xs 370 i [] (hp S N X Y) := by
  refine gl_x (q := 371) dL_law_370 rfl ?_
  refine gl_arg 1 (q := 376) dL_law_371 dL_law_372 dL_law_373 dL_law_374 dL_law_375 (by omega) hL rfl ?_
  refine gl_arg 2 (q := 381) dL_law_376 dL_law_377 dL_law_378 dL_law_379 dL_law_380 (by omega) hL rfl ?_
  refine gl_arg 3 (q := 386) dL_law_381 dL_law_382 dL_law_383 dL_law_384 dL_law_385 (by omega) hL rfl ?_
  refine gl_inv (a := 0) (As := [.int (xs (i + 1)), .int (xs (i + 2)), .int (xs (i + 3))]) (q := 389) dL_law_386 lk_L_31 (by decide) (by decide) (by decide) (by decide) hp_0 rfl rfl (p_set R) (fun v1 h1 hq => ?_)
  obtain ⟨⟨z, rfl⟩, ⟨fs, h69⟩, hq⟩ := hq
  refine gl_m (q := 390) dL_law_389 rfl ?_
  refine gl_arg 1 (q := 395) dL_law_390 dL_law_391 dL_law_392 dL_law_393 dL_law_394 (by omega) hL rfl ?_
  refine gl_arg 2 (q := 400) dL_law_395 dL_law_396 dL_law_397 dL_law_398 dL_law_399 (by omega) hL rfl ?_
  refine gl_arg 3 (q := 405) dL_law_400 dL_law_401 dL_law_402 dL_law_403 dL_law_404 (by omega) hL rfl ?_
  refine gl_inv (a := 69) (As := [.int (xs (i + 1)), .int (xs (i + 2)), .int (xs (i + 3))]) (q := 408) dL_law_405 lk_L_34 (by decide) (by decide) (Nat.le_of_ble_eq_true rfl) (by decide) h69 rfl rfl hq (fun v2 h2 hq2 => ?_)
  obtain ⟨rfl, hR⟩ := hq2
  exact gl_eq (tgt := 1564) dL_law_408 (by decide) (K h2 hR)

set_option maxHeartbeats 4000000 in
set_option maxRecDepth 100000 in
theorem lw_c5 {b L i : Nat} {xs : Nat → Int32} {S : St} {N : Nat → Nat → Int64} {X : St} {Y : Nat → Int64} (R : Rel S N X Y) (hL : L ≤ 3072) (hi : i + 6 ≤ L) (K : ∀ h, RH h → GoL b L xs 1564 i [] h) : GoL b L xs 413 i [] (hp S N X Y) := by
  refine gl_x (q := 414) dL_law_413 rfl ?_
  refine gl_arg 1 (q := 419) dL_law_414 dL_law_415 dL_law_416 dL_law_417 dL_law_418 (by omega) hL rfl ?_
  refine gl_arg 2 (q := 424) dL_law_419 dL_law_420 dL_law_421 dL_law_422 dL_law_423 (by omega) hL rfl ?_
  refine gl_inv (a := 0) (As := [.int (xs (i + 1)), .int (xs (i + 2))]) (q := 427) dL_law_424 lk_L_35 (by decide) (by decide) (by decide) (by decide) hp_0 rfl rfl (p_turn R) (fun v1 h1 hq => ?_)
  obtain ⟨⟨z, rfl⟩, ⟨fs, h69⟩, hq⟩ := hq
  refine gl_m (q := 428) dL_law_427 rfl ?_
  refine gl_arg 1 (q := 433) dL_law_428 dL_law_429 dL_law_430 dL_law_431 dL_law_432 (by omega) hL rfl ?_
  refine gl_arg 2 (q := 438) dL_law_433 dL_law_434 dL_law_435 dL_law_436 dL_law_437 (by omega) hL rfl ?_
  refine gl_inv (a := 69) (As := [.int (xs (i + 1)), .int (xs (i + 2))]) (q := 441) dL_law_438 lk_L_38 (by decide) (by decide) (Nat.le_of_ble_eq_true rfl) (by decide) h69 rfl rfl hq (fun v2 h2 hq2 => ?_)
  obtain ⟨rfl, hR⟩ := hq2
  exact gl_eq (tgt := 1564) dL_law_441 (by decide) (K h2 hR)

set_option maxHeartbeats 4000000 in
set_option maxRecDepth 100000 in
theorem lw_c6 {b L i : Nat} {xs : Nat → Int32} {S : St} {N : Nat → Nat → Int64} {X : St} {Y : Nat → Int64} (R : Rel S N X Y) (hL : L ≤ 3072) (hi : i + 6 ≤ L) (K : ∀ h, RH h → GoL b L xs 1564 i [] h) : GoL b L xs 446 i [] (hp S N X Y) := by
  refine gl_x (q := 447) dL_law_446 rfl ?_
  refine gl_arg 1 (q := 452) dL_law_447 dL_law_448 dL_law_449 dL_law_450 dL_law_451 (by omega) hL rfl ?_
  refine gl_arg 2 (q := 457) dL_law_452 dL_law_453 dL_law_454 dL_law_455 dL_law_456 (by omega) hL rfl ?_
  refine gl_inv (a := 0) (As := [.int (xs (i + 1)), .int (xs (i + 2))]) (q := 460) dL_law_457 lk_L_39 (by decide) (by decide) (by decide) (by decide) hp_0 rfl rfl (p_as R) (fun v1 h1 hq => ?_)
  obtain ⟨⟨z, rfl⟩, ⟨fs, h69⟩, hq⟩ := hq
  refine gl_m (q := 461) dL_law_460 rfl ?_
  refine gl_arg 1 (q := 466) dL_law_461 dL_law_462 dL_law_463 dL_law_464 dL_law_465 (by omega) hL rfl ?_
  refine gl_arg 2 (q := 471) dL_law_466 dL_law_467 dL_law_468 dL_law_469 dL_law_470 (by omega) hL rfl ?_
  refine gl_inv (a := 69) (As := [.int (xs (i + 1)), .int (xs (i + 2))]) (q := 474) dL_law_471 lk_L_42 (by decide) (by decide) (Nat.le_of_ble_eq_true rfl) (by decide) h69 rfl rfl hq (fun v2 h2 hq2 => ?_)
  obtain ⟨rfl, hR⟩ := hq2
  exact gl_eq (tgt := 1564) dL_law_474 (by decide) (K h2 hR)

set_option maxHeartbeats 4000000 in
set_option maxRecDepth 100000 in
theorem lw_c7 {b L i : Nat} {xs : Nat → Int32} {S : St} {N : Nat → Nat → Int64} {X : St} {Y : Nat → Int64} (R : Rel S N X Y) (hL : L ≤ 3072) (hi : i + 6 ≤ L) (K : ∀ h, RH h → GoL b L xs 1564 i [] h) : GoL b L xs 479 i [] (hp S N X Y) := by
  refine gl_x (q := 480) dL_law_479 rfl ?_
  refine gl_arg 1 (q := 485) dL_law_480 dL_law_481 dL_law_482 dL_law_483 dL_law_484 (by omega) hL rfl ?_
  refine gl_arg 2 (q := 490) dL_law_485 dL_law_486 dL_law_487 dL_law_488 dL_law_489 (by omega) hL rfl ?_
  refine gl_inv (a := 0) (As := [.int (xs (i + 1)), .int (xs (i + 2))]) (q := 493) dL_law_490 lk_L_43 (by decide) (by decide) (by decide) (by decide) hp_0 rfl rfl (p_swap R) (fun v1 h1 hq => ?_)
  obtain ⟨⟨z, rfl⟩, ⟨fs, h69⟩, hq⟩ := hq
  refine gl_m (q := 494) dL_law_493 rfl ?_
  refine gl_arg 1 (q := 499) dL_law_494 dL_law_495 dL_law_496 dL_law_497 dL_law_498 (by omega) hL rfl ?_
  refine gl_arg 2 (q := 504) dL_law_499 dL_law_500 dL_law_501 dL_law_502 dL_law_503 (by omega) hL rfl ?_
  refine gl_inv (a := 69) (As := [.int (xs (i + 1)), .int (xs (i + 2))]) (q := 507) dL_law_504 lk_L_46 (by decide) (by decide) (Nat.le_of_ble_eq_true rfl) (by decide) h69 rfl rfl hq (fun v2 h2 hq2 => ?_)
  obtain ⟨rfl, hR⟩ := hq2
  exact gl_eq (tgt := 1564) dL_law_507 (by decide) (K h2 hR)

set_option maxHeartbeats 4000000 in
set_option maxRecDepth 100000 in
theorem lw_c8 {b L i : Nat} {xs : Nat → Int32} {S : St} {N : Nat → Nat → Int64} {X : St} {Y : Nat → Int64} (R : Rel S N X Y) (hL : L ≤ 3072) (hi : i + 6 ≤ L) (K : ∀ h, RH h → GoL b L xs 1564 i [] h) : GoL b L xs 512 i [] (hp S N X Y) := by
  refine gl_x (q := 513) dL_law_512 rfl ?_
  refine gl_arg 1 (q := 518) dL_law_513 dL_law_514 dL_law_515 dL_law_516 dL_law_517 (by omega) hL rfl ?_
  refine gl_inv (a := 0) (As := [.int (xs (i + 1))]) (q := 521) dL_law_518 lk_L_47 (by decide) (by decide) (by decide) (by decide) hp_0 rfl rfl (p_plant R) (fun v1 h1 hq => ?_)
  obtain ⟨⟨z, rfl⟩, ⟨fs, h69⟩, hq⟩ := hq
  refine gl_m (q := 522) dL_law_521 rfl ?_
  refine gl_arg 1 (q := 527) dL_law_522 dL_law_523 dL_law_524 dL_law_525 dL_law_526 (by omega) hL rfl ?_
  refine gl_inv (a := 69) (As := [.int (xs (i + 1))]) (q := 530) dL_law_527 lk_L_51 (by decide) (by decide) (Nat.le_of_ble_eq_true rfl) (by decide) h69 rfl rfl hq (fun v2 h2 hq2 => ?_)
  obtain ⟨rfl, hR⟩ := hq2
  exact gl_eq (tgt := 1564) dL_law_530 (by decide) (K h2 hR)

set_option maxHeartbeats 4000000 in
set_option maxRecDepth 100000 in
theorem lw_c9 {b L i : Nat} {xs : Nat → Int32} {S : St} {N : Nat → Nat → Int64} {X : St} {Y : Nat → Int64} (R : Rel S N X Y) (hL : L ≤ 3072) (hi : i + 6 ≤ L) (K : ∀ h, RH h → GoL b L xs 1564 i [] h) : GoL b L xs 535 i [] (hp S N X Y) := by
  refine gl_x (q := 536) dL_law_535 rfl ?_
  refine gl_arg 1 (q := 541) dL_law_536 dL_law_537 dL_law_538 dL_law_539 dL_law_540 (by omega) hL rfl ?_
  refine gl_inv (a := 0) (As := [.int (xs (i + 1))]) (q := 544) dL_law_541 lk_L_52 (by decide) (by decide) (by decide) (by decide) hp_0 rfl rfl (p_purse R) (fun v1 h1 hq => ?_)
  obtain ⟨⟨z, rfl⟩, ⟨fs, h69⟩, hq⟩ := hq
  refine gl_m (q := 545) dL_law_544 rfl ?_
  refine gl_arg 1 (q := 550) dL_law_545 dL_law_546 dL_law_547 dL_law_548 dL_law_549 (by omega) hL rfl ?_
  refine gl_inv (a := 69) (As := [.int (xs (i + 1))]) (q := 553) dL_law_550 lk_L_55 (by decide) (by decide) (Nat.le_of_ble_eq_true rfl) (by decide) h69 rfl rfl hq (fun v2 h2 hq2 => ?_)
  obtain ⟨rfl, hR⟩ := hq2
  exact gl_eq (tgt := 1564) dL_law_553 (by decide) (K h2 hR)

set_option maxHeartbeats 4000000 in
set_option maxRecDepth 100000 in
theorem lw_c10 {b L i : Nat} {xs : Nat → Int32} {S : St} {N : Nat → Nat → Int64} {X : St} {Y : Nat → Int64} (R : Rel S N X Y) (hL : L ≤ 3072) (hi : i + 6 ≤ L) (K : ∀ h, RH h → GoL b L xs 1564 i [] h) : GoL b L xs 558 i [] (hp S N X Y) := by
  refine gl_x (q := 559) dL_law_558 rfl ?_
  refine gl_arg 1 (q := 564) dL_law_559 dL_law_560 dL_law_561 dL_law_562 dL_law_563 (by omega) hL rfl ?_
  refine gl_arg 2 (q := 569) dL_law_564 dL_law_565 dL_law_566 dL_law_567 dL_law_568 (by omega) hL rfl ?_
  refine gl_arg 3 (q := 574) dL_law_569 dL_law_570 dL_law_571 dL_law_572 dL_law_573 (by omega) hL rfl ?_
  refine gl_inv (a := 0) (As := [.int (xs (i + 1)), .int (xs (i + 2)), .int (xs (i + 3))]) (q := 577) dL_law_574 lk_L_56 (by decide) (by decide) (by decide) (by decide) hp_0 rfl rfl (p_pay R) (fun v1 h1 hq => ?_)
  obtain ⟨⟨z, rfl⟩, ⟨fs, h69⟩, hq⟩ := hq
  refine gl_m (q := 578) dL_law_577 rfl ?_
  refine gl_arg 1 (q := 583) dL_law_578 dL_law_579 dL_law_580 dL_law_581 dL_law_582 (by omega) hL rfl ?_
  refine gl_arg 2 (q := 588) dL_law_583 dL_law_584 dL_law_585 dL_law_586 dL_law_587 (by omega) hL rfl ?_
  refine gl_arg 3 (q := 593) dL_law_588 dL_law_589 dL_law_590 dL_law_591 dL_law_592 (by omega) hL rfl ?_
  refine gl_inv (a := 69) (As := [.int (xs (i + 1)), .int (xs (i + 2)), .int (xs (i + 3))]) (q := 596) dL_law_593 lk_L_59 (by decide) (by decide) (Nat.le_of_ble_eq_true rfl) (by decide) h69 rfl rfl hq (fun v2 h2 hq2 => ?_)
  obtain ⟨rfl, hR⟩ := hq2
  exact gl_eq (tgt := 1564) dL_law_596 (by decide) (K h2 hR)

set_option maxHeartbeats 4000000 in
set_option maxRecDepth 100000 in
theorem lw_c11 {b L i : Nat} {xs : Nat → Int32} {S : St} {N : Nat → Nat → Int64} {X : St} {Y : Nat → Int64} (R : Rel S N X Y) (hL : L ≤ 3072) (hi : i + 6 ≤ L) (K : ∀ h, RH h → GoL b L xs 1564 i [] h) : GoL b L xs 601 i [] (hp S N X Y) := by
  refine gl_x (q := 602) dL_law_601 rfl ?_
  refine gl_arg 1 (q := 607) dL_law_602 dL_law_603 dL_law_604 dL_law_605 dL_law_606 (by omega) hL rfl ?_
  refine gl_arg 2 (q := 612) dL_law_607 dL_law_608 dL_law_609 dL_law_610 dL_law_611 (by omega) hL rfl ?_
  refine gl_inv (a := 0) (As := [.int (xs (i + 1)), .int (xs (i + 2))]) (q := 615) dL_law_612 lk_L_60 (by decide) (by decide) (by decide) (by decide) hp_0 rfl rfl (p_which R) (fun v1 h1 hq => ?_)
  obtain ⟨⟨z, rfl⟩, ⟨fs, h69⟩, hq⟩ := hq
  refine gl_m (q := 616) dL_law_615 rfl ?_
  refine gl_arg 1 (q := 621) dL_law_616 dL_law_617 dL_law_618 dL_law_619 dL_law_620 (by omega) hL rfl ?_
  refine gl_arg 2 (q := 626) dL_law_621 dL_law_622 dL_law_623 dL_law_624 dL_law_625 (by omega) hL rfl ?_
  refine gl_inv (a := 69) (As := [.int (xs (i + 1)), .int (xs (i + 2))]) (q := 629) dL_law_626 lk_L_63 (by decide) (by decide) (Nat.le_of_ble_eq_true rfl) (by decide) h69 rfl rfl hq (fun v2 h2 hq2 => ?_)
  obtain ⟨rfl, hR⟩ := hq2
  exact gl_eq (tgt := 1564) dL_law_629 (by decide) (K h2 hR)

set_option maxHeartbeats 4000000 in
set_option maxRecDepth 100000 in
theorem lw_c12 {b L i : Nat} {xs : Nat → Int32} {S : St} {N : Nat → Nat → Int64} {X : St} {Y : Nat → Int64} (R : Rel S N X Y) (hL : L ≤ 3072) (hi : i + 6 ≤ L) (K : ∀ h, RH h → GoL b L xs 1564 i [] h) : GoL b L xs 634 i [] (hp S N X Y) := by
  refine gl_x (q := 635) dL_law_634 rfl ?_
  refine gl_arg 1 (q := 640) dL_law_635 dL_law_636 dL_law_637 dL_law_638 dL_law_639 (by omega) hL rfl ?_
  refine gl_arg 2 (q := 645) dL_law_640 dL_law_641 dL_law_642 dL_law_643 dL_law_644 (by omega) hL rfl ?_
  refine gl_inv (a := 0) (As := [.int (xs (i + 1)), .int (xs (i + 2))]) (q := 648) dL_law_645 lk_L_64 (by decide) (by decide) (by decide) (by decide) hp_0 rfl rfl (p_over R) (fun v1 h1 hq => ?_)
  obtain ⟨⟨z, rfl⟩, ⟨fs, h69⟩, hq⟩ := hq
  refine gl_m (q := 649) dL_law_648 rfl ?_
  refine gl_arg 1 (q := 654) dL_law_649 dL_law_650 dL_law_651 dL_law_652 dL_law_653 (by omega) hL rfl ?_
  refine gl_arg 2 (q := 659) dL_law_654 dL_law_655 dL_law_656 dL_law_657 dL_law_658 (by omega) hL rfl ?_
  refine gl_inv (a := 69) (As := [.int (xs (i + 1)), .int (xs (i + 2))]) (q := 662) dL_law_659 lk_L_67 (by decide) (by decide) (Nat.le_of_ble_eq_true rfl) (by decide) h69 rfl rfl hq (fun v2 h2 hq2 => ?_)
  obtain ⟨rfl, hR⟩ := hq2
  exact gl_eq (tgt := 1564) dL_law_662 (by decide) (K h2 hR)

set_option maxHeartbeats 4000000 in
set_option maxRecDepth 100000 in
theorem lw_c13 {b L i : Nat} {xs : Nat → Int32} {S : St} {N : Nat → Nat → Int64} {X : St} {Y : Nat → Int64} (R : Rel S N X Y) (hL : L ≤ 3072) (hi : i + 6 ≤ L) (K : ∀ h, RH h → GoL b L xs 1564 i [] h) : GoL b L xs 667 i [] (hp S N X Y) := by
  refine gl_x (q := 668) dL_law_667 rfl ?_
  refine gl_arg 1 (q := 673) dL_law_668 dL_law_669 dL_law_670 dL_law_671 dL_law_672 (by omega) hL rfl ?_
  refine gl_arg 2 (q := 678) dL_law_673 dL_law_674 dL_law_675 dL_law_676 dL_law_677 (by omega) hL rfl ?_
  refine gl_arg 3 (q := 683) dL_law_678 dL_law_679 dL_law_680 dL_law_681 dL_law_682 (by omega) hL rfl ?_
  refine gl_arg 4 (q := 688) dL_law_683 dL_law_684 dL_law_685 dL_law_686 dL_law_687 (by omega) hL rfl ?_
  refine gl_inv (a := 0) (As := [.int (xs (i + 1)), .int (xs (i + 2)), .int (xs (i + 3)), .int (xs (i + 4))]) (q := 691) dL_law_688 lk_L_68 (by decide) (by decide) (by decide) (by decide) hp_0 rfl rfl (p_loan R) (fun v1 h1 hq => ?_)
  obtain ⟨⟨z, rfl⟩, ⟨fs, h69⟩, hq⟩ := hq
  refine gl_m (q := 692) dL_law_691 rfl ?_
  refine gl_arg 1 (q := 697) dL_law_692 dL_law_693 dL_law_694 dL_law_695 dL_law_696 (by omega) hL rfl ?_
  refine gl_arg 2 (q := 702) dL_law_697 dL_law_698 dL_law_699 dL_law_700 dL_law_701 (by omega) hL rfl ?_
  refine gl_arg 3 (q := 707) dL_law_702 dL_law_703 dL_law_704 dL_law_705 dL_law_706 (by omega) hL rfl ?_
  refine gl_arg 4 (q := 712) dL_law_707 dL_law_708 dL_law_709 dL_law_710 dL_law_711 (by omega) hL rfl ?_
  refine gl_inv (a := 69) (As := [.int (xs (i + 1)), .int (xs (i + 2)), .int (xs (i + 3)), .int (xs (i + 4))]) (q := 715) dL_law_712 lk_L_72 (by decide) (by decide) (Nat.le_of_ble_eq_true rfl) (by decide) h69 rfl rfl hq (fun v2 h2 hq2 => ?_)
  obtain ⟨rfl, hR⟩ := hq2
  exact gl_eq (tgt := 1564) dL_law_715 (by decide) (K h2 hR)

set_option maxHeartbeats 4000000 in
set_option maxRecDepth 100000 in
theorem lw_c14 {b L i : Nat} {xs : Nat → Int32} {S : St} {N : Nat → Nat → Int64} {X : St} {Y : Nat → Int64} (R : Rel S N X Y) (hL : L ≤ 3072) (hi : i + 6 ≤ L) (K : ∀ h, RH h → GoL b L xs 1564 i [] h) : GoL b L xs 720 i [] (hp S N X Y) := by
  refine gl_x (q := 721) dL_law_720 rfl ?_
  refine gl_arg 1 (q := 726) dL_law_721 dL_law_722 dL_law_723 dL_law_724 dL_law_725 (by omega) hL rfl ?_
  refine gl_arg 2 (q := 731) dL_law_726 dL_law_727 dL_law_728 dL_law_729 dL_law_730 (by omega) hL rfl ?_
  refine gl_inv (a := 0) (As := [.int (xs (i + 1)), .int (xs (i + 2))]) (q := 734) dL_law_731 lk_L_73 (by decide) (by decide) (by decide) (by decide) hp_0 rfl rfl (p_loanOf R) (fun v1 h1 hq => ?_)
  obtain ⟨⟨z, rfl⟩, ⟨fs, h69⟩, hq⟩ := hq
  refine gl_m (q := 735) dL_law_734 rfl ?_
  refine gl_arg 1 (q := 740) dL_law_735 dL_law_736 dL_law_737 dL_law_738 dL_law_739 (by omega) hL rfl ?_
  refine gl_arg 2 (q := 745) dL_law_740 dL_law_741 dL_law_742 dL_law_743 dL_law_744 (by omega) hL rfl ?_
  refine gl_inv (a := 69) (As := [.int (xs (i + 1)), .int (xs (i + 2))]) (q := 748) dL_law_745 lk_L_76 (by decide) (by decide) (Nat.le_of_ble_eq_true rfl) (by decide) h69 rfl rfl hq (fun v2 h2 hq2 => ?_)
  obtain ⟨rfl, hR⟩ := hq2
  exact gl_eq (tgt := 1564) dL_law_748 (by decide) (K h2 hR)

set_option maxHeartbeats 4000000 in
set_option maxRecDepth 100000 in
theorem lw_c15 {b L i : Nat} {xs : Nat → Int32} {S : St} {N : Nat → Nat → Int64} {X : St} {Y : Nat → Int64} (R : Rel S N X Y) (hL : L ≤ 3072) (hi : i + 6 ≤ L) (K : ∀ h, RH h → GoL b L xs 1564 i [] h) : GoL b L xs 753 i [] (hp S N X Y) := by
  refine gl_x (q := 754) dL_law_753 rfl ?_
  refine gl_inv (a := 0) (As := []) (q := 757) dL_law_754 lk_L_77 (by decide) (by decide) (by decide) (by decide) hp_0 rfl rfl (p_tax R) (fun v1 h1 hq => ?_)
  obtain ⟨⟨z, rfl⟩, ⟨fs, h69⟩, hq⟩ := hq
  refine gl_m (q := 758) dL_law_757 rfl ?_
  refine gl_inv (a := 69) (As := []) (q := 761) dL_law_758 lk_L_81 (by decide) (by decide) (Nat.le_of_ble_eq_true rfl) (by decide) h69 rfl rfl hq (fun v2 h2 hq2 => ?_)
  obtain ⟨rfl, hR⟩ := hq2
  exact gl_eq (tgt := 1564) dL_law_761 (by decide) (K h2 hR)

set_option maxHeartbeats 4000000 in
set_option maxRecDepth 100000 in
theorem lw_c16 {b L i : Nat} {xs : Nat → Int32} {S : St} {N : Nat → Nat → Int64} {X : St} {Y : Nat → Int64} (R : Rel S N X Y) (hL : L ≤ 3072) (hi : i + 6 ≤ L) (K : ∀ h, RH h → GoL b L xs 1564 i [] h) : GoL b L xs 766 i [] (hp S N X Y) := by
  refine gl_x (q := 767) dL_law_766 rfl ?_
  refine gl_arg 1 (q := 772) dL_law_767 dL_law_768 dL_law_769 dL_law_770 dL_law_771 (by omega) hL rfl ?_
  refine gl_inv (a := 0) (As := [.int (xs (i + 1))]) (q := 775) dL_law_772 lk_L_82 (by decide) (by decide) (by decide) (by decide) hp_0 rfl rfl (p_months R) (fun v1 h1 hq => ?_)
  obtain ⟨⟨z, rfl⟩, ⟨fs, h69⟩, hq⟩ := hq
  refine gl_m (q := 776) dL_law_775 rfl ?_
  refine gl_arg 1 (q := 781) dL_law_776 dL_law_777 dL_law_778 dL_law_779 dL_law_780 (by omega) hL rfl ?_
  refine gl_inv (a := 69) (As := [.int (xs (i + 1))]) (q := 784) dL_law_781 lk_L_85 (by decide) (by decide) (Nat.le_of_ble_eq_true rfl) (by decide) h69 rfl rfl hq (fun v2 h2 hq2 => ?_)
  obtain ⟨rfl, hR⟩ := hq2
  exact gl_eq (tgt := 1564) dL_law_784 (by decide) (K h2 hR)

set_option maxHeartbeats 4000000 in
set_option maxRecDepth 100000 in
theorem lw_c17 {b L i : Nat} {xs : Nat → Int32} {S : St} {N : Nat → Nat → Int64} {X : St} {Y : Nat → Int64} (R : Rel S N X Y) (hL : L ≤ 3072) (hi : i + 6 ≤ L) (K : ∀ h, RH h → GoL b L xs 1564 i [] h) : GoL b L xs 789 i [] (hp S N X Y) := by
  refine gl_x (q := 790) dL_law_789 rfl ?_
  refine gl_arg 1 (q := 795) dL_law_790 dL_law_791 dL_law_792 dL_law_793 dL_law_794 (by omega) hL rfl ?_
  refine gl_inv (a := 0) (As := [.int (xs (i + 1))]) (q := 798) dL_law_795 lk_L_86 (by decide) (by decide) (by decide) (by decide) hp_0 rfl rfl (p_now R) (fun v1 h1 hq => ?_)
  obtain ⟨⟨z, rfl⟩, ⟨fs, h69⟩, hq⟩ := hq
  refine gl_m (q := 799) dL_law_798 rfl ?_
  refine gl_arg 1 (q := 804) dL_law_799 dL_law_800 dL_law_801 dL_law_802 dL_law_803 (by omega) hL rfl ?_
  refine gl_inv (a := 69) (As := [.int (xs (i + 1))]) (q := 807) dL_law_804 lk_L_89 (by decide) (by decide) (Nat.le_of_ble_eq_true rfl) (by decide) h69 rfl rfl hq (fun v2 h2 hq2 => ?_)
  obtain ⟨rfl, hR⟩ := hq2
  exact gl_eq (tgt := 1564) dL_law_807 (by decide) (K h2 hR)

set_option maxHeartbeats 4000000 in
set_option maxRecDepth 100000 in
theorem lw_c18 {b L i : Nat} {xs : Nat → Int32} {S : St} {N : Nat → Nat → Int64} {X : St} {Y : Nat → Int64} (R : Rel S N X Y) (hL : L ≤ 3072) (hi : i + 6 ≤ L) (K : ∀ h, RH h → GoL b L xs 1564 i [] h) : GoL b L xs 812 i [] (hp S N X Y) := by
  refine gl_x (q := 813) dL_law_812 rfl ?_
  refine gl_arg 1 (q := 818) dL_law_813 dL_law_814 dL_law_815 dL_law_816 dL_law_817 (by omega) hL rfl ?_
  refine gl_arg 2 (q := 823) dL_law_818 dL_law_819 dL_law_820 dL_law_821 dL_law_822 (by omega) hL rfl ?_
  refine gl_inv (a := 0) (As := [.int (xs (i + 1)), .int (xs (i + 2))]) (q := 826) dL_law_823 lk_L_90 (by decide) (by decide) (by decide) (by decide) hp_0 rfl rfl (p_on R) (fun v1 h1 hq => ?_)
  obtain ⟨⟨z, rfl⟩, ⟨fs, h69⟩, hq⟩ := hq
  refine gl_m (q := 827) dL_law_826 rfl ?_
  refine gl_arg 1 (q := 832) dL_law_827 dL_law_828 dL_law_829 dL_law_830 dL_law_831 (by omega) hL rfl ?_
  refine gl_arg 2 (q := 837) dL_law_832 dL_law_833 dL_law_834 dL_law_835 dL_law_836 (by omega) hL rfl ?_
  refine gl_inv (a := 69) (As := [.int (xs (i + 1)), .int (xs (i + 2))]) (q := 840) dL_law_837 lk_L_93 (by decide) (by decide) (Nat.le_of_ble_eq_true rfl) (by decide) h69 rfl rfl hq (fun v2 h2 hq2 => ?_)
  obtain ⟨rfl, hR⟩ := hq2
  exact gl_eq (tgt := 1564) dL_law_840 (by decide) (K h2 hR)

set_option maxHeartbeats 4000000 in
set_option maxRecDepth 100000 in
theorem lw_c19 {b L i : Nat} {xs : Nat → Int32} {S : St} {N : Nat → Nat → Int64} {X : St} {Y : Nat → Int64} (R : Rel S N X Y) (hL : L ≤ 3072) (hi : i + 6 ≤ L) (K : ∀ h, RH h → GoL b L xs 1564 i [] h) : GoL b L xs 845 i [] (hp S N X Y) := by
  refine gl_x (q := 846) dL_law_845 rfl ?_
  refine gl_arg 1 (q := 851) dL_law_846 dL_law_847 dL_law_848 dL_law_849 dL_law_850 (by omega) hL rfl ?_
  refine gl_arg 2 (q := 856) dL_law_851 dL_law_852 dL_law_853 dL_law_854 dL_law_855 (by omega) hL rfl ?_
  refine gl_inv (a := 0) (As := [.int (xs (i + 1)), .int (xs (i + 2))]) (q := 859) dL_law_856 lk_L_94 (by decide) (by decide) (by decide) (by decide) hp_0 rfl rfl (p_purseOn R) (fun v1 h1 hq => ?_)
  obtain ⟨⟨z, rfl⟩, ⟨fs, h69⟩, hq⟩ := hq
  refine gl_m (q := 860) dL_law_859 rfl ?_
  refine gl_arg 1 (q := 865) dL_law_860 dL_law_861 dL_law_862 dL_law_863 dL_law_864 (by omega) hL rfl ?_
  refine gl_arg 2 (q := 870) dL_law_865 dL_law_866 dL_law_867 dL_law_868 dL_law_869 (by omega) hL rfl ?_
  refine gl_inv (a := 69) (As := [.int (xs (i + 1)), .int (xs (i + 2))]) (q := 873) dL_law_870 lk_L_97 (by decide) (by decide) (Nat.le_of_ble_eq_true rfl) (by decide) h69 rfl rfl hq (fun v2 h2 hq2 => ?_)
  obtain ⟨rfl, hR⟩ := hq2
  exact gl_eq (tgt := 1564) dL_law_873 (by decide) (K h2 hR)

set_option maxHeartbeats 4000000 in
set_option maxRecDepth 100000 in
theorem lw_c20 {b L i : Nat} {xs : Nat → Int32} {S : St} {N : Nat → Nat → Int64} {X : St} {Y : Nat → Int64} (R : Rel S N X Y) (hL : L ≤ 3072) (hi : i + 6 ≤ L) (K : ∀ h, RH h → GoL b L xs 1564 i [] h) : GoL b L xs 878 i [] (hp S N X Y) := by
  refine gl_x (q := 879) dL_law_878 rfl ?_
  refine gl_arg 1 (q := 884) dL_law_879 dL_law_880 dL_law_881 dL_law_882 dL_law_883 (by omega) hL rfl ?_
  refine gl_inv (a := 0) (As := [.int (xs (i + 1))]) (q := 887) dL_law_884 lk_L_98 (by decide) (by decide) (by decide) (by decide) hp_0 rfl rfl (p_rich R) (fun v1 h1 hq => ?_)
  obtain ⟨⟨z, rfl⟩, ⟨fs, h69⟩, hq⟩ := hq
  refine gl_m (q := 888) dL_law_887 rfl ?_
  refine gl_arg 1 (q := 893) dL_law_888 dL_law_889 dL_law_890 dL_law_891 dL_law_892 (by omega) hL rfl ?_
  refine gl_inv (a := 69) (As := [.int (xs (i + 1))]) (q := 896) dL_law_893 lk_L_101 (by decide) (by decide) (Nat.le_of_ble_eq_true rfl) (by decide) h69 rfl rfl hq (fun v2 h2 hq2 => ?_)
  obtain ⟨rfl, hR⟩ := hq2
  exact gl_eq (tgt := 1564) dL_law_896 (by decide) (K h2 hR)

set_option maxHeartbeats 4000000 in
set_option maxRecDepth 100000 in
theorem lw_c21 {b L i : Nat} {xs : Nat → Int32} {S : St} {N : Nat → Nat → Int64} {X : St} {Y : Nat → Int64} (R : Rel S N X Y) (hL : L ≤ 3072) (hi : i + 6 ≤ L) (K : ∀ h, RH h → GoL b L xs 1564 i [] h) : GoL b L xs 901 i [] (hp S N X Y) := by
  refine gl_x (q := 902) dL_law_901 rfl ?_
  refine gl_arg 1 (q := 907) dL_law_902 dL_law_903 dL_law_904 dL_law_905 dL_law_906 (by omega) hL rfl ?_
  refine gl_inv (a := 0) (As := [.int (xs (i + 1))]) (q := 910) dL_law_907 lk_L_102 (by decide) (by decide) (by decide) (by decide) hp_0 rfl rfl (p_rots R) (fun v1 h1 hq => ?_)
  obtain ⟨⟨z, rfl⟩, ⟨fs, h69⟩, hq⟩ := hq
  refine gl_m (q := 911) dL_law_910 rfl ?_
  refine gl_arg 1 (q := 916) dL_law_911 dL_law_912 dL_law_913 dL_law_914 dL_law_915 (by omega) hL rfl ?_
  refine gl_inv (a := 69) (As := [.int (xs (i + 1))]) (q := 919) dL_law_916 lk_L_105 (by decide) (by decide) (Nat.le_of_ble_eq_true rfl) (by decide) h69 rfl rfl hq (fun v2 h2 hq2 => ?_)
  obtain ⟨rfl, hR⟩ := hq2
  exact gl_eq (tgt := 1564) dL_law_919 (by decide) (K h2 hR)

set_option maxHeartbeats 4000000 in
set_option maxRecDepth 100000 in
theorem lw_c22 {b L i : Nat} {xs : Nat → Int32} {S : St} {N : Nat → Nat → Int64} {X : St} {Y : Nat → Int64} (R : Rel S N X Y) (hL : L ≤ 3072) (hi : i + 6 ≤ L) (K : ∀ h, RH h → GoL b L xs 1564 i [] h) : GoL b L xs 924 i [] (hp S N X Y) := by
  refine gl_x (q := 925) dL_law_924 rfl ?_
  refine gl_arg 1 (q := 930) dL_law_925 dL_law_926 dL_law_927 dL_law_928 dL_law_929 (by omega) hL rfl ?_
  refine gl_inv (a := 0) (As := [.int (xs (i + 1))]) (q := 933) dL_law_930 lk_L_106 (by decide) (by decide) (by decide) (by decide) hp_0 rfl rfl (p_when R) (fun v1 h1 hq => ?_)
  obtain ⟨⟨z, rfl⟩, ⟨fs, h69⟩, hq⟩ := hq
  refine gl_m (q := 934) dL_law_933 rfl ?_
  refine gl_arg 1 (q := 939) dL_law_934 dL_law_935 dL_law_936 dL_law_937 dL_law_938 (by omega) hL rfl ?_
  refine gl_inv (a := 69) (As := [.int (xs (i + 1))]) (q := 942) dL_law_939 lk_L_109 (by decide) (by decide) (Nat.le_of_ble_eq_true rfl) (by decide) h69 rfl rfl hq (fun v2 h2 hq2 => ?_)
  obtain ⟨rfl, hR⟩ := hq2
  exact gl_eq (tgt := 1564) dL_law_942 (by decide) (K h2 hR)

set_option maxHeartbeats 4000000 in
set_option maxRecDepth 100000 in
theorem lw_c23 {b L i : Nat} {xs : Nat → Int32} {S : St} {N : Nat → Nat → Int64} {X : St} {Y : Nat → Int64} (R : Rel S N X Y) (hL : L ≤ 3072) (hi : i + 6 ≤ L) (K : ∀ h, RH h → GoL b L xs 1564 i [] h) : GoL b L xs 947 i [] (hp S N X Y) := by
  refine gl_x (q := 948) dL_law_947 rfl ?_
  refine gl_arg 1 (q := 953) dL_law_948 dL_law_949 dL_law_950 dL_law_951 dL_law_952 (by omega) hL rfl ?_
  refine gl_inv (a := 0) (As := [.int (xs (i + 1))]) (q := 956) dL_law_953 lk_L_110 (by decide) (by decide) (by decide) (by decide) hp_0 rfl rfl (p_lacks R) (fun v1 h1 hq => ?_)
  obtain ⟨⟨z, rfl⟩, ⟨fs, h69⟩, hq⟩ := hq
  refine gl_m (q := 957) dL_law_956 rfl ?_
  refine gl_arg 1 (q := 962) dL_law_957 dL_law_958 dL_law_959 dL_law_960 dL_law_961 (by omega) hL rfl ?_
  refine gl_inv (a := 69) (As := [.int (xs (i + 1))]) (q := 965) dL_law_962 lk_L_113 (by decide) (by decide) (Nat.le_of_ble_eq_true rfl) (by decide) h69 rfl rfl hq (fun v2 h2 hq2 => ?_)
  obtain ⟨rfl, hR⟩ := hq2
  exact gl_eq (tgt := 1564) dL_law_965 (by decide) (K h2 hR)

set_option maxHeartbeats 4000000 in
set_option maxRecDepth 100000 in
theorem lw_c24 {b L i : Nat} {xs : Nat → Int32} {S : St} {N : Nat → Nat → Int64} {X : St} {Y : Nat → Int64} (R : Rel S N X Y) (hL : L ≤ 3072) (hi : i + 6 ≤ L) (K : ∀ h, RH h → GoL b L xs 1564 i [] h) : GoL b L xs 970 i [] (hp S N X Y) := by
  refine gl_x (q := 971) dL_law_970 rfl ?_
  refine gl_arg 1 (q := 976) dL_law_971 dL_law_972 dL_law_973 dL_law_974 dL_law_975 (by omega) hL rfl ?_
  refine gl_arg 2 (q := 981) dL_law_976 dL_law_977 dL_law_978 dL_law_979 dL_law_980 (by omega) hL rfl ?_
  refine gl_inv (a := 0) (As := [.int (xs (i + 1)), .int (xs (i + 2))]) (q := 984) dL_law_981 lk_L_114 (by decide) (by decide) (by decide) (by decide) hp_0 rfl rfl (p_best R) (fun v1 h1 hq => ?_)
  obtain ⟨⟨z, rfl⟩, ⟨fs, h69⟩, hq⟩ := hq
  refine gl_m (q := 985) dL_law_984 rfl ?_
  refine gl_arg 1 (q := 990) dL_law_985 dL_law_986 dL_law_987 dL_law_988 dL_law_989 (by omega) hL rfl ?_
  refine gl_arg 2 (q := 995) dL_law_990 dL_law_991 dL_law_992 dL_law_993 dL_law_994 (by omega) hL rfl ?_
  refine gl_inv (a := 69) (As := [.int (xs (i + 1)), .int (xs (i + 2))]) (q := 998) dL_law_995 lk_L_117 (by decide) (by decide) (Nat.le_of_ble_eq_true rfl) (by decide) h69 rfl rfl hq (fun v2 h2 hq2 => ?_)
  obtain ⟨rfl, hR⟩ := hq2
  exact gl_eq (tgt := 1564) dL_law_998 (by decide) (K h2 hR)

set_option maxHeartbeats 4000000 in
set_option maxRecDepth 100000 in
theorem lw_c25 {b L i : Nat} {xs : Nat → Int32} {S : St} {N : Nat → Nat → Int64} {X : St} {Y : Nat → Int64} (R : Rel S N X Y) (hL : L ≤ 3072) (hi : i + 6 ≤ L) (K : ∀ h, RH h → GoL b L xs 1564 i [] h) : GoL b L xs 1003 i [] (hp S N X Y) := by
  refine gl_x (q := 1004) dL_law_1003 rfl ?_
  refine gl_arg 1 (q := 1009) dL_law_1004 dL_law_1005 dL_law_1006 dL_law_1007 dL_law_1008 (by omega) hL rfl ?_
  refine gl_arg 2 (q := 1014) dL_law_1009 dL_law_1010 dL_law_1011 dL_law_1012 dL_law_1013 (by omega) hL rfl ?_
  refine gl_inv (a := 0) (As := [.int (xs (i + 1)), .int (xs (i + 2))]) (q := 1017) dL_law_1014 lk_L_118 (by decide) (by decide) (by decide) (by decide) hp_0 rfl rfl (p_kind R) (fun v1 h1 hq => ?_)
  obtain ⟨⟨z, rfl⟩, ⟨fs, h69⟩, hq⟩ := hq
  refine gl_m (q := 1018) dL_law_1017 rfl ?_
  refine gl_arg 1 (q := 1023) dL_law_1018 dL_law_1019 dL_law_1020 dL_law_1021 dL_law_1022 (by omega) hL rfl ?_
  refine gl_arg 2 (q := 1028) dL_law_1023 dL_law_1024 dL_law_1025 dL_law_1026 dL_law_1027 (by omega) hL rfl ?_
  refine gl_inv (a := 69) (As := [.int (xs (i + 1)), .int (xs (i + 2))]) (q := 1031) dL_law_1028 lk_L_121 (by decide) (by decide) (Nat.le_of_ble_eq_true rfl) (by decide) h69 rfl rfl hq (fun v2 h2 hq2 => ?_)
  obtain ⟨rfl, hR⟩ := hq2
  exact gl_eq (tgt := 1564) dL_law_1031 (by decide) (K h2 hR)

set_option maxHeartbeats 4000000 in
set_option maxRecDepth 100000 in
theorem lw_c26 {b L i : Nat} {xs : Nat → Int32} {S : St} {N : Nat → Nat → Int64} {X : St} {Y : Nat → Int64} (R : Rel S N X Y) (hL : L ≤ 3072) (hi : i + 6 ≤ L) (K : ∀ h, RH h → GoL b L xs 1564 i [] h) : GoL b L xs 1036 i [] (hp S N X Y) := by
  refine gl_x (q := 1037) dL_law_1036 rfl ?_
  refine gl_arg 1 (q := 1042) dL_law_1037 dL_law_1038 dL_law_1039 dL_law_1040 dL_law_1041 (by omega) hL rfl ?_
  refine gl_inv (a := 0) (As := [.int (xs (i + 1))]) (q := 1045) dL_law_1042 lk_L_122 (by decide) (by decide) (by decide) (by decide) hp_0 rfl rfl (p_cellar R) (fun v1 h1 hq => ?_)
  obtain ⟨⟨z, rfl⟩, ⟨fs, h69⟩, hq⟩ := hq
  refine gl_m (q := 1046) dL_law_1045 rfl ?_
  refine gl_arg 1 (q := 1051) dL_law_1046 dL_law_1047 dL_law_1048 dL_law_1049 dL_law_1050 (by omega) hL rfl ?_
  refine gl_inv (a := 69) (As := [.int (xs (i + 1))]) (q := 1054) dL_law_1051 lk_L_125 (by decide) (by decide) (Nat.le_of_ble_eq_true rfl) (by decide) h69 rfl rfl hq (fun v2 h2 hq2 => ?_)
  obtain ⟨rfl, hR⟩ := hq2
  exact gl_eq (tgt := 1564) dL_law_1054 (by decide) (K h2 hR)

set_option maxHeartbeats 4000000 in
set_option maxRecDepth 100000 in
theorem lw_c27 {b L i : Nat} {xs : Nat → Int32} {S : St} {N : Nat → Nat → Int64} {X : St} {Y : Nat → Int64} (R : Rel S N X Y) (hL : L ≤ 3072) (hi : i + 6 ≤ L) (K : ∀ h, RH h → GoL b L xs 1564 i [] h) : GoL b L xs 1059 i [] (hp S N X Y) := by
  refine gl_x (q := 1060) dL_law_1059 rfl ?_
  refine gl_arg 1 (q := 1065) dL_law_1060 dL_law_1061 dL_law_1062 dL_law_1063 dL_law_1064 (by omega) hL rfl ?_
  refine gl_arg 2 (q := 1070) dL_law_1065 dL_law_1066 dL_law_1067 dL_law_1068 dL_law_1069 (by omega) hL rfl ?_
  refine gl_inv (a := 0) (As := [.int (xs (i + 1)), .int (xs (i + 2))]) (q := 1073) dL_law_1070 lk_L_126 (by decide) (by decide) (by decide) (by decide) hp_0 rfl rfl (p_field R) (fun v1 h1 hq => ?_)
  obtain ⟨⟨z, rfl⟩, ⟨fs, h69⟩, hq⟩ := hq
  refine gl_m (q := 1074) dL_law_1073 rfl ?_
  refine gl_arg 1 (q := 1079) dL_law_1074 dL_law_1075 dL_law_1076 dL_law_1077 dL_law_1078 (by omega) hL rfl ?_
  refine gl_arg 2 (q := 1084) dL_law_1079 dL_law_1080 dL_law_1081 dL_law_1082 dL_law_1083 (by omega) hL rfl ?_
  refine gl_inv (a := 69) (As := [.int (xs (i + 1)), .int (xs (i + 2))]) (q := 1087) dL_law_1084 lk_L_129 (by decide) (by decide) (Nat.le_of_ble_eq_true rfl) (by decide) h69 rfl rfl hq (fun v2 h2 hq2 => ?_)
  obtain ⟨rfl, hR⟩ := hq2
  exact gl_eq (tgt := 1564) dL_law_1087 (by decide) (K h2 hR)

set_option maxHeartbeats 4000000 in
set_option maxRecDepth 100000 in
theorem lw_c28 {b L i : Nat} {xs : Nat → Int32} {S : St} {N : Nat → Nat → Int64} {X : St} {Y : Nat → Int64} (R : Rel S N X Y) (hL : L ≤ 3072) (hi : i + 6 ≤ L) (K : ∀ h, RH h → GoL b L xs 1564 i [] h) : GoL b L xs 1092 i [] (hp S N X Y) := by
  refine gl_x (q := 1093) dL_law_1092 rfl ?_
  refine gl_arg 1 (q := 1098) dL_law_1093 dL_law_1094 dL_law_1095 dL_law_1096 dL_law_1097 (by omega) hL rfl ?_
  refine gl_arg 2 (q := 1103) dL_law_1098 dL_law_1099 dL_law_1100 dL_law_1101 dL_law_1102 (by omega) hL rfl ?_
  refine gl_inv (a := 0) (As := [.int (xs (i + 1)), .int (xs (i + 2))]) (q := 1106) dL_law_1103 lk_L_130 (by decide) (by decide) (by decide) (by decide) hp_0 rfl rfl (p_priceFor R) (fun v1 h1 hq => ?_)
  obtain ⟨⟨z, rfl⟩, ⟨fs, h69⟩, hq⟩ := hq
  refine gl_m (q := 1107) dL_law_1106 rfl ?_
  refine gl_arg 1 (q := 1112) dL_law_1107 dL_law_1108 dL_law_1109 dL_law_1110 dL_law_1111 (by omega) hL rfl ?_
  refine gl_arg 2 (q := 1117) dL_law_1112 dL_law_1113 dL_law_1114 dL_law_1115 dL_law_1116 (by omega) hL rfl ?_
  refine gl_inv (a := 69) (As := [.int (xs (i + 1)), .int (xs (i + 2))]) (q := 1120) dL_law_1117 lk_L_133 (by decide) (by decide) (Nat.le_of_ble_eq_true rfl) (by decide) h69 rfl rfl hq (fun v2 h2 hq2 => ?_)
  obtain ⟨rfl, hR⟩ := hq2
  exact gl_eq (tgt := 1564) dL_law_1120 (by decide) (K h2 hR)

set_option maxHeartbeats 4000000 in
set_option maxRecDepth 100000 in
theorem lw_c29 {b L i : Nat} {xs : Nat → Int32} {S : St} {N : Nat → Nat → Int64} {X : St} {Y : Nat → Int64} (R : Rel S N X Y) (hL : L ≤ 3072) (hi : i + 6 ≤ L) (K : ∀ h, RH h → GoL b L xs 1564 i [] h) : GoL b L xs 1125 i [] (hp S N X Y) := by
  refine gl_x (q := 1126) dL_law_1125 rfl ?_
  refine gl_inv (a := 0) (As := []) (q := 1129) dL_law_1126 lk_L_134 (by decide) (by decide) (by decide) (by decide) hp_0 rfl rfl (p_taxMonth R) (fun v1 h1 hq => ?_)
  obtain ⟨⟨z, rfl⟩, ⟨fs, h69⟩, hq⟩ := hq
  refine gl_m (q := 1130) dL_law_1129 rfl ?_
  refine gl_inv (a := 69) (As := []) (q := 1133) dL_law_1130 lk_L_137 (by decide) (by decide) (Nat.le_of_ble_eq_true rfl) (by decide) h69 rfl rfl hq (fun v2 h2 hq2 => ?_)
  obtain ⟨rfl, hR⟩ := hq2
  exact gl_eq (tgt := 1564) dL_law_1133 (by decide) (K h2 hR)

set_option maxHeartbeats 4000000 in
set_option maxRecDepth 100000 in
theorem lw_c30 {b L i : Nat} {xs : Nat → Int32} {S : St} {N : Nat → Nat → Int64} {X : St} {Y : Nat → Int64} (R : Rel S N X Y) (hL : L ≤ 3072) (hi : i + 6 ≤ L) (K : ∀ h, RH h → GoL b L xs 1564 i [] h) : GoL b L xs 1138 i [] (hp S N X Y) := by
  refine gl_x (q := 1139) dL_law_1138 rfl ?_
  refine gl_inv (a := 0) (As := []) (q := 1142) dL_law_1139 lk_L_138 (by decide) (by decide) (by decide) (by decide) hp_0 rfl rfl (p_bank R) (fun v1 h1 hq => ?_)
  obtain ⟨⟨z, rfl⟩, ⟨fs, h69⟩, hq⟩ := hq
  refine gl_m (q := 1143) dL_law_1142 rfl ?_
  refine gl_inv (a := 69) (As := []) (q := 1146) dL_law_1143 lk_L_141 (by decide) (by decide) (Nat.le_of_ble_eq_true rfl) (by decide) h69 rfl rfl hq (fun v2 h2 hq2 => ?_)
  obtain ⟨rfl, hR⟩ := hq2
  exact gl_eq (tgt := 1564) dL_law_1146 (by decide) (K h2 hR)

set_option maxHeartbeats 4000000 in
set_option maxRecDepth 100000 in
theorem lw_c31 {b L i : Nat} {xs : Nat → Int32} {S : St} {N : Nat → Nat → Int64} {X : St} {Y : Nat → Int64} (R : Rel S N X Y) (hL : L ≤ 3072) (hi : i + 6 ≤ L) (K : ∀ h, RH h → GoL b L xs 1564 i [] h) : GoL b L xs 1151 i [] (hp S N X Y) := by
  refine gl_x (q := 1152) dL_law_1151 rfl ?_
  refine gl_arg 1 (q := 1157) dL_law_1152 dL_law_1153 dL_law_1154 dL_law_1155 dL_law_1156 (by omega) hL rfl ?_
  refine gl_arg 2 (q := 1162) dL_law_1157 dL_law_1158 dL_law_1159 dL_law_1160 dL_law_1161 (by omega) hL rfl ?_
  refine gl_inv (a := 0) (As := [.int (xs (i + 1)), .int (xs (i + 2))]) (q := 1165) dL_law_1162 lk_L_142 (by decide) (by decide) (by decide) (by decide) hp_0 rfl rfl (p_feed R) (fun v1 h1 hq => ?_)
  obtain ⟨⟨z, rfl⟩, ⟨fs, h69⟩, hq⟩ := hq
  refine gl_m (q := 1166) dL_law_1165 rfl ?_
  refine gl_arg 1 (q := 1171) dL_law_1166 dL_law_1167 dL_law_1168 dL_law_1169 dL_law_1170 (by omega) hL rfl ?_
  refine gl_arg 2 (q := 1176) dL_law_1171 dL_law_1172 dL_law_1173 dL_law_1174 dL_law_1175 (by omega) hL rfl ?_
  refine gl_inv (a := 69) (As := [.int (xs (i + 1)), .int (xs (i + 2))]) (q := 1179) dL_law_1176 lk_L_145 (by decide) (by decide) (Nat.le_of_ble_eq_true rfl) (by decide) h69 rfl rfl hq (fun v2 h2 hq2 => ?_)
  obtain ⟨rfl, hR⟩ := hq2
  exact gl_eq (tgt := 1564) dL_law_1179 (by decide) (K h2 hR)

set_option maxHeartbeats 4000000 in
set_option maxRecDepth 100000 in
theorem lw_c32 {b L i : Nat} {xs : Nat → Int32} {S : St} {N : Nat → Nat → Int64} {X : St} {Y : Nat → Int64} (R : Rel S N X Y) (hL : L ≤ 3072) (hi : i + 6 ≤ L) (K : ∀ h, RH h → GoL b L xs 1564 i [] h) : GoL b L xs 1184 i [] (hp S N X Y) := by
  refine gl_x (q := 1185) dL_law_1184 rfl ?_
  refine gl_inv (a := 0) (As := []) (q := 1188) dL_law_1185 lk_L_146 (by decide) (by decide) (by decide) (by decide) hp_0 rfl rfl (p_wipe R) (fun v1 h1 hq => ?_)
  obtain ⟨⟨z, rfl⟩, ⟨fs, h69⟩, hq⟩ := hq
  refine gl_m (q := 1189) dL_law_1188 rfl ?_
  refine gl_inv (a := 69) (As := []) (q := 1192) dL_law_1189 lk_L_149 (by decide) (by decide) (Nat.le_of_ble_eq_true rfl) (by decide) h69 rfl rfl hq (fun v2 h2 hq2 => ?_)
  obtain ⟨rfl, hR⟩ := hq2
  exact gl_eq (tgt := 1564) dL_law_1192 (by decide) (K h2 hR)

set_option maxHeartbeats 4000000 in
set_option maxRecDepth 100000 in
theorem lw_c33 {b L i : Nat} {xs : Nat → Int32} {S : St} {N : Nat → Nat → Int64} {X : St} {Y : Nat → Int64} (R : Rel S N X Y) (hL : L ≤ 3072) (hi : i + 6 ≤ L) (K : ∀ h, RH h → GoL b L xs 1564 i [] h) : GoL b L xs 1197 i [] (hp S N X Y) := by
  refine gl_x (q := 1198) dL_law_1197 rfl ?_
  refine gl_inv (a := 0) (As := []) (q := 1201) dL_law_1198 lk_L_150 (by decide) (by decide) (by decide) (by decide) hp_0 rfl rfl (p_market R) (fun v1 h1 hq => ?_)
  obtain ⟨⟨z, rfl⟩, ⟨fs, h69⟩, hq⟩ := hq
  refine gl_m (q := 1202) dL_law_1201 rfl ?_
  refine gl_inv (a := 69) (As := []) (q := 1205) dL_law_1202 lk_L_153 (by decide) (by decide) (Nat.le_of_ble_eq_true rfl) (by decide) h69 rfl rfl hq (fun v2 h2 hq2 => ?_)
  obtain ⟨rfl, hR⟩ := hq2
  exact gl_eq (tgt := 1564) dL_law_1205 (by decide) (K h2 hR)

set_option maxHeartbeats 4000000 in
set_option maxRecDepth 100000 in
theorem lw_c34 {b L i : Nat} {xs : Nat → Int32} {S : St} {N : Nat → Nat → Int64} {X : St} {Y : Nat → Int64} (R : Rel S N X Y) (hL : L ≤ 3072) (hi : i + 6 ≤ L) (K : ∀ h, RH h → GoL b L xs 1564 i [] h) : GoL b L xs 1210 i [] (hp S N X Y) := by
  refine gl_x (q := 1211) dL_law_1210 rfl ?_
  refine gl_arg 1 (q := 1216) dL_law_1211 dL_law_1212 dL_law_1213 dL_law_1214 dL_law_1215 (by omega) hL rfl ?_
  refine gl_arg 2 (q := 1221) dL_law_1216 dL_law_1217 dL_law_1218 dL_law_1219 dL_law_1220 (by omega) hL rfl ?_
  refine gl_arg 3 (q := 1226) dL_law_1221 dL_law_1222 dL_law_1223 dL_law_1224 dL_law_1225 (by omega) hL rfl ?_
  refine gl_inv (a := 0) (As := [.int (xs (i + 1)), .int (xs (i + 2)), .int (xs (i + 3))]) (q := 1229) dL_law_1226 lk_L_154 (by decide) (by decide) (by decide) (by decide) hp_0 rfl rfl (p_sheet R) (fun v1 h1 hq => ?_)
  obtain ⟨⟨z, rfl⟩, ⟨fs, h69⟩, hq⟩ := hq
  refine gl_m (q := 1230) dL_law_1229 rfl ?_
  refine gl_arg 1 (q := 1235) dL_law_1230 dL_law_1231 dL_law_1232 dL_law_1233 dL_law_1234 (by omega) hL rfl ?_
  refine gl_arg 2 (q := 1240) dL_law_1235 dL_law_1236 dL_law_1237 dL_law_1238 dL_law_1239 (by omega) hL rfl ?_
  refine gl_arg 3 (q := 1245) dL_law_1240 dL_law_1241 dL_law_1242 dL_law_1243 dL_law_1244 (by omega) hL rfl ?_
  refine gl_inv (a := 69) (As := [.int (xs (i + 1)), .int (xs (i + 2)), .int (xs (i + 3))]) (q := 1248) dL_law_1245 lk_L_157 (by decide) (by decide) (Nat.le_of_ble_eq_true rfl) (by decide) h69 rfl rfl hq (fun v2 h2 hq2 => ?_)
  obtain ⟨rfl, hR⟩ := hq2
  exact gl_eq (tgt := 1564) dL_law_1248 (by decide) (K h2 hR)

set_option maxHeartbeats 4000000 in
set_option maxRecDepth 100000 in
theorem lw_c35 {b L i : Nat} {xs : Nat → Int32} {S : St} {N : Nat → Nat → Int64} {X : St} {Y : Nat → Int64} (R : Rel S N X Y) (hL : L ≤ 3072) (hi : i + 6 ≤ L) (K : ∀ h, RH h → GoL b L xs 1564 i [] h) : GoL b L xs 1253 i [] (hp S N X Y) := by
  refine gl_x (q := 1254) dL_law_1253 rfl ?_
  refine gl_arg 1 (q := 1259) dL_law_1254 dL_law_1255 dL_law_1256 dL_law_1257 dL_law_1258 (by omega) hL rfl ?_
  refine gl_arg 2 (q := 1264) dL_law_1259 dL_law_1260 dL_law_1261 dL_law_1262 dL_law_1263 (by omega) hL rfl ?_
  refine gl_arg 3 (q := 1269) dL_law_1264 dL_law_1265 dL_law_1266 dL_law_1267 dL_law_1268 (by omega) hL rfl ?_
  refine gl_i2l (q := 1270) dL_law_1269 rfl ?_
  refine gl_bipush (v := nI 32) (q := 1272) dL_law_1270 (by decide) rfl ?_
  refine gl_lshl (q := 1273) dL_law_1272 rfl rfl ?_
  refine gl_arg 4 (q := 1278) dL_law_1273 dL_law_1274 dL_law_1275 dL_law_1276 dL_law_1277 (by omega) hL rfl ?_
  refine gl_i2l (q := 1279) dL_law_1278 rfl ?_
  refine gl_ldc2 (q := 1282) dL_law_1279 ko_L_158 rfl ?_
  refine gl_land (q := 1283) dL_law_1282 rfl ?_
  refine gl_lor (q := 1284) dL_law_1283 rfl ?_
  refine gl_inv (a := 0) (As := [.int (xs (i + 1)), .int (xs (i + 2)), .long ((xs (i + 3)).toInt64 <<< ((nI 32).toInt64 &&& 63) ||| (xs (i + 4)).toInt64 &&& 4294967295)]) (q := 1287) dL_law_1284 lk_L_160 (by decide) (by decide) (by decide) (by decide) hp_0 rfl rfl (p_write R) (fun v1 h1 hq => ?_)
  obtain ⟨⟨z, rfl⟩, ⟨fs, h69⟩, hq⟩ := hq
  refine gl_m (q := 1288) dL_law_1287 rfl ?_
  refine gl_arg 1 (q := 1293) dL_law_1288 dL_law_1289 dL_law_1290 dL_law_1291 dL_law_1292 (by omega) hL rfl ?_
  refine gl_arg 2 (q := 1298) dL_law_1293 dL_law_1294 dL_law_1295 dL_law_1296 dL_law_1297 (by omega) hL rfl ?_
  refine gl_arg 3 (q := 1303) dL_law_1298 dL_law_1299 dL_law_1300 dL_law_1301 dL_law_1302 (by omega) hL rfl ?_
  refine gl_i2l (q := 1304) dL_law_1303 rfl ?_
  refine gl_bipush (v := nI 32) (q := 1306) dL_law_1304 (by decide) rfl ?_
  refine gl_lshl (q := 1307) dL_law_1306 rfl rfl ?_
  refine gl_arg 4 (q := 1312) dL_law_1307 dL_law_1308 dL_law_1309 dL_law_1310 dL_law_1311 (by omega) hL rfl ?_
  refine gl_i2l (q := 1313) dL_law_1312 rfl ?_
  refine gl_ldc2 (q := 1316) dL_law_1313 ko_L_158 rfl ?_
  refine gl_land (q := 1317) dL_law_1316 rfl ?_
  refine gl_lor (q := 1318) dL_law_1317 rfl ?_
  refine gl_inv (a := 69) (As := [.int (xs (i + 1)), .int (xs (i + 2)), .long ((xs (i + 3)).toInt64 <<< ((nI 32).toInt64 &&& 63) ||| (xs (i + 4)).toInt64 &&& 4294967295)]) (q := 1321) dL_law_1318 lk_L_164 (by decide) (by decide) (Nat.le_of_ble_eq_true rfl) (by decide) h69 rfl rfl hq (fun v2 h2 hq2 => ?_)
  obtain ⟨rfl, hR⟩ := hq2
  exact gl_leq (tgt := 1564) dL_law_1321 dL_law_1322 (by decide) (K h2 hR)

set_option maxHeartbeats 4000000 in
set_option maxRecDepth 100000 in
theorem lw_c36 {b L i : Nat} {xs : Nat → Int32} {S : St} {N : Nat → Nat → Int64} {X : St} {Y : Nat → Int64} (R : Rel S N X Y) (hL : L ≤ 3072) (hi : i + 6 ≤ L) (K : ∀ h, RH h → GoL b L xs 1564 i [] h) : GoL b L xs 1327 i [] (hp S N X Y) := by
  refine gl_x (q := 1328) dL_law_1327 rfl ?_
  refine gl_arg 1 (q := 1333) dL_law_1328 dL_law_1329 dL_law_1330 dL_law_1331 dL_law_1332 (by omega) hL rfl ?_
  refine gl_arg 2 (q := 1338) dL_law_1333 dL_law_1334 dL_law_1335 dL_law_1336 dL_law_1337 (by omega) hL rfl ?_
  refine gl_arg 3 (q := 1343) dL_law_1338 dL_law_1339 dL_law_1340 dL_law_1341 dL_law_1342 (by omega) hL rfl ?_
  refine gl_arg 4 (q := 1348) dL_law_1343 dL_law_1344 dL_law_1345 dL_law_1346 dL_law_1347 (by omega) hL rfl ?_
  refine gl_arg 5 (q := 1353) dL_law_1348 dL_law_1349 dL_law_1350 dL_law_1351 dL_law_1352 (by omega) hL rfl ?_
  refine gl_inv (a := 0) (As := [.int (xs (i + 1)), .int (xs (i + 2)), .int (xs (i + 3)), .int (xs (i + 4)), .int (xs (i + 5))]) (q := 1356) dL_law_1353 lk_L_165 (by decide) (by decide) (by decide) (by decide) hp_0 rfl rfl (p_copy R) (fun v1 h1 hq => ?_)
  obtain ⟨⟨z, rfl⟩, ⟨fs, h69⟩, hq⟩ := hq
  refine gl_m (q := 1357) dL_law_1356 rfl ?_
  refine gl_arg 1 (q := 1362) dL_law_1357 dL_law_1358 dL_law_1359 dL_law_1360 dL_law_1361 (by omega) hL rfl ?_
  refine gl_arg 2 (q := 1367) dL_law_1362 dL_law_1363 dL_law_1364 dL_law_1365 dL_law_1366 (by omega) hL rfl ?_
  refine gl_arg 3 (q := 1372) dL_law_1367 dL_law_1368 dL_law_1369 dL_law_1370 dL_law_1371 (by omega) hL rfl ?_
  refine gl_arg 4 (q := 1377) dL_law_1372 dL_law_1373 dL_law_1374 dL_law_1375 dL_law_1376 (by omega) hL rfl ?_
  refine gl_arg 5 (q := 1382) dL_law_1377 dL_law_1378 dL_law_1379 dL_law_1380 dL_law_1381 (by omega) hL rfl ?_
  refine gl_inv (a := 69) (As := [.int (xs (i + 1)), .int (xs (i + 2)), .int (xs (i + 3)), .int (xs (i + 4)), .int (xs (i + 5))]) (q := 1385) dL_law_1382 lk_L_169 (by decide) (by decide) (Nat.le_of_ble_eq_true rfl) (by decide) h69 rfl rfl hq (fun v2 h2 hq2 => ?_)
  obtain ⟨rfl, hR⟩ := hq2
  exact gl_eq (tgt := 1564) dL_law_1385 (by decide) (K h2 hR)

set_option maxHeartbeats 4000000 in
set_option maxRecDepth 100000 in
theorem lw_c37 {b L i : Nat} {xs : Nat → Int32} {S : St} {N : Nat → Nat → Int64} {X : St} {Y : Nat → Int64} (R : Rel S N X Y) (hL : L ≤ 3072) (hi : i + 6 ≤ L) (K : ∀ h, RH h → GoL b L xs 1564 i [] h) : GoL b L xs 1390 i [] (hp S N X Y) := by
  refine gl_x (q := 1391) dL_law_1390 rfl ?_
  refine gl_arg 1 (q := 1396) dL_law_1391 dL_law_1392 dL_law_1393 dL_law_1394 dL_law_1395 (by omega) hL rfl ?_
  refine gl_inv (a := 0) (As := [.int (xs (i + 1))]) (q := 1399) dL_law_1396 lk_L_170 (by decide) (by decide) (by decide) (by decide) hp_0 rfl rfl (p_lays R) (fun v1 h1 hq => ?_)
  obtain ⟨⟨z, rfl⟩, ⟨fs, h69⟩, hq⟩ := hq
  refine gl_m (q := 1400) dL_law_1399 rfl ?_
  refine gl_arg 1 (q := 1405) dL_law_1400 dL_law_1401 dL_law_1402 dL_law_1403 dL_law_1404 (by omega) hL rfl ?_
  refine gl_inv (a := 69) (As := [.int (xs (i + 1))]) (q := 1408) dL_law_1405 lk_L_173 (by decide) (by decide) (Nat.le_of_ble_eq_true rfl) (by decide) h69 rfl rfl hq (fun v2 h2 hq2 => ?_)
  obtain ⟨rfl, hR⟩ := hq2
  exact gl_eq (tgt := 1564) dL_law_1408 (by decide) (K h2 hR)

set_option maxHeartbeats 4000000 in
set_option maxRecDepth 100000 in
theorem lw_c38 {b L i : Nat} {xs : Nat → Int32} {S : St} {N : Nat → Nat → Int64} {X : St} {Y : Nat → Int64} (R : Rel S N X Y) (hL : L ≤ 3072) (hi : i + 6 ≤ L) (K : ∀ h, RH h → GoL b L xs 1564 i [] h) : GoL b L xs 1413 i [] (hp S N X Y) := by
  refine gl_x (q := 1414) dL_law_1413 rfl ?_
  refine gl_arg 1 (q := 1419) dL_law_1414 dL_law_1415 dL_law_1416 dL_law_1417 dL_law_1418 (by omega) hL rfl ?_
  refine gl_arg 2 (q := 1424) dL_law_1419 dL_law_1420 dL_law_1421 dL_law_1422 dL_law_1423 (by omega) hL rfl ?_
  refine gl_inv (a := 0) (As := [.int (xs (i + 1)), .int (xs (i + 2))]) (q := 1427) dL_law_1424 lk_L_174 (by decide) (by decide) (by decide) (by decide) hp_0 rfl rfl (p_book R) (fun v1 h1 hq => ?_)
  obtain ⟨⟨z, rfl⟩, ⟨fs, h69⟩, hq⟩ := hq
  refine gl_m (q := 1428) dL_law_1427 rfl ?_
  refine gl_arg 1 (q := 1433) dL_law_1428 dL_law_1429 dL_law_1430 dL_law_1431 dL_law_1432 (by omega) hL rfl ?_
  refine gl_arg 2 (q := 1438) dL_law_1433 dL_law_1434 dL_law_1435 dL_law_1436 dL_law_1437 (by omega) hL rfl ?_
  refine gl_inv (a := 69) (As := [.int (xs (i + 1)), .int (xs (i + 2))]) (q := 1441) dL_law_1438 lk_L_177 (by decide) (by decide) (Nat.le_of_ble_eq_true rfl) (by decide) h69 rfl rfl hq (fun v2 h2 hq2 => ?_)
  obtain ⟨rfl, hR⟩ := hq2
  exact gl_eq (tgt := 1564) dL_law_1441 (by decide) (K h2 hR)

set_option maxHeartbeats 4000000 in
set_option maxRecDepth 100000 in
theorem lw_c39 {b L i : Nat} {xs : Nat → Int32} {S : St} {N : Nat → Nat → Int64} {X : St} {Y : Nat → Int64} (R : Rel S N X Y) (hL : L ≤ 3072) (hi : i + 6 ≤ L) (K : ∀ h, RH h → GoL b L xs 1564 i [] h) : GoL b L xs 1446 i [] (hp S N X Y) := by
  refine gl_x (q := 1447) dL_law_1446 rfl ?_
  refine gl_arg 1 (q := 1452) dL_law_1447 dL_law_1448 dL_law_1449 dL_law_1450 dL_law_1451 (by omega) hL rfl ?_
  refine gl_arg 2 (q := 1457) dL_law_1452 dL_law_1453 dL_law_1454 dL_law_1455 dL_law_1456 (by omega) hL rfl ?_
  refine gl_inv (a := 0) (As := [.int (xs (i + 1)), .int (xs (i + 2))]) (q := 1460) dL_law_1457 lk_L_178 (by decide) (by decide) (by decide) (by decide) hp_0 rfl rfl (p_read R) (fun v1 h1 hq => ?_)
  obtain ⟨⟨z, rfl⟩, ⟨fs, h69⟩, hq⟩ := hq
  refine gl_m (q := 1461) dL_law_1460 rfl ?_
  refine gl_arg 1 (q := 1466) dL_law_1461 dL_law_1462 dL_law_1463 dL_law_1464 dL_law_1465 (by omega) hL rfl ?_
  refine gl_arg 2 (q := 1471) dL_law_1466 dL_law_1467 dL_law_1468 dL_law_1469 dL_law_1470 (by omega) hL rfl ?_
  refine gl_inv (a := 69) (As := [.int (xs (i + 1)), .int (xs (i + 2))]) (q := 1474) dL_law_1471 lk_L_181 (by decide) (by decide) (Nat.le_of_ble_eq_true rfl) (by decide) h69 rfl rfl hq (fun v2 h2 hq2 => ?_)
  obtain ⟨rfl, hR⟩ := hq2
  exact gl_eq (tgt := 1564) dL_law_1474 (by decide) (K h2 hR)

set_option maxHeartbeats 4000000 in
set_option maxRecDepth 100000 in
theorem lw_c40 {b L i : Nat} {xs : Nat → Int32} {S : St} {N : Nat → Nat → Int64} {X : St} {Y : Nat → Int64} (R : Rel S N X Y) (hL : L ≤ 3072) (hi : i + 6 ≤ L) (K : ∀ h, RH h → GoL b L xs 1564 i [] h) : GoL b L xs 1479 i [] (hp S N X Y) := by
  refine gl_x (q := 1480) dL_law_1479 rfl ?_
  refine gl_inv (a := 0) (As := []) (q := 1483) dL_law_1480 lk_L_182 (by decide) (by decide) (by decide) (by decide) hp_0 rfl rfl (p_image R) (fun v1 h1 hq => ?_)
  obtain ⟨⟨z, rfl⟩, ⟨fs, h69⟩, hq⟩ := hq
  refine gl_m (q := 1484) dL_law_1483 rfl ?_
  refine gl_inv (a := 69) (As := []) (q := 1487) dL_law_1484 lk_L_185 (by decide) (by decide) (Nat.le_of_ble_eq_true rfl) (by decide) h69 rfl rfl hq (fun v2 h2 hq2 => ?_)
  obtain ⟨rfl, hR⟩ := hq2
  exact gl_eq (tgt := 1564) dL_law_1487 (by decide) (K h2 hR)

set_option maxHeartbeats 4000000 in
set_option maxRecDepth 100000 in
theorem lw_c41 {b L i : Nat} {xs : Nat → Int32} {S : St} {N : Nat → Nat → Int64} {X : St} {Y : Nat → Int64} (R : Rel S N X Y) (hL : L ≤ 3072) (hi : i + 6 ≤ L) (K : ∀ h, RH h → GoL b L xs 1564 i [] h) : GoL b L xs 1492 i [] (hp S N X Y) := by
  refine gl_x (q := 1493) dL_law_1492 rfl ?_
  refine gl_inv (a := 0) (As := []) (q := 1496) dL_law_1493 lk_L_186 (by decide) (by decide) (by decide) (by decide) hp_0 rfl rfl (p_undo R) (fun v1 h1 hq => ?_)
  obtain ⟨⟨z, rfl⟩, ⟨fs, h69⟩, hq⟩ := hq
  refine gl_m (q := 1497) dL_law_1496 rfl ?_
  refine gl_inv (a := 69) (As := []) (q := 1500) dL_law_1497 lk_L_189 (by decide) (by decide) (Nat.le_of_ble_eq_true rfl) (by decide) h69 rfl rfl hq (fun v2 h2 hq2 => ?_)
  obtain ⟨rfl, hR⟩ := hq2
  exact gl_eq (tgt := 1564) dL_law_1500 (by decide) (K h2 hR)

set_option maxHeartbeats 4000000 in
set_option maxRecDepth 100000 in
theorem lw_c42 {b L i : Nat} {xs : Nat → Int32} {S : St} {N : Nat → Nat → Int64} {X : St} {Y : Nat → Int64} (R : Rel S N X Y) (hL : L ≤ 3072) (hi : i + 6 ≤ L) (K : ∀ h, RH h → GoL b L xs 1564 i [] h) : GoL b L xs 1505 i [] (hp S N X Y) := by
  refine gl_x (q := 1506) dL_law_1505 rfl ?_
  refine gl_inv (a := 0) (As := []) (q := 1509) dL_law_1506 lk_L_190 (by decide) (by decide) (by decide) (by decide) hp_0 rfl rfl (p_tear R) (fun v1 h1 hq => ?_)
  obtain ⟨⟨z, rfl⟩, ⟨fs, h69⟩, hq⟩ := hq
  refine gl_m (q := 1510) dL_law_1509 rfl ?_
  refine gl_inv (a := 69) (As := []) (q := 1513) dL_law_1510 lk_L_193 (by decide) (by decide) (Nat.le_of_ble_eq_true rfl) (by decide) h69 rfl rfl hq (fun v2 h2 hq2 => ?_)
  obtain ⟨rfl, hR⟩ := hq2
  exact gl_eq (tgt := 1564) dL_law_1513 (by decide) (K h2 hR)

set_option maxHeartbeats 4000000 in
set_option maxRecDepth 100000 in
theorem lw_c43 {b L i : Nat} {xs : Nat → Int32} {S : St} {N : Nat → Nat → Int64} {X : St} {Y : Nat → Int64} (R : Rel S N X Y) (hL : L ≤ 3072) (hi : i + 6 ≤ L) (K : ∀ h, RH h → GoL b L xs 1564 i [] h) : GoL b L xs 1518 i [] (hp S N X Y) := by
  refine gl_x (q := 1519) dL_law_1518 rfl ?_
  refine gl_arg 1 (q := 1524) dL_law_1519 dL_law_1520 dL_law_1521 dL_law_1522 dL_law_1523 (by omega) hL rfl ?_
  refine gl_inv (a := 0) (As := [.int (xs (i + 1))]) (q := 1527) dL_law_1524 lk_L_194 (by decide) (by decide) (by decide) (by decide) hp_0 rfl rfl (p_count R) (fun v1 h1 hq => ?_)
  obtain ⟨⟨z, rfl⟩, ⟨fs, h69⟩, hq⟩ := hq
  refine gl_m (q := 1528) dL_law_1527 rfl ?_
  refine gl_arg 1 (q := 1533) dL_law_1528 dL_law_1529 dL_law_1530 dL_law_1531 dL_law_1532 (by omega) hL rfl ?_
  refine gl_inv (a := 69) (As := [.int (xs (i + 1))]) (q := 1536) dL_law_1533 lk_L_197 (by decide) (by decide) (Nat.le_of_ble_eq_true rfl) (by decide) h69 rfl rfl hq (fun v2 h2 hq2 => ?_)
  obtain ⟨rfl, hR⟩ := hq2
  exact gl_eq (tgt := 1564) dL_law_1536 (by decide) (K h2 hR)

set_option maxHeartbeats 4000000 in
set_option maxRecDepth 100000 in
theorem lw_c44 {b L i : Nat} {xs : Nat → Int32} {S : St} {N : Nat → Nat → Int64} {X : St} {Y : Nat → Int64} (R : Rel S N X Y) (hL : L ≤ 3072) (hi : i + 6 ≤ L) (K : ∀ h, RH h → GoL b L xs 1564 i [] h) : GoL b L xs 1541 i [] (hp S N X Y) := by
  refine gl_x (q := 1542) dL_law_1541 rfl ?_
  refine gl_arg 1 (q := 1547) dL_law_1542 dL_law_1543 dL_law_1544 dL_law_1545 dL_law_1546 (by omega) hL rfl ?_
  refine gl_inv (a := 0) (As := [.int (xs (i + 1))]) (q := 1550) dL_law_1547 lk_L_198 (by decide) (by decide) (by decide) (by decide) hp_0 rfl rfl (p_status R) (fun v1 h1 hq => ?_)
  obtain ⟨⟨z, rfl⟩, ⟨fs, h69⟩, hq⟩ := hq
  refine gl_m (q := 1551) dL_law_1550 rfl ?_
  refine gl_arg 1 (q := 1556) dL_law_1551 dL_law_1552 dL_law_1553 dL_law_1554 dL_law_1555 (by omega) hL rfl ?_
  refine gl_inv (a := 69) (As := [.int (xs (i + 1))]) (q := 1559) dL_law_1556 lk_L_201 (by decide) (by decide) (Nat.le_of_ble_eq_true rfl) (by decide) h69 rfl rfl hq (fun v2 h2 hq2 => ?_)
  obtain ⟨rfl, hR⟩ := hq2
  exact gl_eq (tgt := 1564) dL_law_1559 (by decide) (K h2 hR)

set_option maxHeartbeats 4000000 in
set_option maxRecDepth 100000 in
theorem law_loop {b L : Nat} {xs : Nat → Int32} (hL : L ≤ 3072) : ∀ (fu i : Nat) (h : AH), L + 6 - i < fu → i ≤ L + 6 → RH h → GoL b L xs 18 i [] h := by
  intro fu
  induction fu with
  | zero => intro i h hf; exact absurd hf (Nat.not_lt_zero _)
  | succ fu ih =>
    intro i h hf hi hR
    refine gl_head hL (by omega) (fun h6 => ?_)
    refine gl_sw hL h6 (fun j hj => ?_)
    have K : ∀ h, RH h → GoL b L xs 1564 i [] h := fun h hh => gl_tail (ih (i + 6) h (by omega) (by omega) hh)
    obtain ⟨S, N, X, Y, rfl, R⟩ := hR
    match j, hj with
    | 0, _ => exact gl_in (off := 195) (tgt := 228) dL_law_33 (by decide) (by decide) (by decide) (by decide) (lw_c0 R hL h6 K)
    | 1, _ => exact gl_in (off := 228) (tgt := 261) dL_law_33 (by decide) (by decide) (by decide) (by decide) (lw_c1 R hL h6 K)
    | 2, _ => exact gl_in (off := 261) (tgt := 294) dL_law_33 (by decide) (by decide) (by decide) (by decide) (lw_c2 R hL h6 K)
    | 3, _ => exact gl_in (off := 304) (tgt := 337) dL_law_33 (by decide) (by decide) (by decide) (by decide) (lw_c3 R hL h6 K)
    | 4, _ => exact gl_in (off := 337) (tgt := 370) dL_law_33 (by decide) (by decide) (by decide) (by decide) (lw_c4 R hL h6 K)
    | 5, _ => exact gl_in (off := 380) (tgt := 413) dL_law_33 (by decide) (by decide) (by decide) (by decide) (lw_c5 R hL h6 K)
    | 6, _ => exact gl_in (off := 413) (tgt := 446) dL_law_33 (by decide) (by decide) (by decide) (by decide) (lw_c6 R hL h6 K)
    | 7, _ => exact gl_in (off := 446) (tgt := 479) dL_law_33 (by decide) (by decide) (by decide) (by decide) (lw_c7 R hL h6 K)
    | 8, _ => exact gl_in (off := 479) (tgt := 512) dL_law_33 (by decide) (by decide) (by decide) (by decide) (lw_c8 R hL h6 K)
    | 9, _ => exact gl_in (off := 502) (tgt := 535) dL_law_33 (by decide) (by decide) (by decide) (by decide) (lw_c9 R hL h6 K)
    | 10, _ => exact gl_in (off := 525) (tgt := 558) dL_law_33 (by decide) (by decide) (by decide) (by decide) (lw_c10 R hL h6 K)
    | 11, _ => exact gl_in (off := 568) (tgt := 601) dL_law_33 (by decide) (by decide) (by decide) (by decide) (lw_c11 R hL h6 K)
    | 12, _ => exact gl_in (off := 601) (tgt := 634) dL_law_33 (by decide) (by decide) (by decide) (by decide) (lw_c12 R hL h6 K)
    | 13, _ => exact gl_in (off := 634) (tgt := 667) dL_law_33 (by decide) (by decide) (by decide) (by decide) (lw_c13 R hL h6 K)
    | 14, _ => exact gl_in (off := 687) (tgt := 720) dL_law_33 (by decide) (by decide) (by decide) (by decide) (lw_c14 R hL h6 K)
    | 15, _ => exact gl_in (off := 720) (tgt := 753) dL_law_33 (by decide) (by decide) (by decide) (by decide) (lw_c15 R hL h6 K)
    | 16, _ => exact gl_in (off := 733) (tgt := 766) dL_law_33 (by decide) (by decide) (by decide) (by decide) (lw_c16 R hL h6 K)
    | 17, _ => exact gl_in (off := 756) (tgt := 789) dL_law_33 (by decide) (by decide) (by decide) (by decide) (lw_c17 R hL h6 K)
    | 18, _ => exact gl_in (off := 779) (tgt := 812) dL_law_33 (by decide) (by decide) (by decide) (by decide) (lw_c18 R hL h6 K)
    | 19, _ => exact gl_in (off := 812) (tgt := 845) dL_law_33 (by decide) (by decide) (by decide) (by decide) (lw_c19 R hL h6 K)
    | 20, _ => exact gl_in (off := 845) (tgt := 878) dL_law_33 (by decide) (by decide) (by decide) (by decide) (lw_c20 R hL h6 K)
    | 21, _ => exact gl_in (off := 868) (tgt := 901) dL_law_33 (by decide) (by decide) (by decide) (by decide) (lw_c21 R hL h6 K)
    | 22, _ => exact gl_in (off := 891) (tgt := 924) dL_law_33 (by decide) (by decide) (by decide) (by decide) (lw_c22 R hL h6 K)
    | 23, _ => exact gl_in (off := 914) (tgt := 947) dL_law_33 (by decide) (by decide) (by decide) (by decide) (lw_c23 R hL h6 K)
    | 24, _ => exact gl_in (off := 937) (tgt := 970) dL_law_33 (by decide) (by decide) (by decide) (by decide) (lw_c24 R hL h6 K)
    | 25, _ => exact gl_in (off := 970) (tgt := 1003) dL_law_33 (by decide) (by decide) (by decide) (by decide) (lw_c25 R hL h6 K)
    | 26, _ => exact gl_in (off := 1003) (tgt := 1036) dL_law_33 (by decide) (by decide) (by decide) (by decide) (lw_c26 R hL h6 K)
    | 27, _ => exact gl_in (off := 1026) (tgt := 1059) dL_law_33 (by decide) (by decide) (by decide) (by decide) (lw_c27 R hL h6 K)
    | 28, _ => exact gl_in (off := 1059) (tgt := 1092) dL_law_33 (by decide) (by decide) (by decide) (by decide) (lw_c28 R hL h6 K)
    | 29, _ => exact gl_in (off := 1092) (tgt := 1125) dL_law_33 (by decide) (by decide) (by decide) (by decide) (lw_c29 R hL h6 K)
    | 30, _ => exact gl_in (off := 1105) (tgt := 1138) dL_law_33 (by decide) (by decide) (by decide) (by decide) (lw_c30 R hL h6 K)
    | 31, _ => exact gl_in (off := 1118) (tgt := 1151) dL_law_33 (by decide) (by decide) (by decide) (by decide) (lw_c31 R hL h6 K)
    | 32, _ => exact gl_in (off := 1151) (tgt := 1184) dL_law_33 (by decide) (by decide) (by decide) (by decide) (lw_c32 R hL h6 K)
    | 33, _ => exact gl_in (off := 1164) (tgt := 1197) dL_law_33 (by decide) (by decide) (by decide) (by decide) (lw_c33 R hL h6 K)
    | 34, _ => exact gl_in (off := 1177) (tgt := 1210) dL_law_33 (by decide) (by decide) (by decide) (by decide) (lw_c34 R hL h6 K)
    | 35, _ => exact gl_in (off := 1220) (tgt := 1253) dL_law_33 (by decide) (by decide) (by decide) (by decide) (lw_c35 R hL h6 K)
    | 36, _ => exact gl_in (off := 1294) (tgt := 1327) dL_law_33 (by decide) (by decide) (by decide) (by decide) (lw_c36 R hL h6 K)
    | 37, _ => exact gl_in (off := 1357) (tgt := 1390) dL_law_33 (by decide) (by decide) (by decide) (by decide) (lw_c37 R hL h6 K)
    | 38, _ => exact gl_in (off := 1380) (tgt := 1413) dL_law_33 (by decide) (by decide) (by decide) (by decide) (lw_c38 R hL h6 K)
    | 39, _ => exact gl_in (off := 1413) (tgt := 1446) dL_law_33 (by decide) (by decide) (by decide) (by decide) (lw_c39 R hL h6 K)
    | 40, _ => exact gl_in (off := 1446) (tgt := 1479) dL_law_33 (by decide) (by decide) (by decide) (by decide) (lw_c40 R hL h6 K)
    | 41, _ => exact gl_in (off := 1459) (tgt := 1492) dL_law_33 (by decide) (by decide) (by decide) (by decide) (lw_c41 R hL h6 K)
    | 42, _ => exact gl_in (off := 1472) (tgt := 1505) dL_law_33 (by decide) (by decide) (by decide) (by decide) (lw_c42 R hL h6 K)
    | 43, _ => exact gl_in (off := 1485) (tgt := 1518) dL_law_33 (by decide) (by decide) (by decide) (by decide) (lw_c43 R hL h6 K)
    | 44, _ => exact gl_in (off := 1508) (tgt := 1541) dL_law_33 (by decide) (by decide) (by decide) (by decide) (lw_c44 R hL h6 K)
    | j + 45, hj => exact gl_out (tgt := 1564) dL_law_33 (Or.inr (by rw [nI_toInt (by omega)]; omega)) (by decide) (K _ ⟨S, N, X, Y, rfl, R⟩)
