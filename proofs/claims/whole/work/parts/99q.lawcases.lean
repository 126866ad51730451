set_option maxHeartbeats 1000000 in
theorem lc_0 {b Ln : Nat} {xs : Nat → Int32} {n : Nat} {h : HP} {cs ss : Nat} (hL : Ln ≤ 3072) (hb : 6 * n + 6 ≤ Ln) (hn : n < 600) (H : INV n h) (hcs : cs ≤ 1000) (hss : ss ≤ 100000) (k : ∀ h', INV (n + 1) h' → LWP E1 b Ln xs 1564 [.ref 0, .ref 54, .int (nI (6 * n))] [] h' (cs + 1) (ss + 11)) : LWP E1 b Ln xs 196 [.ref 0, .ref 54, .int (nI (6 * n))] [] h cs ss := by
  refine lp_aload1 (pc' := 197) dL_196 rfl rfl ?_
  refine lp_rd (i := 6 * n) (j := 1) (pc' := 202) dL_197 dL_198 dL_199 dL_200 dL_201 rfl rfl (by omega) hL rfl ?_
  refine lp_rd (i := 6 * n) (j := 2) (pc' := 207) dL_202 dL_203 dL_204 dL_205 dL_206 rfl rfl (by omega) hL rfl ?_
  refine lp_rd (i := 6 * n) (j := 3) (pc' := 212) dL_207 dL_208 dL_209 dL_210 dL_211 rfl rfl (by omega) hL rfl ?_
  refine lp_callV (pc' := 215) (As := [.int _, .int _, .int _]) dL_212 rfl mk_X11_value ml_L_13 im_X11_value se_X11_X11_X11_value sh_0 (by decide) rfl rfl rfl ⟨by decide, by decide, (by show cs + 0 ≤ 600000; omega), (by show ss + 0 ≤ 7302250; omega)⟩ (Nat.le_of_ble_eq_true rfl) (j_value hn H (fun v h2 jm => ?_))
  refine lp_aload2 (pc' := 216) dL_215 rfl rfl ?_
  refine lp_rd (i := 6 * n) (j := 1) (pc' := 221) dL_216 dL_217 dL_218 dL_219 dL_220 rfl rfl (by omega) hL rfl ?_
  refine lp_rd (i := 6 * n) (j := 2) (pc' := 226) dL_221 dL_222 dL_223 dL_224 dL_225 rfl rfl (by omega) hL rfl ?_
  refine lp_rd (i := 6 * n) (j := 3) (pc' := 231) dL_226 dL_227 dL_228 dL_229 dL_230 rfl rfl (by omega) hL rfl ?_
  refine lp_callV (pc' := 234) (As := [.int _, .int _, .int _]) dL_231 rfl mk_X12_value ml_L_17 im_X12_value se_X12_X12_X12_value sh_54 (by decide) rfl rfl rfl ⟨by decide, by decide, (by show cs + 0 + 0 ≤ 600000; omega), (by show ss + 0 + 0 ≤ 7302250; omega)⟩ (Nat.le_of_ble_eq_true rfl) (jm _ (fun h3 H3 => ?_))
  refine lp_same (tgt := 1564) dL_234 (by decide) rfl ?_
  exact lp_wid (by show cs + 0 + 0 ≤ cs + 1; omega) (by show ss + 0 + 0 ≤ ss + 11; omega) (k _ H3)
set_option maxHeartbeats 1000000 in
theorem lc_1 {b Ln : Nat} {xs : Nat → Int32} {n : Nat} {h : HP} {cs ss : Nat} (hL : Ln ≤ 3072) (hb : 6 * n + 6 ≤ Ln) (hn : n < 600) (H : INV n h) (hcs : cs ≤ 1000) (hss : ss ≤ 100000) (k : ∀ h', INV (n + 1) h' → LWP E1 b Ln xs 1564 [.ref 0, .ref 54, .int (nI (6 * n))] [] h' (cs + 1) (ss + 11)) : LWP E1 b Ln xs 239 [.ref 0, .ref 54, .int (nI (6 * n))] [] h cs ss := by
  refine lp_aload1 (pc' := 240) dL_239 rfl rfl ?_
  refine lp_rd (i := 6 * n) (j := 1) (pc' := 245) dL_240 dL_241 dL_242 dL_243 dL_244 rfl rfl (by omega) hL rfl ?_
  refine lp_rd (i := 6 * n) (j := 2) (pc' := 250) dL_245 dL_246 dL_247 dL_248 dL_249 rfl rfl (by omega) hL rfl ?_
  refine lp_bool (p1 := 253) (p2 := 254) (p3 := 257) (p4 := 258) dL_250 (by decide) rfl dL_253 rfl dL_254 (by decide) dL_257 rfl ?_
  refine lp_callV (pc' := 261) (As := [.int _, .int _]) dL_258 rfl mk_X11_free ml_L_18 im_X11_free se_X11_X11_X11_free sh_0 (by decide) rfl rfl rfl ⟨by decide, by decide, (by show cs + 0 ≤ 600000; omega), (by show ss + 0 ≤ 7302250; omega)⟩ (Nat.le_of_ble_eq_true rfl) (j_free hn H (fun v h2 jm => ?_))
  refine lp_aload2 (pc' := 262) dL_261 rfl rfl ?_
  refine lp_rd (i := 6 * n) (j := 1) (pc' := 267) dL_262 dL_263 dL_264 dL_265 dL_266 rfl rfl (by omega) hL rfl ?_
  refine lp_rd (i := 6 * n) (j := 2) (pc' := 272) dL_267 dL_268 dL_269 dL_270 dL_271 rfl rfl (by omega) hL rfl ?_
  refine lp_bool (p1 := 275) (p2 := 276) (p3 := 279) (p4 := 280) dL_272 (by decide) rfl dL_275 rfl dL_276 (by decide) dL_279 rfl ?_
  refine lp_callV (pc' := 283) (As := [.int _, .int _]) dL_280 rfl mk_X12_free ml_L_22 im_X12_free se_X12_X12_X12_free sh_54 (by decide) rfl rfl rfl ⟨by decide, by decide, (by show cs + 0 + 0 ≤ 600000; omega), (by show ss + 0 + 0 ≤ 7302250; omega)⟩ (Nat.le_of_ble_eq_true rfl) (jm _ (fun h3 H3 => ?_))
  refine lp_same (tgt := 1564) dL_283 (by decide) rfl ?_
  exact lp_wid (by show cs + 0 + 0 ≤ cs + 1; omega) (by show ss + 0 + 0 ≤ ss + 11; omega) (k _ H3)
set_option maxHeartbeats 1000000 in
theorem lc_2 {b Ln : Nat} {xs : Nat → Int32} {n : Nat} {h : HP} {cs ss : Nat} (hL : Ln ≤ 3072) (hb : 6 * n + 6 ≤ Ln) (hn : n < 600) (H : INV n h) (hcs : cs ≤ 1000) (hss : ss ≤ 100000) (k : ∀ h', INV (n + 1) h' → LWP E1 b Ln xs 1564 [.ref 0, .ref 54, .int (nI (6 * n))] [] h' (cs + 1) (ss + 11)) : LWP E1 b Ln xs 288 [.ref 0, .ref 54, .int (nI (6 * n))] [] h cs ss := by
  refine lp_aload1 (pc' := 289) dL_288 rfl rfl ?_
  refine lp_rd (i := 6 * n) (j := 1) (pc' := 294) dL_289 dL_290 dL_291 dL_292 dL_293 rfl rfl (by omega) hL rfl ?_
  refine lp_rd (i := 6 * n) (j := 2) (pc' := 299) dL_294 dL_295 dL_296 dL_297 dL_298 rfl rfl (by omega) hL rfl ?_
  refine lp_callV (pc' := 302) (As := [.int _, .int _]) dL_299 rfl mk_X11_test ml_L_23 im_X11_test se_X11_X11_X11_test sh_0 (by decide) rfl rfl rfl ⟨by decide, by decide, (by show cs + 1 ≤ 600000; omega), (by show ss + 3 ≤ 7302250; omega)⟩ (Nat.le_of_ble_eq_true rfl) (j_test hn H (fun v h2 jm => ?_))
  refine lp_aload2 (pc' := 303) dL_302 rfl rfl ?_
  refine lp_rd (i := 6 * n) (j := 1) (pc' := 308) dL_303 dL_304 dL_305 dL_306 dL_307 rfl rfl (by omega) hL rfl ?_
  refine lp_rd (i := 6 * n) (j := 2) (pc' := 313) dL_308 dL_309 dL_310 dL_311 dL_312 rfl rfl (by omega) hL rfl ?_
  refine lp_callV (pc' := 316) (As := [.int _, .int _]) dL_313 rfl mk_X12_test ml_L_27 im_X12_test se_X12_X12_X12_test sh_54 (by decide) rfl rfl rfl ⟨by decide, by decide, (by show cs + 1 + 0 ≤ 600000; omega), (by show ss + 3 + 0 ≤ 7302250; omega)⟩ (Nat.le_of_ble_eq_true rfl) (jm _ (fun h3 H3 => ?_))
  refine lp_same (tgt := 1564) dL_316 (by decide) rfl ?_
  exact lp_wid (by show cs + 1 + 0 ≤ cs + 1; omega) (by show ss + 3 + 0 ≤ ss + 11; omega) (k _ H3)
set_option maxHeartbeats 1000000 in
theorem lc_3 {b Ln : Nat} {xs : Nat → Int32} {n : Nat} {h : HP} {cs ss : Nat} (hL : Ln ≤ 3072) (hb : 6 * n + 6 ≤ Ln) (hn : n < 600) (H : INV n h) (hcs : cs ≤ 1000) (hss : ss ≤ 100000) (k : ∀ h', INV (n + 1) h' → LWP E1 b Ln xs 1564 [.ref 0, .ref 54, .int (nI (6 * n))] [] h' (cs + 1) (ss + 11)) : LWP E1 b Ln xs 321 [.ref 0, .ref 54, .int (nI (6 * n))] [] h cs ss := by
  refine lp_aload1 (pc' := 322) dL_321 rfl rfl ?_
  refine lp_rd (i := 6 * n) (j := 1) (pc' := 327) dL_322 dL_323 dL_324 dL_325 dL_326 rfl rfl (by omega) hL rfl ?_
  refine lp_rd (i := 6 * n) (j := 2) (pc' := 332) dL_327 dL_328 dL_329 dL_330 dL_331 rfl rfl (by omega) hL rfl ?_
  refine lp_bool (p1 := 335) (p2 := 336) (p3 := 339) (p4 := 340) dL_332 (by decide) rfl dL_335 rfl dL_336 (by decide) dL_339 rfl ?_
  refine lp_rd (i := 6 * n) (j := 3) (pc' := 345) dL_340 dL_341 dL_342 dL_343 dL_344 rfl rfl (by omega) hL rfl ?_
  refine lp_callV (pc' := 348) (As := [.int _, .int _, .int _]) dL_345 rfl mk_X11_testValue ml_L_28 im_X11_testValue se_X11_X11_X11_testValue sh_0 (by decide) rfl rfl rfl ⟨by decide, by decide, (by show cs + 1 ≤ 600000; omega), (by show ss + 3 ≤ 7302250; omega)⟩ (Nat.le_of_ble_eq_true rfl) (j_testValue hn H (fun v h2 jm => ?_))
  refine lp_aload2 (pc' := 349) dL_348 rfl rfl ?_
  refine lp_rd (i := 6 * n) (j := 1) (pc' := 354) dL_349 dL_350 dL_351 dL_352 dL_353 rfl rfl (by omega) hL rfl ?_
  refine lp_rd (i := 6 * n) (j := 2) (pc' := 359) dL_354 dL_355 dL_356 dL_357 dL_358 rfl rfl (by omega) hL rfl ?_
  refine lp_bool (p1 := 362) (p2 := 363) (p3 := 366) (p4 := 367) dL_359 (by decide) rfl dL_362 rfl dL_363 (by decide) dL_366 rfl ?_
  refine lp_rd (i := 6 * n) (j := 3) (pc' := 372) dL_367 dL_368 dL_369 dL_370 dL_371 rfl rfl (by omega) hL rfl ?_
  refine lp_callV (pc' := 375) (As := [.int _, .int _, .int _]) dL_372 rfl mk_X12_testValue ml_L_32 im_X12_testValue se_X12_X12_X12_testValue sh_54 (by decide) rfl rfl rfl ⟨by decide, by decide, (by show cs + 1 + 0 ≤ 600000; omega), (by show ss + 3 + 0 ≤ 7302250; omega)⟩ (Nat.le_of_ble_eq_true rfl) (jm _ (fun h3 H3 => ?_))
  refine lp_same (tgt := 1564) dL_375 (by decide) rfl ?_
  exact lp_wid (by show cs + 1 + 0 ≤ cs + 1; omega) (by show ss + 3 + 0 ≤ ss + 11; omega) (k _ H3)
set_option maxHeartbeats 1000000 in
theorem lc_4 {b Ln : Nat} {xs : Nat → Int32} {n : Nat} {h : HP} {cs ss : Nat} (hL : Ln ≤ 3072) (hb : 6 * n + 6 ≤ Ln) (hn : n < 600) (H : INV n h) (hcs : cs ≤ 1000) (hss : ss ≤ 100000) (k : ∀ h', INV (n + 1) h' → LWP E1 b Ln xs 1564 [.ref 0, .ref 54, .int (nI (6 * n))] [] h' (cs + 1) (ss + 11)) : LWP E1 b Ln xs 380 [.ref 0, .ref 54, .int (nI (6 * n))] [] h cs ss := by
  refine lp_aload1 (pc' := 381) dL_380 rfl rfl ?_
  refine lp_rd (i := 6 * n) (j := 1) (pc' := 386) dL_381 dL_382 dL_383 dL_384 dL_385 rfl rfl (by omega) hL rfl ?_
  refine lp_rd (i := 6 * n) (j := 2) (pc' := 391) dL_386 dL_387 dL_388 dL_389 dL_390 rfl rfl (by omega) hL rfl ?_
  refine lp_rd (i := 6 * n) (j := 3) (pc' := 396) dL_391 dL_392 dL_393 dL_394 dL_395 rfl rfl (by omega) hL rfl ?_
  refine lp_rd (i := 6 * n) (j := 4) (pc' := 401) dL_396 dL_397 dL_398 dL_399 dL_400 rfl rfl (by omega) hL rfl ?_
  refine lp_rd (i := 6 * n) (j := 5) (pc' := 406) dL_401 dL_402 dL_403 dL_404 dL_405 rfl rfl (by omega) hL rfl ?_
  refine lp_callV (pc' := 409) (As := [.int _, .int _, .int _, .int _, .int _]) dL_406 rfl mk_X11_rule ml_L_33 im_X11_rule se_X11_X11_X11_rule sh_0 (by decide) rfl rfl rfl ⟨by decide, by decide, (by show cs + 1 ≤ 600000; omega), (by show ss + 11 ≤ 7302250; omega)⟩ (Nat.le_of_ble_eq_true rfl) (j_rule hn H (fun v h2 jm => ?_))
  refine lp_aload2 (pc' := 410) dL_409 rfl rfl ?_
  refine lp_rd (i := 6 * n) (j := 1) (pc' := 415) dL_410 dL_411 dL_412 dL_413 dL_414 rfl rfl (by omega) hL rfl ?_
  refine lp_rd (i := 6 * n) (j := 2) (pc' := 420) dL_415 dL_416 dL_417 dL_418 dL_419 rfl rfl (by omega) hL rfl ?_
  refine lp_rd (i := 6 * n) (j := 3) (pc' := 425) dL_420 dL_421 dL_422 dL_423 dL_424 rfl rfl (by omega) hL rfl ?_
  refine lp_rd (i := 6 * n) (j := 4) (pc' := 430) dL_425 dL_426 dL_427 dL_428 dL_429 rfl rfl (by omega) hL rfl ?_
  refine lp_rd (i := 6 * n) (j := 5) (pc' := 435) dL_430 dL_431 dL_432 dL_433 dL_434 rfl rfl (by omega) hL rfl ?_
  refine lp_callV (pc' := 438) (As := [.int _, .int _, .int _, .int _, .int _]) dL_435 rfl mk_X12_rule ml_L_37 im_X12_rule se_X12_X12_X12_rule sh_54 (by decide) rfl rfl rfl ⟨by decide, by decide, (by show cs + 1 + 0 ≤ 600000; omega), (by show ss + 11 + 0 ≤ 7302250; omega)⟩ (Nat.le_of_ble_eq_true rfl) (jm _ (fun h3 H3 => ?_))
  refine lp_same (tgt := 1564) dL_438 (by decide) rfl ?_
  exact lp_wid (by show cs + 1 + 0 ≤ cs + 1; omega) (by show ss + 11 + 0 ≤ ss + 11; omega) (k _ H3)
set_option maxHeartbeats 1000000 in
theorem lc_5 {b Ln : Nat} {xs : Nat → Int32} {n : Nat} {h : HP} {cs ss : Nat} (hL : Ln ≤ 3072) (hb : 6 * n + 6 ≤ Ln) (hn : n < 600) (H : INV n h) (hcs : cs ≤ 1000) (hss : ss ≤ 100000) (k : ∀ h', INV (n + 1) h' → LWP E1 b Ln xs 1564 [.ref 0, .ref 54, .int (nI (6 * n))] [] h' (cs + 1) (ss + 11)) : LWP E1 b Ln xs 443 [.ref 0, .ref 54, .int (nI (6 * n))] [] h cs ss := by
  refine lp_aload1 (pc' := 444) dL_443 rfl rfl ?_
  refine lp_rd (i := 6 * n) (j := 1) (pc' := 449) dL_444 dL_445 dL_446 dL_447 dL_448 rfl rfl (by omega) hL rfl ?_
  refine lp_rd (i := 6 * n) (j := 2) (pc' := 454) dL_449 dL_450 dL_451 dL_452 dL_453 rfl rfl (by omega) hL rfl ?_
  refine lp_rd (i := 6 * n) (j := 3) (pc' := 459) dL_454 dL_455 dL_456 dL_457 dL_458 rfl rfl (by omega) hL rfl ?_
  refine lp_rd (i := 6 * n) (j := 4) (pc' := 464) dL_459 dL_460 dL_461 dL_462 dL_463 rfl rfl (by omega) hL rfl ?_
  refine lp_rd (i := 6 * n) (j := 5) (pc' := 469) dL_464 dL_465 dL_466 dL_467 dL_468 rfl rfl (by omega) hL rfl ?_
  refine lp_callV (pc' := 472) (As := [.int _, .int _, .int _, .int _, .int _]) dL_469 rfl mk_X11_typed ml_L_38 im_X11_typed se_X11_X11_X11_typed sh_0 (by decide) rfl rfl rfl ⟨by decide, by decide, (by show cs + 1 ≤ 600000; omega), (by show ss + 11 ≤ 7302250; omega)⟩ (Nat.le_of_ble_eq_true rfl) (j_typed hn H (fun v h2 jm => ?_))
  refine lp_aload2 (pc' := 473) dL_472 rfl rfl ?_
  refine lp_rd (i := 6 * n) (j := 1) (pc' := 478) dL_473 dL_474 dL_475 dL_476 dL_477 rfl rfl (by omega) hL rfl ?_
  refine lp_rd (i := 6 * n) (j := 2) (pc' := 483) dL_478 dL_479 dL_480 dL_481 dL_482 rfl rfl (by omega) hL rfl ?_
  refine lp_rd (i := 6 * n) (j := 3) (pc' := 488) dL_483 dL_484 dL_485 dL_486 dL_487 rfl rfl (by omega) hL rfl ?_
  refine lp_rd (i := 6 * n) (j := 4) (pc' := 493) dL_488 dL_489 dL_490 dL_491 dL_492 rfl rfl (by omega) hL rfl ?_
  refine lp_rd (i := 6 * n) (j := 5) (pc' := 498) dL_493 dL_494 dL_495 dL_496 dL_497 rfl rfl (by omega) hL rfl ?_
  refine lp_callV (pc' := 501) (As := [.int _, .int _, .int _, .int _, .int _]) dL_498 rfl mk_X12_typed ml_L_41 im_X12_typed se_X12_X12_X12_typed sh_54 (by decide) rfl rfl rfl ⟨by decide, by decide, (by show cs + 1 + 0 ≤ 600000; omega), (by show ss + 11 + 0 ≤ 7302250; omega)⟩ (Nat.le_of_ble_eq_true rfl) (jm _ (fun h3 H3 => ?_))
  refine lp_same (tgt := 1564) dL_501 (by decide) rfl ?_
  exact lp_wid (by show cs + 1 + 0 ≤ cs + 1; omega) (by show ss + 11 + 0 ≤ ss + 11; omega) (k _ H3)
set_option maxHeartbeats 1000000 in
theorem lc_6 {b Ln : Nat} {xs : Nat → Int32} {n : Nat} {h : HP} {cs ss : Nat} (hL : Ln ≤ 3072) (hb : 6 * n + 6 ≤ Ln) (hn : n < 600) (H : INV n h) (hcs : cs ≤ 1000) (hss : ss ≤ 100000) (k : ∀ h', INV (n + 1) h' → LWP E1 b Ln xs 1564 [.ref 0, .ref 54, .int (nI (6 * n))] [] h' (cs + 1) (ss + 11)) : LWP E1 b Ln xs 506 [.ref 0, .ref 54, .int (nI (6 * n))] [] h cs ss := by
  refine lp_aload1 (pc' := 507) dL_506 rfl rfl ?_
  refine lp_rd (i := 6 * n) (j := 1) (pc' := 512) dL_507 dL_508 dL_509 dL_510 dL_511 rfl rfl (by omega) hL rfl ?_
  refine lp_rd (i := 6 * n) (j := 2) (pc' := 517) dL_512 dL_513 dL_514 dL_515 dL_516 rfl rfl (by omega) hL rfl ?_
  refine lp_bool (p1 := 520) (p2 := 521) (p3 := 524) (p4 := 525) dL_517 (by decide) rfl dL_520 rfl dL_521 (by decide) dL_524 rfl ?_
  refine lp_callV (pc' := 528) (As := [.int _, .int _]) dL_525 rfl mk_X11_stack ml_L_42 im_X11_stack se_X11_X11_X11_stack sh_0 (by decide) rfl rfl rfl ⟨by decide, by decide, (by show cs + 0 ≤ 600000; omega), (by show ss + 0 ≤ 7302250; omega)⟩ (Nat.le_of_ble_eq_true rfl) (j_stack hn H (fun v h2 jm => ?_))
  refine lp_aload2 (pc' := 529) dL_528 rfl rfl ?_
  refine lp_rd (i := 6 * n) (j := 1) (pc' := 534) dL_529 dL_530 dL_531 dL_532 dL_533 rfl rfl (by omega) hL rfl ?_
  refine lp_rd (i := 6 * n) (j := 2) (pc' := 539) dL_534 dL_535 dL_536 dL_537 dL_538 rfl rfl (by omega) hL rfl ?_
  refine lp_bool (p1 := 542) (p2 := 543) (p3 := 546) (p4 := 547) dL_539 (by decide) rfl dL_542 rfl dL_543 (by decide) dL_546 rfl ?_
  refine lp_callV (pc' := 550) (As := [.int _, .int _]) dL_547 rfl mk_X12_stack ml_L_45 im_X12_stack se_X12_X12_X12_stack sh_54 (by decide) rfl rfl rfl ⟨by decide, by decide, (by show cs + 0 + 0 ≤ 600000; omega), (by show ss + 0 + 0 ≤ 7302250; omega)⟩ (Nat.le_of_ble_eq_true rfl) (jm _ (fun h3 H3 => ?_))
  refine lp_same (tgt := 1564) dL_550 (by decide) rfl ?_
  exact lp_wid (by show cs + 0 + 0 ≤ cs + 1; omega) (by show ss + 0 + 0 ≤ ss + 11; omega) (k _ H3)
set_option maxHeartbeats 1000000 in
theorem lc_7 {b Ln : Nat} {xs : Nat → Int32} {n : Nat} {h : HP} {cs ss : Nat} (hL : Ln ≤ 3072) (hb : 6 * n + 6 ≤ Ln) (hn : n < 600) (H : INV n h) (hcs : cs ≤ 1000) (hss : ss ≤ 100000) (k : ∀ h', INV (n + 1) h' → LWP E1 b Ln xs 1564 [.ref 0, .ref 54, .int (nI (6 * n))] [] h' (cs + 1) (ss + 11)) : LWP E1 b Ln xs 555 [.ref 0, .ref 54, .int (nI (6 * n))] [] h cs ss := by
  refine lp_aload1 (pc' := 556) dL_555 rfl rfl ?_
  refine lp_rd (i := 6 * n) (j := 1) (pc' := 561) dL_556 dL_557 dL_558 dL_559 dL_560 rfl rfl (by omega) hL rfl ?_
  refine lp_rd (i := 6 * n) (j := 2) (pc' := 566) dL_561 dL_562 dL_563 dL_564 dL_565 rfl rfl (by omega) hL rfl ?_
  refine lp_bool (p1 := 569) (p2 := 570) (p3 := 573) (p4 := 574) dL_566 (by decide) rfl dL_569 rfl dL_570 (by decide) dL_573 rfl ?_
  refine lp_callV (pc' := 577) (As := [.int _, .int _]) dL_574 rfl mk_X11_make ml_L_46 im_X11_make se_X11_X11_X11_make sh_0 (by decide) rfl rfl rfl ⟨by decide, by decide, (by show cs + 0 ≤ 600000; omega), (by show ss + 0 ≤ 7302250; omega)⟩ (Nat.le_of_ble_eq_true rfl) (j_make hn (b := if xs (6 * n + 2) = 0 then 0 else 1) (by by_cases z : xs (6 * n + 2) = 0 <;> simp [z]) H (fun v h2 jm => ?_))
  refine lp_aload2 (pc' := 578) dL_577 rfl rfl ?_
  refine lp_rd (i := 6 * n) (j := 1) (pc' := 583) dL_578 dL_579 dL_580 dL_581 dL_582 rfl rfl (by omega) hL rfl ?_
  refine lp_rd (i := 6 * n) (j := 2) (pc' := 588) dL_583 dL_584 dL_585 dL_586 dL_587 rfl rfl (by omega) hL rfl ?_
  refine lp_bool (p1 := 591) (p2 := 592) (p3 := 595) (p4 := 596) dL_588 (by decide) rfl dL_591 rfl dL_592 (by decide) dL_595 rfl ?_
  refine lp_callV (pc' := 599) (As := [.int _, .int _]) dL_596 rfl mk_X12_make ml_L_49 im_X12_make se_X12_X12_X12_make sh_54 (by decide) rfl rfl rfl ⟨by decide, by decide, (by show cs + 0 + 0 ≤ 600000; omega), (by show ss + 0 + 0 ≤ 7302250; omega)⟩ (Nat.le_of_ble_eq_true rfl) (jm _ (fun h3 H3 => ?_))
  refine lp_same (tgt := 1564) dL_599 (by decide) rfl ?_
  exact lp_wid (by show cs + 0 + 0 ≤ cs + 1; omega) (by show ss + 0 + 0 ≤ ss + 11; omega) (k _ H3)
set_option maxHeartbeats 1000000 in
theorem lc_8 {b Ln : Nat} {xs : Nat → Int32} {n : Nat} {h : HP} {cs ss : Nat} (hL : Ln ≤ 3072) (hb : 6 * n + 6 ≤ Ln) (hn : n < 600) (H : INV n h) (hcs : cs ≤ 1000) (hss : ss ≤ 100000) (k : ∀ h', INV (n + 1) h' → LWP E1 b Ln xs 1564 [.ref 0, .ref 54, .int (nI (6 * n))] [] h' (cs + 1) (ss + 11)) : LWP E1 b Ln xs 604 [.ref 0, .ref 54, .int (nI (6 * n))] [] h cs ss := by
  refine lp_aload1 (pc' := 605) dL_604 rfl rfl ?_
  refine lp_rd (i := 6 * n) (j := 1) (pc' := 610) dL_605 dL_606 dL_607 dL_608 dL_609 rfl rfl (by omega) hL rfl ?_
  refine lp_rd (i := 6 * n) (j := 2) (pc' := 615) dL_610 dL_611 dL_612 dL_613 dL_614 rfl rfl (by omega) hL rfl ?_
  refine lp_rd (i := 6 * n) (j := 3) (pc' := 620) dL_615 dL_616 dL_617 dL_618 dL_619 rfl rfl (by omega) hL rfl ?_
  refine lp_callV (pc' := 623) (As := [.int _, .int _, .int _]) dL_620 rfl mk_X11_spell ml_L_50 im_X11_spell se_X11_X11_X11_spell sh_0 (by decide) rfl rfl rfl ⟨by decide, by decide, (by show cs + 0 ≤ 600000; omega), (by show ss + 0 ≤ 7302250; omega)⟩ (Nat.le_of_ble_eq_true rfl) (j_spell hn H (fun v h2 jm => ?_))
  refine lp_aload2 (pc' := 624) dL_623 rfl rfl ?_
  refine lp_rd (i := 6 * n) (j := 1) (pc' := 629) dL_624 dL_625 dL_626 dL_627 dL_628 rfl rfl (by omega) hL rfl ?_
  refine lp_rd (i := 6 * n) (j := 2) (pc' := 634) dL_629 dL_630 dL_631 dL_632 dL_633 rfl rfl (by omega) hL rfl ?_
  refine lp_rd (i := 6 * n) (j := 3) (pc' := 639) dL_634 dL_635 dL_636 dL_637 dL_638 rfl rfl (by omega) hL rfl ?_
  refine lp_callV (pc' := 642) (As := [.int _, .int _, .int _]) dL_639 rfl mk_X12_spell ml_L_53 im_X12_spell se_X12_X12_X12_spell sh_54 (by decide) rfl rfl rfl ⟨by decide, by decide, (by show cs + 0 + 0 ≤ 600000; omega), (by show ss + 0 + 0 ≤ 7302250; omega)⟩ (Nat.le_of_ble_eq_true rfl) (jm _ (fun h3 H3 => ?_))
  refine lp_same (tgt := 1564) dL_642 (by decide) rfl ?_
  exact lp_wid (by show cs + 0 + 0 ≤ cs + 1; omega) (by show ss + 0 + 0 ≤ ss + 11; omega) (k _ H3)
set_option maxHeartbeats 1000000 in
theorem lc_9 {b Ln : Nat} {xs : Nat → Int32} {n : Nat} {h : HP} {cs ss : Nat} (hL : Ln ≤ 3072) (hb : 6 * n + 6 ≤ Ln) (hn : n < 600) (H : INV n h) (hcs : cs ≤ 1000) (hss : ss ≤ 100000) (k : ∀ h', INV (n + 1) h' → LWP E1 b Ln xs 1564 [.ref 0, .ref 54, .int (nI (6 * n))] [] h' (cs + 1) (ss + 11)) : LWP E1 b Ln xs 647 [.ref 0, .ref 54, .int (nI (6 * n))] [] h cs ss := by
  refine lp_aload1 (pc' := 648) dL_647 rfl rfl ?_
  refine lp_callV (pc' := 651) (As := []) dL_648 rfl mk_X11_turn ml_L_54 im_X11_turn se_X11_X11_X11_turn sh_0 (by decide) rfl rfl rfl ⟨by decide, by decide, (by show cs + 0 ≤ 600000; omega), (by show ss + 0 ≤ 7302250; omega)⟩ (Nat.le_of_ble_eq_true rfl) (j_turn hn H (fun v h2 jm => ?_))
  refine lp_aload2 (pc' := 652) dL_651 rfl rfl ?_
  refine lp_callV (pc' := 655) (As := []) dL_652 rfl mk_X12_turn ml_L_58 im_X12_turn se_X12_X12_X12_turn sh_54 (by decide) rfl rfl rfl ⟨by decide, by decide, (by show cs + 0 + 0 ≤ 600000; omega), (by show ss + 0 + 0 ≤ 7302250; omega)⟩ (Nat.le_of_ble_eq_true rfl) (jm _ (fun h3 H3 => ?_))
  refine lp_same (tgt := 1564) dL_655 (by decide) rfl ?_
  exact lp_wid (by show cs + 0 + 0 ≤ cs + 1; omega) (by show ss + 0 + 0 ≤ ss + 11; omega) (k _ H3)
set_option maxHeartbeats 1000000 in
theorem lc_10 {b Ln : Nat} {xs : Nat → Int32} {n : Nat} {h : HP} {cs ss : Nat} (hL : Ln ≤ 3072) (hb : 6 * n + 6 ≤ Ln) (hn : n < 600) (H : INV n h) (hcs : cs ≤ 1000) (hss : ss ≤ 100000) (k : ∀ h', INV (n + 1) h' → LWP E1 b Ln xs 1564 [.ref 0, .ref 54, .int (nI (6 * n))] [] h' (cs + 1) (ss + 11)) : LWP E1 b Ln xs 660 [.ref 0, .ref 54, .int (nI (6 * n))] [] h cs ss := by
  refine lp_aload1 (pc' := 661) dL_660 rfl rfl ?_
  refine lp_rd (i := 6 * n) (j := 1) (pc' := 666) dL_661 dL_662 dL_663 dL_664 dL_665 rfl rfl (by omega) hL rfl ?_
  refine lp_rd (i := 6 * n) (j := 2) (pc' := 671) dL_666 dL_667 dL_668 dL_669 dL_670 rfl rfl (by omega) hL rfl ?_
  refine lp_callV (pc' := 674) (As := [.int _, .int _]) dL_671 rfl mk_X11_spend ml_L_59 im_X11_spend se_X11_X11_X11_spend sh_0 (by decide) rfl rfl rfl ⟨by decide, by decide, (by show cs + 0 ≤ 600000; omega), (by show ss + 0 ≤ 7302250; omega)⟩ (Nat.le_of_ble_eq_true rfl) (j_spend hn H (fun v h2 jm => ?_))
  refine lp_aload2 (pc' := 675) dL_674 rfl rfl ?_
  refine lp_rd (i := 6 * n) (j := 1) (pc' := 680) dL_675 dL_676 dL_677 dL_678 dL_679 rfl rfl (by omega) hL rfl ?_
  refine lp_rd (i := 6 * n) (j := 2) (pc' := 685) dL_680 dL_681 dL_682 dL_683 dL_684 rfl rfl (by omega) hL rfl ?_
  refine lp_callV (pc' := 688) (As := [.int _, .int _]) dL_685 rfl mk_X12_spend ml_L_62 im_X12_spend se_X12_X12_X12_spend sh_54 (by decide) rfl rfl rfl ⟨by decide, by decide, (by show cs + 0 + 0 ≤ 600000; omega), (by show ss + 0 + 0 ≤ 7302250; omega)⟩ (Nat.le_of_ble_eq_true rfl) (jm _ (fun h3 H3 => ?_))
  refine lp_same (tgt := 1564) dL_688 (by decide) rfl ?_
  exact lp_wid (by show cs + 0 + 0 ≤ cs + 1; omega) (by show ss + 0 + 0 ≤ ss + 11; omega) (k _ H3)
set_option maxHeartbeats 1000000 in
theorem lc_11 {b Ln : Nat} {xs : Nat → Int32} {n : Nat} {h : HP} {cs ss : Nat} (hL : Ln ≤ 3072) (hb : 6 * n + 6 ≤ Ln) (hn : n < 600) (H : INV n h) (hcs : cs ≤ 1000) (hss : ss ≤ 100000) (k : ∀ h', INV (n + 1) h' → LWP E1 b Ln xs 1564 [.ref 0, .ref 54, .int (nI (6 * n))] [] h' (cs + 1) (ss + 11)) : LWP E1 b Ln xs 693 [.ref 0, .ref 54, .int (nI (6 * n))] [] h cs ss := by
  refine lp_aload1 (pc' := 694) dL_693 rfl rfl ?_
  refine lp_callV (pc' := 697) (As := []) dL_694 rfl mk_X11_rest ml_L_63 im_X11_rest se_X11_X11_X11_rest sh_0 (by decide) rfl rfl rfl ⟨by decide, by decide, (by show cs + 0 ≤ 600000; omega), (by show ss + 0 ≤ 7302250; omega)⟩ (Nat.le_of_ble_eq_true rfl) (j_rest hn H (fun v h2 jm => ?_))
  refine lp_aload2 (pc' := 698) dL_697 rfl rfl ?_
  refine lp_callV (pc' := 701) (As := []) dL_698 rfl mk_X12_rest ml_L_66 im_X12_rest se_X12_X12_X12_rest sh_54 (by decide) rfl rfl rfl ⟨by decide, by decide, (by show cs + 0 + 0 ≤ 600000; omega), (by show ss + 0 + 0 ≤ 7302250; omega)⟩ (Nat.le_of_ble_eq_true rfl) (jm _ (fun h3 H3 => ?_))
  refine lp_same (tgt := 1564) dL_701 (by decide) rfl ?_
  exact lp_wid (by show cs + 0 + 0 ≤ cs + 1; omega) (by show ss + 0 + 0 ≤ ss + 11; omega) (k _ H3)
set_option maxHeartbeats 1000000 in
theorem lc_12 {b Ln : Nat} {xs : Nat → Int32} {n : Nat} {h : HP} {cs ss : Nat} (hL : Ln ≤ 3072) (hb : 6 * n + 6 ≤ Ln) (hn : n < 600) (H : INV n h) (hcs : cs ≤ 1000) (hss : ss ≤ 100000) (k : ∀ h', INV (n + 1) h' → LWP E1 b Ln xs 1564 [.ref 0, .ref 54, .int (nI (6 * n))] [] h' (cs + 1) (ss + 11)) : LWP E1 b Ln xs 706 [.ref 0, .ref 54, .int (nI (6 * n))] [] h cs ss := by
  refine lp_aload1 (pc' := 707) dL_706 rfl rfl ?_
  refine lp_callV (pc' := 710) (As := []) dL_707 rfl mk_X11_image ml_L_67 im_X11_image se_X11_X11_X11_image sh_0 (by decide) rfl rfl rfl ⟨by decide, by decide, (by show cs + 0 ≤ 600000; omega), (by show ss + 0 ≤ 7302250; omega)⟩ (Nat.le_of_ble_eq_true rfl) (j_image hn H (fun v h2 jm => ?_))
  refine lp_aload2 (pc' := 711) dL_710 rfl rfl ?_
  refine lp_callV (pc' := 714) (As := []) dL_711 rfl mk_X12_image ml_L_70 im_X12_image se_X12_X12_X12_image sh_54 (by decide) rfl rfl rfl ⟨by decide, by decide, (by show cs + 0 + 0 ≤ 600000; omega), (by show ss + 0 + 0 ≤ 7302250; omega)⟩ (Nat.le_of_ble_eq_true rfl) (jm _ (fun h3 H3 => ?_))
  refine lp_same (tgt := 1564) dL_714 (by decide) rfl ?_
  exact lp_wid (by show cs + 0 + 0 ≤ cs + 1; omega) (by show ss + 0 + 0 ≤ ss + 11; omega) (k _ H3)
set_option maxHeartbeats 1000000 in
theorem lc_13 {b Ln : Nat} {xs : Nat → Int32} {n : Nat} {h : HP} {cs ss : Nat} (hL : Ln ≤ 3072) (hb : 6 * n + 6 ≤ Ln) (hn : n < 600) (H : INV n h) (hcs : cs ≤ 1000) (hss : ss ≤ 100000) (k : ∀ h', INV (n + 1) h' → LWP E1 b Ln xs 1564 [.ref 0, .ref 54, .int (nI (6 * n))] [] h' (cs + 1) (ss + 11)) : LWP E1 b Ln xs 719 [.ref 0, .ref 54, .int (nI (6 * n))] [] h cs ss := by
  refine lp_aload1 (pc' := 720) dL_719 rfl rfl ?_
  refine lp_callV (pc' := 723) (As := []) dL_720 rfl mk_X11_back ml_L_71 im_X11_back se_X11_X11_X11_back sh_0 (by decide) rfl rfl rfl ⟨by decide, by decide, (by show cs + 0 ≤ 600000; omega), (by show ss + 0 ≤ 7302250; omega)⟩ (Nat.le_of_ble_eq_true rfl) (j_back hn H (fun v h2 jm => ?_))
  refine lp_aload2 (pc' := 724) dL_723 rfl rfl ?_
  refine lp_callV (pc' := 727) (As := []) dL_724 rfl mk_X12_back ml_L_74 im_X12_back se_X12_X12_X12_back sh_54 (by decide) rfl rfl rfl ⟨by decide, by decide, (by show cs + 0 + 0 ≤ 600000; omega), (by show ss + 0 + 0 ≤ 7302250; omega)⟩ (Nat.le_of_ble_eq_true rfl) (jm _ (fun h3 H3 => ?_))
  refine lp_same (tgt := 1564) dL_727 (by decide) rfl ?_
  exact lp_wid (by show cs + 0 + 0 ≤ cs + 1; omega) (by show ss + 0 + 0 ≤ ss + 11; omega) (k _ H3)
set_option maxHeartbeats 1000000 in
theorem lc_14 {b Ln : Nat} {xs : Nat → Int32} {n : Nat} {h : HP} {cs ss : Nat} (hL : Ln ≤ 3072) (hb : 6 * n + 6 ≤ Ln) (hn : n < 600) (H : INV n h) (hcs : cs ≤ 1000) (hss : ss ≤ 100000) (k : ∀ h', INV (n + 1) h' → LWP E1 b Ln xs 1564 [.ref 0, .ref 54, .int (nI (6 * n))] [] h' (cs + 1) (ss + 11)) : LWP E1 b Ln xs 732 [.ref 0, .ref 54, .int (nI (6 * n))] [] h cs ss := by
  refine lp_aload1 (pc' := 733) dL_732 rfl rfl ?_
  refine lp_rd (i := 6 * n) (j := 1) (pc' := 738) dL_733 dL_734 dL_735 dL_736 dL_737 rfl rfl (by omega) hL rfl ?_
  refine lp_rd (i := 6 * n) (j := 2) (pc' := 743) dL_738 dL_739 dL_740 dL_741 dL_742 rfl rfl (by omega) hL rfl ?_
  refine lp_callV (pc' := 746) (As := [.int _, .int _]) dL_743 rfl mk_X11_valueTold ml_L_75 im_X11_valueTold se_X11_X11_X11_valueTold sh_0 (by decide) rfl rfl rfl ⟨by decide, by decide, (by show cs + 0 ≤ 600000; omega), (by show ss + 0 ≤ 7302250; omega)⟩ (Nat.le_of_ble_eq_true rfl) (j_valueTold H (fun v h2 jm => ?_))
  refine lp_aload2 (pc' := 747) dL_746 rfl rfl ?_
  refine lp_rd (i := 6 * n) (j := 1) (pc' := 752) dL_747 dL_748 dL_749 dL_750 dL_751 rfl rfl (by omega) hL rfl ?_
  refine lp_rd (i := 6 * n) (j := 2) (pc' := 757) dL_752 dL_753 dL_754 dL_755 dL_756 rfl rfl (by omega) hL rfl ?_
  refine lp_callV (pc' := 760) (As := [.int _, .int _]) dL_757 rfl mk_X12_valueTold ml_L_78 im_X12_valueTold se_X12_X12_X12_valueTold sh_54 (by decide) rfl rfl rfl ⟨by decide, by decide, (by show cs + 0 + 0 ≤ 600000; omega), (by show ss + 0 + 0 ≤ 7302250; omega)⟩ (Nat.le_of_ble_eq_true rfl) (jm _ (fun h3 H3 => ?_))
  refine lp_same (tgt := 1564) dL_760 (by decide) rfl ?_
  exact lp_wid (by show cs + 0 + 0 ≤ cs + 1; omega) (by show ss + 0 + 0 ≤ ss + 11; omega) (k _ H3)
set_option maxHeartbeats 1000000 in
theorem lc_15 {b Ln : Nat} {xs : Nat → Int32} {n : Nat} {h : HP} {cs ss : Nat} (hL : Ln ≤ 3072) (hb : 6 * n + 6 ≤ Ln) (hn : n < 600) (H : INV n h) (hcs : cs ≤ 1000) (hss : ss ≤ 100000) (k : ∀ h', INV (n + 1) h' → LWP E1 b Ln xs 1564 [.ref 0, .ref 54, .int (nI (6 * n))] [] h' (cs + 1) (ss + 11)) : LWP E1 b Ln xs 765 [.ref 0, .ref 54, .int (nI (6 * n))] [] h cs ss := by
  refine lp_aload1 (pc' := 766) dL_765 rfl rfl ?_
  refine lp_rd (i := 6 * n) (j := 1) (pc' := 771) dL_766 dL_767 dL_768 dL_769 dL_770 rfl rfl (by omega) hL rfl ?_
  refine lp_rd (i := 6 * n) (j := 2) (pc' := 776) dL_771 dL_772 dL_773 dL_774 dL_775 rfl rfl (by omega) hL rfl ?_
  refine lp_callV (pc' := 779) (As := [.int _, .int _]) dL_776 rfl mk_X11_number ml_L_79 im_X11_number se_X11_X11_X11_number sh_0 (by decide) rfl rfl rfl ⟨by decide, by decide, (by show cs + 0 ≤ 600000; omega), (by show ss + 0 ≤ 7302250; omega)⟩ (Nat.le_of_ble_eq_true rfl) (j_number H (fun v h2 jm => ?_))
  refine lp_aload2 (pc' := 780) dL_779 rfl rfl ?_
  refine lp_rd (i := 6 * n) (j := 1) (pc' := 785) dL_780 dL_781 dL_782 dL_783 dL_784 rfl rfl (by omega) hL rfl ?_
  refine lp_rd (i := 6 * n) (j := 2) (pc' := 790) dL_785 dL_786 dL_787 dL_788 dL_789 rfl rfl (by omega) hL rfl ?_
  refine lp_callV (pc' := 793) (As := [.int _, .int _]) dL_790 rfl mk_X12_number ml_L_83 im_X12_number se_X12_X12_X12_number sh_54 (by decide) rfl rfl rfl ⟨by decide, by decide, (by show cs + 0 + 0 ≤ 600000; omega), (by show ss + 0 + 0 ≤ 7302250; omega)⟩ (Nat.le_of_ble_eq_true rfl) (jm _ (fun h3 H3 => ?_))
  refine lp_sameL (tgt := 1564) dL_793 dL_794 (by decide) rfl ?_
  exact lp_wid (by show cs + 0 + 0 ≤ cs + 1; omega) (by show ss + 0 + 0 ≤ ss + 11; omega) (k _ H3)
set_option maxHeartbeats 1000000 in
theorem lc_16 {b Ln : Nat} {xs : Nat → Int32} {n : Nat} {h : HP} {cs ss : Nat} (hL : Ln ≤ 3072) (hb : 6 * n + 6 ≤ Ln) (hn : n < 600) (H : INV n h) (hcs : cs ≤ 1000) (hss : ss ≤ 100000) (k : ∀ h', INV (n + 1) h' → LWP E1 b Ln xs 1564 [.ref 0, .ref 54, .int (nI (6 * n))] [] h' (cs + 1) (ss + 11)) : LWP E1 b Ln xs 799 [.ref 0, .ref 54, .int (nI (6 * n))] [] h cs ss := by
  refine lp_aload1 (pc' := 800) dL_799 rfl rfl ?_
  refine lp_rd (i := 6 * n) (j := 1) (pc' := 805) dL_800 dL_801 dL_802 dL_803 dL_804 rfl rfl (by omega) hL rfl ?_
  refine lp_rd (i := 6 * n) (j := 2) (pc' := 810) dL_805 dL_806 dL_807 dL_808 dL_809 rfl rfl (by omega) hL rfl ?_
  refine lp_callV (pc' := 813) (As := [.int _, .int _]) dL_810 rfl mk_X11_ruleTold ml_L_84 im_X11_ruleTold se_X11_X11_X11_ruleTold sh_0 (by decide) rfl rfl rfl ⟨by decide, by decide, (by show cs + 0 ≤ 600000; omega), (by show ss + 0 ≤ 7302250; omega)⟩ (Nat.le_of_ble_eq_true rfl) (j_ruleTold H (fun v h2 jm => ?_))
  refine lp_aload2 (pc' := 814) dL_813 rfl rfl ?_
  refine lp_rd (i := 6 * n) (j := 1) (pc' := 819) dL_814 dL_815 dL_816 dL_817 dL_818 rfl rfl (by omega) hL rfl ?_
  refine lp_rd (i := 6 * n) (j := 2) (pc' := 824) dL_819 dL_820 dL_821 dL_822 dL_823 rfl rfl (by omega) hL rfl ?_
  refine lp_callV (pc' := 827) (As := [.int _, .int _]) dL_824 rfl mk_X12_ruleTold ml_L_87 im_X12_ruleTold se_X12_X12_X12_ruleTold sh_54 (by decide) rfl rfl rfl ⟨by decide, by decide, (by show cs + 0 + 0 ≤ 600000; omega), (by show ss + 0 + 0 ≤ 7302250; omega)⟩ (Nat.le_of_ble_eq_true rfl) (jm _ (fun h3 H3 => ?_))
  refine lp_same (tgt := 1564) dL_827 (by decide) rfl ?_
  exact lp_wid (by show cs + 0 + 0 ≤ cs + 1; omega) (by show ss + 0 + 0 ≤ ss + 11; omega) (k _ H3)
set_option maxHeartbeats 1000000 in
theorem lc_17 {b Ln : Nat} {xs : Nat → Int32} {n : Nat} {h : HP} {cs ss : Nat} (hL : Ln ≤ 3072) (hb : 6 * n + 6 ≤ Ln) (hn : n < 600) (H : INV n h) (hcs : cs ≤ 1000) (hss : ss ≤ 100000) (k : ∀ h', INV (n + 1) h' → LWP E1 b Ln xs 1564 [.ref 0, .ref 54, .int (nI (6 * n))] [] h' (cs + 1) (ss + 11)) : LWP E1 b Ln xs 832 [.ref 0, .ref 54, .int (nI (6 * n))] [] h cs ss := by
  refine lp_aload1 (pc' := 833) dL_832 rfl rfl ?_
  refine lp_rd (i := 6 * n) (j := 1) (pc' := 838) dL_833 dL_834 dL_835 dL_836 dL_837 rfl rfl (by omega) hL rfl ?_
  refine lp_callV (pc' := 841) (As := [.int _]) dL_838 rfl mk_X11_amount ml_L_88 im_X11_amount se_X11_X11_X11_amount sh_0 (by decide) rfl rfl rfl ⟨by decide, by decide, (by show cs + 0 ≤ 600000; omega), (by show ss + 0 ≤ 7302250; omega)⟩ (Nat.le_of_ble_eq_true rfl) (j_amount H (fun v h2 jm => ?_))
  refine lp_aload2 (pc' := 842) dL_841 rfl rfl ?_
  refine lp_rd (i := 6 * n) (j := 1) (pc' := 847) dL_842 dL_843 dL_844 dL_845 dL_846 rfl rfl (by omega) hL rfl ?_
  refine lp_callV (pc' := 850) (As := [.int _]) dL_847 rfl mk_X12_amount ml_L_92 im_X12_amount se_X12_X12_X12_amount sh_54 (by decide) rfl rfl rfl ⟨by decide, by decide, (by show cs + 0 + 0 ≤ 600000; omega), (by show ss + 0 + 0 ≤ 7302250; omega)⟩ (Nat.le_of_ble_eq_true rfl) (jm _ (fun h3 H3 => ?_))
  refine lp_sameL (tgt := 1564) dL_850 dL_851 (by decide) rfl ?_
  exact lp_wid (by show cs + 0 + 0 ≤ cs + 1; omega) (by show ss + 0 + 0 ≤ ss + 11; omega) (k _ H3)
set_option maxHeartbeats 1000000 in
theorem lc_18 {b Ln : Nat} {xs : Nat → Int32} {n : Nat} {h : HP} {cs ss : Nat} (hL : Ln ≤ 3072) (hb : 6 * n + 6 ≤ Ln) (hn : n < 600) (H : INV n h) (hcs : cs ≤ 1000) (hss : ss ≤ 100000) (k : ∀ h', INV (n + 1) h' → LWP E1 b Ln xs 1564 [.ref 0, .ref 54, .int (nI (6 * n))] [] h' (cs + 1) (ss + 11)) : LWP E1 b Ln xs 856 [.ref 0, .ref 54, .int (nI (6 * n))] [] h cs ss := by
  refine lp_aload1 (pc' := 857) dL_856 rfl rfl ?_
  refine lp_rd (i := 6 * n) (j := 1) (pc' := 862) dL_857 dL_858 dL_859 dL_860 dL_861 rfl rfl (by omega) hL rfl ?_
  refine lp_callV (pc' := 865) (As := [.int _]) dL_862 rfl mk_X11_ring ml_L_93 im_X11_ring se_X11_X11_X11_ring sh_0 (by decide) rfl rfl rfl ⟨by decide, by decide, (by show cs + 0 ≤ 600000; omega), (by show ss + 0 ≤ 7302250; omega)⟩ (Nat.le_of_ble_eq_true rfl) (j_ring H (fun v h2 jm => ?_))
  refine lp_aload2 (pc' := 866) dL_865 rfl rfl ?_
  refine lp_rd (i := 6 * n) (j := 1) (pc' := 871) dL_866 dL_867 dL_868 dL_869 dL_870 rfl rfl (by omega) hL rfl ?_
  refine lp_callV (pc' := 874) (As := [.int _]) dL_871 rfl mk_X12_ring ml_L_97 im_X12_ring se_X12_X12_X12_ring sh_54 (by decide) rfl rfl rfl ⟨by decide, by decide, (by show cs + 0 + 0 ≤ 600000; omega), (by show ss + 0 + 0 ≤ 7302250; omega)⟩ (Nat.le_of_ble_eq_true rfl) (jm _ (fun h3 H3 => ?_))
  refine lp_same (tgt := 1564) dL_874 (by decide) rfl ?_
  exact lp_wid (by show cs + 0 + 0 ≤ cs + 1; omega) (by show ss + 0 + 0 ≤ ss + 11; omega) (k _ H3)
set_option maxHeartbeats 1000000 in
theorem lc_19 {b Ln : Nat} {xs : Nat → Int32} {n : Nat} {h : HP} {cs ss : Nat} (hL : Ln ≤ 3072) (hb : 6 * n + 6 ≤ Ln) (hn : n < 600) (H : INV n h) (hcs : cs ≤ 1000) (hss : ss ≤ 100000) (k : ∀ h', INV (n + 1) h' → LWP E1 b Ln xs 1564 [.ref 0, .ref 54, .int (nI (6 * n))] [] h' (cs + 1) (ss + 11)) : LWP E1 b Ln xs 879 [.ref 0, .ref 54, .int (nI (6 * n))] [] h cs ss := by
  refine lp_aload1 (pc' := 880) dL_879 rfl rfl ?_
  refine lp_rd (i := 6 * n) (j := 1) (pc' := 885) dL_880 dL_881 dL_882 dL_883 dL_884 rfl rfl (by omega) hL rfl ?_
  refine lp_rd (i := 6 * n) (j := 2) (pc' := 890) dL_885 dL_886 dL_887 dL_888 dL_889 rfl rfl (by omega) hL rfl ?_
  refine lp_callV (pc' := 893) (As := [.int _, .int _]) dL_890 rfl mk_X11_needs ml_L_98 im_X11_needs se_X11_X11_X11_needs sh_0 (by decide) rfl rfl rfl ⟨by decide, by decide, (by show cs + 0 ≤ 600000; omega), (by show ss + 0 ≤ 7302250; omega)⟩ (Nat.le_of_ble_eq_true rfl) (j_needs H (fun v h2 jm => ?_))
  refine lp_aload2 (pc' := 894) dL_893 rfl rfl ?_
  refine lp_rd (i := 6 * n) (j := 1) (pc' := 899) dL_894 dL_895 dL_896 dL_897 dL_898 rfl rfl (by omega) hL rfl ?_
  refine lp_rd (i := 6 * n) (j := 2) (pc' := 904) dL_899 dL_900 dL_901 dL_902 dL_903 rfl rfl (by omega) hL rfl ?_
  refine lp_callV (pc' := 907) (As := [.int _, .int _]) dL_904 rfl mk_X12_needs ml_L_101 im_X12_needs se_X12_X12_X12_needs sh_54 (by decide) rfl rfl rfl ⟨by decide, by decide, (by show cs + 0 + 0 ≤ 600000; omega), (by show ss + 0 + 0 ≤ 7302250; omega)⟩ (Nat.le_of_ble_eq_true rfl) (jm _ (fun h3 H3 => ?_))
  refine lp_same (tgt := 1564) dL_907 (by decide) rfl ?_
  exact lp_wid (by show cs + 0 + 0 ≤ cs + 1; omega) (by show ss + 0 + 0 ≤ ss + 11; omega) (k _ H3)
set_option maxHeartbeats 1000000 in
theorem lc_20 {b Ln : Nat} {xs : Nat → Int32} {n : Nat} {h : HP} {cs ss : Nat} (hL : Ln ≤ 3072) (hb : 6 * n + 6 ≤ Ln) (hn : n < 600) (H : INV n h) (hcs : cs ≤ 1000) (hss : ss ≤ 100000) (k : ∀ h', INV (n + 1) h' → LWP E1 b Ln xs 1564 [.ref 0, .ref 54, .int (nI (6 * n))] [] h' (cs + 1) (ss + 11)) : LWP E1 b Ln xs 912 [.ref 0, .ref 54, .int (nI (6 * n))] [] h cs ss := by
  refine lp_aload1 (pc' := 913) dL_912 rfl rfl ?_
  refine lp_rd (i := 6 * n) (j := 1) (pc' := 918) dL_913 dL_914 dL_915 dL_916 dL_917 rfl rfl (by omega) hL rfl ?_
  refine lp_rd (i := 6 * n) (j := 2) (pc' := 923) dL_918 dL_919 dL_920 dL_921 dL_922 rfl rfl (by omega) hL rfl ?_
  refine lp_callV (pc' := 926) (As := [.int _, .int _]) dL_923 rfl mk_X11_choice ml_L_102 im_X11_choice se_X11_X11_X11_choice sh_0 (by decide) rfl rfl rfl ⟨by decide, by decide, (by show cs + 0 ≤ 600000; omega), (by show ss + 0 ≤ 7302250; omega)⟩ (Nat.le_of_ble_eq_true rfl) (j_choice H (fun v h2 jm => ?_))
  refine lp_aload2 (pc' := 927) dL_926 rfl rfl ?_
  refine lp_rd (i := 6 * n) (j := 1) (pc' := 932) dL_927 dL_928 dL_929 dL_930 dL_931 rfl rfl (by omega) hL rfl ?_
  refine lp_rd (i := 6 * n) (j := 2) (pc' := 937) dL_932 dL_933 dL_934 dL_935 dL_936 rfl rfl (by omega) hL rfl ?_
  refine lp_callV (pc' := 940) (As := [.int _, .int _]) dL_937 rfl mk_X12_choice ml_L_105 im_X12_choice se_X12_X12_X12_choice sh_54 (by decide) rfl rfl rfl ⟨by decide, by decide, (by show cs + 0 + 0 ≤ 600000; omega), (by show ss + 0 + 0 ≤ 7302250; omega)⟩ (Nat.le_of_ble_eq_true rfl) (jm _ (fun h3 H3 => ?_))
  refine lp_same (tgt := 1564) dL_940 (by decide) rfl ?_
  exact lp_wid (by show cs + 0 + 0 ≤ cs + 1; omega) (by show ss + 0 + 0 ≤ ss + 11; omega) (k _ H3)
set_option maxHeartbeats 1000000 in
theorem lc_21 {b Ln : Nat} {xs : Nat → Int32} {n : Nat} {h : HP} {cs ss : Nat} (hL : Ln ≤ 3072) (hb : 6 * n + 6 ≤ Ln) (hn : n < 600) (H : INV n h) (hcs : cs ≤ 1000) (hss : ss ≤ 100000) (k : ∀ h', INV (n + 1) h' → LWP E1 b Ln xs 1564 [.ref 0, .ref 54, .int (nI (6 * n))] [] h' (cs + 1) (ss + 11)) : LWP E1 b Ln xs 945 [.ref 0, .ref 54, .int (nI (6 * n))] [] h cs ss := by
  refine lp_aload1 (pc' := 946) dL_945 rfl rfl ?_
  refine lp_rd (i := 6 * n) (j := 1) (pc' := 951) dL_946 dL_947 dL_948 dL_949 dL_950 rfl rfl (by omega) hL rfl ?_
  refine lp_callV (pc' := 954) (As := [.int _]) dL_951 rfl mk_X11_lawful ml_L_106 im_X11_lawful se_X11_X11_X11_lawful sh_0 (by decide) rfl rfl rfl ⟨by decide, by decide, (by show cs + 0 ≤ 600000; omega), (by show ss + 0 ≤ 7302250; omega)⟩ (Nat.le_of_ble_eq_true rfl) (j_lawful H (fun v h2 jm => ?_))
  refine lp_aload2 (pc' := 955) dL_954 rfl rfl ?_
  refine lp_rd (i := 6 * n) (j := 1) (pc' := 960) dL_955 dL_956 dL_957 dL_958 dL_959 rfl rfl (by omega) hL rfl ?_
  refine lp_callV (pc' := 963) (As := [.int _]) dL_960 rfl mk_X12_lawful ml_L_109 im_X12_lawful se_X12_X12_X12_lawful sh_54 (by decide) rfl rfl rfl ⟨by decide, by decide, (by show cs + 0 + 0 ≤ 600000; omega), (by show ss + 0 + 0 ≤ 7302250; omega)⟩ (Nat.le_of_ble_eq_true rfl) (jm _ (fun h3 H3 => ?_))
  refine lp_same (tgt := 1564) dL_963 (by decide) rfl ?_
  exact lp_wid (by show cs + 0 + 0 ≤ cs + 1; omega) (by show ss + 0 + 0 ≤ ss + 11; omega) (k _ H3)
set_option maxHeartbeats 1000000 in
theorem lc_22 {b Ln : Nat} {xs : Nat → Int32} {n : Nat} {h : HP} {cs ss : Nat} (hL : Ln ≤ 3072) (hb : 6 * n + 6 ≤ Ln) (hn : n < 600) (H : INV n h) (hcs : cs ≤ 1000) (hss : ss ≤ 100000) (k : ∀ h', INV (n + 1) h' → LWP E1 b Ln xs 1564 [.ref 0, .ref 54, .int (nI (6 * n))] [] h' (cs + 1) (ss + 11)) : LWP E1 b Ln xs 968 [.ref 0, .ref 54, .int (nI (6 * n))] [] h cs ss := by
  refine lp_aload1 (pc' := 969) dL_968 rfl rfl ?_
  refine lp_callV (pc' := 972) (As := []) dL_969 rfl mk_X11_mend ml_L_110 im_X11_mend se_X11_X11_X11_mend sh_0 (by decide) rfl rfl rfl ⟨by decide, by decide, (by show cs + 0 ≤ 600000; omega), (by show ss + 0 ≤ 7302250; omega)⟩ (Nat.le_of_ble_eq_true rfl) (j_mend H (fun v h2 jm => ?_))
  refine lp_aload2 (pc' := 973) dL_972 rfl rfl ?_
  refine lp_callV (pc' := 976) (As := []) dL_973 rfl mk_X12_mend ml_L_113 im_X12_mend se_X12_X12_X12_mend sh_54 (by decide) rfl rfl rfl ⟨by decide, by decide, (by show cs + 0 + 0 ≤ 600000; omega), (by show ss + 0 + 0 ≤ 7302250; omega)⟩ (Nat.le_of_ble_eq_true rfl) (jm _ (fun h3 H3 => ?_))
  refine lp_same (tgt := 1564) dL_976 (by decide) rfl ?_
  exact lp_wid (by show cs + 0 + 0 ≤ cs + 1; omega) (by show ss + 0 + 0 ≤ ss + 11; omega) (k _ H3)
set_option maxHeartbeats 1000000 in
theorem lc_23 {b Ln : Nat} {xs : Nat → Int32} {n : Nat} {h : HP} {cs ss : Nat} (hL : Ln ≤ 3072) (hb : 6 * n + 6 ≤ Ln) (hn : n < 600) (H : INV n h) (hcs : cs ≤ 1000) (hss : ss ≤ 100000) (k : ∀ h', INV (n + 1) h' → LWP E1 b Ln xs 1564 [.ref 0, .ref 54, .int (nI (6 * n))] [] h' (cs + 1) (ss + 11)) : LWP E1 b Ln xs 981 [.ref 0, .ref 54, .int (nI (6 * n))] [] h cs ss := by
  refine lp_aload1 (pc' := 982) dL_981 rfl rfl ?_
  refine lp_rd (i := 6 * n) (j := 1) (pc' := 987) dL_982 dL_983 dL_984 dL_985 dL_986 rfl rfl (by omega) hL rfl ?_
  refine lp_rd (i := 6 * n) (j := 2) (pc' := 992) dL_987 dL_988 dL_989 dL_990 dL_991 rfl rfl (by omega) hL rfl ?_
  refine lp_rd (i := 6 * n) (j := 3) (pc' := 997) dL_992 dL_993 dL_994 dL_995 dL_996 rfl rfl (by omega) hL rfl ?_
  refine lp_rd (i := 6 * n) (j := 4) (pc' := 1002) dL_997 dL_998 dL_999 dL_1000 dL_1001 rfl rfl (by omega) hL rfl ?_
  refine lp_bool (p1 := 1005) (p2 := 1006) (p3 := 1009) (p4 := 1010) dL_1002 (by decide) rfl dL_1005 rfl dL_1006 (by decide) dL_1009 rfl ?_
  refine lp_callV (pc' := 1013) (As := [.int _, .int _, .int _, .int _]) dL_1010 rfl mk_X11_most ml_L_114 im_X11_most se_X11_X11_X11_most sh_0 (by decide) rfl rfl rfl ⟨by decide, by decide, (by show cs + 0 ≤ 600000; omega), (by show ss + 0 ≤ 7302250; omega)⟩ (Nat.le_of_ble_eq_true rfl) (j_most H (fun v h2 jm => ?_))
  refine lp_aload2 (pc' := 1014) dL_1013 rfl rfl ?_
  refine lp_rd (i := 6 * n) (j := 1) (pc' := 1019) dL_1014 dL_1015 dL_1016 dL_1017 dL_1018 rfl rfl (by omega) hL rfl ?_
  refine lp_rd (i := 6 * n) (j := 2) (pc' := 1024) dL_1019 dL_1020 dL_1021 dL_1022 dL_1023 rfl rfl (by omega) hL rfl ?_
  refine lp_rd (i := 6 * n) (j := 3) (pc' := 1029) dL_1024 dL_1025 dL_1026 dL_1027 dL_1028 rfl rfl (by omega) hL rfl ?_
  refine lp_rd (i := 6 * n) (j := 4) (pc' := 1034) dL_1029 dL_1030 dL_1031 dL_1032 dL_1033 rfl rfl (by omega) hL rfl ?_
  refine lp_bool (p1 := 1037) (p2 := 1038) (p3 := 1041) (p4 := 1042) dL_1034 (by decide) rfl dL_1037 rfl dL_1038 (by decide) dL_1041 rfl ?_
  refine lp_callV (pc' := 1045) (As := [.int _, .int _, .int _, .int _]) dL_1042 rfl mk_X12_most ml_L_118 im_X12_most se_X12_X12_X12_most sh_54 (by decide) rfl rfl rfl ⟨by decide, by decide, (by show cs + 0 + 0 ≤ 600000; omega), (by show ss + 0 + 0 ≤ 7302250; omega)⟩ (Nat.le_of_ble_eq_true rfl) (jm _ (fun h3 H3 => ?_))
  refine lp_sameL (tgt := 1564) dL_1045 dL_1046 (by decide) rfl ?_
  exact lp_wid (by show cs + 0 + 0 ≤ cs + 1; omega) (by show ss + 0 + 0 ≤ ss + 11; omega) (k _ H3)
set_option maxHeartbeats 1000000 in
theorem lc_24 {b Ln : Nat} {xs : Nat → Int32} {n : Nat} {h : HP} {cs ss : Nat} (hL : Ln ≤ 3072) (hb : 6 * n + 6 ≤ Ln) (hn : n < 600) (H : INV n h) (hcs : cs ≤ 1000) (hss : ss ≤ 100000) (k : ∀ h', INV (n + 1) h' → LWP E1 b Ln xs 1564 [.ref 0, .ref 54, .int (nI (6 * n))] [] h' (cs + 1) (ss + 11)) : LWP E1 b Ln xs 1051 [.ref 0, .ref 54, .int (nI (6 * n))] [] h cs ss := by
  refine lp_aload1 (pc' := 1052) dL_1051 rfl rfl ?_
  refine lp_rd (i := 6 * n) (j := 1) (pc' := 1057) dL_1052 dL_1053 dL_1054 dL_1055 dL_1056 rfl rfl (by omega) hL rfl ?_
  refine lp_rd (i := 6 * n) (j := 2) (pc' := 1062) dL_1057 dL_1058 dL_1059 dL_1060 dL_1061 rfl rfl (by omega) hL rfl ?_
  refine lp_rd (i := 6 * n) (j := 3) (pc' := 1067) dL_1062 dL_1063 dL_1064 dL_1065 dL_1066 rfl rfl (by omega) hL rfl ?_
  refine lp_rd (i := 6 * n) (j := 4) (pc' := 1072) dL_1067 dL_1068 dL_1069 dL_1070 dL_1071 rfl rfl (by omega) hL rfl ?_
  refine lp_bool (p1 := 1075) (p2 := 1076) (p3 := 1079) (p4 := 1080) dL_1072 (by decide) rfl dL_1075 rfl dL_1076 (by decide) dL_1079 rfl ?_
  refine lp_callV (pc' := 1083) (As := [.int _, .int _, .int _, .int _]) dL_1080 rfl mk_X11_seek ml_L_119 im_X11_seek se_X11_X11_X11_seek sh_0 (by decide) rfl rfl rfl ⟨by decide, by decide, (by show cs + 0 ≤ 600000; omega), (by show ss + 0 ≤ 7302250; omega)⟩ (Nat.le_of_ble_eq_true rfl) (j_seek H (fun v h2 jm => ?_))
  refine lp_aload2 (pc' := 1084) dL_1083 rfl rfl ?_
  refine lp_rd (i := 6 * n) (j := 1) (pc' := 1089) dL_1084 dL_1085 dL_1086 dL_1087 dL_1088 rfl rfl (by omega) hL rfl ?_
  refine lp_rd (i := 6 * n) (j := 2) (pc' := 1094) dL_1089 dL_1090 dL_1091 dL_1092 dL_1093 rfl rfl (by omega) hL rfl ?_
  refine lp_rd (i := 6 * n) (j := 3) (pc' := 1099) dL_1094 dL_1095 dL_1096 dL_1097 dL_1098 rfl rfl (by omega) hL rfl ?_
  refine lp_rd (i := 6 * n) (j := 4) (pc' := 1104) dL_1099 dL_1100 dL_1101 dL_1102 dL_1103 rfl rfl (by omega) hL rfl ?_
  refine lp_bool (p1 := 1107) (p2 := 1108) (p3 := 1111) (p4 := 1112) dL_1104 (by decide) rfl dL_1107 rfl dL_1108 (by decide) dL_1111 rfl ?_
  refine lp_callV (pc' := 1115) (As := [.int _, .int _, .int _, .int _]) dL_1112 rfl mk_X12_seek ml_L_123 im_X12_seek se_X12_X12_X12_seek sh_54 (by decide) rfl rfl rfl ⟨by decide, by decide, (by show cs + 0 + 0 ≤ 600000; omega), (by show ss + 0 + 0 ≤ 7302250; omega)⟩ (Nat.le_of_ble_eq_true rfl) (jm _ (fun h3 H3 => ?_))
  refine lp_same (tgt := 1564) dL_1115 (by decide) rfl ?_
  exact lp_wid (by show cs + 0 + 0 ≤ cs + 1; omega) (by show ss + 0 + 0 ≤ ss + 11; omega) (k _ H3)
set_option maxHeartbeats 1000000 in
theorem lc_25 {b Ln : Nat} {xs : Nat → Int32} {n : Nat} {h : HP} {cs ss : Nat} (hL : Ln ≤ 3072) (hb : 6 * n + 6 ≤ Ln) (hn : n < 600) (H : INV n h) (hcs : cs ≤ 1000) (hss : ss ≤ 100000) (k : ∀ h', INV (n + 1) h' → LWP E1 b Ln xs 1564 [.ref 0, .ref 54, .int (nI (6 * n))] [] h' (cs + 1) (ss + 11)) : LWP E1 b Ln xs 1120 [.ref 0, .ref 54, .int (nI (6 * n))] [] h cs ss := by
  refine lp_aload1 (pc' := 1121) dL_1120 rfl rfl ?_
  refine lp_rd (i := 6 * n) (j := 1) (pc' := 1126) dL_1121 dL_1122 dL_1123 dL_1124 dL_1125 rfl rfl (by omega) hL rfl ?_
  refine lp_rd (i := 6 * n) (j := 2) (pc' := 1131) dL_1126 dL_1127 dL_1128 dL_1129 dL_1130 rfl rfl (by omega) hL rfl ?_
  refine lp_callV (pc' := 1134) (As := [.int _, .int _]) dL_1131 rfl mk_X11_both ml_L_124 im_X11_both se_X11_X11_X11_both sh_0 (by decide) rfl rfl rfl ⟨by decide, by decide, (by show cs + 0 ≤ 600000; omega), (by show ss + 0 ≤ 7302250; omega)⟩ (Nat.le_of_ble_eq_true rfl) (j_both H (fun v h2 jm => ?_))
  refine lp_aload2 (pc' := 1135) dL_1134 rfl rfl ?_
  refine lp_rd (i := 6 * n) (j := 1) (pc' := 1140) dL_1135 dL_1136 dL_1137 dL_1138 dL_1139 rfl rfl (by omega) hL rfl ?_
  refine lp_rd (i := 6 * n) (j := 2) (pc' := 1145) dL_1140 dL_1141 dL_1142 dL_1143 dL_1144 rfl rfl (by omega) hL rfl ?_
  refine lp_callV (pc' := 1148) (As := [.int _, .int _]) dL_1145 rfl mk_X12_both ml_L_127 im_X12_both se_X12_X12_X12_both sh_54 (by decide) rfl rfl rfl ⟨by decide, by decide, (by show cs + 0 + 0 ≤ 600000; omega), (by show ss + 0 + 0 ≤ 7302250; omega)⟩ (Nat.le_of_ble_eq_true rfl) (jm _ (fun h3 H3 => ?_))
  refine lp_same (tgt := 1564) dL_1148 (by decide) rfl ?_
  exact lp_wid (by show cs + 0 + 0 ≤ cs + 1; omega) (by show ss + 0 + 0 ≤ ss + 11; omega) (k _ H3)
set_option maxHeartbeats 1000000 in
theorem lc_26 {b Ln : Nat} {xs : Nat → Int32} {n : Nat} {h : HP} {cs ss : Nat} (hL : Ln ≤ 3072) (hb : 6 * n + 6 ≤ Ln) (hn : n < 600) (H : INV n h) (hcs : cs ≤ 1000) (hss : ss ≤ 100000) (k : ∀ h', INV (n + 1) h' → LWP E1 b Ln xs 1564 [.ref 0, .ref 54, .int (nI (6 * n))] [] h' (cs + 1) (ss + 11)) : LWP E1 b Ln xs 1153 [.ref 0, .ref 54, .int (nI (6 * n))] [] h cs ss := by
  refine lp_aload1 (pc' := 1154) dL_1153 rfl rfl ?_
  refine lp_rd (i := 6 * n) (j := 1) (pc' := 1159) dL_1154 dL_1155 dL_1156 dL_1157 dL_1158 rfl rfl (by omega) hL rfl ?_
  refine lp_rd (i := 6 * n) (j := 2) (pc' := 1164) dL_1159 dL_1160 dL_1161 dL_1162 dL_1163 rfl rfl (by omega) hL rfl ?_
  refine lp_callV (pc' := 1167) (As := [.int _, .int _]) dL_1164 rfl mk_X11_way ml_L_128 im_X11_way se_X11_X11_X11_way sh_0 (by decide) rfl rfl rfl ⟨by decide, by decide, (by show cs + 0 ≤ 600000; omega), (by show ss + 0 ≤ 7302250; omega)⟩ (Nat.le_of_ble_eq_true rfl) (j_way H (fun v h2 jm => ?_))
  refine lp_aload2 (pc' := 1168) dL_1167 rfl rfl ?_
  refine lp_rd (i := 6 * n) (j := 1) (pc' := 1173) dL_1168 dL_1169 dL_1170 dL_1171 dL_1172 rfl rfl (by omega) hL rfl ?_
  refine lp_rd (i := 6 * n) (j := 2) (pc' := 1178) dL_1173 dL_1174 dL_1175 dL_1176 dL_1177 rfl rfl (by omega) hL rfl ?_
  refine lp_callV (pc' := 1181) (As := [.int _, .int _]) dL_1178 rfl mk_X12_way ml_L_131 im_X12_way se_X12_X12_X12_way sh_54 (by decide) rfl rfl rfl ⟨by decide, by decide, (by show cs + 0 + 0 ≤ 600000; omega), (by show ss + 0 + 0 ≤ 7302250; omega)⟩ (Nat.le_of_ble_eq_true rfl) (jm _ (fun h3 H3 => ?_))
  refine lp_same (tgt := 1564) dL_1181 (by decide) rfl ?_
  exact lp_wid (by show cs + 0 + 0 ≤ cs + 1; omega) (by show ss + 0 + 0 ≤ ss + 11; omega) (k _ H3)
set_option maxHeartbeats 1000000 in
theorem lc_27 {b Ln : Nat} {xs : Nat → Int32} {n : Nat} {h : HP} {cs ss : Nat} (hL : Ln ≤ 3072) (hb : 6 * n + 6 ≤ Ln) (hn : n < 600) (H : INV n h) (hcs : cs ≤ 1000) (hss : ss ≤ 100000) (k : ∀ h', INV (n + 1) h' → LWP E1 b Ln xs 1564 [.ref 0, .ref 54, .int (nI (6 * n))] [] h' (cs + 1) (ss + 11)) : LWP E1 b Ln xs 1186 [.ref 0, .ref 54, .int (nI (6 * n))] [] h cs ss := by
  refine lp_aload1 (pc' := 1187) dL_1186 rfl rfl ?_
  refine lp_rd (i := 6 * n) (j := 1) (pc' := 1192) dL_1187 dL_1188 dL_1189 dL_1190 dL_1191 rfl rfl (by omega) hL rfl ?_
  refine lp_rd (i := 6 * n) (j := 2) (pc' := 1197) dL_1192 dL_1193 dL_1194 dL_1195 dL_1196 rfl rfl (by omega) hL rfl ?_
  refine lp_callV (pc' := 1200) (As := [.int _, .int _]) dL_1197 rfl mk_X11_dice ml_L_132 im_X11_dice se_X11_X11_X11_dice sh_0 (by decide) rfl rfl rfl ⟨by decide, by decide, (by show cs + 0 ≤ 600000; omega), (by show ss + 0 ≤ 7302250; omega)⟩ (Nat.le_of_ble_eq_true rfl) (j_dice hn H (fun v h2 jm => ?_))
  refine lp_aload2 (pc' := 1201) dL_1200 rfl rfl ?_
  refine lp_rd (i := 6 * n) (j := 1) (pc' := 1206) dL_1201 dL_1202 dL_1203 dL_1204 dL_1205 rfl rfl (by omega) hL rfl ?_
  refine lp_rd (i := 6 * n) (j := 2) (pc' := 1211) dL_1206 dL_1207 dL_1208 dL_1209 dL_1210 rfl rfl (by omega) hL rfl ?_
  refine lp_callV (pc' := 1214) (As := [.int _, .int _]) dL_1211 rfl mk_X12_dice ml_L_135 im_X12_dice se_X12_X12_X12_dice sh_54 (by decide) rfl rfl rfl ⟨by decide, by decide, (by show cs + 0 + 0 ≤ 600000; omega), (by show ss + 0 + 0 ≤ 7302250; omega)⟩ (Nat.le_of_ble_eq_true rfl) (jm _ (fun h3 H3 => ?_))
  refine lp_sameL (tgt := 1564) dL_1214 dL_1215 (by decide) rfl ?_
  exact lp_wid (by show cs + 0 + 0 ≤ cs + 1; omega) (by show ss + 0 + 0 ≤ ss + 11; omega) (k _ H3)
set_option maxHeartbeats 1000000 in
theorem lc_28 {b Ln : Nat} {xs : Nat → Int32} {n : Nat} {h : HP} {cs ss : Nat} (hL : Ln ≤ 3072) (hb : 6 * n + 6 ≤ Ln) (hn : n < 600) (H : INV n h) (hcs : cs ≤ 1000) (hss : ss ≤ 100000) (k : ∀ h', INV (n + 1) h' → LWP E1 b Ln xs 1564 [.ref 0, .ref 54, .int (nI (6 * n))] [] h' (cs + 1) (ss + 11)) : LWP E1 b Ln xs 1220 [.ref 0, .ref 54, .int (nI (6 * n))] [] h cs ss := by
  refine lp_aload1 (pc' := 1221) dL_1220 rfl rfl ?_
  refine lp_rd (i := 6 * n) (j := 1) (pc' := 1226) dL_1221 dL_1222 dL_1223 dL_1224 dL_1225 rfl rfl (by omega) hL rfl ?_
  refine lp_rd (i := 6 * n) (j := 2) (pc' := 1231) dL_1226 dL_1227 dL_1228 dL_1229 dL_1230 rfl rfl (by omega) hL rfl ?_
  refine lp_rd (i := 6 * n) (j := 3) (pc' := 1236) dL_1231 dL_1232 dL_1233 dL_1234 dL_1235 rfl rfl (by omega) hL rfl ?_
  refine lp_bool (p1 := 1239) (p2 := 1240) (p3 := 1243) (p4 := 1244) dL_1236 (by decide) rfl dL_1239 rfl dL_1240 (by decide) dL_1243 rfl ?_
  refine lp_rd (i := 6 * n) (j := 4) (pc' := 1249) dL_1244 dL_1245 dL_1246 dL_1247 dL_1248 rfl rfl (by omega) hL rfl ?_
  refine lp_callV (pc' := 1252) (As := [.int _, .int _, .int _, .int _]) dL_1249 rfl mk_X11_chance ml_L_136 im_X11_chance se_X11_X11_X11_chance sh_0 (by decide) rfl rfl rfl ⟨by decide, by decide, (by show cs + 0 ≤ 600000; omega), (by show ss + 0 ≤ 7302250; omega)⟩ (Nat.le_of_ble_eq_true rfl) (j_chance hn H (fun v h2 jm => ?_))
  refine lp_aload2 (pc' := 1253) dL_1252 rfl rfl ?_
  refine lp_rd (i := 6 * n) (j := 1) (pc' := 1258) dL_1253 dL_1254 dL_1255 dL_1256 dL_1257 rfl rfl (by omega) hL rfl ?_
  refine lp_rd (i := 6 * n) (j := 2) (pc' := 1263) dL_1258 dL_1259 dL_1260 dL_1261 dL_1262 rfl rfl (by omega) hL rfl ?_
  refine lp_rd (i := 6 * n) (j := 3) (pc' := 1268) dL_1263 dL_1264 dL_1265 dL_1266 dL_1267 rfl rfl (by omega) hL rfl ?_
  refine lp_bool (p1 := 1271) (p2 := 1272) (p3 := 1275) (p4 := 1276) dL_1268 (by decide) rfl dL_1271 rfl dL_1272 (by decide) dL_1275 rfl ?_
  refine lp_rd (i := 6 * n) (j := 4) (pc' := 1281) dL_1276 dL_1277 dL_1278 dL_1279 dL_1280 rfl rfl (by omega) hL rfl ?_
  refine lp_callV (pc' := 1284) (As := [.int _, .int _, .int _, .int _]) dL_1281 rfl mk_X12_chance ml_L_140 im_X12_chance se_X12_X12_X12_chance sh_54 (by decide) rfl rfl rfl ⟨by decide, by decide, (by show cs + 0 + 0 ≤ 600000; omega), (by show ss + 0 + 0 ≤ 7302250; omega)⟩ (Nat.le_of_ble_eq_true rfl) (jm _ (fun h3 H3 => ?_))
  refine lp_sameL (tgt := 1564) dL_1284 dL_1285 (by decide) rfl ?_
  exact lp_wid (by show cs + 0 + 0 ≤ cs + 1; omega) (by show ss + 0 + 0 ≤ ss + 11; omega) (k _ H3)
set_option maxHeartbeats 1000000 in
theorem lc_29 {b Ln : Nat} {xs : Nat → Int32} {n : Nat} {h : HP} {cs ss : Nat} (hL : Ln ≤ 3072) (hb : 6 * n + 6 ≤ Ln) (hn : n < 600) (H : INV n h) (hcs : cs ≤ 1000) (hss : ss ≤ 100000) (k : ∀ h', INV (n + 1) h' → LWP E1 b Ln xs 1564 [.ref 0, .ref 54, .int (nI (6 * n))] [] h' (cs + 1) (ss + 11)) : LWP E1 b Ln xs 1290 [.ref 0, .ref 54, .int (nI (6 * n))] [] h cs ss := by
  refine lp_aload1 (pc' := 1291) dL_1290 rfl rfl ?_
  refine lp_rd (i := 6 * n) (j := 1) (pc' := 1296) dL_1291 dL_1292 dL_1293 dL_1294 dL_1295 rfl rfl (by omega) hL rfl ?_
  refine lp_callV (pc' := 1299) (As := [.int _]) dL_1296 rfl mk_X11_count ml_L_141 im_X11_count se_X11_X11_X11_count sh_0 (by decide) rfl rfl rfl ⟨by decide, by decide, (by show cs + 0 ≤ 600000; omega), (by show ss + 0 ≤ 7302250; omega)⟩ (Nat.le_of_ble_eq_true rfl) (j_count H (fun v h2 jm => ?_))
  refine lp_aload2 (pc' := 1300) dL_1299 rfl rfl ?_
  refine lp_rd (i := 6 * n) (j := 1) (pc' := 1305) dL_1300 dL_1301 dL_1302 dL_1303 dL_1304 rfl rfl (by omega) hL rfl ?_
  refine lp_callV (pc' := 1308) (As := [.int _]) dL_1305 rfl mk_X12_count ml_L_144 im_X12_count se_X12_X12_X12_count sh_54 (by decide) rfl rfl rfl ⟨by decide, by decide, (by show cs + 0 + 0 ≤ 600000; omega), (by show ss + 0 + 0 ≤ 7302250; omega)⟩ (Nat.le_of_ble_eq_true rfl) (jm _ (fun h3 H3 => ?_))
  refine lp_same (tgt := 1564) dL_1308 (by decide) rfl ?_
  exact lp_wid (by show cs + 0 + 0 ≤ cs + 1; omega) (by show ss + 0 + 0 ≤ ss + 11; omega) (k _ H3)
set_option maxHeartbeats 1000000 in
theorem lc_30 {b Ln : Nat} {xs : Nat → Int32} {n : Nat} {h : HP} {cs ss : Nat} (hL : Ln ≤ 3072) (hb : 6 * n + 6 ≤ Ln) (hn : n < 600) (H : INV n h) (hcs : cs ≤ 1000) (hss : ss ≤ 100000) (k : ∀ h', INV (n + 1) h' → LWP E1 b Ln xs 1564 [.ref 0, .ref 54, .int (nI (6 * n))] [] h' (cs + 1) (ss + 11)) : LWP E1 b Ln xs 1313 [.ref 0, .ref 54, .int (nI (6 * n))] [] h cs ss := by
  refine lp_aload1 (pc' := 1314) dL_1313 rfl rfl ?_
  refine lp_rd (i := 6 * n) (j := 1) (pc' := 1319) dL_1314 dL_1315 dL_1316 dL_1317 dL_1318 rfl rfl (by omega) hL rfl ?_
  refine lp_rd (i := 6 * n) (j := 2) (pc' := 1324) dL_1319 dL_1320 dL_1321 dL_1322 dL_1323 rfl rfl (by omega) hL rfl ?_
  refine lp_rd (i := 6 * n) (j := 3) (pc' := 1329) dL_1324 dL_1325 dL_1326 dL_1327 dL_1328 rfl rfl (by omega) hL rfl ?_
  refine lp_callV (pc' := 1332) (As := [.int _, .int _, .int _]) dL_1329 rfl mk_X11_act ml_L_145 im_X11_act se_X11_X11_X11_act sh_0 (by decide) rfl rfl rfl ⟨by decide, by decide, (by show cs + 0 ≤ 600000; omega), (by show ss + 0 ≤ 7302250; omega)⟩ (Nat.le_of_ble_eq_true rfl) (j_act hn H (fun v h2 jm => ?_))
  refine lp_aload2 (pc' := 1333) dL_1332 rfl rfl ?_
  refine lp_rd (i := 6 * n) (j := 1) (pc' := 1338) dL_1333 dL_1334 dL_1335 dL_1336 dL_1337 rfl rfl (by omega) hL rfl ?_
  refine lp_rd (i := 6 * n) (j := 2) (pc' := 1343) dL_1338 dL_1339 dL_1340 dL_1341 dL_1342 rfl rfl (by omega) hL rfl ?_
  refine lp_rd (i := 6 * n) (j := 3) (pc' := 1348) dL_1343 dL_1344 dL_1345 dL_1346 dL_1347 rfl rfl (by omega) hL rfl ?_
  refine lp_callV (pc' := 1351) (As := [.int _, .int _, .int _]) dL_1348 rfl mk_X12_act ml_L_148 im_X12_act se_X12_X12_X12_act sh_54 (by decide) rfl rfl rfl ⟨by decide, by decide, (by show cs + 0 + 0 ≤ 600000; omega), (by show ss + 0 + 0 ≤ 7302250; omega)⟩ (Nat.le_of_ble_eq_true rfl) (jm _ (fun h3 H3 => ?_))
  refine lp_same (tgt := 1564) dL_1351 (by decide) rfl ?_
  exact lp_wid (by show cs + 0 + 0 ≤ cs + 1; omega) (by show ss + 0 + 0 ≤ ss + 11; omega) (k _ H3)
set_option maxHeartbeats 1000000 in
theorem lc_31 {b Ln : Nat} {xs : Nat → Int32} {n : Nat} {h : HP} {cs ss : Nat} (hL : Ln ≤ 3072) (hb : 6 * n + 6 ≤ Ln) (hn : n < 600) (H : INV n h) (hcs : cs ≤ 1000) (hss : ss ≤ 100000) (k : ∀ h', INV (n + 1) h' → LWP E1 b Ln xs 1564 [.ref 0, .ref 54, .int (nI (6 * n))] [] h' (cs + 1) (ss + 11)) : LWP E1 b Ln xs 1356 [.ref 0, .ref 54, .int (nI (6 * n))] [] h cs ss := by
  refine lp_aload1 (pc' := 1357) dL_1356 rfl rfl ?_
  refine lp_rd (i := 6 * n) (j := 1) (pc' := 1362) dL_1357 dL_1358 dL_1359 dL_1360 dL_1361 rfl rfl (by omega) hL rfl ?_
  refine lp_callV (pc' := 1365) (As := [.int _]) dL_1362 rfl mk_X11_trace ml_L_149 im_X11_trace se_X11_X11_X11_trace sh_0 (by decide) rfl rfl rfl ⟨by decide, by decide, (by show cs + 0 ≤ 600000; omega), (by show ss + 0 ≤ 7302250; omega)⟩ (Nat.le_of_ble_eq_true rfl) (j_trace H (fun v h2 jm => ?_))
  refine lp_aload2 (pc' := 1366) dL_1365 rfl rfl ?_
  refine lp_rd (i := 6 * n) (j := 1) (pc' := 1371) dL_1366 dL_1367 dL_1368 dL_1369 dL_1370 rfl rfl (by omega) hL rfl ?_
  refine lp_callV (pc' := 1374) (As := [.int _]) dL_1371 rfl mk_X12_trace ml_L_152 im_X12_trace se_X12_X12_X12_trace sh_54 (by decide) rfl rfl rfl ⟨by decide, by decide, (by show cs + 0 + 0 ≤ 600000; omega), (by show ss + 0 + 0 ≤ 7302250; omega)⟩ (Nat.le_of_ble_eq_true rfl) (jm _ (fun h3 H3 => ?_))
  refine lp_same (tgt := 1564) dL_1374 (by decide) rfl ?_
  exact lp_wid (by show cs + 0 + 0 ≤ cs + 1; omega) (by show ss + 0 + 0 ≤ ss + 11; omega) (k _ H3)
set_option maxHeartbeats 1000000 in
theorem lc_32 {b Ln : Nat} {xs : Nat → Int32} {n : Nat} {h : HP} {cs ss : Nat} (hL : Ln ≤ 3072) (hb : 6 * n + 6 ≤ Ln) (hn : n < 600) (H : INV n h) (hcs : cs ≤ 1000) (hss : ss ≤ 100000) (k : ∀ h', INV (n + 1) h' → LWP E1 b Ln xs 1564 [.ref 0, .ref 54, .int (nI (6 * n))] [] h' (cs + 1) (ss + 11)) : LWP E1 b Ln xs 1379 [.ref 0, .ref 54, .int (nI (6 * n))] [] h cs ss := by
  refine lp_aload1 (pc' := 1380) dL_1379 rfl rfl ?_
  refine lp_rd (i := 6 * n) (j := 1) (pc' := 1385) dL_1380 dL_1381 dL_1382 dL_1383 dL_1384 rfl rfl (by omega) hL rfl ?_
  refine lp_rd (i := 6 * n) (j := 2) (pc' := 1390) dL_1385 dL_1386 dL_1387 dL_1388 dL_1389 rfl rfl (by omega) hL rfl ?_
  refine lp_rd (i := 6 * n) (j := 3) (pc' := 1395) dL_1390 dL_1391 dL_1392 dL_1393 dL_1394 rfl rfl (by omega) hL rfl ?_
  refine lp_callV (pc' := 1398) (As := [.int _, .int _, .int _]) dL_1395 rfl mk_X11_sheet ml_L_153 im_X11_sheet se_X11_X11_X11_sheet sh_0 (by decide) rfl rfl rfl ⟨by decide, by decide, (by show cs + 0 ≤ 600000; omega), (by show ss + 0 ≤ 7302250; omega)⟩ (Nat.le_of_ble_eq_true rfl) (j_sheet hn H (fun v h2 jm => ?_))
  refine lp_aload2 (pc' := 1399) dL_1398 rfl rfl ?_
  refine lp_rd (i := 6 * n) (j := 1) (pc' := 1404) dL_1399 dL_1400 dL_1401 dL_1402 dL_1403 rfl rfl (by omega) hL rfl ?_
  refine lp_rd (i := 6 * n) (j := 2) (pc' := 1409) dL_1404 dL_1405 dL_1406 dL_1407 dL_1408 rfl rfl (by omega) hL rfl ?_
  refine lp_rd (i := 6 * n) (j := 3) (pc' := 1414) dL_1409 dL_1410 dL_1411 dL_1412 dL_1413 rfl rfl (by omega) hL rfl ?_
  refine lp_callV (pc' := 1417) (As := [.int _, .int _, .int _]) dL_1414 rfl mk_X12_sheet ml_L_156 im_X12_sheet se_X12_X12_X12_sheet sh_54 (by decide) rfl rfl rfl ⟨by decide, by decide, (by show cs + 0 + 0 ≤ 600000; omega), (by show ss + 0 + 0 ≤ 7302250; omega)⟩ (Nat.le_of_ble_eq_true rfl) (jm _ (fun h3 H3 => ?_))
  refine lp_same (tgt := 1564) dL_1417 (by decide) rfl ?_
  exact lp_wid (by show cs + 0 + 0 ≤ cs + 1; omega) (by show ss + 0 + 0 ≤ ss + 11; omega) (k _ H3)
set_option maxHeartbeats 1000000 in
theorem lc_33 {b Ln : Nat} {xs : Nat → Int32} {n : Nat} {h : HP} {cs ss : Nat} (hL : Ln ≤ 3072) (hb : 6 * n + 6 ≤ Ln) (hn : n < 600) (H : INV n h) (hcs : cs ≤ 1000) (hss : ss ≤ 100000) (k : ∀ h', INV (n + 1) h' → LWP E1 b Ln xs 1564 [.ref 0, .ref 54, .int (nI (6 * n))] [] h' (cs + 1) (ss + 11)) : LWP E1 b Ln xs 1422 [.ref 0, .ref 54, .int (nI (6 * n))] [] h cs ss := by
  refine lp_aload1 (pc' := 1423) dL_1422 rfl rfl ?_
  refine lp_rd (i := 6 * n) (j := 1) (pc' := 1428) dL_1423 dL_1424 dL_1425 dL_1426 dL_1427 rfl rfl (by omega) hL rfl ?_
  refine lp_rd (i := 6 * n) (j := 2) (pc' := 1433) dL_1428 dL_1429 dL_1430 dL_1431 dL_1432 rfl rfl (by omega) hL rfl ?_
  refine lp_rd (i := 6 * n) (j := 3) (pc' := 1438) dL_1433 dL_1434 dL_1435 dL_1436 dL_1437 rfl rfl (by omega) hL rfl ?_
  refine lp_callV (pc' := 1441) (As := [.int _, .int _, .int _]) dL_1438 rfl mk_X11_cell ml_L_157 im_X11_cell se_X11_X11_X11_cell sh_0 (by decide) rfl rfl rfl ⟨by decide, by decide, (by show cs + 0 ≤ 600000; omega), (by show ss + 0 ≤ 7302250; omega)⟩ (Nat.le_of_ble_eq_true rfl) (j_cell hn H (fun v h2 jm => ?_))
  refine lp_aload2 (pc' := 1442) dL_1441 rfl rfl ?_
  refine lp_rd (i := 6 * n) (j := 1) (pc' := 1447) dL_1442 dL_1443 dL_1444 dL_1445 dL_1446 rfl rfl (by omega) hL rfl ?_
  refine lp_rd (i := 6 * n) (j := 2) (pc' := 1452) dL_1447 dL_1448 dL_1449 dL_1450 dL_1451 rfl rfl (by omega) hL rfl ?_
  refine lp_rd (i := 6 * n) (j := 3) (pc' := 1457) dL_1452 dL_1453 dL_1454 dL_1455 dL_1456 rfl rfl (by omega) hL rfl ?_
  refine lp_callV (pc' := 1460) (As := [.int _, .int _, .int _]) dL_1457 rfl mk_X12_cell ml_L_160 im_X12_cell se_X12_X12_X12_cell sh_54 (by decide) rfl rfl rfl ⟨by decide, by decide, (by show cs + 0 + 0 ≤ 600000; omega), (by show ss + 0 + 0 ≤ 7302250; omega)⟩ (Nat.le_of_ble_eq_true rfl) (jm _ (fun h3 H3 => ?_))
  refine lp_same (tgt := 1564) dL_1460 (by decide) rfl ?_
  exact lp_wid (by show cs + 0 + 0 ≤ cs + 1; omega) (by show ss + 0 + 0 ≤ ss + 11; omega) (k _ H3)
set_option maxHeartbeats 1000000 in
theorem lc_34 {b Ln : Nat} {xs : Nat → Int32} {n : Nat} {h : HP} {cs ss : Nat} (hL : Ln ≤ 3072) (hb : 6 * n + 6 ≤ Ln) (hn : n < 600) (H : INV n h) (hcs : cs ≤ 1000) (hss : ss ≤ 100000) (k : ∀ h', INV (n + 1) h' → LWP E1 b Ln xs 1564 [.ref 0, .ref 54, .int (nI (6 * n))] [] h' (cs + 1) (ss + 11)) : LWP E1 b Ln xs 1465 [.ref 0, .ref 54, .int (nI (6 * n))] [] h cs ss := by
  refine lp_aload1 (pc' := 1466) dL_1465 rfl rfl ?_
  refine lp_rd (i := 6 * n) (j := 1) (pc' := 1471) dL_1466 dL_1467 dL_1468 dL_1469 dL_1470 rfl rfl (by omega) hL rfl ?_
  refine lp_rd (i := 6 * n) (j := 2) (pc' := 1476) dL_1471 dL_1472 dL_1473 dL_1474 dL_1475 rfl rfl (by omega) hL rfl ?_
  refine lp_rd (i := 6 * n) (j := 3) (pc' := 1481) dL_1476 dL_1477 dL_1478 dL_1479 dL_1480 rfl rfl (by omega) hL rfl ?_
  refine lp_callV (pc' := 1484) (As := [.int _, .int _, .int _]) dL_1481 rfl mk_X11_row ml_L_161 im_X11_row se_X11_X11_X11_row sh_0 (by decide) rfl rfl rfl ⟨by decide, by decide, (by show cs + 1 ≤ 600000; omega), (by show ss + 10 ≤ 7302250; omega)⟩ (Nat.le_of_ble_eq_true rfl) (j_row hn H (fun v h2 jm => ?_))
  refine lp_aload2 (pc' := 1485) dL_1484 rfl rfl ?_
  refine lp_rd (i := 6 * n) (j := 1) (pc' := 1490) dL_1485 dL_1486 dL_1487 dL_1488 dL_1489 rfl rfl (by omega) hL rfl ?_
  refine lp_rd (i := 6 * n) (j := 2) (pc' := 1495) dL_1490 dL_1491 dL_1492 dL_1493 dL_1494 rfl rfl (by omega) hL rfl ?_
  refine lp_rd (i := 6 * n) (j := 3) (pc' := 1500) dL_1495 dL_1496 dL_1497 dL_1498 dL_1499 rfl rfl (by omega) hL rfl ?_
  refine lp_callV (pc' := 1503) (As := [.int _, .int _, .int _]) dL_1500 rfl mk_X12_row ml_L_164 im_X12_row se_X12_X12_X12_row sh_54 (by decide) rfl rfl rfl ⟨by decide, by decide, (by show cs + 1 + 0 ≤ 600000; omega), (by show ss + 10 + 0 ≤ 7302250; omega)⟩ (Nat.le_of_ble_eq_true rfl) (jm _ (fun h3 H3 => ?_))
  refine lp_same (tgt := 1564) dL_1503 (by decide) rfl ?_
  exact lp_wid (by show cs + 1 + 0 ≤ cs + 1; omega) (by show ss + 10 + 0 ≤ ss + 11; omega) (k _ H3)
set_option maxHeartbeats 1000000 in
theorem lc_35 {b Ln : Nat} {xs : Nat → Int32} {n : Nat} {h : HP} {cs ss : Nat} (hL : Ln ≤ 3072) (hb : 6 * n + 6 ≤ Ln) (hn : n < 600) (H : INV n h) (hcs : cs ≤ 1000) (hss : ss ≤ 100000) (k : ∀ h', INV (n + 1) h' → LWP E1 b Ln xs 1564 [.ref 0, .ref 54, .int (nI (6 * n))] [] h' (cs + 1) (ss + 11)) : LWP E1 b Ln xs 1508 [.ref 0, .ref 54, .int (nI (6 * n))] [] h cs ss := by
  refine lp_aload1 (pc' := 1509) dL_1508 rfl rfl ?_
  refine lp_rd (i := 6 * n) (j := 1) (pc' := 1514) dL_1509 dL_1510 dL_1511 dL_1512 dL_1513 rfl rfl (by omega) hL rfl ?_
  refine lp_rd (i := 6 * n) (j := 2) (pc' := 1519) dL_1514 dL_1515 dL_1516 dL_1517 dL_1518 rfl rfl (by omega) hL rfl ?_
  refine lp_rd (i := 6 * n) (j := 3) (pc' := 1524) dL_1519 dL_1520 dL_1521 dL_1522 dL_1523 rfl rfl (by omega) hL rfl ?_
  refine lp_callV (pc' := 1527) (As := [.int _, .int _, .int _]) dL_1524 rfl mk_X11_forge ml_L_165 im_X11_forge se_X11_X11_X11_forge sh_0 (by decide) rfl rfl rfl ⟨by decide, by decide, (by show cs + 0 ≤ 600000; omega), (by show ss + 0 ≤ 7302250; omega)⟩ (Nat.le_of_ble_eq_true rfl) (j_forge hn H (fun v h2 jm => ?_))
  refine lp_aload2 (pc' := 1528) dL_1527 rfl rfl ?_
  refine lp_rd (i := 6 * n) (j := 1) (pc' := 1533) dL_1528 dL_1529 dL_1530 dL_1531 dL_1532 rfl rfl (by omega) hL rfl ?_
  refine lp_rd (i := 6 * n) (j := 2) (pc' := 1538) dL_1533 dL_1534 dL_1535 dL_1536 dL_1537 rfl rfl (by omega) hL rfl ?_
  refine lp_rd (i := 6 * n) (j := 3) (pc' := 1543) dL_1538 dL_1539 dL_1540 dL_1541 dL_1542 rfl rfl (by omega) hL rfl ?_
  refine lp_callV (pc' := 1546) (As := [.int _, .int _, .int _]) dL_1543 rfl mk_X12_forge ml_L_168 im_X12_forge se_X12_X12_X12_forge sh_54 (by decide) rfl rfl rfl ⟨by decide, by decide, (by show cs + 0 + 0 ≤ 600000; omega), (by show ss + 0 + 0 ≤ 7302250; omega)⟩ (Nat.le_of_ble_eq_true rfl) (jm _ (fun h3 H3 => ?_))
  refine lp_same (tgt := 1564) dL_1546 (by decide) rfl ?_
  exact lp_wid (by show cs + 0 + 0 ≤ cs + 1; omega) (by show ss + 0 + 0 ≤ ss + 11; omega) (k _ H3)
set_option maxHeartbeats 1000000 in
theorem lc_36 {b Ln : Nat} {xs : Nat → Int32} {n : Nat} {h : HP} {cs ss : Nat} (hL : Ln ≤ 3072) (hb : 6 * n + 6 ≤ Ln) (hn : n < 600) (H : INV n h) (hcs : cs ≤ 1000) (hss : ss ≤ 100000) (k : ∀ h', INV (n + 1) h' → LWP E1 b Ln xs 1564 [.ref 0, .ref 54, .int (nI (6 * n))] [] h' (cs + 1) (ss + 11)) : LWP E1 b Ln xs 1551 [.ref 0, .ref 54, .int (nI (6 * n))] [] h cs ss := by
  refine lp_aload1 (pc' := 1552) dL_1551 rfl rfl ?_
  refine lp_callV (pc' := 1555) (As := []) dL_1552 rfl mk_X11_status ml_L_169 im_X11_status se_X11_X11_X11_status sh_0 (by decide) rfl rfl rfl ⟨by decide, by decide, (by show cs + 0 ≤ 600000; omega), (by show ss + 0 ≤ 7302250; omega)⟩ (Nat.le_of_ble_eq_true rfl) (j_status H (fun v h2 jm => ?_))
  refine lp_aload2 (pc' := 1556) dL_1555 rfl rfl ?_
  refine lp_callV (pc' := 1559) (As := []) dL_1556 rfl mk_X12_status ml_L_172 im_X12_status se_X12_X12_X12_status sh_54 (by decide) rfl rfl rfl ⟨by decide, by decide, (by show cs + 0 + 0 ≤ 600000; omega), (by show ss + 0 + 0 ≤ 7302250; omega)⟩ (Nat.le_of_ble_eq_true rfl) (jm _ (fun h3 H3 => ?_))
  refine lp_same (tgt := 1564) dL_1559 (by decide) rfl ?_
  exact lp_wid (by show cs + 0 + 0 ≤ cs + 1; omega) (by show ss + 0 + 0 ≤ ss + 11; omega) (k _ H3)
