theorem dL_0 : decode code 0 = .ok (.new 7, 3) := by decide +kernel
theorem dL_3 : decode code 3 = .ok (.dup, 1) := by decide +kernel
theorem dL_4 : decode code 4 = .ok (.invokespecial 9, 3) := by decide +kernel
theorem dL_7 : decode code 7 = .ok (.astore_n 1, 1) := by decide +kernel
theorem dL_8 : decode code 8 = .ok (.new 10, 3) := by decide +kernel
theorem dL_11 : decode code 11 = .ok (.dup, 1) := by decide +kernel
theorem dL_12 : decode code 12 = .ok (.invokespecial 12, 3) := by decide +kernel
theorem dL_15 : decode code 15 = .ok (.astore_n 2, 1) := by decide +kernel
theorem dL_16 : decode code 16 = .ok (.iconst 0, 1) := by decide +kernel
theorem dL_17 : decode code 17 = .ok (.istore_n 3, 1) := by decide +kernel
theorem dL_18 : decode code 18 = .ok (.iload_n 3, 1) := by decide +kernel
theorem dL_19 : decode code 19 = .ok (.aload_n 0, 1) := by decide +kernel
theorem dL_20 : decode code 20 = .ok (.arraylength, 1) := by decide +kernel
theorem dL_21 : decode code 21 = .ok (.bipush 6, 2) := by decide +kernel
theorem dL_23 : decode code 23 = .ok (.isub, 1) := by decide +kernel
theorem dL_24 : decode code 24 = .ok (.if_icmp .gt 1546, 3) := by decide +kernel
theorem dL_27 : decode code 27 = .ok (.aload_n 0, 1) := by decide +kernel
theorem dL_28 : decode code 28 = .ok (.iload_n 3, 1) := by decide +kernel
theorem dL_29 : decode code 29 = .ok (.iaload, 1) := by decide +kernel
theorem dL_30 : decode code 30 = .ok (.bipush 63, 2) := by decide +kernel
theorem dL_32 : decode code 32 = .ok (.iand, 1) := by decide +kernel
theorem dL_33 : decode code 33 = .ok (.tableswitch 1531 0 36 #[163, 206, 255, 288, 347, 410, 473, 522, 571, 614, 627, 660, 673, 686, 699, 732, 766, 799, 823, 846, 879, 912, 935, 948, 1018, 1087, 1120, 1153, 1187, 1257, 1280, 1323, 1346, 1389, 1432, 1475, 1518], 163) := by decide +kernel
theorem dL_196 : decode code 196 = .ok (.aload_n 1, 1) := by decide +kernel
theorem dL_197 : decode code 197 = .ok (.aload_n 0, 1) := by decide +kernel
theorem dL_198 : decode code 198 = .ok (.iload_n 3, 1) := by decide +kernel
theorem dL_199 : decode code 199 = .ok (.iconst 1, 1) := by decide +kernel
theorem dL_200 : decode code 200 = .ok (.iadd, 1) := by decide +kernel
theorem dL_201 : decode code 201 = .ok (.iaload, 1) := by decide +kernel
theorem dL_202 : decode code 202 = .ok (.aload_n 0, 1) := by decide +kernel
theorem dL_203 : decode code 203 = .ok (.iload_n 3, 1) := by decide +kernel
theorem dL_204 : decode code 204 = .ok (.iconst 2, 1) := by decide +kernel
theorem dL_205 : decode code 205 = .ok (.iadd, 1) := by decide +kernel
theorem dL_206 : decode code 206 = .ok (.iaload, 1) := by decide +kernel
theorem dL_207 : decode code 207 = .ok (.aload_n 0, 1) := by decide +kernel
theorem dL_208 : decode code 208 = .ok (.iload_n 3, 1) := by decide +kernel
theorem dL_209 : decode code 209 = .ok (.iconst 3, 1) := by decide +kernel
theorem dL_210 : decode code 210 = .ok (.iadd, 1) := by decide +kernel
theorem dL_211 : decode code 211 = .ok (.iaload, 1) := by decide +kernel
theorem dL_212 : decode code 212 = .ok (.invokevirtual 13, 3) := by decide +kernel
theorem dL_215 : decode code 215 = .ok (.aload_n 2, 1) := by decide +kernel
theorem dL_216 : decode code 216 = .ok (.aload_n 0, 1) := by decide +kernel
theorem dL_217 : decode code 217 = .ok (.iload_n 3, 1) := by decide +kernel
theorem dL_218 : decode code 218 = .ok (.iconst 1, 1) := by decide +kernel
theorem dL_219 : decode code 219 = .ok (.iadd, 1) := by decide +kernel
theorem dL_220 : decode code 220 = .ok (.iaload, 1) := by decide +kernel
theorem dL_221 : decode code 221 = .ok (.aload_n 0, 1) := by decide +kernel
theorem dL_222 : decode code 222 = .ok (.iload_n 3, 1) := by decide +kernel
theorem dL_223 : decode code 223 = .ok (.iconst 2, 1) := by decide +kernel
theorem dL_224 : decode code 224 = .ok (.iadd, 1) := by decide +kernel
theorem dL_225 : decode code 225 = .ok (.iaload, 1) := by decide +kernel
theorem dL_226 : decode code 226 = .ok (.aload_n 0, 1) := by decide +kernel
theorem dL_227 : decode code 227 = .ok (.iload_n 3, 1) := by decide +kernel
theorem dL_228 : decode code 228 = .ok (.iconst 3, 1) := by decide +kernel
theorem dL_229 : decode code 229 = .ok (.iadd, 1) := by decide +kernel
theorem dL_230 : decode code 230 = .ok (.iaload, 1) := by decide +kernel
theorem dL_231 : decode code 231 = .ok (.invokevirtual 17, 3) := by decide +kernel
theorem dL_234 : decode code 234 = .ok (.if_icmp .eq 1330, 3) := by decide +kernel
theorem dL_237 : decode code 237 = .ok (.iconst 0, 1) := by decide +kernel
theorem dL_238 : decode code 238 = .ok (.ireturn, 1) := by decide +kernel
theorem dL_239 : decode code 239 = .ok (.aload_n 1, 1) := by decide +kernel
theorem dL_240 : decode code 240 = .ok (.aload_n 0, 1) := by decide +kernel
theorem dL_241 : decode code 241 = .ok (.iload_n 3, 1) := by decide +kernel
theorem dL_242 : decode code 242 = .ok (.iconst 1, 1) := by decide +kernel
theorem dL_243 : decode code 243 = .ok (.iadd, 1) := by decide +kernel
theorem dL_244 : decode code 244 = .ok (.iaload, 1) := by decide +kernel
theorem dL_245 : decode code 245 = .ok (.aload_n 0, 1) := by decide +kernel
theorem dL_246 : decode code 246 = .ok (.iload_n 3, 1) := by decide +kernel
theorem dL_247 : decode code 247 = .ok (.iconst 2, 1) := by decide +kernel
theorem dL_248 : decode code 248 = .ok (.iadd, 1) := by decide +kernel
theorem dL_249 : decode code 249 = .ok (.iaload, 1) := by decide +kernel
theorem dL_250 : decode code 250 = .ok (.ifCond .eq 7, 3) := by decide +kernel
theorem dL_253 : decode code 253 = .ok (.iconst 1, 1) := by decide +kernel
theorem dL_254 : decode code 254 = .ok (.goto 4, 3) := by decide +kernel
theorem dL_257 : decode code 257 = .ok (.iconst 0, 1) := by decide +kernel
theorem dL_258 : decode code 258 = .ok (.invokevirtual 18, 3) := by decide +kernel
theorem dL_261 : decode code 261 = .ok (.aload_n 2, 1) := by decide +kernel
theorem dL_262 : decode code 262 = .ok (.aload_n 0, 1) := by decide +kernel
theorem dL_263 : decode code 263 = .ok (.iload_n 3, 1) := by decide +kernel
theorem dL_264 : decode code 264 = .ok (.iconst 1, 1) := by decide +kernel
theorem dL_265 : decode code 265 = .ok (.iadd, 1) := by decide +kernel
theorem dL_266 : decode code 266 = .ok (.iaload, 1) := by decide +kernel
theorem dL_267 : decode code 267 = .ok (.aload_n 0, 1) := by decide +kernel
theorem dL_268 : decode code 268 = .ok (.iload_n 3, 1) := by decide +kernel
theorem dL_269 : decode code 269 = .ok (.iconst 2, 1) := by decide +kernel
theorem dL_270 : decode code 270 = .ok (.iadd, 1) := by decide +kernel
theorem dL_271 : decode code 271 = .ok (.iaload, 1) := by decide +kernel
theorem dL_272 : decode code 272 = .ok (.ifCond .eq 7, 3) := by decide +kernel
theorem dL_275 : decode code 275 = .ok (.iconst 1, 1) := by decide +kernel
theorem dL_276 : decode code 276 = .ok (.goto 4, 3) := by decide +kernel
theorem dL_279 : decode code 279 = .ok (.iconst 0, 1) := by decide +kernel
theorem dL_280 : decode code 280 = .ok (.invokevirtual 22, 3) := by decide +kernel
theorem dL_283 : decode code 283 = .ok (.if_icmp .eq 1281, 3) := by decide +kernel
theorem dL_286 : decode code 286 = .ok (.iconst 0, 1) := by decide +kernel
theorem dL_287 : decode code 287 = .ok (.ireturn, 1) := by decide +kernel
theorem dL_288 : decode code 288 = .ok (.aload_n 1, 1) := by decide +kernel
theorem dL_289 : decode code 289 = .ok (.aload_n 0, 1) := by decide +kernel
theorem dL_290 : decode code 290 = .ok (.iload_n 3, 1) := by decide +kernel
theorem dL_291 : decode code 291 = .ok (.iconst 1, 1) := by decide +kernel
theorem dL_292 : decode code 292 = .ok (.iadd, 1) := by decide +kernel
theorem dL_293 : decode code 293 = .ok (.iaload, 1) := by decide +kernel
theorem dL_294 : decode code 294 = .ok (.aload_n 0, 1) := by decide +kernel
theorem dL_295 : decode code 295 = .ok (.iload_n 3, 1) := by decide +kernel
theorem dL_296 : decode code 296 = .ok (.iconst 2, 1) := by decide +kernel
theorem dL_297 : decode code 297 = .ok (.iadd, 1) := by decide +kernel
theorem dL_298 : decode code 298 = .ok (.iaload, 1) := by decide +kernel
theorem dL_299 : decode code 299 = .ok (.invokevirtual 23, 3) := by decide +kernel
theorem dL_302 : decode code 302 = .ok (.aload_n 2, 1) := by decide +kernel
theorem dL_303 : decode code 303 = .ok (.aload_n 0, 1) := by decide +kernel
theorem dL_304 : decode code 304 = .ok (.iload_n 3, 1) := by decide +kernel
theorem dL_305 : decode code 305 = .ok (.iconst 1, 1) := by decide +kernel
theorem dL_306 : decode code 306 = .ok (.iadd, 1) := by decide +kernel
theorem dL_307 : decode code 307 = .ok (.iaload, 1) := by decide +kernel
theorem dL_308 : decode code 308 = .ok (.aload_n 0, 1) := by decide +kernel
theorem dL_309 : decode code 309 = .ok (.iload_n 3, 1) := by decide +kernel
theorem dL_310 : decode code 310 = .ok (.iconst 2, 1) := by decide +kernel
theorem dL_311 : decode code 311 = .ok (.iadd, 1) := by decide +kernel
theorem dL_312 : decode code 312 = .ok (.iaload, 1) := by decide +kernel
theorem dL_313 : decode code 313 = .ok (.invokevirtual 27, 3) := by decide +kernel
theorem dL_316 : decode code 316 = .ok (.if_icmp .eq 1248, 3) := by decide +kernel
theorem dL_319 : decode code 319 = .ok (.iconst 0, 1) := by decide +kernel
theorem dL_320 : decode code 320 = .ok (.ireturn, 1) := by decide +kernel
theorem dL_321 : decode code 321 = .ok (.aload_n 1, 1) := by decide +kernel
theorem dL_322 : decode code 322 = .ok (.aload_n 0, 1) := by decide +kernel
theorem dL_323 : decode code 323 = .ok (.iload_n 3, 1) := by decide +kernel
theorem dL_324 : decode code 324 = .ok (.iconst 1, 1) := by decide +kernel
theorem dL_325 : decode code 325 = .ok (.iadd, 1) := by decide +kernel
theorem dL_326 : decode code 326 = .ok (.iaload, 1) := by decide +kernel
theorem dL_327 : decode code 327 = .ok (.aload_n 0, 1) := by decide +kernel
theorem dL_328 : decode code 328 = .ok (.iload_n 3, 1) := by decide +kernel
theorem dL_329 : decode code 329 = .ok (.iconst 2, 1) := by decide +kernel
theorem dL_330 : decode code 330 = .ok (.iadd, 1) := by decide +kernel
theorem dL_331 : decode code 331 = .ok (.iaload, 1) := by decide +kernel
theorem dL_332 : decode code 332 = .ok (.ifCond .eq 7, 3) := by decide +kernel
theorem dL_335 : decode code 335 = .ok (.iconst 1, 1) := by decide +kernel
theorem dL_336 : decode code 336 = .ok (.goto 4, 3) := by decide +kernel
theorem dL_339 : decode code 339 = .ok (.iconst 0, 1) := by decide +kernel
theorem dL_340 : decode code 340 = .ok (.aload_n 0, 1) := by decide +kernel
theorem dL_341 : decode code 341 = .ok (.iload_n 3, 1) := by decide +kernel
theorem dL_342 : decode code 342 = .ok (.iconst 3, 1) := by decide +kernel
theorem dL_343 : decode code 343 = .ok (.iadd, 1) := by decide +kernel
theorem dL_344 : decode code 344 = .ok (.iaload, 1) := by decide +kernel
theorem dL_345 : decode code 345 = .ok (.invokevirtual 28, 3) := by decide +kernel
theorem dL_348 : decode code 348 = .ok (.aload_n 2, 1) := by decide +kernel
theorem dL_349 : decode code 349 = .ok (.aload_n 0, 1) := by decide +kernel
theorem dL_350 : decode code 350 = .ok (.iload_n 3, 1) := by decide +kernel
theorem dL_351 : decode code 351 = .ok (.iconst 1, 1) := by decide +kernel
theorem dL_352 : decode code 352 = .ok (.iadd, 1) := by decide +kernel
theorem dL_353 : decode code 353 = .ok (.iaload, 1) := by decide +kernel
theorem dL_354 : decode code 354 = .ok (.aload_n 0, 1) := by decide +kernel
theorem dL_355 : decode code 355 = .ok (.iload_n 3, 1) := by decide +kernel
theorem dL_356 : decode code 356 = .ok (.iconst 2, 1) := by decide +kernel
theorem dL_357 : decode code 357 = .ok (.iadd, 1) := by decide +kernel
theorem dL_358 : decode code 358 = .ok (.iaload, 1) := by decide +kernel
theorem dL_359 : decode code 359 = .ok (.ifCond .eq 7, 3) := by decide +kernel
theorem dL_362 : decode code 362 = .ok (.iconst 1, 1) := by decide +kernel
theorem dL_363 : decode code 363 = .ok (.goto 4, 3) := by decide +kernel
theorem dL_366 : decode code 366 = .ok (.iconst 0, 1) := by decide +kernel
theorem dL_367 : decode code 367 = .ok (.aload_n 0, 1) := by decide +kernel
theorem dL_368 : decode code 368 = .ok (.iload_n 3, 1) := by decide +kernel
theorem dL_369 : decode code 369 = .ok (.iconst 3, 1) := by decide +kernel
theorem dL_370 : decode code 370 = .ok (.iadd, 1) := by decide +kernel
theorem dL_371 : decode code 371 = .ok (.iaload, 1) := by decide +kernel
theorem dL_372 : decode code 372 = .ok (.invokevirtual 32, 3) := by decide +kernel
theorem dL_375 : decode code 375 = .ok (.if_icmp .eq 1189, 3) := by decide +kernel
theorem dL_378 : decode code 378 = .ok (.iconst 0, 1) := by decide +kernel
theorem dL_379 : decode code 379 = .ok (.ireturn, 1) := by decide +kernel
theorem dL_380 : decode code 380 = .ok (.aload_n 1, 1) := by decide +kernel
theorem dL_381 : decode code 381 = .ok (.aload_n 0, 1) := by decide +kernel
theorem dL_382 : decode code 382 = .ok (.iload_n 3, 1) := by decide +kernel
theorem dL_383 : decode code 383 = .ok (.iconst 1, 1) := by decide +kernel
theorem dL_384 : decode code 384 = .ok (.iadd, 1) := by decide +kernel
theorem dL_385 : decode code 385 = .ok (.iaload, 1) := by decide +kernel
theorem dL_386 : decode code 386 = .ok (.aload_n 0, 1) := by decide +kernel
theorem dL_387 : decode code 387 = .ok (.iload_n 3, 1) := by decide +kernel
theorem dL_388 : decode code 388 = .ok (.iconst 2, 1) := by decide +kernel
theorem dL_389 : decode code 389 = .ok (.iadd, 1) := by decide +kernel
theorem dL_390 : decode code 390 = .ok (.iaload, 1) := by decide +kernel
theorem dL_391 : decode code 391 = .ok (.aload_n 0, 1) := by decide +kernel
theorem dL_392 : decode code 392 = .ok (.iload_n 3, 1) := by decide +kernel
theorem dL_393 : decode code 393 = .ok (.iconst 3, 1) := by decide +kernel
theorem dL_394 : decode code 394 = .ok (.iadd, 1) := by decide +kernel
theorem dL_395 : decode code 395 = .ok (.iaload, 1) := by decide +kernel
theorem dL_396 : decode code 396 = .ok (.aload_n 0, 1) := by decide +kernel
theorem dL_397 : decode code 397 = .ok (.iload_n 3, 1) := by decide +kernel
theorem dL_398 : decode code 398 = .ok (.iconst 4, 1) := by decide +kernel
theorem dL_399 : decode code 399 = .ok (.iadd, 1) := by decide +kernel
theorem dL_400 : decode code 400 = .ok (.iaload, 1) := by decide +kernel
theorem dL_401 : decode code 401 = .ok (.aload_n 0, 1) := by decide +kernel
theorem dL_402 : decode code 402 = .ok (.iload_n 3, 1) := by decide +kernel
theorem dL_403 : decode code 403 = .ok (.iconst 5, 1) := by decide +kernel
theorem dL_404 : decode code 404 = .ok (.iadd, 1) := by decide +kernel
theorem dL_405 : decode code 405 = .ok (.iaload, 1) := by decide +kernel
theorem dL_406 : decode code 406 = .ok (.invokevirtual 33, 3) := by decide +kernel
theorem dL_409 : decode code 409 = .ok (.aload_n 2, 1) := by decide +kernel
theorem dL_410 : decode code 410 = .ok (.aload_n 0, 1) := by decide +kernel
theorem dL_411 : decode code 411 = .ok (.iload_n 3, 1) := by decide +kernel
theorem dL_412 : decode code 412 = .ok (.iconst 1, 1) := by decide +kernel
theorem dL_413 : decode code 413 = .ok (.iadd, 1) := by decide +kernel
theorem dL_414 : decode code 414 = .ok (.iaload, 1) := by decide +kernel
theorem dL_415 : decode code 415 = .ok (.aload_n 0, 1) := by decide +kernel
theorem dL_416 : decode code 416 = .ok (.iload_n 3, 1) := by decide +kernel
theorem dL_417 : decode code 417 = .ok (.iconst 2, 1) := by decide +kernel
theorem dL_418 : decode code 418 = .ok (.iadd, 1) := by decide +kernel
theorem dL_419 : decode code 419 = .ok (.iaload, 1) := by decide +kernel
theorem dL_420 : decode code 420 = .ok (.aload_n 0, 1) := by decide +kernel
theorem dL_421 : decode code 421 = .ok (.iload_n 3, 1) := by decide +kernel
theorem dL_422 : decode code 422 = .ok (.iconst 3, 1) := by decide +kernel
theorem dL_423 : decode code 423 = .ok (.iadd, 1) := by decide +kernel
theorem dL_424 : decode code 424 = .ok (.iaload, 1) := by decide +kernel
theorem dL_425 : decode code 425 = .ok (.aload_n 0, 1) := by decide +kernel
theorem dL_426 : decode code 426 = .ok (.iload_n 3, 1) := by decide +kernel
theorem dL_427 : decode code 427 = .ok (.iconst 4, 1) := by decide +kernel
theorem dL_428 : decode code 428 = .ok (.iadd, 1) := by decide +kernel
theorem dL_429 : decode code 429 = .ok (.iaload, 1) := by decide +kernel
theorem dL_430 : decode code 430 = .ok (.aload_n 0, 1) := by decide +kernel
theorem dL_431 : decode code 431 = .ok (.iload_n 3, 1) := by decide +kernel
theorem dL_432 : decode code 432 = .ok (.iconst 5, 1) := by decide +kernel
theorem dL_433 : decode code 433 = .ok (.iadd, 1) := by decide +kernel
theorem dL_434 : decode code 434 = .ok (.iaload, 1) := by decide +kernel
theorem dL_435 : decode code 435 = .ok (.invokevirtual 37, 3) := by decide +kernel
theorem dL_438 : decode code 438 = .ok (.if_icmp .eq 1126, 3) := by decide +kernel
theorem dL_441 : decode code 441 = .ok (.iconst 0, 1) := by decide +kernel
theorem dL_442 : decode code 442 = .ok (.ireturn, 1) := by decide +kernel
theorem dL_443 : decode code 443 = .ok (.aload_n 1, 1) := by decide +kernel
theorem dL_444 : decode code 444 = .ok (.aload_n 0, 1) := by decide +kernel
theorem dL_445 : decode code 445 = .ok (.iload_n 3, 1) := by decide +kernel
theorem dL_446 : decode code 446 = .ok (.iconst 1, 1) := by decide +kernel
theorem dL_447 : decode code 447 = .ok (.iadd, 1) := by decide +kernel
theorem dL_448 : decode code 448 = .ok (.iaload, 1) := by decide +kernel
theorem dL_449 : decode code 449 = .ok (.aload_n 0, 1) := by decide +kernel
theorem dL_450 : decode code 450 = .ok (.iload_n 3, 1) := by decide +kernel
theorem dL_451 : decode code 451 = .ok (.iconst 2, 1) := by decide +kernel
theorem dL_452 : decode code 452 = .ok (.iadd, 1) := by decide +kernel
theorem dL_453 : decode code 453 = .ok (.iaload, 1) := by decide +kernel
theorem dL_454 : decode code 454 = .ok (.aload_n 0, 1) := by decide +kernel
theorem dL_455 : decode code 455 = .ok (.iload_n 3, 1) := by decide +kernel
theorem dL_456 : decode code 456 = .ok (.iconst 3, 1) := by decide +kernel
theorem dL_457 : decode code 457 = .ok (.iadd, 1) := by decide +kernel
theorem dL_458 : decode code 458 = .ok (.iaload, 1) := by decide +kernel
theorem dL_459 : decode code 459 = .ok (.aload_n 0, 1) := by decide +kernel
theorem dL_460 : decode code 460 = .ok (.iload_n 3, 1) := by decide +kernel
theorem dL_461 : decode code 461 = .ok (.iconst 4, 1) := by decide +kernel
theorem dL_462 : decode code 462 = .ok (.iadd, 1) := by decide +kernel
theorem dL_463 : decode code 463 = .ok (.iaload, 1) := by decide +kernel
theorem dL_464 : decode code 464 = .ok (.aload_n 0, 1) := by decide +kernel
theorem dL_465 : decode code 465 = .ok (.iload_n 3, 1) := by decide +kernel
theorem dL_466 : decode code 466 = .ok (.iconst 5, 1) := by decide +kernel
theorem dL_467 : decode code 467 = .ok (.iadd, 1) := by decide +kernel
theorem dL_468 : decode code 468 = .ok (.iaload, 1) := by decide +kernel
theorem dL_469 : decode code 469 = .ok (.invokevirtual 38, 3) := by decide +kernel
theorem dL_472 : decode code 472 = .ok (.aload_n 2, 1) := by decide +kernel
theorem dL_473 : decode code 473 = .ok (.aload_n 0, 1) := by decide +kernel
theorem dL_474 : decode code 474 = .ok (.iload_n 3, 1) := by decide +kernel
theorem dL_475 : decode code 475 = .ok (.iconst 1, 1) := by decide +kernel
theorem dL_476 : decode code 476 = .ok (.iadd, 1) := by decide +kernel
theorem dL_477 : decode code 477 = .ok (.iaload, 1) := by decide +kernel
theorem dL_478 : decode code 478 = .ok (.aload_n 0, 1) := by decide +kernel
theorem dL_479 : decode code 479 = .ok (.iload_n 3, 1) := by decide +kernel
theorem dL_480 : decode code 480 = .ok (.iconst 2, 1) := by decide +kernel
theorem dL_481 : decode code 481 = .ok (.iadd, 1) := by decide +kernel
theorem dL_482 : decode code 482 = .ok (.iaload, 1) := by decide +kernel
theorem dL_483 : decode code 483 = .ok (.aload_n 0, 1) := by decide +kernel
theorem dL_484 : decode code 484 = .ok (.iload_n 3, 1) := by decide +kernel
theorem dL_485 : decode code 485 = .ok (.iconst 3, 1) := by decide +kernel
theorem dL_486 : decode code 486 = .ok (.iadd, 1) := by decide +kernel
theorem dL_487 : decode code 487 = .ok (.iaload, 1) := by decide +kernel
theorem dL_488 : decode code 488 = .ok (.aload_n 0, 1) := by decide +kernel
theorem dL_489 : decode code 489 = .ok (.iload_n 3, 1) := by decide +kernel
theorem dL_490 : decode code 490 = .ok (.iconst 4, 1) := by decide +kernel
theorem dL_491 : decode code 491 = .ok (.iadd, 1) := by decide +kernel
theorem dL_492 : decode code 492 = .ok (.iaload, 1) := by decide +kernel
theorem dL_493 : decode code 493 = .ok (.aload_n 0, 1) := by decide +kernel
theorem dL_494 : decode code 494 = .ok (.iload_n 3, 1) := by decide +kernel
theorem dL_495 : decode code 495 = .ok (.iconst 5, 1) := by decide +kernel
theorem dL_496 : decode code 496 = .ok (.iadd, 1) := by decide +kernel
theorem dL_497 : decode code 497 = .ok (.iaload, 1) := by decide +kernel
theorem dL_498 : decode code 498 = .ok (.invokevirtual 41, 3) := by decide +kernel
theorem dL_501 : decode code 501 = .ok (.if_icmp .eq 1063, 3) := by decide +kernel
theorem dL_504 : decode code 504 = .ok (.iconst 0, 1) := by decide +kernel
theorem dL_505 : decode code 505 = .ok (.ireturn, 1) := by decide +kernel
theorem dL_506 : decode code 506 = .ok (.aload_n 1, 1) := by decide +kernel
theorem dL_507 : decode code 507 = .ok (.aload_n 0, 1) := by decide +kernel
theorem dL_508 : decode code 508 = .ok (.iload_n 3, 1) := by decide +kernel
theorem dL_509 : decode code 509 = .ok (.iconst 1, 1) := by decide +kernel
theorem dL_510 : decode code 510 = .ok (.iadd, 1) := by decide +kernel
theorem dL_511 : decode code 511 = .ok (.iaload, 1) := by decide +kernel
theorem dL_512 : decode code 512 = .ok (.aload_n 0, 1) := by decide +kernel
theorem dL_513 : decode code 513 = .ok (.iload_n 3, 1) := by decide +kernel
theorem dL_514 : decode code 514 = .ok (.iconst 2, 1) := by decide +kernel
theorem dL_515 : decode code 515 = .ok (.iadd, 1) := by decide +kernel
theorem dL_516 : decode code 516 = .ok (.iaload, 1) := by decide +kernel
theorem dL_517 : decode code 517 = .ok (.ifCond .eq 7, 3) := by decide +kernel
theorem dL_520 : decode code 520 = .ok (.iconst 1, 1) := by decide +kernel
theorem dL_521 : decode code 521 = .ok (.goto 4, 3) := by decide +kernel
theorem dL_524 : decode code 524 = .ok (.iconst 0, 1) := by decide +kernel
theorem dL_525 : decode code 525 = .ok (.invokevirtual 42, 3) := by decide +kernel
theorem dL_528 : decode code 528 = .ok (.aload_n 2, 1) := by decide +kernel
theorem dL_529 : decode code 529 = .ok (.aload_n 0, 1) := by decide +kernel
theorem dL_530 : decode code 530 = .ok (.iload_n 3, 1) := by decide +kernel
theorem dL_531 : decode code 531 = .ok (.iconst 1, 1) := by decide +kernel
theorem dL_532 : decode code 532 = .ok (.iadd, 1) := by decide +kernel
theorem dL_533 : decode code 533 = .ok (.iaload, 1) := by decide +kernel
theorem dL_534 : decode code 534 = .ok (.aload_n 0, 1) := by decide +kernel
theorem dL_535 : decode code 535 = .ok (.iload_n 3, 1) := by decide +kernel
theorem dL_536 : decode code 536 = .ok (.iconst 2, 1) := by decide +kernel
theorem dL_537 : decode code 537 = .ok (.iadd, 1) := by decide +kernel
theorem dL_538 : decode code 538 = .ok (.iaload, 1) := by decide +kernel
theorem dL_539 : decode code 539 = .ok (.ifCond .eq 7, 3) := by decide +kernel
theorem dL_542 : decode code 542 = .ok (.iconst 1, 1) := by decide +kernel
theorem dL_543 : decode code 543 = .ok (.goto 4, 3) := by decide +kernel
theorem dL_546 : decode code 546 = .ok (.iconst 0, 1) := by decide +kernel
theorem dL_547 : decode code 547 = .ok (.invokevirtual 45, 3) := by decide +kernel
theorem dL_550 : decode code 550 = .ok (.if_icmp .eq 1014, 3) := by decide +kernel
theorem dL_553 : decode code 553 = .ok (.iconst 0, 1) := by decide +kernel
theorem dL_554 : decode code 554 = .ok (.ireturn, 1) := by decide +kernel
theorem dL_555 : decode code 555 = .ok (.aload_n 1, 1) := by decide +kernel
theorem dL_556 : decode code 556 = .ok (.aload_n 0, 1) := by decide +kernel
theorem dL_557 : decode code 557 = .ok (.iload_n 3, 1) := by decide +kernel
theorem dL_558 : decode code 558 = .ok (.iconst 1, 1) := by decide +kernel
theorem dL_559 : decode code 559 = .ok (.iadd, 1) := by decide +kernel
theorem dL_560 : decode code 560 = .ok (.iaload, 1) := by decide +kernel
theorem dL_561 : decode code 561 = .ok (.aload_n 0, 1) := by decide +kernel
theorem dL_562 : decode code 562 = .ok (.iload_n 3, 1) := by decide +kernel
theorem dL_563 : decode code 563 = .ok (.iconst 2, 1) := by decide +kernel
theorem dL_564 : decode code 564 = .ok (.iadd, 1) := by decide +kernel
theorem dL_565 : decode code 565 = .ok (.iaload, 1) := by decide +kernel
theorem dL_566 : decode code 566 = .ok (.ifCond .eq 7, 3) := by decide +kernel
theorem dL_569 : decode code 569 = .ok (.iconst 1, 1) := by decide +kernel
theorem dL_570 : decode code 570 = .ok (.goto 4, 3) := by decide +kernel
theorem dL_573 : decode code 573 = .ok (.iconst 0, 1) := by decide +kernel
theorem dL_574 : decode code 574 = .ok (.invokevirtual 46, 3) := by decide +kernel
theorem dL_577 : decode code 577 = .ok (.aload_n 2, 1) := by decide +kernel
theorem dL_578 : decode code 578 = .ok (.aload_n 0, 1) := by decide +kernel
theorem dL_579 : decode code 579 = .ok (.iload_n 3, 1) := by decide +kernel
theorem dL_580 : decode code 580 = .ok (.iconst 1, 1) := by decide +kernel
theorem dL_581 : decode code 581 = .ok (.iadd, 1) := by decide +kernel
theorem dL_582 : decode code 582 = .ok (.iaload, 1) := by decide +kernel
theorem dL_583 : decode code 583 = .ok (.aload_n 0, 1) := by decide +kernel
theorem dL_584 : decode code 584 = .ok (.iload_n 3, 1) := by decide +kernel
theorem dL_585 : decode code 585 = .ok (.iconst 2, 1) := by decide +kernel
theorem dL_586 : decode code 586 = .ok (.iadd, 1) := by decide +kernel
theorem dL_587 : decode code 587 = .ok (.iaload, 1) := by decide +kernel
theorem dL_588 : decode code 588 = .ok (.ifCond .eq 7, 3) := by decide +kernel
theorem dL_591 : decode code 591 = .ok (.iconst 1, 1) := by decide +kernel
theorem dL_592 : decode code 592 = .ok (.goto 4, 3) := by decide +kernel
theorem dL_595 : decode code 595 = .ok (.iconst 0, 1) := by decide +kernel
theorem dL_596 : decode code 596 = .ok (.invokevirtual 49, 3) := by decide +kernel
theorem dL_599 : decode code 599 = .ok (.if_icmp .eq 965, 3) := by decide +kernel
theorem dL_602 : decode code 602 = .ok (.iconst 0, 1) := by decide +kernel
theorem dL_603 : decode code 603 = .ok (.ireturn, 1) := by decide +kernel
theorem dL_604 : decode code 604 = .ok (.aload_n 1, 1) := by decide +kernel
theorem dL_605 : decode code 605 = .ok (.aload_n 0, 1) := by decide +kernel
theorem dL_606 : decode code 606 = .ok (.iload_n 3, 1) := by decide +kernel
theorem dL_607 : decode code 607 = .ok (.iconst 1, 1) := by decide +kernel
theorem dL_608 : decode code 608 = .ok (.iadd, 1) := by decide +kernel
theorem dL_609 : decode code 609 = .ok (.iaload, 1) := by decide +kernel
theorem dL_610 : decode code 610 = .ok (.aload_n 0, 1) := by decide +kernel
theorem dL_611 : decode code 611 = .ok (.iload_n 3, 1) := by decide +kernel
theorem dL_612 : decode code 612 = .ok (.iconst 2, 1) := by decide +kernel
theorem dL_613 : decode code 613 = .ok (.iadd, 1) := by decide +kernel
theorem dL_614 : decode code 614 = .ok (.iaload, 1) := by decide +kernel
theorem dL_615 : decode code 615 = .ok (.aload_n 0, 1) := by decide +kernel
theorem dL_616 : decode code 616 = .ok (.iload_n 3, 1) := by decide +kernel
theorem dL_617 : decode code 617 = .ok (.iconst 3, 1) := by decide +kernel
theorem dL_618 : decode code 618 = .ok (.iadd, 1) := by decide +kernel
theorem dL_619 : decode code 619 = .ok (.iaload, 1) := by decide +kernel
theorem dL_620 : decode code 620 = .ok (.invokevirtual 50, 3) := by decide +kernel
theorem dL_623 : decode code 623 = .ok (.aload_n 2, 1) := by decide +kernel
theorem dL_624 : decode code 624 = .ok (.aload_n 0, 1) := by decide +kernel
theorem dL_625 : decode code 625 = .ok (.iload_n 3, 1) := by decide +kernel
theorem dL_626 : decode code 626 = .ok (.iconst 1, 1) := by decide +kernel
theorem dL_627 : decode code 627 = .ok (.iadd, 1) := by decide +kernel
theorem dL_628 : decode code 628 = .ok (.iaload, 1) := by decide +kernel
theorem dL_629 : decode code 629 = .ok (.aload_n 0, 1) := by decide +kernel
theorem dL_630 : decode code 630 = .ok (.iload_n 3, 1) := by decide +kernel
theorem dL_631 : decode code 631 = .ok (.iconst 2, 1) := by decide +kernel
theorem dL_632 : decode code 632 = .ok (.iadd, 1) := by decide +kernel
theorem dL_633 : decode code 633 = .ok (.iaload, 1) := by decide +kernel
theorem dL_634 : decode code 634 = .ok (.aload_n 0, 1) := by decide +kernel
theorem dL_635 : decode code 635 = .ok (.iload_n 3, 1) := by decide +kernel
theorem dL_636 : decode code 636 = .ok (.iconst 3, 1) := by decide +kernel
theorem dL_637 : decode code 637 = .ok (.iadd, 1) := by decide +kernel
theorem dL_638 : decode code 638 = .ok (.iaload, 1) := by decide +kernel
theorem dL_639 : decode code 639 = .ok (.invokevirtual 53, 3) := by decide +kernel
theorem dL_642 : decode code 642 = .ok (.if_icmp .eq 922, 3) := by decide +kernel
theorem dL_645 : decode code 645 = .ok (.iconst 0, 1) := by decide +kernel
theorem dL_646 : decode code 646 = .ok (.ireturn, 1) := by decide +kernel
theorem dL_647 : decode code 647 = .ok (.aload_n 1, 1) := by decide +kernel
theorem dL_648 : decode code 648 = .ok (.invokevirtual 54, 3) := by decide +kernel
theorem dL_651 : decode code 651 = .ok (.aload_n 2, 1) := by decide +kernel
theorem dL_652 : decode code 652 = .ok (.invokevirtual 58, 3) := by decide +kernel
theorem dL_655 : decode code 655 = .ok (.if_icmp .eq 909, 3) := by decide +kernel
theorem dL_658 : decode code 658 = .ok (.iconst 0, 1) := by decide +kernel
theorem dL_659 : decode code 659 = .ok (.ireturn, 1) := by decide +kernel
theorem dL_660 : decode code 660 = .ok (.aload_n 1, 1) := by decide +kernel
theorem dL_661 : decode code 661 = .ok (.aload_n 0, 1) := by decide +kernel
theorem dL_662 : decode code 662 = .ok (.iload_n 3, 1) := by decide +kernel
theorem dL_663 : decode code 663 = .ok (.iconst 1, 1) := by decide +kernel
theorem dL_664 : decode code 664 = .ok (.iadd, 1) := by decide +kernel
theorem dL_665 : decode code 665 = .ok (.iaload, 1) := by decide +kernel
theorem dL_666 : decode code 666 = .ok (.aload_n 0, 1) := by decide +kernel
theorem dL_667 : decode code 667 = .ok (.iload_n 3, 1) := by decide +kernel
theorem dL_668 : decode code 668 = .ok (.iconst 2, 1) := by decide +kernel
theorem dL_669 : decode code 669 = .ok (.iadd, 1) := by decide +kernel
theorem dL_670 : decode code 670 = .ok (.iaload, 1) := by decide +kernel
theorem dL_671 : decode code 671 = .ok (.invokevirtual 59, 3) := by decide +kernel
theorem dL_674 : decode code 674 = .ok (.aload_n 2, 1) := by decide +kernel
theorem dL_675 : decode code 675 = .ok (.aload_n 0, 1) := by decide +kernel
theorem dL_676 : decode code 676 = .ok (.iload_n 3, 1) := by decide +kernel
theorem dL_677 : decode code 677 = .ok (.iconst 1, 1) := by decide +kernel
theorem dL_678 : decode code 678 = .ok (.iadd, 1) := by decide +kernel
theorem dL_679 : decode code 679 = .ok (.iaload, 1) := by decide +kernel
theorem dL_680 : decode code 680 = .ok (.aload_n 0, 1) := by decide +kernel
theorem dL_681 : decode code 681 = .ok (.iload_n 3, 1) := by decide +kernel
theorem dL_682 : decode code 682 = .ok (.iconst 2, 1) := by decide +kernel
theorem dL_683 : decode code 683 = .ok (.iadd, 1) := by decide +kernel
theorem dL_684 : decode code 684 = .ok (.iaload, 1) := by decide +kernel
theorem dL_685 : decode code 685 = .ok (.invokevirtual 62, 3) := by decide +kernel
theorem dL_688 : decode code 688 = .ok (.if_icmp .eq 876, 3) := by decide +kernel
theorem dL_691 : decode code 691 = .ok (.iconst 0, 1) := by decide +kernel
theorem dL_692 : decode code 692 = .ok (.ireturn, 1) := by decide +kernel
theorem dL_693 : decode code 693 = .ok (.aload_n 1, 1) := by decide +kernel
theorem dL_694 : decode code 694 = .ok (.invokevirtual 63, 3) := by decide +kernel
theorem dL_697 : decode code 697 = .ok (.aload_n 2, 1) := by decide +kernel
theorem dL_698 : decode code 698 = .ok (.invokevirtual 66, 3) := by decide +kernel
theorem dL_701 : decode code 701 = .ok (.if_icmp .eq 863, 3) := by decide +kernel
theorem dL_704 : decode code 704 = .ok (.iconst 0, 1) := by decide +kernel
theorem dL_705 : decode code 705 = .ok (.ireturn, 1) := by decide +kernel
theorem dL_706 : decode code 706 = .ok (.aload_n 1, 1) := by decide +kernel
theorem dL_707 : decode code 707 = .ok (.invokevirtual 67, 3) := by decide +kernel
theorem dL_710 : decode code 710 = .ok (.aload_n 2, 1) := by decide +kernel
theorem dL_711 : decode code 711 = .ok (.invokevirtual 70, 3) := by decide +kernel
theorem dL_714 : decode code 714 = .ok (.if_icmp .eq 850, 3) := by decide +kernel
theorem dL_717 : decode code 717 = .ok (.iconst 0, 1) := by decide +kernel
theorem dL_718 : decode code 718 = .ok (.ireturn, 1) := by decide +kernel
theorem dL_719 : decode code 719 = .ok (.aload_n 1, 1) := by decide +kernel
theorem dL_720 : decode code 720 = .ok (.invokevirtual 71, 3) := by decide +kernel
theorem dL_723 : decode code 723 = .ok (.aload_n 2, 1) := by decide +kernel
theorem dL_724 : decode code 724 = .ok (.invokevirtual 74, 3) := by decide +kernel
theorem dL_727 : decode code 727 = .ok (.if_icmp .eq 837, 3) := by decide +kernel
theorem dL_730 : decode code 730 = .ok (.iconst 0, 1) := by decide +kernel
theorem dL_731 : decode code 731 = .ok (.ireturn, 1) := by decide +kernel
theorem dL_732 : decode code 732 = .ok (.aload_n 1, 1) := by decide +kernel
theorem dL_733 : decode code 733 = .ok (.aload_n 0, 1) := by decide +kernel
theorem dL_734 : decode code 734 = .ok (.iload_n 3, 1) := by decide +kernel
theorem dL_735 : decode code 735 = .ok (.iconst 1, 1) := by decide +kernel
theorem dL_736 : decode code 736 = .ok (.iadd, 1) := by decide +kernel
theorem dL_737 : decode code 737 = .ok (.iaload, 1) := by decide +kernel
theorem dL_738 : decode code 738 = .ok (.aload_n 0, 1) := by decide +kernel
theorem dL_739 : decode code 739 = .ok (.iload_n 3, 1) := by decide +kernel
theorem dL_740 : decode code 740 = .ok (.iconst 2, 1) := by decide +kernel
theorem dL_741 : decode code 741 = .ok (.iadd, 1) := by decide +kernel
theorem dL_742 : decode code 742 = .ok (.iaload, 1) := by decide +kernel
theorem dL_743 : decode code 743 = .ok (.invokevirtual 75, 3) := by decide +kernel
theorem dL_746 : decode code 746 = .ok (.aload_n 2, 1) := by decide +kernel
theorem dL_747 : decode code 747 = .ok (.aload_n 0, 1) := by decide +kernel
theorem dL_748 : decode code 748 = .ok (.iload_n 3, 1) := by decide +kernel
theorem dL_749 : decode code 749 = .ok (.iconst 1, 1) := by decide +kernel
theorem dL_750 : decode code 750 = .ok (.iadd, 1) := by decide +kernel
theorem dL_751 : decode code 751 = .ok (.iaload, 1) := by decide +kernel
theorem dL_752 : decode code 752 = .ok (.aload_n 0, 1) := by decide +kernel
theorem dL_753 : decode code 753 = .ok (.iload_n 3, 1) := by decide +kernel
theorem dL_754 : decode code 754 = .ok (.iconst 2, 1) := by decide +kernel
theorem dL_755 : decode code 755 = .ok (.iadd, 1) := by decide +kernel
theorem dL_756 : decode code 756 = .ok (.iaload, 1) := by decide +kernel
theorem dL_757 : decode code 757 = .ok (.invokevirtual 78, 3) := by decide +kernel
theorem dL_760 : decode code 760 = .ok (.if_icmp .eq 804, 3) := by decide +kernel
theorem dL_763 : decode code 763 = .ok (.iconst 0, 1) := by decide +kernel
theorem dL_764 : decode code 764 = .ok (.ireturn, 1) := by decide +kernel
theorem dL_765 : decode code 765 = .ok (.aload_n 1, 1) := by decide +kernel
theorem dL_766 : decode code 766 = .ok (.aload_n 0, 1) := by decide +kernel
theorem dL_767 : decode code 767 = .ok (.iload_n 3, 1) := by decide +kernel
theorem dL_768 : decode code 768 = .ok (.iconst 1, 1) := by decide +kernel
theorem dL_769 : decode code 769 = .ok (.iadd, 1) := by decide +kernel
theorem dL_770 : decode code 770 = .ok (.iaload, 1) := by decide +kernel
theorem dL_771 : decode code 771 = .ok (.aload_n 0, 1) := by decide +kernel
theorem dL_772 : decode code 772 = .ok (.iload_n 3, 1) := by decide +kernel
theorem dL_773 : decode code 773 = .ok (.iconst 2, 1) := by decide +kernel
theorem dL_774 : decode code 774 = .ok (.iadd, 1) := by decide +kernel
theorem dL_775 : decode code 775 = .ok (.iaload, 1) := by decide +kernel
theorem dL_776 : decode code 776 = .ok (.invokevirtual 79, 3) := by decide +kernel
theorem dL_779 : decode code 779 = .ok (.aload_n 2, 1) := by decide +kernel
theorem dL_780 : decode code 780 = .ok (.aload_n 0, 1) := by decide +kernel
theorem dL_781 : decode code 781 = .ok (.iload_n 3, 1) := by decide +kernel
theorem dL_782 : decode code 782 = .ok (.iconst 1, 1) := by decide +kernel
theorem dL_783 : decode code 783 = .ok (.iadd, 1) := by decide +kernel
theorem dL_784 : decode code 784 = .ok (.iaload, 1) := by decide +kernel
theorem dL_785 : decode code 785 = .ok (.aload_n 0, 1) := by decide +kernel
theorem dL_786 : decode code 786 = .ok (.iload_n 3, 1) := by decide +kernel
theorem dL_787 : decode code 787 = .ok (.iconst 2, 1) := by decide +kernel
theorem dL_788 : decode code 788 = .ok (.iadd, 1) := by decide +kernel
theorem dL_789 : decode code 789 = .ok (.iaload, 1) := by decide +kernel
theorem dL_790 : decode code 790 = .ok (.invokevirtual 83, 3) := by decide +kernel
theorem dL_793 : decode code 793 = .ok (.lcmp, 1) := by decide +kernel
theorem dL_794 : decode code 794 = .ok (.ifCond .eq 770, 3) := by decide +kernel
theorem dL_797 : decode code 797 = .ok (.iconst 0, 1) := by decide +kernel
theorem dL_798 : decode code 798 = .ok (.ireturn, 1) := by decide +kernel
theorem dL_799 : decode code 799 = .ok (.aload_n 1, 1) := by decide +kernel
theorem dL_800 : decode code 800 = .ok (.aload_n 0, 1) := by decide +kernel
theorem dL_801 : decode code 801 = .ok (.iload_n 3, 1) := by decide +kernel
theorem dL_802 : decode code 802 = .ok (.iconst 1, 1) := by decide +kernel
theorem dL_803 : decode code 803 = .ok (.iadd, 1) := by decide +kernel
theorem dL_804 : decode code 804 = .ok (.iaload, 1) := by decide +kernel
theorem dL_805 : decode code 805 = .ok (.aload_n 0, 1) := by decide +kernel
theorem dL_806 : decode code 806 = .ok (.iload_n 3, 1) := by decide +kernel
theorem dL_807 : decode code 807 = .ok (.iconst 2, 1) := by decide +kernel
theorem dL_808 : decode code 808 = .ok (.iadd, 1) := by decide +kernel
theorem dL_809 : decode code 809 = .ok (.iaload, 1) := by decide +kernel
theorem dL_810 : decode code 810 = .ok (.invokevirtual 84, 3) := by decide +kernel
theorem dL_813 : decode code 813 = .ok (.aload_n 2, 1) := by decide +kernel
theorem dL_814 : decode code 814 = .ok (.aload_n 0, 1) := by decide +kernel
theorem dL_815 : decode code 815 = .ok (.iload_n 3, 1) := by decide +kernel
theorem dL_816 : decode code 816 = .ok (.iconst 1, 1) := by decide +kernel
theorem dL_817 : decode code 817 = .ok (.iadd, 1) := by decide +kernel
theorem dL_818 : decode code 818 = .ok (.iaload, 1) := by decide +kernel
theorem dL_819 : decode code 819 = .ok (.aload_n 0, 1) := by decide +kernel
theorem dL_820 : decode code 820 = .ok (.iload_n 3, 1) := by decide +kernel
theorem dL_821 : decode code 821 = .ok (.iconst 2, 1) := by decide +kernel
theorem dL_822 : decode code 822 = .ok (.iadd, 1) := by decide +kernel
theorem dL_823 : decode code 823 = .ok (.iaload, 1) := by decide +kernel
theorem dL_824 : decode code 824 = .ok (.invokevirtual 87, 3) := by decide +kernel
theorem dL_827 : decode code 827 = .ok (.if_icmp .eq 737, 3) := by decide +kernel
theorem dL_830 : decode code 830 = .ok (.iconst 0, 1) := by decide +kernel
theorem dL_831 : decode code 831 = .ok (.ireturn, 1) := by decide +kernel
theorem dL_832 : decode code 832 = .ok (.aload_n 1, 1) := by decide +kernel
theorem dL_833 : decode code 833 = .ok (.aload_n 0, 1) := by decide +kernel
theorem dL_834 : decode code 834 = .ok (.iload_n 3, 1) := by decide +kernel
theorem dL_835 : decode code 835 = .ok (.iconst 1, 1) := by decide +kernel
theorem dL_836 : decode code 836 = .ok (.iadd, 1) := by decide +kernel
theorem dL_837 : decode code 837 = .ok (.iaload, 1) := by decide +kernel
theorem dL_838 : decode code 838 = .ok (.invokevirtual 88, 3) := by decide +kernel
theorem dL_841 : decode code 841 = .ok (.aload_n 2, 1) := by decide +kernel
theorem dL_842 : decode code 842 = .ok (.aload_n 0, 1) := by decide +kernel
theorem dL_843 : decode code 843 = .ok (.iload_n 3, 1) := by decide +kernel
theorem dL_844 : decode code 844 = .ok (.iconst 1, 1) := by decide +kernel
theorem dL_845 : decode code 845 = .ok (.iadd, 1) := by decide +kernel
theorem dL_846 : decode code 846 = .ok (.iaload, 1) := by decide +kernel
theorem dL_847 : decode code 847 = .ok (.invokevirtual 92, 3) := by decide +kernel
theorem dL_850 : decode code 850 = .ok (.lcmp, 1) := by decide +kernel
theorem dL_851 : decode code 851 = .ok (.ifCond .eq 713, 3) := by decide +kernel
theorem dL_854 : decode code 854 = .ok (.iconst 0, 1) := by decide +kernel
theorem dL_855 : decode code 855 = .ok (.ireturn, 1) := by decide +kernel
theorem dL_856 : decode code 856 = .ok (.aload_n 1, 1) := by decide +kernel
theorem dL_857 : decode code 857 = .ok (.aload_n 0, 1) := by decide +kernel
theorem dL_858 : decode code 858 = .ok (.iload_n 3, 1) := by decide +kernel
theorem dL_859 : decode code 859 = .ok (.iconst 1, 1) := by decide +kernel
theorem dL_860 : decode code 860 = .ok (.iadd, 1) := by decide +kernel
theorem dL_861 : decode code 861 = .ok (.iaload, 1) := by decide +kernel
theorem dL_862 : decode code 862 = .ok (.invokevirtual 93, 3) := by decide +kernel
theorem dL_865 : decode code 865 = .ok (.aload_n 2, 1) := by decide +kernel
theorem dL_866 : decode code 866 = .ok (.aload_n 0, 1) := by decide +kernel
theorem dL_867 : decode code 867 = .ok (.iload_n 3, 1) := by decide +kernel
theorem dL_868 : decode code 868 = .ok (.iconst 1, 1) := by decide +kernel
theorem dL_869 : decode code 869 = .ok (.iadd, 1) := by decide +kernel
theorem dL_870 : decode code 870 = .ok (.iaload, 1) := by decide +kernel
theorem dL_871 : decode code 871 = .ok (.invokevirtual 97, 3) := by decide +kernel
theorem dL_874 : decode code 874 = .ok (.if_icmp .eq 690, 3) := by decide +kernel
theorem dL_877 : decode code 877 = .ok (.iconst 0, 1) := by decide +kernel
theorem dL_878 : decode code 878 = .ok (.ireturn, 1) := by decide +kernel
theorem dL_879 : decode code 879 = .ok (.aload_n 1, 1) := by decide +kernel
theorem dL_880 : decode code 880 = .ok (.aload_n 0, 1) := by decide +kernel
theorem dL_881 : decode code 881 = .ok (.iload_n 3, 1) := by decide +kernel
theorem dL_882 : decode code 882 = .ok (.iconst 1, 1) := by decide +kernel
theorem dL_883 : decode code 883 = .ok (.iadd, 1) := by decide +kernel
theorem dL_884 : decode code 884 = .ok (.iaload, 1) := by decide +kernel
theorem dL_885 : decode code 885 = .ok (.aload_n 0, 1) := by decide +kernel
theorem dL_886 : decode code 886 = .ok (.iload_n 3, 1) := by decide +kernel
theorem dL_887 : decode code 887 = .ok (.iconst 2, 1) := by decide +kernel
theorem dL_888 : decode code 888 = .ok (.iadd, 1) := by decide +kernel
theorem dL_889 : decode code 889 = .ok (.iaload, 1) := by decide +kernel
theorem dL_890 : decode code 890 = .ok (.invokevirtual 98, 3) := by decide +kernel
theorem dL_893 : decode code 893 = .ok (.aload_n 2, 1) := by decide +kernel
theorem dL_894 : decode code 894 = .ok (.aload_n 0, 1) := by decide +kernel
theorem dL_895 : decode code 895 = .ok (.iload_n 3, 1) := by decide +kernel
theorem dL_896 : decode code 896 = .ok (.iconst 1, 1) := by decide +kernel
theorem dL_897 : decode code 897 = .ok (.iadd, 1) := by decide +kernel
theorem dL_898 : decode code 898 = .ok (.iaload, 1) := by decide +kernel
theorem dL_899 : decode code 899 = .ok (.aload_n 0, 1) := by decide +kernel
theorem dL_900 : decode code 900 = .ok (.iload_n 3, 1) := by decide +kernel
theorem dL_901 : decode code 901 = .ok (.iconst 2, 1) := by decide +kernel
theorem dL_902 : decode code 902 = .ok (.iadd, 1) := by decide +kernel
theorem dL_903 : decode code 903 = .ok (.iaload, 1) := by decide +kernel
theorem dL_904 : decode code 904 = .ok (.invokevirtual 101, 3) := by decide +kernel
theorem dL_907 : decode code 907 = .ok (.if_icmp .eq 657, 3) := by decide +kernel
theorem dL_910 : decode code 910 = .ok (.iconst 0, 1) := by decide +kernel
theorem dL_911 : decode code 911 = .ok (.ireturn, 1) := by decide +kernel
theorem dL_912 : decode code 912 = .ok (.aload_n 1, 1) := by decide +kernel
theorem dL_913 : decode code 913 = .ok (.aload_n 0, 1) := by decide +kernel
theorem dL_914 : decode code 914 = .ok (.iload_n 3, 1) := by decide +kernel
theorem dL_915 : decode code 915 = .ok (.iconst 1, 1) := by decide +kernel
theorem dL_916 : decode code 916 = .ok (.iadd, 1) := by decide +kernel
theorem dL_917 : decode code 917 = .ok (.iaload, 1) := by decide +kernel
theorem dL_918 : decode code 918 = .ok (.aload_n 0, 1) := by decide +kernel
theorem dL_919 : decode code 919 = .ok (.iload_n 3, 1) := by decide +kernel
theorem dL_920 : decode code 920 = .ok (.iconst 2, 1) := by decide +kernel
theorem dL_921 : decode code 921 = .ok (.iadd, 1) := by decide +kernel
theorem dL_922 : decode code 922 = .ok (.iaload, 1) := by decide +kernel
theorem dL_923 : decode code 923 = .ok (.invokevirtual 102, 3) := by decide +kernel
theorem dL_926 : decode code 926 = .ok (.aload_n 2, 1) := by decide +kernel
theorem dL_927 : decode code 927 = .ok (.aload_n 0, 1) := by decide +kernel
theorem dL_928 : decode code 928 = .ok (.iload_n 3, 1) := by decide +kernel
theorem dL_929 : decode code 929 = .ok (.iconst 1, 1) := by decide +kernel
theorem dL_930 : decode code 930 = .ok (.iadd, 1) := by decide +kernel
theorem dL_931 : decode code 931 = .ok (.iaload, 1) := by decide +kernel
theorem dL_932 : decode code 932 = .ok (.aload_n 0, 1) := by decide +kernel
theorem dL_933 : decode code 933 = .ok (.iload_n 3, 1) := by decide +kernel
theorem dL_934 : decode code 934 = .ok (.iconst 2, 1) := by decide +kernel
theorem dL_935 : decode code 935 = .ok (.iadd, 1) := by decide +kernel
theorem dL_936 : decode code 936 = .ok (.iaload, 1) := by decide +kernel
theorem dL_937 : decode code 937 = .ok (.invokevirtual 105, 3) := by decide +kernel
theorem dL_940 : decode code 940 = .ok (.if_icmp .eq 624, 3) := by decide +kernel
theorem dL_943 : decode code 943 = .ok (.iconst 0, 1) := by decide +kernel
theorem dL_944 : decode code 944 = .ok (.ireturn, 1) := by decide +kernel
theorem dL_945 : decode code 945 = .ok (.aload_n 1, 1) := by decide +kernel
theorem dL_946 : decode code 946 = .ok (.aload_n 0, 1) := by decide +kernel
theorem dL_947 : decode code 947 = .ok (.iload_n 3, 1) := by decide +kernel
theorem dL_948 : decode code 948 = .ok (.iconst 1, 1) := by decide +kernel
theorem dL_949 : decode code 949 = .ok (.iadd, 1) := by decide +kernel
theorem dL_950 : decode code 950 = .ok (.iaload, 1) := by decide +kernel
theorem dL_951 : decode code 951 = .ok (.invokevirtual 106, 3) := by decide +kernel
theorem dL_954 : decode code 954 = .ok (.aload_n 2, 1) := by decide +kernel
theorem dL_955 : decode code 955 = .ok (.aload_n 0, 1) := by decide +kernel
theorem dL_956 : decode code 956 = .ok (.iload_n 3, 1) := by decide +kernel
theorem dL_957 : decode code 957 = .ok (.iconst 1, 1) := by decide +kernel
theorem dL_958 : decode code 958 = .ok (.iadd, 1) := by decide +kernel
theorem dL_959 : decode code 959 = .ok (.iaload, 1) := by decide +kernel
theorem dL_960 : decode code 960 = .ok (.invokevirtual 109, 3) := by decide +kernel
theorem dL_963 : decode code 963 = .ok (.if_icmp .eq 601, 3) := by decide +kernel
theorem dL_966 : decode code 966 = .ok (.iconst 0, 1) := by decide +kernel
theorem dL_967 : decode code 967 = .ok (.ireturn, 1) := by decide +kernel
theorem dL_968 : decode code 968 = .ok (.aload_n 1, 1) := by decide +kernel
theorem dL_969 : decode code 969 = .ok (.invokevirtual 110, 3) := by decide +kernel
theorem dL_972 : decode code 972 = .ok (.aload_n 2, 1) := by decide +kernel
theorem dL_973 : decode code 973 = .ok (.invokevirtual 113, 3) := by decide +kernel
theorem dL_976 : decode code 976 = .ok (.if_icmp .eq 588, 3) := by decide +kernel
theorem dL_979 : decode code 979 = .ok (.iconst 0, 1) := by decide +kernel
theorem dL_980 : decode code 980 = .ok (.ireturn, 1) := by decide +kernel
theorem dL_981 : decode code 981 = .ok (.aload_n 1, 1) := by decide +kernel
theorem dL_982 : decode code 982 = .ok (.aload_n 0, 1) := by decide +kernel
theorem dL_983 : decode code 983 = .ok (.iload_n 3, 1) := by decide +kernel
theorem dL_984 : decode code 984 = .ok (.iconst 1, 1) := by decide +kernel
theorem dL_985 : decode code 985 = .ok (.iadd, 1) := by decide +kernel
theorem dL_986 : decode code 986 = .ok (.iaload, 1) := by decide +kernel
theorem dL_987 : decode code 987 = .ok (.aload_n 0, 1) := by decide +kernel
theorem dL_988 : decode code 988 = .ok (.iload_n 3, 1) := by decide +kernel
theorem dL_989 : decode code 989 = .ok (.iconst 2, 1) := by decide +kernel
theorem dL_990 : decode code 990 = .ok (.iadd, 1) := by decide +kernel
theorem dL_991 : decode code 991 = .ok (.iaload, 1) := by decide +kernel
theorem dL_992 : decode code 992 = .ok (.aload_n 0, 1) := by decide +kernel
theorem dL_993 : decode code 993 = .ok (.iload_n 3, 1) := by decide +kernel
theorem dL_994 : decode code 994 = .ok (.iconst 3, 1) := by decide +kernel
theorem dL_995 : decode code 995 = .ok (.iadd, 1) := by decide +kernel
theorem dL_996 : decode code 996 = .ok (.iaload, 1) := by decide +kernel
theorem dL_997 : decode code 997 = .ok (.aload_n 0, 1) := by decide +kernel
theorem dL_998 : decode code 998 = .ok (.iload_n 3, 1) := by decide +kernel
theorem dL_999 : decode code 999 = .ok (.iconst 4, 1) := by decide +kernel
theorem dL_1000 : decode code 1000 = .ok (.iadd, 1) := by decide +kernel
theorem dL_1001 : decode code 1001 = .ok (.iaload, 1) := by decide +kernel
theorem dL_1002 : decode code 1002 = .ok (.ifCond .eq 7, 3) := by decide +kernel
theorem dL_1005 : decode code 1005 = .ok (.iconst 1, 1) := by decide +kernel
theorem dL_1006 : decode code 1006 = .ok (.goto 4, 3) := by decide +kernel
theorem dL_1009 : decode code 1009 = .ok (.iconst 0, 1) := by decide +kernel
theorem dL_1010 : decode code 1010 = .ok (.invokevirtual 114, 3) := by decide +kernel
theorem dL_1013 : decode code 1013 = .ok (.aload_n 2, 1) := by decide +kernel
theorem dL_1014 : decode code 1014 = .ok (.aload_n 0, 1) := by decide +kernel
theorem dL_1015 : decode code 1015 = .ok (.iload_n 3, 1) := by decide +kernel
theorem dL_1016 : decode code 1016 = .ok (.iconst 1, 1) := by decide +kernel
theorem dL_1017 : decode code 1017 = .ok (.iadd, 1) := by decide +kernel
theorem dL_1018 : decode code 1018 = .ok (.iaload, 1) := by decide +kernel
theorem dL_1019 : decode code 1019 = .ok (.aload_n 0, 1) := by decide +kernel
theorem dL_1020 : decode code 1020 = .ok (.iload_n 3, 1) := by decide +kernel
theorem dL_1021 : decode code 1021 = .ok (.iconst 2, 1) := by decide +kernel
theorem dL_1022 : decode code 1022 = .ok (.iadd, 1) := by decide +kernel
theorem dL_1023 : decode code 1023 = .ok (.iaload, 1) := by decide +kernel
theorem dL_1024 : decode code 1024 = .ok (.aload_n 0, 1) := by decide +kernel
theorem dL_1025 : decode code 1025 = .ok (.iload_n 3, 1) := by decide +kernel
theorem dL_1026 : decode code 1026 = .ok (.iconst 3, 1) := by decide +kernel
theorem dL_1027 : decode code 1027 = .ok (.iadd, 1) := by decide +kernel
theorem dL_1028 : decode code 1028 = .ok (.iaload, 1) := by decide +kernel
theorem dL_1029 : decode code 1029 = .ok (.aload_n 0, 1) := by decide +kernel
theorem dL_1030 : decode code 1030 = .ok (.iload_n 3, 1) := by decide +kernel
theorem dL_1031 : decode code 1031 = .ok (.iconst 4, 1) := by decide +kernel
theorem dL_1032 : decode code 1032 = .ok (.iadd, 1) := by decide +kernel
theorem dL_1033 : decode code 1033 = .ok (.iaload, 1) := by decide +kernel
theorem dL_1034 : decode code 1034 = .ok (.ifCond .eq 7, 3) := by decide +kernel
theorem dL_1037 : decode code 1037 = .ok (.iconst 1, 1) := by decide +kernel
theorem dL_1038 : decode code 1038 = .ok (.goto 4, 3) := by decide +kernel
theorem dL_1041 : decode code 1041 = .ok (.iconst 0, 1) := by decide +kernel
theorem dL_1042 : decode code 1042 = .ok (.invokevirtual 118, 3) := by decide +kernel
theorem dL_1045 : decode code 1045 = .ok (.lcmp, 1) := by decide +kernel
theorem dL_1046 : decode code 1046 = .ok (.ifCond .eq 518, 3) := by decide +kernel
theorem dL_1049 : decode code 1049 = .ok (.iconst 0, 1) := by decide +kernel
theorem dL_1050 : decode code 1050 = .ok (.ireturn, 1) := by decide +kernel
theorem dL_1051 : decode code 1051 = .ok (.aload_n 1, 1) := by decide +kernel
theorem dL_1052 : decode code 1052 = .ok (.aload_n 0, 1) := by decide +kernel
theorem dL_1053 : decode code 1053 = .ok (.iload_n 3, 1) := by decide +kernel
theorem dL_1054 : decode code 1054 = .ok (.iconst 1, 1) := by decide +kernel
theorem dL_1055 : decode code 1055 = .ok (.iadd, 1) := by decide +kernel
theorem dL_1056 : decode code 1056 = .ok (.iaload, 1) := by decide +kernel
theorem dL_1057 : decode code 1057 = .ok (.aload_n 0, 1) := by decide +kernel
theorem dL_1058 : decode code 1058 = .ok (.iload_n 3, 1) := by decide +kernel
theorem dL_1059 : decode code 1059 = .ok (.iconst 2, 1) := by decide +kernel
theorem dL_1060 : decode code 1060 = .ok (.iadd, 1) := by decide +kernel
theorem dL_1061 : decode code 1061 = .ok (.iaload, 1) := by decide +kernel
theorem dL_1062 : decode code 1062 = .ok (.aload_n 0, 1) := by decide +kernel
theorem dL_1063 : decode code 1063 = .ok (.iload_n 3, 1) := by decide +kernel
theorem dL_1064 : decode code 1064 = .ok (.iconst 3, 1) := by decide +kernel
theorem dL_1065 : decode code 1065 = .ok (.iadd, 1) := by decide +kernel
theorem dL_1066 : decode code 1066 = .ok (.iaload, 1) := by decide +kernel
theorem dL_1067 : decode code 1067 = .ok (.aload_n 0, 1) := by decide +kernel
theorem dL_1068 : decode code 1068 = .ok (.iload_n 3, 1) := by decide +kernel
theorem dL_1069 : decode code 1069 = .ok (.iconst 4, 1) := by decide +kernel
theorem dL_1070 : decode code 1070 = .ok (.iadd, 1) := by decide +kernel
theorem dL_1071 : decode code 1071 = .ok (.iaload, 1) := by decide +kernel
theorem dL_1072 : decode code 1072 = .ok (.ifCond .eq 7, 3) := by decide +kernel
theorem dL_1075 : decode code 1075 = .ok (.iconst 1, 1) := by decide +kernel
theorem dL_1076 : decode code 1076 = .ok (.goto 4, 3) := by decide +kernel
theorem dL_1079 : decode code 1079 = .ok (.iconst 0, 1) := by decide +kernel
theorem dL_1080 : decode code 1080 = .ok (.invokevirtual 119, 3) := by decide +kernel
theorem dL_1083 : decode code 1083 = .ok (.aload_n 2, 1) := by decide +kernel
theorem dL_1084 : decode code 1084 = .ok (.aload_n 0, 1) := by decide +kernel
theorem dL_1085 : decode code 1085 = .ok (.iload_n 3, 1) := by decide +kernel
theorem dL_1086 : decode code 1086 = .ok (.iconst 1, 1) := by decide +kernel
theorem dL_1087 : decode code 1087 = .ok (.iadd, 1) := by decide +kernel
theorem dL_1088 : decode code 1088 = .ok (.iaload, 1) := by decide +kernel
theorem dL_1089 : decode code 1089 = .ok (.aload_n 0, 1) := by decide +kernel
theorem dL_1090 : decode code 1090 = .ok (.iload_n 3, 1) := by decide +kernel
theorem dL_1091 : decode code 1091 = .ok (.iconst 2, 1) := by decide +kernel
theorem dL_1092 : decode code 1092 = .ok (.iadd, 1) := by decide +kernel
theorem dL_1093 : decode code 1093 = .ok (.iaload, 1) := by decide +kernel
theorem dL_1094 : decode code 1094 = .ok (.aload_n 0, 1) := by decide +kernel
theorem dL_1095 : decode code 1095 = .ok (.iload_n 3, 1) := by decide +kernel
theorem dL_1096 : decode code 1096 = .ok (.iconst 3, 1) := by decide +kernel
theorem dL_1097 : decode code 1097 = .ok (.iadd, 1) := by decide +kernel
theorem dL_1098 : decode code 1098 = .ok (.iaload, 1) := by decide +kernel
theorem dL_1099 : decode code 1099 = .ok (.aload_n 0, 1) := by decide +kernel
theorem dL_1100 : decode code 1100 = .ok (.iload_n 3, 1) := by decide +kernel
theorem dL_1101 : decode code 1101 = .ok (.iconst 4, 1) := by decide +kernel
theorem dL_1102 : decode code 1102 = .ok (.iadd, 1) := by decide +kernel
theorem dL_1103 : decode code 1103 = .ok (.iaload, 1) := by decide +kernel
theorem dL_1104 : decode code 1104 = .ok (.ifCond .eq 7, 3) := by decide +kernel
theorem dL_1107 : decode code 1107 = .ok (.iconst 1, 1) := by decide +kernel
theorem dL_1108 : decode code 1108 = .ok (.goto 4, 3) := by decide +kernel
theorem dL_1111 : decode code 1111 = .ok (.iconst 0, 1) := by decide +kernel
theorem dL_1112 : decode code 1112 = .ok (.invokevirtual 123, 3) := by decide +kernel
theorem dL_1115 : decode code 1115 = .ok (.if_icmp .eq 449, 3) := by decide +kernel
theorem dL_1118 : decode code 1118 = .ok (.iconst 0, 1) := by decide +kernel
theorem dL_1119 : decode code 1119 = .ok (.ireturn, 1) := by decide +kernel
theorem dL_1120 : decode code 1120 = .ok (.aload_n 1, 1) := by decide +kernel
theorem dL_1121 : decode code 1121 = .ok (.aload_n 0, 1) := by decide +kernel
theorem dL_1122 : decode code 1122 = .ok (.iload_n 3, 1) := by decide +kernel
theorem dL_1123 : decode code 1123 = .ok (.iconst 1, 1) := by decide +kernel
theorem dL_1124 : decode code 1124 = .ok (.iadd, 1) := by decide +kernel
theorem dL_1125 : decode code 1125 = .ok (.iaload, 1) := by decide +kernel
theorem dL_1126 : decode code 1126 = .ok (.aload_n 0, 1) := by decide +kernel
theorem dL_1127 : decode code 1127 = .ok (.iload_n 3, 1) := by decide +kernel
theorem dL_1128 : decode code 1128 = .ok (.iconst 2, 1) := by decide +kernel
theorem dL_1129 : decode code 1129 = .ok (.iadd, 1) := by decide +kernel
theorem dL_1130 : decode code 1130 = .ok (.iaload, 1) := by decide +kernel
theorem dL_1131 : decode code 1131 = .ok (.invokevirtual 124, 3) := by decide +kernel
theorem dL_1134 : decode code 1134 = .ok (.aload_n 2, 1) := by decide +kernel
theorem dL_1135 : decode code 1135 = .ok (.aload_n 0, 1) := by decide +kernel
theorem dL_1136 : decode code 1136 = .ok (.iload_n 3, 1) := by decide +kernel
theorem dL_1137 : decode code 1137 = .ok (.iconst 1, 1) := by decide +kernel
theorem dL_1138 : decode code 1138 = .ok (.iadd, 1) := by decide +kernel
theorem dL_1139 : decode code 1139 = .ok (.iaload, 1) := by decide +kernel
theorem dL_1140 : decode code 1140 = .ok (.aload_n 0, 1) := by decide +kernel
theorem dL_1141 : decode code 1141 = .ok (.iload_n 3, 1) := by decide +kernel
theorem dL_1142 : decode code 1142 = .ok (.iconst 2, 1) := by decide +kernel
theorem dL_1143 : decode code 1143 = .ok (.iadd, 1) := by decide +kernel
theorem dL_1144 : decode code 1144 = .ok (.iaload, 1) := by decide +kernel
theorem dL_1145 : decode code 1145 = .ok (.invokevirtual 127, 3) := by decide +kernel
theorem dL_1148 : decode code 1148 = .ok (.if_icmp .eq 416, 3) := by decide +kernel
theorem dL_1151 : decode code 1151 = .ok (.iconst 0, 1) := by decide +kernel
theorem dL_1152 : decode code 1152 = .ok (.ireturn, 1) := by decide +kernel
theorem dL_1153 : decode code 1153 = .ok (.aload_n 1, 1) := by decide +kernel
theorem dL_1154 : decode code 1154 = .ok (.aload_n 0, 1) := by decide +kernel
theorem dL_1155 : decode code 1155 = .ok (.iload_n 3, 1) := by decide +kernel
theorem dL_1156 : decode code 1156 = .ok (.iconst 1, 1) := by decide +kernel
theorem dL_1157 : decode code 1157 = .ok (.iadd, 1) := by decide +kernel
theorem dL_1158 : decode code 1158 = .ok (.iaload, 1) := by decide +kernel
theorem dL_1159 : decode code 1159 = .ok (.aload_n 0, 1) := by decide +kernel
theorem dL_1160 : decode code 1160 = .ok (.iload_n 3, 1) := by decide +kernel
theorem dL_1161 : decode code 1161 = .ok (.iconst 2, 1) := by decide +kernel
theorem dL_1162 : decode code 1162 = .ok (.iadd, 1) := by decide +kernel
theorem dL_1163 : decode code 1163 = .ok (.iaload, 1) := by decide +kernel
theorem dL_1164 : decode code 1164 = .ok (.invokevirtual 128, 3) := by decide +kernel
theorem dL_1167 : decode code 1167 = .ok (.aload_n 2, 1) := by decide +kernel
theorem dL_1168 : decode code 1168 = .ok (.aload_n 0, 1) := by decide +kernel
theorem dL_1169 : decode code 1169 = .ok (.iload_n 3, 1) := by decide +kernel
theorem dL_1170 : decode code 1170 = .ok (.iconst 1, 1) := by decide +kernel
theorem dL_1171 : decode code 1171 = .ok (.iadd, 1) := by decide +kernel
theorem dL_1172 : decode code 1172 = .ok (.iaload, 1) := by decide +kernel
theorem dL_1173 : decode code 1173 = .ok (.aload_n 0, 1) := by decide +kernel
theorem dL_1174 : decode code 1174 = .ok (.iload_n 3, 1) := by decide +kernel
theorem dL_1175 : decode code 1175 = .ok (.iconst 2, 1) := by decide +kernel
theorem dL_1176 : decode code 1176 = .ok (.iadd, 1) := by decide +kernel
theorem dL_1177 : decode code 1177 = .ok (.iaload, 1) := by decide +kernel
theorem dL_1178 : decode code 1178 = .ok (.invokevirtual 131, 3) := by decide +kernel
theorem dL_1181 : decode code 1181 = .ok (.if_icmp .eq 383, 3) := by decide +kernel
theorem dL_1184 : decode code 1184 = .ok (.iconst 0, 1) := by decide +kernel
theorem dL_1185 : decode code 1185 = .ok (.ireturn, 1) := by decide +kernel
theorem dL_1186 : decode code 1186 = .ok (.aload_n 1, 1) := by decide +kernel
theorem dL_1187 : decode code 1187 = .ok (.aload_n 0, 1) := by decide +kernel
theorem dL_1188 : decode code 1188 = .ok (.iload_n 3, 1) := by decide +kernel
theorem dL_1189 : decode code 1189 = .ok (.iconst 1, 1) := by decide +kernel
theorem dL_1190 : decode code 1190 = .ok (.iadd, 1) := by decide +kernel
theorem dL_1191 : decode code 1191 = .ok (.iaload, 1) := by decide +kernel
theorem dL_1192 : decode code 1192 = .ok (.aload_n 0, 1) := by decide +kernel
theorem dL_1193 : decode code 1193 = .ok (.iload_n 3, 1) := by decide +kernel
theorem dL_1194 : decode code 1194 = .ok (.iconst 2, 1) := by decide +kernel
theorem dL_1195 : decode code 1195 = .ok (.iadd, 1) := by decide +kernel
theorem dL_1196 : decode code 1196 = .ok (.iaload, 1) := by decide +kernel
theorem dL_1197 : decode code 1197 = .ok (.invokevirtual 132, 3) := by decide +kernel
theorem dL_1200 : decode code 1200 = .ok (.aload_n 2, 1) := by decide +kernel
theorem dL_1201 : decode code 1201 = .ok (.aload_n 0, 1) := by decide +kernel
theorem dL_1202 : decode code 1202 = .ok (.iload_n 3, 1) := by decide +kernel
theorem dL_1203 : decode code 1203 = .ok (.iconst 1, 1) := by decide +kernel
theorem dL_1204 : decode code 1204 = .ok (.iadd, 1) := by decide +kernel
theorem dL_1205 : decode code 1205 = .ok (.iaload, 1) := by decide +kernel
theorem dL_1206 : decode code 1206 = .ok (.aload_n 0, 1) := by decide +kernel
theorem dL_1207 : decode code 1207 = .ok (.iload_n 3, 1) := by decide +kernel
theorem dL_1208 : decode code 1208 = .ok (.iconst 2, 1) := by decide +kernel
theorem dL_1209 : decode code 1209 = .ok (.iadd, 1) := by decide +kernel
theorem dL_1210 : decode code 1210 = .ok (.iaload, 1) := by decide +kernel
theorem dL_1211 : decode code 1211 = .ok (.invokevirtual 135, 3) := by decide +kernel
theorem dL_1214 : decode code 1214 = .ok (.lcmp, 1) := by decide +kernel
theorem dL_1215 : decode code 1215 = .ok (.ifCond .eq 349, 3) := by decide +kernel
theorem dL_1218 : decode code 1218 = .ok (.iconst 0, 1) := by decide +kernel
theorem dL_1219 : decode code 1219 = .ok (.ireturn, 1) := by decide +kernel
theorem dL_1220 : decode code 1220 = .ok (.aload_n 1, 1) := by decide +kernel
theorem dL_1221 : decode code 1221 = .ok (.aload_n 0, 1) := by decide +kernel
theorem dL_1222 : decode code 1222 = .ok (.iload_n 3, 1) := by decide +kernel
theorem dL_1223 : decode code 1223 = .ok (.iconst 1, 1) := by decide +kernel
theorem dL_1224 : decode code 1224 = .ok (.iadd, 1) := by decide +kernel
theorem dL_1225 : decode code 1225 = .ok (.iaload, 1) := by decide +kernel
theorem dL_1226 : decode code 1226 = .ok (.aload_n 0, 1) := by decide +kernel
theorem dL_1227 : decode code 1227 = .ok (.iload_n 3, 1) := by decide +kernel
theorem dL_1228 : decode code 1228 = .ok (.iconst 2, 1) := by decide +kernel
theorem dL_1229 : decode code 1229 = .ok (.iadd, 1) := by decide +kernel
theorem dL_1230 : decode code 1230 = .ok (.iaload, 1) := by decide +kernel
theorem dL_1231 : decode code 1231 = .ok (.aload_n 0, 1) := by decide +kernel
theorem dL_1232 : decode code 1232 = .ok (.iload_n 3, 1) := by decide +kernel
theorem dL_1233 : decode code 1233 = .ok (.iconst 3, 1) := by decide +kernel
theorem dL_1234 : decode code 1234 = .ok (.iadd, 1) := by decide +kernel
theorem dL_1235 : decode code 1235 = .ok (.iaload, 1) := by decide +kernel
theorem dL_1236 : decode code 1236 = .ok (.ifCond .eq 7, 3) := by decide +kernel
theorem dL_1239 : decode code 1239 = .ok (.iconst 1, 1) := by decide +kernel
theorem dL_1240 : decode code 1240 = .ok (.goto 4, 3) := by decide +kernel
theorem dL_1243 : decode code 1243 = .ok (.iconst 0, 1) := by decide +kernel
theorem dL_1244 : decode code 1244 = .ok (.aload_n 0, 1) := by decide +kernel
theorem dL_1245 : decode code 1245 = .ok (.iload_n 3, 1) := by decide +kernel
theorem dL_1246 : decode code 1246 = .ok (.iconst 4, 1) := by decide +kernel
theorem dL_1247 : decode code 1247 = .ok (.iadd, 1) := by decide +kernel
theorem dL_1248 : decode code 1248 = .ok (.iaload, 1) := by decide +kernel
theorem dL_1249 : decode code 1249 = .ok (.invokevirtual 136, 3) := by decide +kernel
theorem dL_1252 : decode code 1252 = .ok (.aload_n 2, 1) := by decide +kernel
theorem dL_1253 : decode code 1253 = .ok (.aload_n 0, 1) := by decide +kernel
theorem dL_1254 : decode code 1254 = .ok (.iload_n 3, 1) := by decide +kernel
theorem dL_1255 : decode code 1255 = .ok (.iconst 1, 1) := by decide +kernel
theorem dL_1256 : decode code 1256 = .ok (.iadd, 1) := by decide +kernel
theorem dL_1257 : decode code 1257 = .ok (.iaload, 1) := by decide +kernel
theorem dL_1258 : decode code 1258 = .ok (.aload_n 0, 1) := by decide +kernel
theorem dL_1259 : decode code 1259 = .ok (.iload_n 3, 1) := by decide +kernel
theorem dL_1260 : decode code 1260 = .ok (.iconst 2, 1) := by decide +kernel
theorem dL_1261 : decode code 1261 = .ok (.iadd, 1) := by decide +kernel
theorem dL_1262 : decode code 1262 = .ok (.iaload, 1) := by decide +kernel
theorem dL_1263 : decode code 1263 = .ok (.aload_n 0, 1) := by decide +kernel
theorem dL_1264 : decode code 1264 = .ok (.iload_n 3, 1) := by decide +kernel
theorem dL_1265 : decode code 1265 = .ok (.iconst 3, 1) := by decide +kernel
theorem dL_1266 : decode code 1266 = .ok (.iadd, 1) := by decide +kernel
theorem dL_1267 : decode code 1267 = .ok (.iaload, 1) := by decide +kernel
theorem dL_1268 : decode code 1268 = .ok (.ifCond .eq 7, 3) := by decide +kernel
theorem dL_1271 : decode code 1271 = .ok (.iconst 1, 1) := by decide +kernel
theorem dL_1272 : decode code 1272 = .ok (.goto 4, 3) := by decide +kernel
theorem dL_1275 : decode code 1275 = .ok (.iconst 0, 1) := by decide +kernel
theorem dL_1276 : decode code 1276 = .ok (.aload_n 0, 1) := by decide +kernel
theorem dL_1277 : decode code 1277 = .ok (.iload_n 3, 1) := by decide +kernel
theorem dL_1278 : decode code 1278 = .ok (.iconst 4, 1) := by decide +kernel
theorem dL_1279 : decode code 1279 = .ok (.iadd, 1) := by decide +kernel
theorem dL_1280 : decode code 1280 = .ok (.iaload, 1) := by decide +kernel
theorem dL_1281 : decode code 1281 = .ok (.invokevirtual 140, 3) := by decide +kernel
theorem dL_1284 : decode code 1284 = .ok (.lcmp, 1) := by decide +kernel
theorem dL_1285 : decode code 1285 = .ok (.ifCond .eq 279, 3) := by decide +kernel
theorem dL_1288 : decode code 1288 = .ok (.iconst 0, 1) := by decide +kernel
theorem dL_1289 : decode code 1289 = .ok (.ireturn, 1) := by decide +kernel
theorem dL_1290 : decode code 1290 = .ok (.aload_n 1, 1) := by decide +kernel
theorem dL_1291 : decode code 1291 = .ok (.aload_n 0, 1) := by decide +kernel
theorem dL_1292 : decode code 1292 = .ok (.iload_n 3, 1) := by decide +kernel
theorem dL_1293 : decode code 1293 = .ok (.iconst 1, 1) := by decide +kernel
theorem dL_1294 : decode code 1294 = .ok (.iadd, 1) := by decide +kernel
theorem dL_1295 : decode code 1295 = .ok (.iaload, 1) := by decide +kernel
theorem dL_1296 : decode code 1296 = .ok (.invokevirtual 141, 3) := by decide +kernel
theorem dL_1299 : decode code 1299 = .ok (.aload_n 2, 1) := by decide +kernel
theorem dL_1300 : decode code 1300 = .ok (.aload_n 0, 1) := by decide +kernel
theorem dL_1301 : decode code 1301 = .ok (.iload_n 3, 1) := by decide +kernel
theorem dL_1302 : decode code 1302 = .ok (.iconst 1, 1) := by decide +kernel
theorem dL_1303 : decode code 1303 = .ok (.iadd, 1) := by decide +kernel
theorem dL_1304 : decode code 1304 = .ok (.iaload, 1) := by decide +kernel
theorem dL_1305 : decode code 1305 = .ok (.invokevirtual 144, 3) := by decide +kernel
theorem dL_1308 : decode code 1308 = .ok (.if_icmp .eq 256, 3) := by decide +kernel
theorem dL_1311 : decode code 1311 = .ok (.iconst 0, 1) := by decide +kernel
theorem dL_1312 : decode code 1312 = .ok (.ireturn, 1) := by decide +kernel
theorem dL_1313 : decode code 1313 = .ok (.aload_n 1, 1) := by decide +kernel
theorem dL_1314 : decode code 1314 = .ok (.aload_n 0, 1) := by decide +kernel
theorem dL_1315 : decode code 1315 = .ok (.iload_n 3, 1) := by decide +kernel
theorem dL_1316 : decode code 1316 = .ok (.iconst 1, 1) := by decide +kernel
theorem dL_1317 : decode code 1317 = .ok (.iadd, 1) := by decide +kernel
theorem dL_1318 : decode code 1318 = .ok (.iaload, 1) := by decide +kernel
theorem dL_1319 : decode code 1319 = .ok (.aload_n 0, 1) := by decide +kernel
theorem dL_1320 : decode code 1320 = .ok (.iload_n 3, 1) := by decide +kernel
theorem dL_1321 : decode code 1321 = .ok (.iconst 2, 1) := by decide +kernel
theorem dL_1322 : decode code 1322 = .ok (.iadd, 1) := by decide +kernel
theorem dL_1323 : decode code 1323 = .ok (.iaload, 1) := by decide +kernel
theorem dL_1324 : decode code 1324 = .ok (.aload_n 0, 1) := by decide +kernel
theorem dL_1325 : decode code 1325 = .ok (.iload_n 3, 1) := by decide +kernel
theorem dL_1326 : decode code 1326 = .ok (.iconst 3, 1) := by decide +kernel
theorem dL_1327 : decode code 1327 = .ok (.iadd, 1) := by decide +kernel
theorem dL_1328 : decode code 1328 = .ok (.iaload, 1) := by decide +kernel
theorem dL_1329 : decode code 1329 = .ok (.invokevirtual 145, 3) := by decide +kernel
theorem dL_1332 : decode code 1332 = .ok (.aload_n 2, 1) := by decide +kernel
theorem dL_1333 : decode code 1333 = .ok (.aload_n 0, 1) := by decide +kernel
theorem dL_1334 : decode code 1334 = .ok (.iload_n 3, 1) := by decide +kernel
theorem dL_1335 : decode code 1335 = .ok (.iconst 1, 1) := by decide +kernel
theorem dL_1336 : decode code 1336 = .ok (.iadd, 1) := by decide +kernel
theorem dL_1337 : decode code 1337 = .ok (.iaload, 1) := by decide +kernel
theorem dL_1338 : decode code 1338 = .ok (.aload_n 0, 1) := by decide +kernel
theorem dL_1339 : decode code 1339 = .ok (.iload_n 3, 1) := by decide +kernel
theorem dL_1340 : decode code 1340 = .ok (.iconst 2, 1) := by decide +kernel
theorem dL_1341 : decode code 1341 = .ok (.iadd, 1) := by decide +kernel
theorem dL_1342 : decode code 1342 = .ok (.iaload, 1) := by decide +kernel
theorem dL_1343 : decode code 1343 = .ok (.aload_n 0, 1) := by decide +kernel
theorem dL_1344 : decode code 1344 = .ok (.iload_n 3, 1) := by decide +kernel
theorem dL_1345 : decode code 1345 = .ok (.iconst 3, 1) := by decide +kernel
theorem dL_1346 : decode code 1346 = .ok (.iadd, 1) := by decide +kernel
theorem dL_1347 : decode code 1347 = .ok (.iaload, 1) := by decide +kernel
theorem dL_1348 : decode code 1348 = .ok (.invokevirtual 148, 3) := by decide +kernel
theorem dL_1351 : decode code 1351 = .ok (.if_icmp .eq 213, 3) := by decide +kernel
theorem dL_1354 : decode code 1354 = .ok (.iconst 0, 1) := by decide +kernel
theorem dL_1355 : decode code 1355 = .ok (.ireturn, 1) := by decide +kernel
theorem dL_1356 : decode code 1356 = .ok (.aload_n 1, 1) := by decide +kernel
theorem dL_1357 : decode code 1357 = .ok (.aload_n 0, 1) := by decide +kernel
theorem dL_1358 : decode code 1358 = .ok (.iload_n 3, 1) := by decide +kernel
theorem dL_1359 : decode code 1359 = .ok (.iconst 1, 1) := by decide +kernel
theorem dL_1360 : decode code 1360 = .ok (.iadd, 1) := by decide +kernel
theorem dL_1361 : decode code 1361 = .ok (.iaload, 1) := by decide +kernel
theorem dL_1362 : decode code 1362 = .ok (.invokevirtual 149, 3) := by decide +kernel
theorem dL_1365 : decode code 1365 = .ok (.aload_n 2, 1) := by decide +kernel
theorem dL_1366 : decode code 1366 = .ok (.aload_n 0, 1) := by decide +kernel
theorem dL_1367 : decode code 1367 = .ok (.iload_n 3, 1) := by decide +kernel
theorem dL_1368 : decode code 1368 = .ok (.iconst 1, 1) := by decide +kernel
theorem dL_1369 : decode code 1369 = .ok (.iadd, 1) := by decide +kernel
theorem dL_1370 : decode code 1370 = .ok (.iaload, 1) := by decide +kernel
theorem dL_1371 : decode code 1371 = .ok (.invokevirtual 152, 3) := by decide +kernel
theorem dL_1374 : decode code 1374 = .ok (.if_icmp .eq 190, 3) := by decide +kernel
theorem dL_1377 : decode code 1377 = .ok (.iconst 0, 1) := by decide +kernel
theorem dL_1378 : decode code 1378 = .ok (.ireturn, 1) := by decide +kernel
theorem dL_1379 : decode code 1379 = .ok (.aload_n 1, 1) := by decide +kernel
theorem dL_1380 : decode code 1380 = .ok (.aload_n 0, 1) := by decide +kernel
theorem dL_1381 : decode code 1381 = .ok (.iload_n 3, 1) := by decide +kernel
theorem dL_1382 : decode code 1382 = .ok (.iconst 1, 1) := by decide +kernel
theorem dL_1383 : decode code 1383 = .ok (.iadd, 1) := by decide +kernel
theorem dL_1384 : decode code 1384 = .ok (.iaload, 1) := by decide +kernel
theorem dL_1385 : decode code 1385 = .ok (.aload_n 0, 1) := by decide +kernel
theorem dL_1386 : decode code 1386 = .ok (.iload_n 3, 1) := by decide +kernel
theorem dL_1387 : decode code 1387 = .ok (.iconst 2, 1) := by decide +kernel
theorem dL_1388 : decode code 1388 = .ok (.iadd, 1) := by decide +kernel
theorem dL_1389 : decode code 1389 = .ok (.iaload, 1) := by decide +kernel
theorem dL_1390 : decode code 1390 = .ok (.aload_n 0, 1) := by decide +kernel
theorem dL_1391 : decode code 1391 = .ok (.iload_n 3, 1) := by decide +kernel
theorem dL_1392 : decode code 1392 = .ok (.iconst 3, 1) := by decide +kernel
theorem dL_1393 : decode code 1393 = .ok (.iadd, 1) := by decide +kernel
theorem dL_1394 : decode code 1394 = .ok (.iaload, 1) := by decide +kernel
theorem dL_1395 : decode code 1395 = .ok (.invokevirtual 153, 3) := by decide +kernel
theorem dL_1398 : decode code 1398 = .ok (.aload_n 2, 1) := by decide +kernel
theorem dL_1399 : decode code 1399 = .ok (.aload_n 0, 1) := by decide +kernel
theorem dL_1400 : decode code 1400 = .ok (.iload_n 3, 1) := by decide +kernel
theorem dL_1401 : decode code 1401 = .ok (.iconst 1, 1) := by decide +kernel
theorem dL_1402 : decode code 1402 = .ok (.iadd, 1) := by decide +kernel
theorem dL_1403 : decode code 1403 = .ok (.iaload, 1) := by decide +kernel
theorem dL_1404 : decode code 1404 = .ok (.aload_n 0, 1) := by decide +kernel
theorem dL_1405 : decode code 1405 = .ok (.iload_n 3, 1) := by decide +kernel
theorem dL_1406 : decode code 1406 = .ok (.iconst 2, 1) := by decide +kernel
theorem dL_1407 : decode code 1407 = .ok (.iadd, 1) := by decide +kernel
theorem dL_1408 : decode code 1408 = .ok (.iaload, 1) := by decide +kernel
theorem dL_1409 : decode code 1409 = .ok (.aload_n 0, 1) := by decide +kernel
theorem dL_1410 : decode code 1410 = .ok (.iload_n 3, 1) := by decide +kernel
theorem dL_1411 : decode code 1411 = .ok (.iconst 3, 1) := by decide +kernel
theorem dL_1412 : decode code 1412 = .ok (.iadd, 1) := by decide +kernel
theorem dL_1413 : decode code 1413 = .ok (.iaload, 1) := by decide +kernel
theorem dL_1414 : decode code 1414 = .ok (.invokevirtual 156, 3) := by decide +kernel
theorem dL_1417 : decode code 1417 = .ok (.if_icmp .eq 147, 3) := by decide +kernel
theorem dL_1420 : decode code 1420 = .ok (.iconst 0, 1) := by decide +kernel
theorem dL_1421 : decode code 1421 = .ok (.ireturn, 1) := by decide +kernel
theorem dL_1422 : decode code 1422 = .ok (.aload_n 1, 1) := by decide +kernel
theorem dL_1423 : decode code 1423 = .ok (.aload_n 0, 1) := by decide +kernel
theorem dL_1424 : decode code 1424 = .ok (.iload_n 3, 1) := by decide +kernel
theorem dL_1425 : decode code 1425 = .ok (.iconst 1, 1) := by decide +kernel
theorem dL_1426 : decode code 1426 = .ok (.iadd, 1) := by decide +kernel
theorem dL_1427 : decode code 1427 = .ok (.iaload, 1) := by decide +kernel
theorem dL_1428 : decode code 1428 = .ok (.aload_n 0, 1) := by decide +kernel
theorem dL_1429 : decode code 1429 = .ok (.iload_n 3, 1) := by decide +kernel
theorem dL_1430 : decode code 1430 = .ok (.iconst 2, 1) := by decide +kernel
theorem dL_1431 : decode code 1431 = .ok (.iadd, 1) := by decide +kernel
theorem dL_1432 : decode code 1432 = .ok (.iaload, 1) := by decide +kernel
theorem dL_1433 : decode code 1433 = .ok (.aload_n 0, 1) := by decide +kernel
theorem dL_1434 : decode code 1434 = .ok (.iload_n 3, 1) := by decide +kernel
theorem dL_1435 : decode code 1435 = .ok (.iconst 3, 1) := by decide +kernel
theorem dL_1436 : decode code 1436 = .ok (.iadd, 1) := by decide +kernel
theorem dL_1437 : decode code 1437 = .ok (.iaload, 1) := by decide +kernel
theorem dL_1438 : decode code 1438 = .ok (.invokevirtual 157, 3) := by decide +kernel
theorem dL_1441 : decode code 1441 = .ok (.aload_n 2, 1) := by decide +kernel
theorem dL_1442 : decode code 1442 = .ok (.aload_n 0, 1) := by decide +kernel
theorem dL_1443 : decode code 1443 = .ok (.iload_n 3, 1) := by decide +kernel
theorem dL_1444 : decode code 1444 = .ok (.iconst 1, 1) := by decide +kernel
theorem dL_1445 : decode code 1445 = .ok (.iadd, 1) := by decide +kernel
theorem dL_1446 : decode code 1446 = .ok (.iaload, 1) := by decide +kernel
theorem dL_1447 : decode code 1447 = .ok (.aload_n 0, 1) := by decide +kernel
theorem dL_1448 : decode code 1448 = .ok (.iload_n 3, 1) := by decide +kernel
theorem dL_1449 : decode code 1449 = .ok (.iconst 2, 1) := by decide +kernel
theorem dL_1450 : decode code 1450 = .ok (.iadd, 1) := by decide +kernel
theorem dL_1451 : decode code 1451 = .ok (.iaload, 1) := by decide +kernel
theorem dL_1452 : decode code 1452 = .ok (.aload_n 0, 1) := by decide +kernel
theorem dL_1453 : decode code 1453 = .ok (.iload_n 3, 1) := by decide +kernel
theorem dL_1454 : decode code 1454 = .ok (.iconst 3, 1) := by decide +kernel
theorem dL_1455 : decode code 1455 = .ok (.iadd, 1) := by decide +kernel
theorem dL_1456 : decode code 1456 = .ok (.iaload, 1) := by decide +kernel
theorem dL_1457 : decode code 1457 = .ok (.invokevirtual 160, 3) := by decide +kernel
theorem dL_1460 : decode code 1460 = .ok (.if_icmp .eq 104, 3) := by decide +kernel
theorem dL_1463 : decode code 1463 = .ok (.iconst 0, 1) := by decide +kernel
theorem dL_1464 : decode code 1464 = .ok (.ireturn, 1) := by decide +kernel
theorem dL_1465 : decode code 1465 = .ok (.aload_n 1, 1) := by decide +kernel
theorem dL_1466 : decode code 1466 = .ok (.aload_n 0, 1) := by decide +kernel
theorem dL_1467 : decode code 1467 = .ok (.iload_n 3, 1) := by decide +kernel
theorem dL_1468 : decode code 1468 = .ok (.iconst 1, 1) := by decide +kernel
theorem dL_1469 : decode code 1469 = .ok (.iadd, 1) := by decide +kernel
theorem dL_1470 : decode code 1470 = .ok (.iaload, 1) := by decide +kernel
theorem dL_1471 : decode code 1471 = .ok (.aload_n 0, 1) := by decide +kernel
theorem dL_1472 : decode code 1472 = .ok (.iload_n 3, 1) := by decide +kernel
theorem dL_1473 : decode code 1473 = .ok (.iconst 2, 1) := by decide +kernel
theorem dL_1474 : decode code 1474 = .ok (.iadd, 1) := by decide +kernel
theorem dL_1475 : decode code 1475 = .ok (.iaload, 1) := by decide +kernel
theorem dL_1476 : decode code 1476 = .ok (.aload_n 0, 1) := by decide +kernel
theorem dL_1477 : decode code 1477 = .ok (.iload_n 3, 1) := by decide +kernel
theorem dL_1478 : decode code 1478 = .ok (.iconst 3, 1) := by decide +kernel
theorem dL_1479 : decode code 1479 = .ok (.iadd, 1) := by decide +kernel
theorem dL_1480 : decode code 1480 = .ok (.iaload, 1) := by decide +kernel
theorem dL_1481 : decode code 1481 = .ok (.invokevirtual 161, 3) := by decide +kernel
theorem dL_1484 : decode code 1484 = .ok (.aload_n 2, 1) := by decide +kernel
theorem dL_1485 : decode code 1485 = .ok (.aload_n 0, 1) := by decide +kernel
theorem dL_1486 : decode code 1486 = .ok (.iload_n 3, 1) := by decide +kernel
theorem dL_1487 : decode code 1487 = .ok (.iconst 1, 1) := by decide +kernel
theorem dL_1488 : decode code 1488 = .ok (.iadd, 1) := by decide +kernel
theorem dL_1489 : decode code 1489 = .ok (.iaload, 1) := by decide +kernel
theorem dL_1490 : decode code 1490 = .ok (.aload_n 0, 1) := by decide +kernel
theorem dL_1491 : decode code 1491 = .ok (.iload_n 3, 1) := by decide +kernel
theorem dL_1492 : decode code 1492 = .ok (.iconst 2, 1) := by decide +kernel
theorem dL_1493 : decode code 1493 = .ok (.iadd, 1) := by decide +kernel
theorem dL_1494 : decode code 1494 = .ok (.iaload, 1) := by decide +kernel
theorem dL_1495 : decode code 1495 = .ok (.aload_n 0, 1) := by decide +kernel
theorem dL_1496 : decode code 1496 = .ok (.iload_n 3, 1) := by decide +kernel
theorem dL_1497 : decode code 1497 = .ok (.iconst 3, 1) := by decide +kernel
theorem dL_1498 : decode code 1498 = .ok (.iadd, 1) := by decide +kernel
theorem dL_1499 : decode code 1499 = .ok (.iaload, 1) := by decide +kernel
theorem dL_1500 : decode code 1500 = .ok (.invokevirtual 164, 3) := by decide +kernel
theorem dL_1503 : decode code 1503 = .ok (.if_icmp .eq 61, 3) := by decide +kernel
theorem dL_1506 : decode code 1506 = .ok (.iconst 0, 1) := by decide +kernel
theorem dL_1507 : decode code 1507 = .ok (.ireturn, 1) := by decide +kernel
theorem dL_1508 : decode code 1508 = .ok (.aload_n 1, 1) := by decide +kernel
theorem dL_1509 : decode code 1509 = .ok (.aload_n 0, 1) := by decide +kernel
theorem dL_1510 : decode code 1510 = .ok (.iload_n 3, 1) := by decide +kernel
theorem dL_1511 : decode code 1511 = .ok (.iconst 1, 1) := by decide +kernel
theorem dL_1512 : decode code 1512 = .ok (.iadd, 1) := by decide +kernel
theorem dL_1513 : decode code 1513 = .ok (.iaload, 1) := by decide +kernel
theorem dL_1514 : decode code 1514 = .ok (.aload_n 0, 1) := by decide +kernel
theorem dL_1515 : decode code 1515 = .ok (.iload_n 3, 1) := by decide +kernel
theorem dL_1516 : decode code 1516 = .ok (.iconst 2, 1) := by decide +kernel
theorem dL_1517 : decode code 1517 = .ok (.iadd, 1) := by decide +kernel
theorem dL_1518 : decode code 1518 = .ok (.iaload, 1) := by decide +kernel
theorem dL_1519 : decode code 1519 = .ok (.aload_n 0, 1) := by decide +kernel
theorem dL_1520 : decode code 1520 = .ok (.iload_n 3, 1) := by decide +kernel
theorem dL_1521 : decode code 1521 = .ok (.iconst 3, 1) := by decide +kernel
theorem dL_1522 : decode code 1522 = .ok (.iadd, 1) := by decide +kernel
theorem dL_1523 : decode code 1523 = .ok (.iaload, 1) := by decide +kernel
theorem dL_1524 : decode code 1524 = .ok (.invokevirtual 165, 3) := by decide +kernel
theorem dL_1527 : decode code 1527 = .ok (.aload_n 2, 1) := by decide +kernel
theorem dL_1528 : decode code 1528 = .ok (.aload_n 0, 1) := by decide +kernel
theorem dL_1529 : decode code 1529 = .ok (.iload_n 3, 1) := by decide +kernel
theorem dL_1530 : decode code 1530 = .ok (.iconst 1, 1) := by decide +kernel
theorem dL_1531 : decode code 1531 = .ok (.iadd, 1) := by decide +kernel
theorem dL_1532 : decode code 1532 = .ok (.iaload, 1) := by decide +kernel
theorem dL_1533 : decode code 1533 = .ok (.aload_n 0, 1) := by decide +kernel
theorem dL_1534 : decode code 1534 = .ok (.iload_n 3, 1) := by decide +kernel
theorem dL_1535 : decode code 1535 = .ok (.iconst 2, 1) := by decide +kernel
theorem dL_1536 : decode code 1536 = .ok (.iadd, 1) := by decide +kernel
theorem dL_1537 : decode code 1537 = .ok (.iaload, 1) := by decide +kernel
theorem dL_1538 : decode code 1538 = .ok (.aload_n 0, 1) := by decide +kernel
theorem dL_1539 : decode code 1539 = .ok (.iload_n 3, 1) := by decide +kernel
theorem dL_1540 : decode code 1540 = .ok (.iconst 3, 1) := by decide +kernel
theorem dL_1541 : decode code 1541 = .ok (.iadd, 1) := by decide +kernel
theorem dL_1542 : decode code 1542 = .ok (.iaload, 1) := by decide +kernel
theorem dL_1543 : decode code 1543 = .ok (.invokevirtual 168, 3) := by decide +kernel
theorem dL_1546 : decode code 1546 = .ok (.if_icmp .eq 18, 3) := by decide +kernel
theorem dL_1549 : decode code 1549 = .ok (.iconst 0, 1) := by decide +kernel
theorem dL_1550 : decode code 1550 = .ok (.ireturn, 1) := by decide +kernel
theorem dL_1551 : decode code 1551 = .ok (.aload_n 1, 1) := by decide +kernel
theorem dL_1552 : decode code 1552 = .ok (.invokevirtual 169, 3) := by decide +kernel
theorem dL_1555 : decode code 1555 = .ok (.aload_n 2, 1) := by decide +kernel
theorem dL_1556 : decode code 1556 = .ok (.invokevirtual 172, 3) := by decide +kernel
theorem dL_1559 : decode code 1559 = .ok (.if_icmp .eq 5, 3) := by decide +kernel
theorem dL_1562 : decode code 1562 = .ok (.iconst 0, 1) := by decide +kernel
theorem dL_1563 : decode code 1563 = .ok (.ireturn, 1) := by decide +kernel
theorem dL_1564 : decode code 1564 = .ok (.iinc 3 6, 3) := by decide +kernel
theorem dL_1567 : decode code 1567 = .ok (.goto (-1549), 3) := by decide +kernel
theorem dL_1570 : decode code 1570 = .ok (.iconst 1, 1) := by decide +kernel
theorem dL_1571 : decode code 1571 = .ok (.ireturn, 1) := by decide +kernel
