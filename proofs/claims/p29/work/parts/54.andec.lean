theorem dzbL_law_0 : dzB cL_law 0 [187, 0, 8, 89, 183, 0, 15, 76, 187, 0, 16, 89, 183, 0, 18, 77, 4] := by decide +kernel
theorem dL_law_0 : decode cL_law 0 = .ok (.new 8, 3) := dz2 dzo187 0 0 8 dzbL_law_0 rfl
theorem dL_law_3 : decode cL_law 3 = .ok (.dup, 1) := dz0 dzo89 3 dzbL_law_0 rfl
theorem dL_law_4 : decode cL_law 4 = .ok (.invokespecial 15, 3) := dz2 dzo183 4 0 15 dzbL_law_0 rfl
theorem dL_law_7 : decode cL_law 7 = .ok (.astore_n 1, 1) := dz0 dzo76 7 dzbL_law_0 rfl
theorem dL_law_8 : decode cL_law 8 = .ok (.new 16, 3) := dz2 dzo187 8 0 16 dzbL_law_0 rfl
theorem dL_law_11 : decode cL_law 11 = .ok (.dup, 1) := dz0 dzo89 11 dzbL_law_0 rfl
theorem dL_law_12 : decode cL_law 12 = .ok (.invokespecial 18, 3) := dz2 dzo183 12 0 18 dzbL_law_0 rfl
theorem dL_law_15 : decode cL_law 15 = .ok (.astore_n 2, 1) := dz0 dzo77 15 dzbL_law_0 rfl
theorem dL_law_16 : decode cL_law 16 = .ok (.iconst 1, 1) := dz0 dzo4 16 dzbL_law_0 rfl
theorem dL_law_17 : decode cL_law 17 = .ok (.newarray .long, 2) := by decide +kernel
theorem dzbL_law_19 : dzB cL_law 19 [78, 3, 54, 4, 21, 4, 42, 190, 16, 6, 100, 163, 7, 108, 42, 21, 4, 46, 16, 63, 126] := by decide +kernel
theorem dL_law_19 : decode cL_law 19 = .ok (.astore_n 3, 1) := dz0 dzo78 0 dzbL_law_19 rfl
theorem dL_law_20 : decode cL_law 20 = .ok (.iconst 0, 1) := dz0 dzo3 1 dzbL_law_19 rfl
theorem dL_law_21 : decode cL_law 21 = .ok (.istore 4, 2) := dz1 dzo54 2 4 dzbL_law_19 rfl
theorem dL_law_23 : decode cL_law 23 = .ok (.iload 4, 2) := dz1 dzo21 4 4 dzbL_law_19 rfl
theorem dL_law_25 : decode cL_law 25 = .ok (.aload_n 0, 1) := dz0 dzo42 6 dzbL_law_19 rfl
theorem dL_law_26 : decode cL_law 26 = .ok (.arraylength, 1) := dz0 dzo190 7 dzbL_law_19 rfl
theorem dL_law_27 : decode cL_law 27 = .ok (.bipush 6, 2) := dz3 dzo16 8 6 6 rfl dzbL_law_19 rfl
theorem dL_law_29 : decode cL_law 29 = .ok (.isub, 1) := dz0 dzo100 10 dzbL_law_19 rfl
theorem dL_law_30 : decode cL_law 30 = .ok (.if_icmp .gt 1900, 3) := dz4 dzo163 11 7 108 1900 rfl dzbL_law_19 rfl
theorem dL_law_33 : decode cL_law 33 = .ok (.aload_n 0, 1) := dz0 dzo42 14 dzbL_law_19 rfl
theorem dL_law_34 : decode cL_law 34 = .ok (.iload 4, 2) := dz1 dzo21 15 4 dzbL_law_19 rfl
theorem dL_law_36 : decode cL_law 36 = .ok (.iaload, 1) := dz0 dzo46 17 dzbL_law_19 rfl
theorem dL_law_37 : decode cL_law 37 = .ok (.bipush 63, 2) := dz3 dzo16 18 63 63 rfl dzbL_law_19 rfl
theorem dL_law_39 : decode cL_law 39 = .ok (.iand, 1) := dz0 dzo126 20 dzbL_law_19 rfl
theorem dL_law_40 : decode cL_law 40 = .ok (.tableswitch 1884 0 52 #[228, 301, 326, 339, 352, 389, 426, 475, 524, 549, 574, 599, 636, 661, 686, 723, 748, 785, 822, 835, 860, 873, 886, 899, 936, 973, 998, 1011, 1036, 1089, 1102, 1115, 1128, 1141, 1206, 1315, 1340, 1365, 1430, 1483, 1532, 1581, 1630, 1667, 1692, 1717, 1742, 1767, 1780, 1793, 1818, 1846, 1871], 228) := by decide +kernel
theorem dzbL_law_268 : dzB cL_law 268 [43, 42, 21, 4, 4, 96, 46, 42, 21, 4, 5, 96, 46, 42, 21, 4, 6, 96, 46, 42, 21, 4, 7, 96] := by decide +kernel
theorem dL_law_268 : decode cL_law 268 = .ok (.aload_n 1, 1) := dz0 dzo43 0 dzbL_law_268 rfl
theorem dL_law_269 : decode cL_law 269 = .ok (.aload_n 0, 1) := dz0 dzo42 1 dzbL_law_268 rfl
theorem dL_law_270 : decode cL_law 270 = .ok (.iload 4, 2) := dz1 dzo21 2 4 dzbL_law_268 rfl
theorem dL_law_272 : decode cL_law 272 = .ok (.iconst 1, 1) := dz0 dzo4 4 dzbL_law_268 rfl
theorem dL_law_273 : decode cL_law 273 = .ok (.iadd, 1) := dz0 dzo96 5 dzbL_law_268 rfl
theorem dL_law_274 : decode cL_law 274 = .ok (.iaload, 1) := dz0 dzo46 6 dzbL_law_268 rfl
theorem dL_law_275 : decode cL_law 275 = .ok (.aload_n 0, 1) := dz0 dzo42 7 dzbL_law_268 rfl
theorem dL_law_276 : decode cL_law 276 = .ok (.iload 4, 2) := dz1 dzo21 8 4 dzbL_law_268 rfl
theorem dL_law_278 : decode cL_law 278 = .ok (.iconst 2, 1) := dz0 dzo5 10 dzbL_law_268 rfl
theorem dL_law_279 : decode cL_law 279 = .ok (.iadd, 1) := dz0 dzo96 11 dzbL_law_268 rfl
theorem dL_law_280 : decode cL_law 280 = .ok (.iaload, 1) := dz0 dzo46 12 dzbL_law_268 rfl
theorem dL_law_281 : decode cL_law 281 = .ok (.aload_n 0, 1) := dz0 dzo42 13 dzbL_law_268 rfl
theorem dL_law_282 : decode cL_law 282 = .ok (.iload 4, 2) := dz1 dzo21 14 4 dzbL_law_268 rfl
theorem dL_law_284 : decode cL_law 284 = .ok (.iconst 3, 1) := dz0 dzo6 16 dzbL_law_268 rfl
theorem dL_law_285 : decode cL_law 285 = .ok (.iadd, 1) := dz0 dzo96 17 dzbL_law_268 rfl
theorem dL_law_286 : decode cL_law 286 = .ok (.iaload, 1) := dz0 dzo46 18 dzbL_law_268 rfl
theorem dL_law_287 : decode cL_law 287 = .ok (.aload_n 0, 1) := dz0 dzo42 19 dzbL_law_268 rfl
theorem dL_law_288 : decode cL_law 288 = .ok (.iload 4, 2) := dz1 dzo21 20 4 dzbL_law_268 rfl
theorem dL_law_290 : decode cL_law 290 = .ok (.iconst 4, 1) := dz0 dzo7 22 dzbL_law_268 rfl
theorem dL_law_291 : decode cL_law 291 = .ok (.iadd, 1) := dz0 dzo96 23 dzbL_law_268 rfl
theorem dzbL_law_292 : dzB cL_law 292 [46, 42, 21, 4, 8, 96, 46, 182, 0, 19, 87, 44, 42, 21, 4, 4, 96, 46, 42, 21, 4, 5, 96, 46] := by decide +kernel
theorem dL_law_292 : decode cL_law 292 = .ok (.iaload, 1) := dz0 dzo46 0 dzbL_law_292 rfl
theorem dL_law_293 : decode cL_law 293 = .ok (.aload_n 0, 1) := dz0 dzo42 1 dzbL_law_292 rfl
theorem dL_law_294 : decode cL_law 294 = .ok (.iload 4, 2) := dz1 dzo21 2 4 dzbL_law_292 rfl
theorem dL_law_296 : decode cL_law 296 = .ok (.iconst 5, 1) := dz0 dzo8 4 dzbL_law_292 rfl
theorem dL_law_297 : decode cL_law 297 = .ok (.iadd, 1) := dz0 dzo96 5 dzbL_law_292 rfl
theorem dL_law_298 : decode cL_law 298 = .ok (.iaload, 1) := dz0 dzo46 6 dzbL_law_292 rfl
theorem dL_law_299 : decode cL_law 299 = .ok (.invokevirtual 19, 3) := dz2 dzo182 7 0 19 dzbL_law_292 rfl
theorem dL_law_302 : decode cL_law 302 = .ok (.pop, 1) := dz0 dzo87 10 dzbL_law_292 rfl
theorem dL_law_303 : decode cL_law 303 = .ok (.aload_n 2, 1) := dz0 dzo44 11 dzbL_law_292 rfl
theorem dL_law_304 : decode cL_law 304 = .ok (.aload_n 0, 1) := dz0 dzo42 12 dzbL_law_292 rfl
theorem dL_law_305 : decode cL_law 305 = .ok (.iload 4, 2) := dz1 dzo21 13 4 dzbL_law_292 rfl
theorem dL_law_307 : decode cL_law 307 = .ok (.iconst 1, 1) := dz0 dzo4 15 dzbL_law_292 rfl
theorem dL_law_308 : decode cL_law 308 = .ok (.iadd, 1) := dz0 dzo96 16 dzbL_law_292 rfl
theorem dL_law_309 : decode cL_law 309 = .ok (.iaload, 1) := dz0 dzo46 17 dzbL_law_292 rfl
theorem dL_law_310 : decode cL_law 310 = .ok (.aload_n 0, 1) := dz0 dzo42 18 dzbL_law_292 rfl
theorem dL_law_311 : decode cL_law 311 = .ok (.iload 4, 2) := dz1 dzo21 19 4 dzbL_law_292 rfl
theorem dL_law_313 : decode cL_law 313 = .ok (.iconst 2, 1) := dz0 dzo5 21 dzbL_law_292 rfl
theorem dL_law_314 : decode cL_law 314 = .ok (.iadd, 1) := dz0 dzo96 22 dzbL_law_292 rfl
theorem dL_law_315 : decode cL_law 315 = .ok (.iaload, 1) := dz0 dzo46 23 dzbL_law_292 rfl
theorem dzbL_law_316 : dzB cL_law 316 [42, 21, 4, 6, 96, 46, 42, 21, 4, 7, 96, 46, 42, 21, 4, 8, 96, 46, 182, 0, 23, 87] := by decide +kernel
theorem dL_law_316 : decode cL_law 316 = .ok (.aload_n 0, 1) := dz0 dzo42 0 dzbL_law_316 rfl
theorem dL_law_317 : decode cL_law 317 = .ok (.iload 4, 2) := dz1 dzo21 1 4 dzbL_law_316 rfl
theorem dL_law_319 : decode cL_law 319 = .ok (.iconst 3, 1) := dz0 dzo6 3 dzbL_law_316 rfl
theorem dL_law_320 : decode cL_law 320 = .ok (.iadd, 1) := dz0 dzo96 4 dzbL_law_316 rfl
theorem dL_law_321 : decode cL_law 321 = .ok (.iaload, 1) := dz0 dzo46 5 dzbL_law_316 rfl
theorem dL_law_322 : decode cL_law 322 = .ok (.aload_n 0, 1) := dz0 dzo42 6 dzbL_law_316 rfl
theorem dL_law_323 : decode cL_law 323 = .ok (.iload 4, 2) := dz1 dzo21 7 4 dzbL_law_316 rfl
theorem dL_law_325 : decode cL_law 325 = .ok (.iconst 4, 1) := dz0 dzo7 9 dzbL_law_316 rfl
theorem dL_law_326 : decode cL_law 326 = .ok (.iadd, 1) := dz0 dzo96 10 dzbL_law_316 rfl
theorem dL_law_327 : decode cL_law 327 = .ok (.iaload, 1) := dz0 dzo46 11 dzbL_law_316 rfl
theorem dL_law_328 : decode cL_law 328 = .ok (.aload_n 0, 1) := dz0 dzo42 12 dzbL_law_316 rfl
theorem dL_law_329 : decode cL_law 329 = .ok (.iload 4, 2) := dz1 dzo21 13 4 dzbL_law_316 rfl
theorem dL_law_331 : decode cL_law 331 = .ok (.iconst 5, 1) := dz0 dzo8 15 dzbL_law_316 rfl
theorem dL_law_332 : decode cL_law 332 = .ok (.iadd, 1) := dz0 dzo96 16 dzbL_law_316 rfl
theorem dL_law_333 : decode cL_law 333 = .ok (.iaload, 1) := dz0 dzo46 17 dzbL_law_316 rfl
theorem dL_law_334 : decode cL_law 334 = .ok (.invokevirtual 23, 3) := dz2 dzo182 18 0 23 dzbL_law_316 rfl
theorem dL_law_337 : decode cL_law 337 = .ok (.pop, 1) := dz0 dzo87 21 dzbL_law_316 rfl
theorem dzbL_law_338 : dzB cL_law 338 [167, 6, 50, 43, 42, 21, 4, 4, 96, 46, 182, 0, 24, 87, 44, 42, 21, 4, 4, 96, 46, 182, 0, 27] := by decide +kernel
theorem dL_law_338 : decode cL_law 338 = .ok (.goto 1586, 3) := dz4 dzo167 0 6 50 1586 rfl dzbL_law_338 rfl
theorem dL_law_341 : decode cL_law 341 = .ok (.aload_n 1, 1) := dz0 dzo43 3 dzbL_law_338 rfl
theorem dL_law_342 : decode cL_law 342 = .ok (.aload_n 0, 1) := dz0 dzo42 4 dzbL_law_338 rfl
theorem dL_law_343 : decode cL_law 343 = .ok (.iload 4, 2) := dz1 dzo21 5 4 dzbL_law_338 rfl
theorem dL_law_345 : decode cL_law 345 = .ok (.iconst 1, 1) := dz0 dzo4 7 dzbL_law_338 rfl
theorem dL_law_346 : decode cL_law 346 = .ok (.iadd, 1) := dz0 dzo96 8 dzbL_law_338 rfl
theorem dL_law_347 : decode cL_law 347 = .ok (.iaload, 1) := dz0 dzo46 9 dzbL_law_338 rfl
theorem dL_law_348 : decode cL_law 348 = .ok (.invokevirtual 24, 3) := dz2 dzo182 10 0 24 dzbL_law_338 rfl
theorem dL_law_351 : decode cL_law 351 = .ok (.pop, 1) := dz0 dzo87 13 dzbL_law_338 rfl
theorem dL_law_352 : decode cL_law 352 = .ok (.aload_n 2, 1) := dz0 dzo44 14 dzbL_law_338 rfl
theorem dL_law_353 : decode cL_law 353 = .ok (.aload_n 0, 1) := dz0 dzo42 15 dzbL_law_338 rfl
theorem dL_law_354 : decode cL_law 354 = .ok (.iload 4, 2) := dz1 dzo21 16 4 dzbL_law_338 rfl
theorem dL_law_356 : decode cL_law 356 = .ok (.iconst 1, 1) := dz0 dzo4 18 dzbL_law_338 rfl
theorem dL_law_357 : decode cL_law 357 = .ok (.iadd, 1) := dz0 dzo96 19 dzbL_law_338 rfl
theorem dL_law_358 : decode cL_law 358 = .ok (.iaload, 1) := dz0 dzo46 20 dzbL_law_338 rfl
theorem dL_law_359 : decode cL_law 359 = .ok (.invokevirtual 27, 3) := dz2 dzo182 21 0 27 dzbL_law_338 rfl
theorem dzbL_law_362 : dzB cL_law 362 [87, 167, 6, 25, 43, 182, 0, 28, 87, 44, 182, 0, 32, 87, 167, 6, 12, 43, 182, 0, 33, 87, 44] := by decide +kernel
theorem dL_law_362 : decode cL_law 362 = .ok (.pop, 1) := dz0 dzo87 0 dzbL_law_362 rfl
theorem dL_law_363 : decode cL_law 363 = .ok (.goto 1561, 3) := dz4 dzo167 1 6 25 1561 rfl dzbL_law_362 rfl
theorem dL_law_366 : decode cL_law 366 = .ok (.aload_n 1, 1) := dz0 dzo43 4 dzbL_law_362 rfl
theorem dL_law_367 : decode cL_law 367 = .ok (.invokevirtual 28, 3) := dz2 dzo182 5 0 28 dzbL_law_362 rfl
theorem dL_law_370 : decode cL_law 370 = .ok (.pop, 1) := dz0 dzo87 8 dzbL_law_362 rfl
theorem dL_law_371 : decode cL_law 371 = .ok (.aload_n 2, 1) := dz0 dzo44 9 dzbL_law_362 rfl
theorem dL_law_372 : decode cL_law 372 = .ok (.invokevirtual 32, 3) := dz2 dzo182 10 0 32 dzbL_law_362 rfl
theorem dL_law_375 : decode cL_law 375 = .ok (.pop, 1) := dz0 dzo87 13 dzbL_law_362 rfl
theorem dL_law_376 : decode cL_law 376 = .ok (.goto 1548, 3) := dz4 dzo167 14 6 12 1548 rfl dzbL_law_362 rfl
theorem dL_law_379 : decode cL_law 379 = .ok (.aload_n 1, 1) := dz0 dzo43 17 dzbL_law_362 rfl
theorem dL_law_380 : decode cL_law 380 = .ok (.invokevirtual 33, 3) := dz2 dzo182 18 0 33 dzbL_law_362 rfl
theorem dL_law_383 : decode cL_law 383 = .ok (.pop, 1) := dz0 dzo87 21 dzbL_law_362 rfl
theorem dL_law_384 : decode cL_law 384 = .ok (.aload_n 2, 1) := dz0 dzo44 22 dzbL_law_362 rfl
theorem dzbL_law_385 : dzB cL_law 385 [182, 0, 36, 87, 167, 5, 255, 43, 42, 21, 4, 4, 96, 46, 42, 21, 4, 5, 96, 46, 182, 0, 37, 87] := by decide +kernel
theorem dL_law_385 : decode cL_law 385 = .ok (.invokevirtual 36, 3) := dz2 dzo182 0 0 36 dzbL_law_385 rfl
theorem dL_law_388 : decode cL_law 388 = .ok (.pop, 1) := dz0 dzo87 3 dzbL_law_385 rfl
theorem dL_law_389 : decode cL_law 389 = .ok (.goto 1535, 3) := dz4 dzo167 4 5 255 1535 rfl dzbL_law_385 rfl
theorem dL_law_392 : decode cL_law 392 = .ok (.aload_n 1, 1) := dz0 dzo43 7 dzbL_law_385 rfl
theorem dL_law_393 : decode cL_law 393 = .ok (.aload_n 0, 1) := dz0 dzo42 8 dzbL_law_385 rfl
theorem dL_law_394 : decode cL_law 394 = .ok (.iload 4, 2) := dz1 dzo21 9 4 dzbL_law_385 rfl
theorem dL_law_396 : decode cL_law 396 = .ok (.iconst 1, 1) := dz0 dzo4 11 dzbL_law_385 rfl
theorem dL_law_397 : decode cL_law 397 = .ok (.iadd, 1) := dz0 dzo96 12 dzbL_law_385 rfl
theorem dL_law_398 : decode cL_law 398 = .ok (.iaload, 1) := dz0 dzo46 13 dzbL_law_385 rfl
theorem dL_law_399 : decode cL_law 399 = .ok (.aload_n 0, 1) := dz0 dzo42 14 dzbL_law_385 rfl
theorem dL_law_400 : decode cL_law 400 = .ok (.iload 4, 2) := dz1 dzo21 15 4 dzbL_law_385 rfl
theorem dL_law_402 : decode cL_law 402 = .ok (.iconst 2, 1) := dz0 dzo5 17 dzbL_law_385 rfl
theorem dL_law_403 : decode cL_law 403 = .ok (.iadd, 1) := dz0 dzo96 18 dzbL_law_385 rfl
theorem dL_law_404 : decode cL_law 404 = .ok (.iaload, 1) := dz0 dzo46 19 dzbL_law_385 rfl
theorem dL_law_405 : decode cL_law 405 = .ok (.invokevirtual 37, 3) := dz2 dzo182 20 0 37 dzbL_law_385 rfl
theorem dL_law_408 : decode cL_law 408 = .ok (.pop, 1) := dz0 dzo87 23 dzbL_law_385 rfl
theorem dzbL_law_409 : dzB cL_law 409 [44, 42, 21, 4, 4, 96, 46, 42, 21, 4, 5, 96, 46, 182, 0, 41, 87, 167, 5, 218, 43, 42, 21, 4] := by decide +kernel
theorem dL_law_409 : decode cL_law 409 = .ok (.aload_n 2, 1) := dz0 dzo44 0 dzbL_law_409 rfl
theorem dL_law_410 : decode cL_law 410 = .ok (.aload_n 0, 1) := dz0 dzo42 1 dzbL_law_409 rfl
theorem dL_law_411 : decode cL_law 411 = .ok (.iload 4, 2) := dz1 dzo21 2 4 dzbL_law_409 rfl
theorem dL_law_413 : decode cL_law 413 = .ok (.iconst 1, 1) := dz0 dzo4 4 dzbL_law_409 rfl
theorem dL_law_414 : decode cL_law 414 = .ok (.iadd, 1) := dz0 dzo96 5 dzbL_law_409 rfl
theorem dL_law_415 : decode cL_law 415 = .ok (.iaload, 1) := dz0 dzo46 6 dzbL_law_409 rfl
theorem dL_law_416 : decode cL_law 416 = .ok (.aload_n 0, 1) := dz0 dzo42 7 dzbL_law_409 rfl
theorem dL_law_417 : decode cL_law 417 = .ok (.iload 4, 2) := dz1 dzo21 8 4 dzbL_law_409 rfl
theorem dL_law_419 : decode cL_law 419 = .ok (.iconst 2, 1) := dz0 dzo5 10 dzbL_law_409 rfl
theorem dL_law_420 : decode cL_law 420 = .ok (.iadd, 1) := dz0 dzo96 11 dzbL_law_409 rfl
theorem dL_law_421 : decode cL_law 421 = .ok (.iaload, 1) := dz0 dzo46 12 dzbL_law_409 rfl
theorem dL_law_422 : decode cL_law 422 = .ok (.invokevirtual 41, 3) := dz2 dzo182 13 0 41 dzbL_law_409 rfl
theorem dL_law_425 : decode cL_law 425 = .ok (.pop, 1) := dz0 dzo87 16 dzbL_law_409 rfl
theorem dL_law_426 : decode cL_law 426 = .ok (.goto 1498, 3) := dz4 dzo167 17 5 218 1498 rfl dzbL_law_409 rfl
theorem dL_law_429 : decode cL_law 429 = .ok (.aload_n 1, 1) := dz0 dzo43 20 dzbL_law_409 rfl
theorem dL_law_430 : decode cL_law 430 = .ok (.aload_n 0, 1) := dz0 dzo42 21 dzbL_law_409 rfl
theorem dL_law_431 : decode cL_law 431 = .ok (.iload 4, 2) := dz1 dzo21 22 4 dzbL_law_409 rfl
theorem dzbL_law_433 : dzB cL_law 433 [4, 96, 46, 42, 21, 4, 5, 96, 46, 182, 0, 42, 87, 44, 42, 21, 4, 4, 96, 46, 42, 21, 4, 5] := by decide +kernel
theorem dL_law_433 : decode cL_law 433 = .ok (.iconst 1, 1) := dz0 dzo4 0 dzbL_law_433 rfl
theorem dL_law_434 : decode cL_law 434 = .ok (.iadd, 1) := dz0 dzo96 1 dzbL_law_433 rfl
theorem dL_law_435 : decode cL_law 435 = .ok (.iaload, 1) := dz0 dzo46 2 dzbL_law_433 rfl
theorem dL_law_436 : decode cL_law 436 = .ok (.aload_n 0, 1) := dz0 dzo42 3 dzbL_law_433 rfl
theorem dL_law_437 : decode cL_law 437 = .ok (.iload 4, 2) := dz1 dzo21 4 4 dzbL_law_433 rfl
theorem dL_law_439 : decode cL_law 439 = .ok (.iconst 2, 1) := dz0 dzo5 6 dzbL_law_433 rfl
theorem dL_law_440 : decode cL_law 440 = .ok (.iadd, 1) := dz0 dzo96 7 dzbL_law_433 rfl
theorem dL_law_441 : decode cL_law 441 = .ok (.iaload, 1) := dz0 dzo46 8 dzbL_law_433 rfl
theorem dL_law_442 : decode cL_law 442 = .ok (.invokevirtual 42, 3) := dz2 dzo182 9 0 42 dzbL_law_433 rfl
theorem dL_law_445 : decode cL_law 445 = .ok (.pop, 1) := dz0 dzo87 12 dzbL_law_433 rfl
theorem dL_law_446 : decode cL_law 446 = .ok (.aload_n 2, 1) := dz0 dzo44 13 dzbL_law_433 rfl
theorem dL_law_447 : decode cL_law 447 = .ok (.aload_n 0, 1) := dz0 dzo42 14 dzbL_law_433 rfl
theorem dL_law_448 : decode cL_law 448 = .ok (.iload 4, 2) := dz1 dzo21 15 4 dzbL_law_433 rfl
theorem dL_law_450 : decode cL_law 450 = .ok (.iconst 1, 1) := dz0 dzo4 17 dzbL_law_433 rfl
theorem dL_law_451 : decode cL_law 451 = .ok (.iadd, 1) := dz0 dzo96 18 dzbL_law_433 rfl
theorem dL_law_452 : decode cL_law 452 = .ok (.iaload, 1) := dz0 dzo46 19 dzbL_law_433 rfl
theorem dL_law_453 : decode cL_law 453 = .ok (.aload_n 0, 1) := dz0 dzo42 20 dzbL_law_433 rfl
theorem dL_law_454 : decode cL_law 454 = .ok (.iload 4, 2) := dz1 dzo21 21 4 dzbL_law_433 rfl
theorem dL_law_456 : decode cL_law 456 = .ok (.iconst 2, 1) := dz0 dzo5 23 dzbL_law_433 rfl
theorem dzbL_law_457 : dzB cL_law 457 [96, 46, 182, 0, 45, 87, 167, 5, 181, 43, 42, 21, 4, 4, 96, 46, 42, 21, 4, 5, 96, 46, 42] := by decide +kernel
theorem dL_law_457 : decode cL_law 457 = .ok (.iadd, 1) := dz0 dzo96 0 dzbL_law_457 rfl
theorem dL_law_458 : decode cL_law 458 = .ok (.iaload, 1) := dz0 dzo46 1 dzbL_law_457 rfl
theorem dL_law_459 : decode cL_law 459 = .ok (.invokevirtual 45, 3) := dz2 dzo182 2 0 45 dzbL_law_457 rfl
theorem dL_law_462 : decode cL_law 462 = .ok (.pop, 1) := dz0 dzo87 5 dzbL_law_457 rfl
theorem dL_law_463 : decode cL_law 463 = .ok (.goto 1461, 3) := dz4 dzo167 6 5 181 1461 rfl dzbL_law_457 rfl
theorem dL_law_466 : decode cL_law 466 = .ok (.aload_n 1, 1) := dz0 dzo43 9 dzbL_law_457 rfl
theorem dL_law_467 : decode cL_law 467 = .ok (.aload_n 0, 1) := dz0 dzo42 10 dzbL_law_457 rfl
theorem dL_law_468 : decode cL_law 468 = .ok (.iload 4, 2) := dz1 dzo21 11 4 dzbL_law_457 rfl
theorem dL_law_470 : decode cL_law 470 = .ok (.iconst 1, 1) := dz0 dzo4 13 dzbL_law_457 rfl
theorem dL_law_471 : decode cL_law 471 = .ok (.iadd, 1) := dz0 dzo96 14 dzbL_law_457 rfl
theorem dL_law_472 : decode cL_law 472 = .ok (.iaload, 1) := dz0 dzo46 15 dzbL_law_457 rfl
theorem dL_law_473 : decode cL_law 473 = .ok (.aload_n 0, 1) := dz0 dzo42 16 dzbL_law_457 rfl
theorem dL_law_474 : decode cL_law 474 = .ok (.iload 4, 2) := dz1 dzo21 17 4 dzbL_law_457 rfl
theorem dL_law_476 : decode cL_law 476 = .ok (.iconst 2, 1) := dz0 dzo5 19 dzbL_law_457 rfl
theorem dL_law_477 : decode cL_law 477 = .ok (.iadd, 1) := dz0 dzo96 20 dzbL_law_457 rfl
theorem dL_law_478 : decode cL_law 478 = .ok (.iaload, 1) := dz0 dzo46 21 dzbL_law_457 rfl
theorem dL_law_479 : decode cL_law 479 = .ok (.aload_n 0, 1) := dz0 dzo42 22 dzbL_law_457 rfl
theorem dzbL_law_480 : dzB cL_law 480 [21, 4, 6, 96, 46, 182, 0, 46, 87, 44, 42, 21, 4, 4, 96, 46, 42, 21, 4, 5, 96, 46, 42] := by decide +kernel
theorem dL_law_480 : decode cL_law 480 = .ok (.iload 4, 2) := dz1 dzo21 0 4 dzbL_law_480 rfl
theorem dL_law_482 : decode cL_law 482 = .ok (.iconst 3, 1) := dz0 dzo6 2 dzbL_law_480 rfl
theorem dL_law_483 : decode cL_law 483 = .ok (.iadd, 1) := dz0 dzo96 3 dzbL_law_480 rfl
theorem dL_law_484 : decode cL_law 484 = .ok (.iaload, 1) := dz0 dzo46 4 dzbL_law_480 rfl
theorem dL_law_485 : decode cL_law 485 = .ok (.invokevirtual 46, 3) := dz2 dzo182 5 0 46 dzbL_law_480 rfl
theorem dL_law_488 : decode cL_law 488 = .ok (.pop, 1) := dz0 dzo87 8 dzbL_law_480 rfl
theorem dL_law_489 : decode cL_law 489 = .ok (.aload_n 2, 1) := dz0 dzo44 9 dzbL_law_480 rfl
theorem dL_law_490 : decode cL_law 490 = .ok (.aload_n 0, 1) := dz0 dzo42 10 dzbL_law_480 rfl
theorem dL_law_491 : decode cL_law 491 = .ok (.iload 4, 2) := dz1 dzo21 11 4 dzbL_law_480 rfl
theorem dL_law_493 : decode cL_law 493 = .ok (.iconst 1, 1) := dz0 dzo4 13 dzbL_law_480 rfl
theorem dL_law_494 : decode cL_law 494 = .ok (.iadd, 1) := dz0 dzo96 14 dzbL_law_480 rfl
theorem dL_law_495 : decode cL_law 495 = .ok (.iaload, 1) := dz0 dzo46 15 dzbL_law_480 rfl
theorem dL_law_496 : decode cL_law 496 = .ok (.aload_n 0, 1) := dz0 dzo42 16 dzbL_law_480 rfl
theorem dL_law_497 : decode cL_law 497 = .ok (.iload 4, 2) := dz1 dzo21 17 4 dzbL_law_480 rfl
theorem dL_law_499 : decode cL_law 499 = .ok (.iconst 2, 1) := dz0 dzo5 19 dzbL_law_480 rfl
theorem dL_law_500 : decode cL_law 500 = .ok (.iadd, 1) := dz0 dzo96 20 dzbL_law_480 rfl
theorem dL_law_501 : decode cL_law 501 = .ok (.iaload, 1) := dz0 dzo46 21 dzbL_law_480 rfl
theorem dL_law_502 : decode cL_law 502 = .ok (.aload_n 0, 1) := dz0 dzo42 22 dzbL_law_480 rfl
theorem dzbL_law_503 : dzB cL_law 503 [21, 4, 6, 96, 46, 182, 0, 50, 87, 167, 5, 132, 43, 42, 21, 4, 4, 96, 46, 42, 21, 4, 5, 96] := by decide +kernel
theorem dL_law_503 : decode cL_law 503 = .ok (.iload 4, 2) := dz1 dzo21 0 4 dzbL_law_503 rfl
theorem dL_law_505 : decode cL_law 505 = .ok (.iconst 3, 1) := dz0 dzo6 2 dzbL_law_503 rfl
theorem dL_law_506 : decode cL_law 506 = .ok (.iadd, 1) := dz0 dzo96 3 dzbL_law_503 rfl
theorem dL_law_507 : decode cL_law 507 = .ok (.iaload, 1) := dz0 dzo46 4 dzbL_law_503 rfl
theorem dL_law_508 : decode cL_law 508 = .ok (.invokevirtual 50, 3) := dz2 dzo182 5 0 50 dzbL_law_503 rfl
theorem dL_law_511 : decode cL_law 511 = .ok (.pop, 1) := dz0 dzo87 8 dzbL_law_503 rfl
theorem dL_law_512 : decode cL_law 512 = .ok (.goto 1412, 3) := dz4 dzo167 9 5 132 1412 rfl dzbL_law_503 rfl
theorem dL_law_515 : decode cL_law 515 = .ok (.aload_n 1, 1) := dz0 dzo43 12 dzbL_law_503 rfl
theorem dL_law_516 : decode cL_law 516 = .ok (.aload_n 0, 1) := dz0 dzo42 13 dzbL_law_503 rfl
theorem dL_law_517 : decode cL_law 517 = .ok (.iload 4, 2) := dz1 dzo21 14 4 dzbL_law_503 rfl
theorem dL_law_519 : decode cL_law 519 = .ok (.iconst 1, 1) := dz0 dzo4 16 dzbL_law_503 rfl
theorem dL_law_520 : decode cL_law 520 = .ok (.iadd, 1) := dz0 dzo96 17 dzbL_law_503 rfl
theorem dL_law_521 : decode cL_law 521 = .ok (.iaload, 1) := dz0 dzo46 18 dzbL_law_503 rfl
theorem dL_law_522 : decode cL_law 522 = .ok (.aload_n 0, 1) := dz0 dzo42 19 dzbL_law_503 rfl
theorem dL_law_523 : decode cL_law 523 = .ok (.iload 4, 2) := dz1 dzo21 20 4 dzbL_law_503 rfl
theorem dL_law_525 : decode cL_law 525 = .ok (.iconst 2, 1) := dz0 dzo5 22 dzbL_law_503 rfl
theorem dL_law_526 : decode cL_law 526 = .ok (.iadd, 1) := dz0 dzo96 23 dzbL_law_503 rfl
theorem dzbL_law_527 : dzB cL_law 527 [46, 42, 21, 4, 6, 96, 46, 182, 0, 51, 87, 44, 42, 21, 4, 4, 96, 46, 42, 21, 4, 5, 96, 46] := by decide +kernel
theorem dL_law_527 : decode cL_law 527 = .ok (.iaload, 1) := dz0 dzo46 0 dzbL_law_527 rfl
theorem dL_law_528 : decode cL_law 528 = .ok (.aload_n 0, 1) := dz0 dzo42 1 dzbL_law_527 rfl
theorem dL_law_529 : decode cL_law 529 = .ok (.iload 4, 2) := dz1 dzo21 2 4 dzbL_law_527 rfl
theorem dL_law_531 : decode cL_law 531 = .ok (.iconst 3, 1) := dz0 dzo6 4 dzbL_law_527 rfl
theorem dL_law_532 : decode cL_law 532 = .ok (.iadd, 1) := dz0 dzo96 5 dzbL_law_527 rfl
theorem dL_law_533 : decode cL_law 533 = .ok (.iaload, 1) := dz0 dzo46 6 dzbL_law_527 rfl
theorem dL_law_534 : decode cL_law 534 = .ok (.invokevirtual 51, 3) := dz2 dzo182 7 0 51 dzbL_law_527 rfl
theorem dL_law_537 : decode cL_law 537 = .ok (.pop, 1) := dz0 dzo87 10 dzbL_law_527 rfl
theorem dL_law_538 : decode cL_law 538 = .ok (.aload_n 2, 1) := dz0 dzo44 11 dzbL_law_527 rfl
theorem dL_law_539 : decode cL_law 539 = .ok (.aload_n 0, 1) := dz0 dzo42 12 dzbL_law_527 rfl
theorem dL_law_540 : decode cL_law 540 = .ok (.iload 4, 2) := dz1 dzo21 13 4 dzbL_law_527 rfl
theorem dL_law_542 : decode cL_law 542 = .ok (.iconst 1, 1) := dz0 dzo4 15 dzbL_law_527 rfl
theorem dL_law_543 : decode cL_law 543 = .ok (.iadd, 1) := dz0 dzo96 16 dzbL_law_527 rfl
theorem dL_law_544 : decode cL_law 544 = .ok (.iaload, 1) := dz0 dzo46 17 dzbL_law_527 rfl
theorem dL_law_545 : decode cL_law 545 = .ok (.aload_n 0, 1) := dz0 dzo42 18 dzbL_law_527 rfl
theorem dL_law_546 : decode cL_law 546 = .ok (.iload 4, 2) := dz1 dzo21 19 4 dzbL_law_527 rfl
theorem dL_law_548 : decode cL_law 548 = .ok (.iconst 2, 1) := dz0 dzo5 21 dzbL_law_527 rfl
theorem dL_law_549 : decode cL_law 549 = .ok (.iadd, 1) := dz0 dzo96 22 dzbL_law_527 rfl
theorem dL_law_550 : decode cL_law 550 = .ok (.iaload, 1) := dz0 dzo46 23 dzbL_law_527 rfl
theorem dzbL_law_551 : dzB cL_law 551 [42, 21, 4, 6, 96, 46, 182, 0, 54, 87, 167, 5, 83, 43, 42, 21, 4, 4, 96, 46, 182, 0, 55, 87] := by decide +kernel
theorem dL_law_551 : decode cL_law 551 = .ok (.aload_n 0, 1) := dz0 dzo42 0 dzbL_law_551 rfl
theorem dL_law_552 : decode cL_law 552 = .ok (.iload 4, 2) := dz1 dzo21 1 4 dzbL_law_551 rfl
theorem dL_law_554 : decode cL_law 554 = .ok (.iconst 3, 1) := dz0 dzo6 3 dzbL_law_551 rfl
theorem dL_law_555 : decode cL_law 555 = .ok (.iadd, 1) := dz0 dzo96 4 dzbL_law_551 rfl
theorem dL_law_556 : decode cL_law 556 = .ok (.iaload, 1) := dz0 dzo46 5 dzbL_law_551 rfl
theorem dL_law_557 : decode cL_law 557 = .ok (.invokevirtual 54, 3) := dz2 dzo182 6 0 54 dzbL_law_551 rfl
theorem dL_law_560 : decode cL_law 560 = .ok (.pop, 1) := dz0 dzo87 9 dzbL_law_551 rfl
theorem dL_law_561 : decode cL_law 561 = .ok (.goto 1363, 3) := dz4 dzo167 10 5 83 1363 rfl dzbL_law_551 rfl
theorem dL_law_564 : decode cL_law 564 = .ok (.aload_n 1, 1) := dz0 dzo43 13 dzbL_law_551 rfl
theorem dL_law_565 : decode cL_law 565 = .ok (.aload_n 0, 1) := dz0 dzo42 14 dzbL_law_551 rfl
theorem dL_law_566 : decode cL_law 566 = .ok (.iload 4, 2) := dz1 dzo21 15 4 dzbL_law_551 rfl
theorem dL_law_568 : decode cL_law 568 = .ok (.iconst 1, 1) := dz0 dzo4 17 dzbL_law_551 rfl
theorem dL_law_569 : decode cL_law 569 = .ok (.iadd, 1) := dz0 dzo96 18 dzbL_law_551 rfl
theorem dL_law_570 : decode cL_law 570 = .ok (.iaload, 1) := dz0 dzo46 19 dzbL_law_551 rfl
theorem dL_law_571 : decode cL_law 571 = .ok (.invokevirtual 55, 3) := dz2 dzo182 20 0 55 dzbL_law_551 rfl
theorem dL_law_574 : decode cL_law 574 = .ok (.pop, 1) := dz0 dzo87 23 dzbL_law_551 rfl
theorem dzbL_law_575 : dzB cL_law 575 [44, 42, 21, 4, 4, 96, 46, 182, 0, 58, 87, 167, 5, 58, 43, 42, 21, 4, 4, 96, 46, 182, 0, 59] := by decide +kernel
theorem dL_law_575 : decode cL_law 575 = .ok (.aload_n 2, 1) := dz0 dzo44 0 dzbL_law_575 rfl
theorem dL_law_576 : decode cL_law 576 = .ok (.aload_n 0, 1) := dz0 dzo42 1 dzbL_law_575 rfl
theorem dL_law_577 : decode cL_law 577 = .ok (.iload 4, 2) := dz1 dzo21 2 4 dzbL_law_575 rfl
theorem dL_law_579 : decode cL_law 579 = .ok (.iconst 1, 1) := dz0 dzo4 4 dzbL_law_575 rfl
theorem dL_law_580 : decode cL_law 580 = .ok (.iadd, 1) := dz0 dzo96 5 dzbL_law_575 rfl
theorem dL_law_581 : decode cL_law 581 = .ok (.iaload, 1) := dz0 dzo46 6 dzbL_law_575 rfl
theorem dL_law_582 : decode cL_law 582 = .ok (.invokevirtual 58, 3) := dz2 dzo182 7 0 58 dzbL_law_575 rfl
theorem dL_law_585 : decode cL_law 585 = .ok (.pop, 1) := dz0 dzo87 10 dzbL_law_575 rfl
theorem dL_law_586 : decode cL_law 586 = .ok (.goto 1338, 3) := dz4 dzo167 11 5 58 1338 rfl dzbL_law_575 rfl
theorem dL_law_589 : decode cL_law 589 = .ok (.aload_n 1, 1) := dz0 dzo43 14 dzbL_law_575 rfl
theorem dL_law_590 : decode cL_law 590 = .ok (.aload_n 0, 1) := dz0 dzo42 15 dzbL_law_575 rfl
theorem dL_law_591 : decode cL_law 591 = .ok (.iload 4, 2) := dz1 dzo21 16 4 dzbL_law_575 rfl
theorem dL_law_593 : decode cL_law 593 = .ok (.iconst 1, 1) := dz0 dzo4 18 dzbL_law_575 rfl
theorem dL_law_594 : decode cL_law 594 = .ok (.iadd, 1) := dz0 dzo96 19 dzbL_law_575 rfl
theorem dL_law_595 : decode cL_law 595 = .ok (.iaload, 1) := dz0 dzo46 20 dzbL_law_575 rfl
theorem dL_law_596 : decode cL_law 596 = .ok (.invokevirtual 59, 3) := dz2 dzo182 21 0 59 dzbL_law_575 rfl
theorem dzbL_law_599 : dzB cL_law 599 [87, 44, 42, 21, 4, 4, 96, 46, 182, 0, 62, 87, 167, 5, 33, 43, 42, 21, 4, 4, 96, 46] := by decide +kernel
theorem dL_law_599 : decode cL_law 599 = .ok (.pop, 1) := dz0 dzo87 0 dzbL_law_599 rfl
theorem dL_law_600 : decode cL_law 600 = .ok (.aload_n 2, 1) := dz0 dzo44 1 dzbL_law_599 rfl
theorem dL_law_601 : decode cL_law 601 = .ok (.aload_n 0, 1) := dz0 dzo42 2 dzbL_law_599 rfl
theorem dL_law_602 : decode cL_law 602 = .ok (.iload 4, 2) := dz1 dzo21 3 4 dzbL_law_599 rfl
theorem dL_law_604 : decode cL_law 604 = .ok (.iconst 1, 1) := dz0 dzo4 5 dzbL_law_599 rfl
theorem dL_law_605 : decode cL_law 605 = .ok (.iadd, 1) := dz0 dzo96 6 dzbL_law_599 rfl
theorem dL_law_606 : decode cL_law 606 = .ok (.iaload, 1) := dz0 dzo46 7 dzbL_law_599 rfl
theorem dL_law_607 : decode cL_law 607 = .ok (.invokevirtual 62, 3) := dz2 dzo182 8 0 62 dzbL_law_599 rfl
theorem dL_law_610 : decode cL_law 610 = .ok (.pop, 1) := dz0 dzo87 11 dzbL_law_599 rfl
theorem dL_law_611 : decode cL_law 611 = .ok (.goto 1313, 3) := dz4 dzo167 12 5 33 1313 rfl dzbL_law_599 rfl
theorem dL_law_614 : decode cL_law 614 = .ok (.aload_n 1, 1) := dz0 dzo43 15 dzbL_law_599 rfl
theorem dL_law_615 : decode cL_law 615 = .ok (.aload_n 0, 1) := dz0 dzo42 16 dzbL_law_599 rfl
theorem dL_law_616 : decode cL_law 616 = .ok (.iload 4, 2) := dz1 dzo21 17 4 dzbL_law_599 rfl
theorem dL_law_618 : decode cL_law 618 = .ok (.iconst 1, 1) := dz0 dzo4 19 dzbL_law_599 rfl
theorem dL_law_619 : decode cL_law 619 = .ok (.iadd, 1) := dz0 dzo96 20 dzbL_law_599 rfl
theorem dL_law_620 : decode cL_law 620 = .ok (.iaload, 1) := dz0 dzo46 21 dzbL_law_599 rfl
theorem dzbL_law_621 : dzB cL_law 621 [182, 0, 63, 87, 44, 42, 21, 4, 4, 96, 46, 182, 0, 66, 87, 167, 5, 8, 43, 42, 21, 4, 4, 96] := by decide +kernel
theorem dL_law_621 : decode cL_law 621 = .ok (.invokevirtual 63, 3) := dz2 dzo182 0 0 63 dzbL_law_621 rfl
theorem dL_law_624 : decode cL_law 624 = .ok (.pop, 1) := dz0 dzo87 3 dzbL_law_621 rfl
theorem dL_law_625 : decode cL_law 625 = .ok (.aload_n 2, 1) := dz0 dzo44 4 dzbL_law_621 rfl
theorem dL_law_626 : decode cL_law 626 = .ok (.aload_n 0, 1) := dz0 dzo42 5 dzbL_law_621 rfl
theorem dL_law_627 : decode cL_law 627 = .ok (.iload 4, 2) := dz1 dzo21 6 4 dzbL_law_621 rfl
theorem dL_law_629 : decode cL_law 629 = .ok (.iconst 1, 1) := dz0 dzo4 8 dzbL_law_621 rfl
theorem dL_law_630 : decode cL_law 630 = .ok (.iadd, 1) := dz0 dzo96 9 dzbL_law_621 rfl
theorem dL_law_631 : decode cL_law 631 = .ok (.iaload, 1) := dz0 dzo46 10 dzbL_law_621 rfl
theorem dL_law_632 : decode cL_law 632 = .ok (.invokevirtual 66, 3) := dz2 dzo182 11 0 66 dzbL_law_621 rfl
theorem dL_law_635 : decode cL_law 635 = .ok (.pop, 1) := dz0 dzo87 14 dzbL_law_621 rfl
theorem dL_law_636 : decode cL_law 636 = .ok (.goto 1288, 3) := dz4 dzo167 15 5 8 1288 rfl dzbL_law_621 rfl
theorem dL_law_639 : decode cL_law 639 = .ok (.aload_n 1, 1) := dz0 dzo43 18 dzbL_law_621 rfl
theorem dL_law_640 : decode cL_law 640 = .ok (.aload_n 0, 1) := dz0 dzo42 19 dzbL_law_621 rfl
theorem dL_law_641 : decode cL_law 641 = .ok (.iload 4, 2) := dz1 dzo21 20 4 dzbL_law_621 rfl
theorem dL_law_643 : decode cL_law 643 = .ok (.iconst 1, 1) := dz0 dzo4 22 dzbL_law_621 rfl
theorem dL_law_644 : decode cL_law 644 = .ok (.iadd, 1) := dz0 dzo96 23 dzbL_law_621 rfl
theorem dzbL_law_645 : dzB cL_law 645 [46, 42, 21, 4, 5, 96, 46, 182, 0, 67, 87, 44, 42, 21, 4, 4, 96, 46, 42, 21, 4, 5, 96, 46] := by decide +kernel
theorem dL_law_645 : decode cL_law 645 = .ok (.iaload, 1) := dz0 dzo46 0 dzbL_law_645 rfl
theorem dL_law_646 : decode cL_law 646 = .ok (.aload_n 0, 1) := dz0 dzo42 1 dzbL_law_645 rfl
theorem dL_law_647 : decode cL_law 647 = .ok (.iload 4, 2) := dz1 dzo21 2 4 dzbL_law_645 rfl
theorem dL_law_649 : decode cL_law 649 = .ok (.iconst 2, 1) := dz0 dzo5 4 dzbL_law_645 rfl
theorem dL_law_650 : decode cL_law 650 = .ok (.iadd, 1) := dz0 dzo96 5 dzbL_law_645 rfl
theorem dL_law_651 : decode cL_law 651 = .ok (.iaload, 1) := dz0 dzo46 6 dzbL_law_645 rfl
theorem dL_law_652 : decode cL_law 652 = .ok (.invokevirtual 67, 3) := dz2 dzo182 7 0 67 dzbL_law_645 rfl
theorem dL_law_655 : decode cL_law 655 = .ok (.pop, 1) := dz0 dzo87 10 dzbL_law_645 rfl
theorem dL_law_656 : decode cL_law 656 = .ok (.aload_n 2, 1) := dz0 dzo44 11 dzbL_law_645 rfl
theorem dL_law_657 : decode cL_law 657 = .ok (.aload_n 0, 1) := dz0 dzo42 12 dzbL_law_645 rfl
theorem dL_law_658 : decode cL_law 658 = .ok (.iload 4, 2) := dz1 dzo21 13 4 dzbL_law_645 rfl
theorem dL_law_660 : decode cL_law 660 = .ok (.iconst 1, 1) := dz0 dzo4 15 dzbL_law_645 rfl
theorem dL_law_661 : decode cL_law 661 = .ok (.iadd, 1) := dz0 dzo96 16 dzbL_law_645 rfl
theorem dL_law_662 : decode cL_law 662 = .ok (.iaload, 1) := dz0 dzo46 17 dzbL_law_645 rfl
theorem dL_law_663 : decode cL_law 663 = .ok (.aload_n 0, 1) := dz0 dzo42 18 dzbL_law_645 rfl
theorem dL_law_664 : decode cL_law 664 = .ok (.iload 4, 2) := dz1 dzo21 19 4 dzbL_law_645 rfl
theorem dL_law_666 : decode cL_law 666 = .ok (.iconst 2, 1) := dz0 dzo5 21 dzbL_law_645 rfl
theorem dL_law_667 : decode cL_law 667 = .ok (.iadd, 1) := dz0 dzo96 22 dzbL_law_645 rfl
theorem dL_law_668 : decode cL_law 668 = .ok (.iaload, 1) := dz0 dzo46 23 dzbL_law_645 rfl
theorem dzbL_law_669 : dzB cL_law 669 [182, 0, 70, 87, 167, 4, 227, 43, 42, 21, 4, 4, 96, 46, 182, 0, 71, 87, 44, 42, 21, 4, 4, 96] := by decide +kernel
theorem dL_law_669 : decode cL_law 669 = .ok (.invokevirtual 70, 3) := dz2 dzo182 0 0 70 dzbL_law_669 rfl
theorem dL_law_672 : decode cL_law 672 = .ok (.pop, 1) := dz0 dzo87 3 dzbL_law_669 rfl
theorem dL_law_673 : decode cL_law 673 = .ok (.goto 1251, 3) := dz4 dzo167 4 4 227 1251 rfl dzbL_law_669 rfl
theorem dL_law_676 : decode cL_law 676 = .ok (.aload_n 1, 1) := dz0 dzo43 7 dzbL_law_669 rfl
theorem dL_law_677 : decode cL_law 677 = .ok (.aload_n 0, 1) := dz0 dzo42 8 dzbL_law_669 rfl
theorem dL_law_678 : decode cL_law 678 = .ok (.iload 4, 2) := dz1 dzo21 9 4 dzbL_law_669 rfl
theorem dL_law_680 : decode cL_law 680 = .ok (.iconst 1, 1) := dz0 dzo4 11 dzbL_law_669 rfl
theorem dL_law_681 : decode cL_law 681 = .ok (.iadd, 1) := dz0 dzo96 12 dzbL_law_669 rfl
theorem dL_law_682 : decode cL_law 682 = .ok (.iaload, 1) := dz0 dzo46 13 dzbL_law_669 rfl
theorem dL_law_683 : decode cL_law 683 = .ok (.invokevirtual 71, 3) := dz2 dzo182 14 0 71 dzbL_law_669 rfl
theorem dL_law_686 : decode cL_law 686 = .ok (.pop, 1) := dz0 dzo87 17 dzbL_law_669 rfl
theorem dL_law_687 : decode cL_law 687 = .ok (.aload_n 2, 1) := dz0 dzo44 18 dzbL_law_669 rfl
theorem dL_law_688 : decode cL_law 688 = .ok (.aload_n 0, 1) := dz0 dzo42 19 dzbL_law_669 rfl
theorem dL_law_689 : decode cL_law 689 = .ok (.iload 4, 2) := dz1 dzo21 20 4 dzbL_law_669 rfl
theorem dL_law_691 : decode cL_law 691 = .ok (.iconst 1, 1) := dz0 dzo4 22 dzbL_law_669 rfl
theorem dL_law_692 : decode cL_law 692 = .ok (.iadd, 1) := dz0 dzo96 23 dzbL_law_669 rfl
theorem dzbL_law_693 : dzB cL_law 693 [46, 182, 0, 74, 87, 167, 4, 202, 43, 42, 21, 4, 4, 96, 46, 182, 0, 75, 87, 44, 42, 21, 4, 4] := by decide +kernel
theorem dL_law_693 : decode cL_law 693 = .ok (.iaload, 1) := dz0 dzo46 0 dzbL_law_693 rfl
theorem dL_law_694 : decode cL_law 694 = .ok (.invokevirtual 74, 3) := dz2 dzo182 1 0 74 dzbL_law_693 rfl
theorem dL_law_697 : decode cL_law 697 = .ok (.pop, 1) := dz0 dzo87 4 dzbL_law_693 rfl
theorem dL_law_698 : decode cL_law 698 = .ok (.goto 1226, 3) := dz4 dzo167 5 4 202 1226 rfl dzbL_law_693 rfl
theorem dL_law_701 : decode cL_law 701 = .ok (.aload_n 1, 1) := dz0 dzo43 8 dzbL_law_693 rfl
theorem dL_law_702 : decode cL_law 702 = .ok (.aload_n 0, 1) := dz0 dzo42 9 dzbL_law_693 rfl
theorem dL_law_703 : decode cL_law 703 = .ok (.iload 4, 2) := dz1 dzo21 10 4 dzbL_law_693 rfl
theorem dL_law_705 : decode cL_law 705 = .ok (.iconst 1, 1) := dz0 dzo4 12 dzbL_law_693 rfl
theorem dL_law_706 : decode cL_law 706 = .ok (.iadd, 1) := dz0 dzo96 13 dzbL_law_693 rfl
theorem dL_law_707 : decode cL_law 707 = .ok (.iaload, 1) := dz0 dzo46 14 dzbL_law_693 rfl
theorem dL_law_708 : decode cL_law 708 = .ok (.invokevirtual 75, 3) := dz2 dzo182 15 0 75 dzbL_law_693 rfl
theorem dL_law_711 : decode cL_law 711 = .ok (.pop, 1) := dz0 dzo87 18 dzbL_law_693 rfl
theorem dL_law_712 : decode cL_law 712 = .ok (.aload_n 2, 1) := dz0 dzo44 19 dzbL_law_693 rfl
theorem dL_law_713 : decode cL_law 713 = .ok (.aload_n 0, 1) := dz0 dzo42 20 dzbL_law_693 rfl
theorem dL_law_714 : decode cL_law 714 = .ok (.iload 4, 2) := dz1 dzo21 21 4 dzbL_law_693 rfl
theorem dL_law_716 : decode cL_law 716 = .ok (.iconst 1, 1) := dz0 dzo4 23 dzbL_law_693 rfl
theorem dzbL_law_717 : dzB cL_law 717 [96, 46, 182, 0, 78, 87, 167, 4, 177, 43, 42, 21, 4, 4, 96, 46, 42, 21, 4, 5, 96, 46] := by decide +kernel
theorem dL_law_717 : decode cL_law 717 = .ok (.iadd, 1) := dz0 dzo96 0 dzbL_law_717 rfl
theorem dL_law_718 : decode cL_law 718 = .ok (.iaload, 1) := dz0 dzo46 1 dzbL_law_717 rfl
theorem dL_law_719 : decode cL_law 719 = .ok (.invokevirtual 78, 3) := dz2 dzo182 2 0 78 dzbL_law_717 rfl
theorem dL_law_722 : decode cL_law 722 = .ok (.pop, 1) := dz0 dzo87 5 dzbL_law_717 rfl
theorem dL_law_723 : decode cL_law 723 = .ok (.goto 1201, 3) := dz4 dzo167 6 4 177 1201 rfl dzbL_law_717 rfl
theorem dL_law_726 : decode cL_law 726 = .ok (.aload_n 1, 1) := dz0 dzo43 9 dzbL_law_717 rfl
theorem dL_law_727 : decode cL_law 727 = .ok (.aload_n 0, 1) := dz0 dzo42 10 dzbL_law_717 rfl
theorem dL_law_728 : decode cL_law 728 = .ok (.iload 4, 2) := dz1 dzo21 11 4 dzbL_law_717 rfl
theorem dL_law_730 : decode cL_law 730 = .ok (.iconst 1, 1) := dz0 dzo4 13 dzbL_law_717 rfl
theorem dL_law_731 : decode cL_law 731 = .ok (.iadd, 1) := dz0 dzo96 14 dzbL_law_717 rfl
theorem dL_law_732 : decode cL_law 732 = .ok (.iaload, 1) := dz0 dzo46 15 dzbL_law_717 rfl
theorem dL_law_733 : decode cL_law 733 = .ok (.aload_n 0, 1) := dz0 dzo42 16 dzbL_law_717 rfl
theorem dL_law_734 : decode cL_law 734 = .ok (.iload 4, 2) := dz1 dzo21 17 4 dzbL_law_717 rfl
theorem dL_law_736 : decode cL_law 736 = .ok (.iconst 2, 1) := dz0 dzo5 19 dzbL_law_717 rfl
theorem dL_law_737 : decode cL_law 737 = .ok (.iadd, 1) := dz0 dzo96 20 dzbL_law_717 rfl
theorem dL_law_738 : decode cL_law 738 = .ok (.iaload, 1) := dz0 dzo46 21 dzbL_law_717 rfl
theorem dzbL_law_739 : dzB cL_law 739 [182, 0, 79, 87, 44, 42, 21, 4, 4, 96, 46, 42, 21, 4, 5, 96, 46, 182, 0, 82, 87, 167, 4, 140] := by decide +kernel
theorem dL_law_739 : decode cL_law 739 = .ok (.invokevirtual 79, 3) := dz2 dzo182 0 0 79 dzbL_law_739 rfl
theorem dL_law_742 : decode cL_law 742 = .ok (.pop, 1) := dz0 dzo87 3 dzbL_law_739 rfl
theorem dL_law_743 : decode cL_law 743 = .ok (.aload_n 2, 1) := dz0 dzo44 4 dzbL_law_739 rfl
theorem dL_law_744 : decode cL_law 744 = .ok (.aload_n 0, 1) := dz0 dzo42 5 dzbL_law_739 rfl
theorem dL_law_745 : decode cL_law 745 = .ok (.iload 4, 2) := dz1 dzo21 6 4 dzbL_law_739 rfl
theorem dL_law_747 : decode cL_law 747 = .ok (.iconst 1, 1) := dz0 dzo4 8 dzbL_law_739 rfl
theorem dL_law_748 : decode cL_law 748 = .ok (.iadd, 1) := dz0 dzo96 9 dzbL_law_739 rfl
theorem dL_law_749 : decode cL_law 749 = .ok (.iaload, 1) := dz0 dzo46 10 dzbL_law_739 rfl
theorem dL_law_750 : decode cL_law 750 = .ok (.aload_n 0, 1) := dz0 dzo42 11 dzbL_law_739 rfl
theorem dL_law_751 : decode cL_law 751 = .ok (.iload 4, 2) := dz1 dzo21 12 4 dzbL_law_739 rfl
theorem dL_law_753 : decode cL_law 753 = .ok (.iconst 2, 1) := dz0 dzo5 14 dzbL_law_739 rfl
theorem dL_law_754 : decode cL_law 754 = .ok (.iadd, 1) := dz0 dzo96 15 dzbL_law_739 rfl
theorem dL_law_755 : decode cL_law 755 = .ok (.iaload, 1) := dz0 dzo46 16 dzbL_law_739 rfl
theorem dL_law_756 : decode cL_law 756 = .ok (.invokevirtual 82, 3) := dz2 dzo182 17 0 82 dzbL_law_739 rfl
theorem dL_law_759 : decode cL_law 759 = .ok (.pop, 1) := dz0 dzo87 20 dzbL_law_739 rfl
theorem dL_law_760 : decode cL_law 760 = .ok (.goto 1164, 3) := dz4 dzo167 21 4 140 1164 rfl dzbL_law_739 rfl
theorem dzbL_law_763 : dzB cL_law 763 [43, 42, 21, 4, 4, 96, 46, 182, 0, 83, 87, 44, 42, 21, 4, 4, 96, 46, 182, 0, 86, 87] := by decide +kernel
theorem dL_law_763 : decode cL_law 763 = .ok (.aload_n 1, 1) := dz0 dzo43 0 dzbL_law_763 rfl
theorem dL_law_764 : decode cL_law 764 = .ok (.aload_n 0, 1) := dz0 dzo42 1 dzbL_law_763 rfl
theorem dL_law_765 : decode cL_law 765 = .ok (.iload 4, 2) := dz1 dzo21 2 4 dzbL_law_763 rfl
theorem dL_law_767 : decode cL_law 767 = .ok (.iconst 1, 1) := dz0 dzo4 4 dzbL_law_763 rfl
theorem dL_law_768 : decode cL_law 768 = .ok (.iadd, 1) := dz0 dzo96 5 dzbL_law_763 rfl
theorem dL_law_769 : decode cL_law 769 = .ok (.iaload, 1) := dz0 dzo46 6 dzbL_law_763 rfl
theorem dL_law_770 : decode cL_law 770 = .ok (.invokevirtual 83, 3) := dz2 dzo182 7 0 83 dzbL_law_763 rfl
theorem dL_law_773 : decode cL_law 773 = .ok (.pop, 1) := dz0 dzo87 10 dzbL_law_763 rfl
theorem dL_law_774 : decode cL_law 774 = .ok (.aload_n 2, 1) := dz0 dzo44 11 dzbL_law_763 rfl
theorem dL_law_775 : decode cL_law 775 = .ok (.aload_n 0, 1) := dz0 dzo42 12 dzbL_law_763 rfl
theorem dL_law_776 : decode cL_law 776 = .ok (.iload 4, 2) := dz1 dzo21 13 4 dzbL_law_763 rfl
theorem dL_law_778 : decode cL_law 778 = .ok (.iconst 1, 1) := dz0 dzo4 15 dzbL_law_763 rfl
theorem dL_law_779 : decode cL_law 779 = .ok (.iadd, 1) := dz0 dzo96 16 dzbL_law_763 rfl
theorem dL_law_780 : decode cL_law 780 = .ok (.iaload, 1) := dz0 dzo46 17 dzbL_law_763 rfl
theorem dL_law_781 : decode cL_law 781 = .ok (.invokevirtual 86, 3) := dz2 dzo182 18 0 86 dzbL_law_763 rfl
theorem dL_law_784 : decode cL_law 784 = .ok (.pop, 1) := dz0 dzo87 21 dzbL_law_763 rfl
theorem dzbL_law_785 : dzB cL_law 785 [167, 4, 115, 43, 42, 21, 4, 4, 96, 46, 42, 21, 4, 5, 96, 46, 182, 0, 87, 87, 44, 42, 21, 4] := by decide +kernel
theorem dL_law_785 : decode cL_law 785 = .ok (.goto 1139, 3) := dz4 dzo167 0 4 115 1139 rfl dzbL_law_785 rfl
theorem dL_law_788 : decode cL_law 788 = .ok (.aload_n 1, 1) := dz0 dzo43 3 dzbL_law_785 rfl
theorem dL_law_789 : decode cL_law 789 = .ok (.aload_n 0, 1) := dz0 dzo42 4 dzbL_law_785 rfl
theorem dL_law_790 : decode cL_law 790 = .ok (.iload 4, 2) := dz1 dzo21 5 4 dzbL_law_785 rfl
theorem dL_law_792 : decode cL_law 792 = .ok (.iconst 1, 1) := dz0 dzo4 7 dzbL_law_785 rfl
theorem dL_law_793 : decode cL_law 793 = .ok (.iadd, 1) := dz0 dzo96 8 dzbL_law_785 rfl
theorem dL_law_794 : decode cL_law 794 = .ok (.iaload, 1) := dz0 dzo46 9 dzbL_law_785 rfl
theorem dL_law_795 : decode cL_law 795 = .ok (.aload_n 0, 1) := dz0 dzo42 10 dzbL_law_785 rfl
theorem dL_law_796 : decode cL_law 796 = .ok (.iload 4, 2) := dz1 dzo21 11 4 dzbL_law_785 rfl
theorem dL_law_798 : decode cL_law 798 = .ok (.iconst 2, 1) := dz0 dzo5 13 dzbL_law_785 rfl
theorem dL_law_799 : decode cL_law 799 = .ok (.iadd, 1) := dz0 dzo96 14 dzbL_law_785 rfl
theorem dL_law_800 : decode cL_law 800 = .ok (.iaload, 1) := dz0 dzo46 15 dzbL_law_785 rfl
theorem dL_law_801 : decode cL_law 801 = .ok (.invokevirtual 87, 3) := dz2 dzo182 16 0 87 dzbL_law_785 rfl
theorem dL_law_804 : decode cL_law 804 = .ok (.pop, 1) := dz0 dzo87 19 dzbL_law_785 rfl
theorem dL_law_805 : decode cL_law 805 = .ok (.aload_n 2, 1) := dz0 dzo44 20 dzbL_law_785 rfl
theorem dL_law_806 : decode cL_law 806 = .ok (.aload_n 0, 1) := dz0 dzo42 21 dzbL_law_785 rfl
theorem dL_law_807 : decode cL_law 807 = .ok (.iload 4, 2) := dz1 dzo21 22 4 dzbL_law_785 rfl
theorem dzbL_law_809 : dzB cL_law 809 [4, 96, 46, 42, 21, 4, 5, 96, 46, 182, 0, 90, 87, 167, 4, 78, 43, 42, 21, 4, 4, 96, 46, 42] := by decide +kernel
theorem dL_law_809 : decode cL_law 809 = .ok (.iconst 1, 1) := dz0 dzo4 0 dzbL_law_809 rfl
theorem dL_law_810 : decode cL_law 810 = .ok (.iadd, 1) := dz0 dzo96 1 dzbL_law_809 rfl
theorem dL_law_811 : decode cL_law 811 = .ok (.iaload, 1) := dz0 dzo46 2 dzbL_law_809 rfl
theorem dL_law_812 : decode cL_law 812 = .ok (.aload_n 0, 1) := dz0 dzo42 3 dzbL_law_809 rfl
theorem dL_law_813 : decode cL_law 813 = .ok (.iload 4, 2) := dz1 dzo21 4 4 dzbL_law_809 rfl
theorem dL_law_815 : decode cL_law 815 = .ok (.iconst 2, 1) := dz0 dzo5 6 dzbL_law_809 rfl
theorem dL_law_816 : decode cL_law 816 = .ok (.iadd, 1) := dz0 dzo96 7 dzbL_law_809 rfl
theorem dL_law_817 : decode cL_law 817 = .ok (.iaload, 1) := dz0 dzo46 8 dzbL_law_809 rfl
theorem dL_law_818 : decode cL_law 818 = .ok (.invokevirtual 90, 3) := dz2 dzo182 9 0 90 dzbL_law_809 rfl
theorem dL_law_821 : decode cL_law 821 = .ok (.pop, 1) := dz0 dzo87 12 dzbL_law_809 rfl
theorem dL_law_822 : decode cL_law 822 = .ok (.goto 1102, 3) := dz4 dzo167 13 4 78 1102 rfl dzbL_law_809 rfl
theorem dL_law_825 : decode cL_law 825 = .ok (.aload_n 1, 1) := dz0 dzo43 16 dzbL_law_809 rfl
theorem dL_law_826 : decode cL_law 826 = .ok (.aload_n 0, 1) := dz0 dzo42 17 dzbL_law_809 rfl
theorem dL_law_827 : decode cL_law 827 = .ok (.iload 4, 2) := dz1 dzo21 18 4 dzbL_law_809 rfl
theorem dL_law_829 : decode cL_law 829 = .ok (.iconst 1, 1) := dz0 dzo4 20 dzbL_law_809 rfl
theorem dL_law_830 : decode cL_law 830 = .ok (.iadd, 1) := dz0 dzo96 21 dzbL_law_809 rfl
theorem dL_law_831 : decode cL_law 831 = .ok (.iaload, 1) := dz0 dzo46 22 dzbL_law_809 rfl
theorem dL_law_832 : decode cL_law 832 = .ok (.aload_n 0, 1) := dz0 dzo42 23 dzbL_law_809 rfl
theorem dzbL_law_833 : dzB cL_law 833 [21, 4, 5, 96, 46, 182, 0, 91, 87, 44, 42, 21, 4, 4, 96, 46, 42, 21, 4, 5, 96, 46] := by decide +kernel
theorem dL_law_833 : decode cL_law 833 = .ok (.iload 4, 2) := dz1 dzo21 0 4 dzbL_law_833 rfl
theorem dL_law_835 : decode cL_law 835 = .ok (.iconst 2, 1) := dz0 dzo5 2 dzbL_law_833 rfl
theorem dL_law_836 : decode cL_law 836 = .ok (.iadd, 1) := dz0 dzo96 3 dzbL_law_833 rfl
theorem dL_law_837 : decode cL_law 837 = .ok (.iaload, 1) := dz0 dzo46 4 dzbL_law_833 rfl
theorem dL_law_838 : decode cL_law 838 = .ok (.invokevirtual 91, 3) := dz2 dzo182 5 0 91 dzbL_law_833 rfl
theorem dL_law_841 : decode cL_law 841 = .ok (.pop, 1) := dz0 dzo87 8 dzbL_law_833 rfl
theorem dL_law_842 : decode cL_law 842 = .ok (.aload_n 2, 1) := dz0 dzo44 9 dzbL_law_833 rfl
theorem dL_law_843 : decode cL_law 843 = .ok (.aload_n 0, 1) := dz0 dzo42 10 dzbL_law_833 rfl
theorem dL_law_844 : decode cL_law 844 = .ok (.iload 4, 2) := dz1 dzo21 11 4 dzbL_law_833 rfl
theorem dL_law_846 : decode cL_law 846 = .ok (.iconst 1, 1) := dz0 dzo4 13 dzbL_law_833 rfl
theorem dL_law_847 : decode cL_law 847 = .ok (.iadd, 1) := dz0 dzo96 14 dzbL_law_833 rfl
theorem dL_law_848 : decode cL_law 848 = .ok (.iaload, 1) := dz0 dzo46 15 dzbL_law_833 rfl
theorem dL_law_849 : decode cL_law 849 = .ok (.aload_n 0, 1) := dz0 dzo42 16 dzbL_law_833 rfl
theorem dL_law_850 : decode cL_law 850 = .ok (.iload 4, 2) := dz1 dzo21 17 4 dzbL_law_833 rfl
theorem dL_law_852 : decode cL_law 852 = .ok (.iconst 2, 1) := dz0 dzo5 19 dzbL_law_833 rfl
theorem dL_law_853 : decode cL_law 853 = .ok (.iadd, 1) := dz0 dzo96 20 dzbL_law_833 rfl
theorem dL_law_854 : decode cL_law 854 = .ok (.iaload, 1) := dz0 dzo46 21 dzbL_law_833 rfl
theorem dzbL_law_855 : dzB cL_law 855 [182, 0, 94, 87, 167, 4, 41, 43, 182, 0, 95, 87, 44, 182, 0, 98, 87, 167, 4, 28, 43, 42, 21, 4] := by decide +kernel
theorem dL_law_855 : decode cL_law 855 = .ok (.invokevirtual 94, 3) := dz2 dzo182 0 0 94 dzbL_law_855 rfl
theorem dL_law_858 : decode cL_law 858 = .ok (.pop, 1) := dz0 dzo87 3 dzbL_law_855 rfl
theorem dL_law_859 : decode cL_law 859 = .ok (.goto 1065, 3) := dz4 dzo167 4 4 41 1065 rfl dzbL_law_855 rfl
theorem dL_law_862 : decode cL_law 862 = .ok (.aload_n 1, 1) := dz0 dzo43 7 dzbL_law_855 rfl
theorem dL_law_863 : decode cL_law 863 = .ok (.invokevirtual 95, 3) := dz2 dzo182 8 0 95 dzbL_law_855 rfl
theorem dL_law_866 : decode cL_law 866 = .ok (.pop, 1) := dz0 dzo87 11 dzbL_law_855 rfl
theorem dL_law_867 : decode cL_law 867 = .ok (.aload_n 2, 1) := dz0 dzo44 12 dzbL_law_855 rfl
theorem dL_law_868 : decode cL_law 868 = .ok (.invokevirtual 98, 3) := dz2 dzo182 13 0 98 dzbL_law_855 rfl
theorem dL_law_871 : decode cL_law 871 = .ok (.pop, 1) := dz0 dzo87 16 dzbL_law_855 rfl
theorem dL_law_872 : decode cL_law 872 = .ok (.goto 1052, 3) := dz4 dzo167 17 4 28 1052 rfl dzbL_law_855 rfl
theorem dL_law_875 : decode cL_law 875 = .ok (.aload_n 1, 1) := dz0 dzo43 20 dzbL_law_855 rfl
theorem dL_law_876 : decode cL_law 876 = .ok (.aload_n 0, 1) := dz0 dzo42 21 dzbL_law_855 rfl
theorem dL_law_877 : decode cL_law 877 = .ok (.iload 4, 2) := dz1 dzo21 22 4 dzbL_law_855 rfl
theorem dzbL_law_879 : dzB cL_law 879 [4, 96, 46, 182, 0, 99, 87, 44, 42, 21, 4, 4, 96, 46, 182, 0, 102, 87, 167, 4, 3, 43] := by decide +kernel
theorem dL_law_879 : decode cL_law 879 = .ok (.iconst 1, 1) := dz0 dzo4 0 dzbL_law_879 rfl
theorem dL_law_880 : decode cL_law 880 = .ok (.iadd, 1) := dz0 dzo96 1 dzbL_law_879 rfl
theorem dL_law_881 : decode cL_law 881 = .ok (.iaload, 1) := dz0 dzo46 2 dzbL_law_879 rfl
theorem dL_law_882 : decode cL_law 882 = .ok (.invokevirtual 99, 3) := dz2 dzo182 3 0 99 dzbL_law_879 rfl
theorem dL_law_885 : decode cL_law 885 = .ok (.pop, 1) := dz0 dzo87 6 dzbL_law_879 rfl
theorem dL_law_886 : decode cL_law 886 = .ok (.aload_n 2, 1) := dz0 dzo44 7 dzbL_law_879 rfl
theorem dL_law_887 : decode cL_law 887 = .ok (.aload_n 0, 1) := dz0 dzo42 8 dzbL_law_879 rfl
theorem dL_law_888 : decode cL_law 888 = .ok (.iload 4, 2) := dz1 dzo21 9 4 dzbL_law_879 rfl
theorem dL_law_890 : decode cL_law 890 = .ok (.iconst 1, 1) := dz0 dzo4 11 dzbL_law_879 rfl
theorem dL_law_891 : decode cL_law 891 = .ok (.iadd, 1) := dz0 dzo96 12 dzbL_law_879 rfl
theorem dL_law_892 : decode cL_law 892 = .ok (.iaload, 1) := dz0 dzo46 13 dzbL_law_879 rfl
theorem dL_law_893 : decode cL_law 893 = .ok (.invokevirtual 102, 3) := dz2 dzo182 14 0 102 dzbL_law_879 rfl
theorem dL_law_896 : decode cL_law 896 = .ok (.pop, 1) := dz0 dzo87 17 dzbL_law_879 rfl
theorem dL_law_897 : decode cL_law 897 = .ok (.goto 1027, 3) := dz4 dzo167 18 4 3 1027 rfl dzbL_law_879 rfl
theorem dL_law_900 : decode cL_law 900 = .ok (.aload_n 1, 1) := dz0 dzo43 21 dzbL_law_879 rfl
theorem dzbL_law_901 : dzB cL_law 901 [182, 0, 103, 87, 44, 182, 0, 106, 87, 167, 3, 246, 43, 182, 0, 107, 87, 44, 182, 0, 110, 87] := by decide +kernel
theorem dL_law_901 : decode cL_law 901 = .ok (.invokevirtual 103, 3) := dz2 dzo182 0 0 103 dzbL_law_901 rfl
theorem dL_law_904 : decode cL_law 904 = .ok (.pop, 1) := dz0 dzo87 3 dzbL_law_901 rfl
theorem dL_law_905 : decode cL_law 905 = .ok (.aload_n 2, 1) := dz0 dzo44 4 dzbL_law_901 rfl
theorem dL_law_906 : decode cL_law 906 = .ok (.invokevirtual 106, 3) := dz2 dzo182 5 0 106 dzbL_law_901 rfl
theorem dL_law_909 : decode cL_law 909 = .ok (.pop, 1) := dz0 dzo87 8 dzbL_law_901 rfl
theorem dL_law_910 : decode cL_law 910 = .ok (.goto 1014, 3) := dz4 dzo167 9 3 246 1014 rfl dzbL_law_901 rfl
theorem dL_law_913 : decode cL_law 913 = .ok (.aload_n 1, 1) := dz0 dzo43 12 dzbL_law_901 rfl
theorem dL_law_914 : decode cL_law 914 = .ok (.invokevirtual 107, 3) := dz2 dzo182 13 0 107 dzbL_law_901 rfl
theorem dL_law_917 : decode cL_law 917 = .ok (.pop, 1) := dz0 dzo87 16 dzbL_law_901 rfl
theorem dL_law_918 : decode cL_law 918 = .ok (.aload_n 2, 1) := dz0 dzo44 17 dzbL_law_901 rfl
theorem dL_law_919 : decode cL_law 919 = .ok (.invokevirtual 110, 3) := dz2 dzo182 18 0 110 dzbL_law_901 rfl
theorem dL_law_922 : decode cL_law 922 = .ok (.pop, 1) := dz0 dzo87 21 dzbL_law_901 rfl
theorem dzbL_law_923 : dzB cL_law 923 [167, 3, 233, 43, 182, 0, 111, 87, 44, 182, 0, 114, 87, 167, 3, 220, 43, 42, 21, 4, 4, 96, 46, 42] := by decide +kernel
theorem dL_law_923 : decode cL_law 923 = .ok (.goto 1001, 3) := dz4 dzo167 0 3 233 1001 rfl dzbL_law_923 rfl
theorem dL_law_926 : decode cL_law 926 = .ok (.aload_n 1, 1) := dz0 dzo43 3 dzbL_law_923 rfl
theorem dL_law_927 : decode cL_law 927 = .ok (.invokevirtual 111, 3) := dz2 dzo182 4 0 111 dzbL_law_923 rfl
theorem dL_law_930 : decode cL_law 930 = .ok (.pop, 1) := dz0 dzo87 7 dzbL_law_923 rfl
theorem dL_law_931 : decode cL_law 931 = .ok (.aload_n 2, 1) := dz0 dzo44 8 dzbL_law_923 rfl
theorem dL_law_932 : decode cL_law 932 = .ok (.invokevirtual 114, 3) := dz2 dzo182 9 0 114 dzbL_law_923 rfl
theorem dL_law_935 : decode cL_law 935 = .ok (.pop, 1) := dz0 dzo87 12 dzbL_law_923 rfl
theorem dL_law_936 : decode cL_law 936 = .ok (.goto 988, 3) := dz4 dzo167 13 3 220 988 rfl dzbL_law_923 rfl
theorem dL_law_939 : decode cL_law 939 = .ok (.aload_n 1, 1) := dz0 dzo43 16 dzbL_law_923 rfl
theorem dL_law_940 : decode cL_law 940 = .ok (.aload_n 0, 1) := dz0 dzo42 17 dzbL_law_923 rfl
theorem dL_law_941 : decode cL_law 941 = .ok (.iload 4, 2) := dz1 dzo21 18 4 dzbL_law_923 rfl
theorem dL_law_943 : decode cL_law 943 = .ok (.iconst 1, 1) := dz0 dzo4 20 dzbL_law_923 rfl
theorem dL_law_944 : decode cL_law 944 = .ok (.iadd, 1) := dz0 dzo96 21 dzbL_law_923 rfl
theorem dL_law_945 : decode cL_law 945 = .ok (.iaload, 1) := dz0 dzo46 22 dzbL_law_923 rfl
theorem dL_law_946 : decode cL_law 946 = .ok (.aload_n 0, 1) := dz0 dzo42 23 dzbL_law_923 rfl
theorem dzbL_law_947 : dzB cL_law 947 [21, 4, 5, 96, 46, 182, 0, 115, 87, 44, 42, 21, 4, 4, 96, 46, 42, 21, 4, 5, 96, 46] := by decide +kernel
theorem dL_law_947 : decode cL_law 947 = .ok (.iload 4, 2) := dz1 dzo21 0 4 dzbL_law_947 rfl
theorem dL_law_949 : decode cL_law 949 = .ok (.iconst 2, 1) := dz0 dzo5 2 dzbL_law_947 rfl
theorem dL_law_950 : decode cL_law 950 = .ok (.iadd, 1) := dz0 dzo96 3 dzbL_law_947 rfl
theorem dL_law_951 : decode cL_law 951 = .ok (.iaload, 1) := dz0 dzo46 4 dzbL_law_947 rfl
theorem dL_law_952 : decode cL_law 952 = .ok (.invokevirtual 115, 3) := dz2 dzo182 5 0 115 dzbL_law_947 rfl
theorem dL_law_955 : decode cL_law 955 = .ok (.pop, 1) := dz0 dzo87 8 dzbL_law_947 rfl
theorem dL_law_956 : decode cL_law 956 = .ok (.aload_n 2, 1) := dz0 dzo44 9 dzbL_law_947 rfl
theorem dL_law_957 : decode cL_law 957 = .ok (.aload_n 0, 1) := dz0 dzo42 10 dzbL_law_947 rfl
theorem dL_law_958 : decode cL_law 958 = .ok (.iload 4, 2) := dz1 dzo21 11 4 dzbL_law_947 rfl
theorem dL_law_960 : decode cL_law 960 = .ok (.iconst 1, 1) := dz0 dzo4 13 dzbL_law_947 rfl
theorem dL_law_961 : decode cL_law 961 = .ok (.iadd, 1) := dz0 dzo96 14 dzbL_law_947 rfl
theorem dL_law_962 : decode cL_law 962 = .ok (.iaload, 1) := dz0 dzo46 15 dzbL_law_947 rfl
theorem dL_law_963 : decode cL_law 963 = .ok (.aload_n 0, 1) := dz0 dzo42 16 dzbL_law_947 rfl
theorem dL_law_964 : decode cL_law 964 = .ok (.iload 4, 2) := dz1 dzo21 17 4 dzbL_law_947 rfl
theorem dL_law_966 : decode cL_law 966 = .ok (.iconst 2, 1) := dz0 dzo5 19 dzbL_law_947 rfl
theorem dL_law_967 : decode cL_law 967 = .ok (.iadd, 1) := dz0 dzo96 20 dzbL_law_947 rfl
theorem dL_law_968 : decode cL_law 968 = .ok (.iaload, 1) := dz0 dzo46 21 dzbL_law_947 rfl
theorem dzbL_law_969 : dzB cL_law 969 [182, 0, 118, 87, 167, 3, 183, 43, 42, 21, 4, 4, 96, 46, 42, 21, 4, 5, 96, 46, 182, 0, 119, 87] := by decide +kernel
theorem dL_law_969 : decode cL_law 969 = .ok (.invokevirtual 118, 3) := dz2 dzo182 0 0 118 dzbL_law_969 rfl
theorem dL_law_972 : decode cL_law 972 = .ok (.pop, 1) := dz0 dzo87 3 dzbL_law_969 rfl
theorem dL_law_973 : decode cL_law 973 = .ok (.goto 951, 3) := dz4 dzo167 4 3 183 951 rfl dzbL_law_969 rfl
theorem dL_law_976 : decode cL_law 976 = .ok (.aload_n 1, 1) := dz0 dzo43 7 dzbL_law_969 rfl
theorem dL_law_977 : decode cL_law 977 = .ok (.aload_n 0, 1) := dz0 dzo42 8 dzbL_law_969 rfl
theorem dL_law_978 : decode cL_law 978 = .ok (.iload 4, 2) := dz1 dzo21 9 4 dzbL_law_969 rfl
theorem dL_law_980 : decode cL_law 980 = .ok (.iconst 1, 1) := dz0 dzo4 11 dzbL_law_969 rfl
theorem dL_law_981 : decode cL_law 981 = .ok (.iadd, 1) := dz0 dzo96 12 dzbL_law_969 rfl
theorem dL_law_982 : decode cL_law 982 = .ok (.iaload, 1) := dz0 dzo46 13 dzbL_law_969 rfl
theorem dL_law_983 : decode cL_law 983 = .ok (.aload_n 0, 1) := dz0 dzo42 14 dzbL_law_969 rfl
theorem dL_law_984 : decode cL_law 984 = .ok (.iload 4, 2) := dz1 dzo21 15 4 dzbL_law_969 rfl
theorem dL_law_986 : decode cL_law 986 = .ok (.iconst 2, 1) := dz0 dzo5 17 dzbL_law_969 rfl
theorem dL_law_987 : decode cL_law 987 = .ok (.iadd, 1) := dz0 dzo96 18 dzbL_law_969 rfl
theorem dL_law_988 : decode cL_law 988 = .ok (.iaload, 1) := dz0 dzo46 19 dzbL_law_969 rfl
theorem dL_law_989 : decode cL_law 989 = .ok (.invokevirtual 119, 3) := dz2 dzo182 20 0 119 dzbL_law_969 rfl
theorem dL_law_992 : decode cL_law 992 = .ok (.pop, 1) := dz0 dzo87 23 dzbL_law_969 rfl
theorem dzbL_law_993 : dzB cL_law 993 [44, 42, 21, 4, 4, 96, 46, 42, 21, 4, 5, 96, 46, 182, 0, 122, 87, 167, 3, 146, 43, 42, 21, 4] := by decide +kernel
theorem dL_law_993 : decode cL_law 993 = .ok (.aload_n 2, 1) := dz0 dzo44 0 dzbL_law_993 rfl
theorem dL_law_994 : decode cL_law 994 = .ok (.aload_n 0, 1) := dz0 dzo42 1 dzbL_law_993 rfl
theorem dL_law_995 : decode cL_law 995 = .ok (.iload 4, 2) := dz1 dzo21 2 4 dzbL_law_993 rfl
theorem dL_law_997 : decode cL_law 997 = .ok (.iconst 1, 1) := dz0 dzo4 4 dzbL_law_993 rfl
theorem dL_law_998 : decode cL_law 998 = .ok (.iadd, 1) := dz0 dzo96 5 dzbL_law_993 rfl
theorem dL_law_999 : decode cL_law 999 = .ok (.iaload, 1) := dz0 dzo46 6 dzbL_law_993 rfl
theorem dL_law_1000 : decode cL_law 1000 = .ok (.aload_n 0, 1) := dz0 dzo42 7 dzbL_law_993 rfl
theorem dL_law_1001 : decode cL_law 1001 = .ok (.iload 4, 2) := dz1 dzo21 8 4 dzbL_law_993 rfl
theorem dL_law_1003 : decode cL_law 1003 = .ok (.iconst 2, 1) := dz0 dzo5 10 dzbL_law_993 rfl
theorem dL_law_1004 : decode cL_law 1004 = .ok (.iadd, 1) := dz0 dzo96 11 dzbL_law_993 rfl
theorem dL_law_1005 : decode cL_law 1005 = .ok (.iaload, 1) := dz0 dzo46 12 dzbL_law_993 rfl
theorem dL_law_1006 : decode cL_law 1006 = .ok (.invokevirtual 122, 3) := dz2 dzo182 13 0 122 dzbL_law_993 rfl
theorem dL_law_1009 : decode cL_law 1009 = .ok (.pop, 1) := dz0 dzo87 16 dzbL_law_993 rfl
theorem dL_law_1010 : decode cL_law 1010 = .ok (.goto 914, 3) := dz4 dzo167 17 3 146 914 rfl dzbL_law_993 rfl
theorem dL_law_1013 : decode cL_law 1013 = .ok (.aload_n 1, 1) := dz0 dzo43 20 dzbL_law_993 rfl
theorem dL_law_1014 : decode cL_law 1014 = .ok (.aload_n 0, 1) := dz0 dzo42 21 dzbL_law_993 rfl
theorem dL_law_1015 : decode cL_law 1015 = .ok (.iload 4, 2) := dz1 dzo21 22 4 dzbL_law_993 rfl
theorem dzbL_law_1017 : dzB cL_law 1017 [4, 96, 46, 182, 0, 123, 87, 44, 42, 21, 4, 4, 96, 46, 182, 0, 126, 87, 167, 3, 121, 43] := by decide +kernel
theorem dL_law_1017 : decode cL_law 1017 = .ok (.iconst 1, 1) := dz0 dzo4 0 dzbL_law_1017 rfl
theorem dL_law_1018 : decode cL_law 1018 = .ok (.iadd, 1) := dz0 dzo96 1 dzbL_law_1017 rfl
theorem dL_law_1019 : decode cL_law 1019 = .ok (.iaload, 1) := dz0 dzo46 2 dzbL_law_1017 rfl
theorem dL_law_1020 : decode cL_law 1020 = .ok (.invokevirtual 123, 3) := dz2 dzo182 3 0 123 dzbL_law_1017 rfl
theorem dL_law_1023 : decode cL_law 1023 = .ok (.pop, 1) := dz0 dzo87 6 dzbL_law_1017 rfl
theorem dL_law_1024 : decode cL_law 1024 = .ok (.aload_n 2, 1) := dz0 dzo44 7 dzbL_law_1017 rfl
theorem dL_law_1025 : decode cL_law 1025 = .ok (.aload_n 0, 1) := dz0 dzo42 8 dzbL_law_1017 rfl
theorem dL_law_1026 : decode cL_law 1026 = .ok (.iload 4, 2) := dz1 dzo21 9 4 dzbL_law_1017 rfl
theorem dL_law_1028 : decode cL_law 1028 = .ok (.iconst 1, 1) := dz0 dzo4 11 dzbL_law_1017 rfl
theorem dL_law_1029 : decode cL_law 1029 = .ok (.iadd, 1) := dz0 dzo96 12 dzbL_law_1017 rfl
theorem dL_law_1030 : decode cL_law 1030 = .ok (.iaload, 1) := dz0 dzo46 13 dzbL_law_1017 rfl
theorem dL_law_1031 : decode cL_law 1031 = .ok (.invokevirtual 126, 3) := dz2 dzo182 14 0 126 dzbL_law_1017 rfl
theorem dL_law_1034 : decode cL_law 1034 = .ok (.pop, 1) := dz0 dzo87 17 dzbL_law_1017 rfl
theorem dL_law_1035 : decode cL_law 1035 = .ok (.goto 889, 3) := dz4 dzo167 18 3 121 889 rfl dzbL_law_1017 rfl
theorem dL_law_1038 : decode cL_law 1038 = .ok (.aload_n 1, 1) := dz0 dzo43 21 dzbL_law_1017 rfl
theorem dzbL_law_1039 : dzB cL_law 1039 [182, 0, 127, 87, 44, 182, 0, 130, 87, 167, 3, 108, 43, 42, 21, 4, 4, 96, 46, 182, 0, 131, 44, 42] := by decide +kernel
theorem dL_law_1039 : decode cL_law 1039 = .ok (.invokevirtual 127, 3) := dz2 dzo182 0 0 127 dzbL_law_1039 rfl
theorem dL_law_1042 : decode cL_law 1042 = .ok (.pop, 1) := dz0 dzo87 3 dzbL_law_1039 rfl
theorem dL_law_1043 : decode cL_law 1043 = .ok (.aload_n 2, 1) := dz0 dzo44 4 dzbL_law_1039 rfl
theorem dL_law_1044 : decode cL_law 1044 = .ok (.invokevirtual 130, 3) := dz2 dzo182 5 0 130 dzbL_law_1039 rfl
theorem dL_law_1047 : decode cL_law 1047 = .ok (.pop, 1) := dz0 dzo87 8 dzbL_law_1039 rfl
theorem dL_law_1048 : decode cL_law 1048 = .ok (.goto 876, 3) := dz4 dzo167 9 3 108 876 rfl dzbL_law_1039 rfl
theorem dL_law_1051 : decode cL_law 1051 = .ok (.aload_n 1, 1) := dz0 dzo43 12 dzbL_law_1039 rfl
theorem dL_law_1052 : decode cL_law 1052 = .ok (.aload_n 0, 1) := dz0 dzo42 13 dzbL_law_1039 rfl
theorem dL_law_1053 : decode cL_law 1053 = .ok (.iload 4, 2) := dz1 dzo21 14 4 dzbL_law_1039 rfl
theorem dL_law_1055 : decode cL_law 1055 = .ok (.iconst 1, 1) := dz0 dzo4 16 dzbL_law_1039 rfl
theorem dL_law_1056 : decode cL_law 1056 = .ok (.iadd, 1) := dz0 dzo96 17 dzbL_law_1039 rfl
theorem dL_law_1057 : decode cL_law 1057 = .ok (.iaload, 1) := dz0 dzo46 18 dzbL_law_1039 rfl
theorem dL_law_1058 : decode cL_law 1058 = .ok (.invokevirtual 131, 3) := dz2 dzo182 19 0 131 dzbL_law_1039 rfl
theorem dL_law_1061 : decode cL_law 1061 = .ok (.aload_n 2, 1) := dz0 dzo44 22 dzbL_law_1039 rfl
theorem dL_law_1062 : decode cL_law 1062 = .ok (.aload_n 0, 1) := dz0 dzo42 23 dzbL_law_1039 rfl
theorem dzbL_law_1063 : dzB cL_law 1063 [21, 4, 4, 96, 46, 182, 0, 134, 159, 3, 85] := by decide +kernel
theorem dL_law_1063 : decode cL_law 1063 = .ok (.iload 4, 2) := dz1 dzo21 0 4 dzbL_law_1063 rfl
theorem dL_law_1065 : decode cL_law 1065 = .ok (.iconst 1, 1) := dz0 dzo4 2 dzbL_law_1063 rfl
theorem dL_law_1066 : decode cL_law 1066 = .ok (.iadd, 1) := dz0 dzo96 3 dzbL_law_1063 rfl
theorem dL_law_1067 : decode cL_law 1067 = .ok (.iaload, 1) := dz0 dzo46 4 dzbL_law_1063 rfl
theorem dL_law_1068 : decode cL_law 1068 = .ok (.invokevirtual 134, 3) := dz2 dzo182 5 0 134 dzbL_law_1063 rfl
theorem dL_law_1071 : decode cL_law 1071 = .ok (.if_icmp .eq 853, 3) := dz4 dzo159 8 3 85 853 rfl dzbL_law_1063 rfl
theorem dzbL_law_1076 : dzB cL_law 1076 [43, 42, 21, 4, 4, 96, 46, 42, 21, 4, 5, 96, 46, 153, 0, 7, 4, 167, 0, 4, 3, 182, 0, 135] := by decide +kernel
theorem dL_law_1076 : decode cL_law 1076 = .ok (.aload_n 1, 1) := dz0 dzo43 0 dzbL_law_1076 rfl
theorem dL_law_1077 : decode cL_law 1077 = .ok (.aload_n 0, 1) := dz0 dzo42 1 dzbL_law_1076 rfl
theorem dL_law_1078 : decode cL_law 1078 = .ok (.iload 4, 2) := dz1 dzo21 2 4 dzbL_law_1076 rfl
theorem dL_law_1080 : decode cL_law 1080 = .ok (.iconst 1, 1) := dz0 dzo4 4 dzbL_law_1076 rfl
theorem dL_law_1081 : decode cL_law 1081 = .ok (.iadd, 1) := dz0 dzo96 5 dzbL_law_1076 rfl
theorem dL_law_1082 : decode cL_law 1082 = .ok (.iaload, 1) := dz0 dzo46 6 dzbL_law_1076 rfl
theorem dL_law_1083 : decode cL_law 1083 = .ok (.aload_n 0, 1) := dz0 dzo42 7 dzbL_law_1076 rfl
theorem dL_law_1084 : decode cL_law 1084 = .ok (.iload 4, 2) := dz1 dzo21 8 4 dzbL_law_1076 rfl
theorem dL_law_1086 : decode cL_law 1086 = .ok (.iconst 2, 1) := dz0 dzo5 10 dzbL_law_1076 rfl
theorem dL_law_1087 : decode cL_law 1087 = .ok (.iadd, 1) := dz0 dzo96 11 dzbL_law_1076 rfl
theorem dL_law_1088 : decode cL_law 1088 = .ok (.iaload, 1) := dz0 dzo46 12 dzbL_law_1076 rfl
theorem dL_law_1089 : decode cL_law 1089 = .ok (.ifCond .eq 7, 3) := dz4 dzo153 13 0 7 7 rfl dzbL_law_1076 rfl
theorem dL_law_1092 : decode cL_law 1092 = .ok (.iconst 1, 1) := dz0 dzo4 16 dzbL_law_1076 rfl
theorem dL_law_1093 : decode cL_law 1093 = .ok (.goto 4, 3) := dz4 dzo167 17 0 4 4 rfl dzbL_law_1076 rfl
theorem dL_law_1096 : decode cL_law 1096 = .ok (.iconst 0, 1) := dz0 dzo3 20 dzbL_law_1076 rfl
theorem dL_law_1097 : decode cL_law 1097 = .ok (.invokevirtual 135, 3) := dz2 dzo182 21 0 135 dzbL_law_1076 rfl
theorem dzbL_law_1100 : dzB cL_law 1100 [88, 44, 42, 21, 4, 4, 96, 46, 42, 21, 4, 5, 96, 46, 153, 0, 7, 4, 167, 0, 4, 3] := by decide +kernel
theorem dL_law_1100 : decode cL_law 1100 = .ok (.pop2, 1) := dz0 dzo88 0 dzbL_law_1100 rfl
theorem dL_law_1101 : decode cL_law 1101 = .ok (.aload_n 2, 1) := dz0 dzo44 1 dzbL_law_1100 rfl
theorem dL_law_1102 : decode cL_law 1102 = .ok (.aload_n 0, 1) := dz0 dzo42 2 dzbL_law_1100 rfl
theorem dL_law_1103 : decode cL_law 1103 = .ok (.iload 4, 2) := dz1 dzo21 3 4 dzbL_law_1100 rfl
theorem dL_law_1105 : decode cL_law 1105 = .ok (.iconst 1, 1) := dz0 dzo4 5 dzbL_law_1100 rfl
theorem dL_law_1106 : decode cL_law 1106 = .ok (.iadd, 1) := dz0 dzo96 6 dzbL_law_1100 rfl
theorem dL_law_1107 : decode cL_law 1107 = .ok (.iaload, 1) := dz0 dzo46 7 dzbL_law_1100 rfl
theorem dL_law_1108 : decode cL_law 1108 = .ok (.aload_n 0, 1) := dz0 dzo42 8 dzbL_law_1100 rfl
theorem dL_law_1109 : decode cL_law 1109 = .ok (.iload 4, 2) := dz1 dzo21 9 4 dzbL_law_1100 rfl
theorem dL_law_1111 : decode cL_law 1111 = .ok (.iconst 2, 1) := dz0 dzo5 11 dzbL_law_1100 rfl
theorem dL_law_1112 : decode cL_law 1112 = .ok (.iadd, 1) := dz0 dzo96 12 dzbL_law_1100 rfl
theorem dL_law_1113 : decode cL_law 1113 = .ok (.iaload, 1) := dz0 dzo46 13 dzbL_law_1100 rfl
theorem dL_law_1114 : decode cL_law 1114 = .ok (.ifCond .eq 7, 3) := dz4 dzo153 14 0 7 7 rfl dzbL_law_1100 rfl
theorem dL_law_1117 : decode cL_law 1117 = .ok (.iconst 1, 1) := dz0 dzo4 17 dzbL_law_1100 rfl
theorem dL_law_1118 : decode cL_law 1118 = .ok (.goto 4, 3) := dz4 dzo167 18 0 4 4 rfl dzbL_law_1100 rfl
theorem dL_law_1121 : decode cL_law 1121 = .ok (.iconst 0, 1) := dz0 dzo3 21 dzbL_law_1100 rfl
theorem dzbL_law_1122 : dzB cL_law 1122 [182, 0, 139, 88, 167, 3, 30, 43, 182, 0, 140, 87, 44, 182, 0, 143, 87, 167, 3, 17, 43, 182, 0, 144] := by decide +kernel
theorem dL_law_1122 : decode cL_law 1122 = .ok (.invokevirtual 139, 3) := dz2 dzo182 0 0 139 dzbL_law_1122 rfl
theorem dL_law_1125 : decode cL_law 1125 = .ok (.pop2, 1) := dz0 dzo88 3 dzbL_law_1122 rfl
theorem dL_law_1126 : decode cL_law 1126 = .ok (.goto 798, 3) := dz4 dzo167 4 3 30 798 rfl dzbL_law_1122 rfl
theorem dL_law_1129 : decode cL_law 1129 = .ok (.aload_n 1, 1) := dz0 dzo43 7 dzbL_law_1122 rfl
theorem dL_law_1130 : decode cL_law 1130 = .ok (.invokevirtual 140, 3) := dz2 dzo182 8 0 140 dzbL_law_1122 rfl
theorem dL_law_1133 : decode cL_law 1133 = .ok (.pop, 1) := dz0 dzo87 11 dzbL_law_1122 rfl
theorem dL_law_1134 : decode cL_law 1134 = .ok (.aload_n 2, 1) := dz0 dzo44 12 dzbL_law_1122 rfl
theorem dL_law_1135 : decode cL_law 1135 = .ok (.invokevirtual 143, 3) := dz2 dzo182 13 0 143 dzbL_law_1122 rfl
theorem dL_law_1138 : decode cL_law 1138 = .ok (.pop, 1) := dz0 dzo87 16 dzbL_law_1122 rfl
theorem dL_law_1139 : decode cL_law 1139 = .ok (.goto 785, 3) := dz4 dzo167 17 3 17 785 rfl dzbL_law_1122 rfl
theorem dL_law_1142 : decode cL_law 1142 = .ok (.aload_n 1, 1) := dz0 dzo43 20 dzbL_law_1122 rfl
theorem dL_law_1143 : decode cL_law 1143 = .ok (.invokevirtual 144, 3) := dz2 dzo182 21 0 144 dzbL_law_1122 rfl
theorem dzbL_law_1146 : dzB cL_law 1146 [87, 44, 182, 0, 147, 87, 167, 3, 4, 43, 182, 0, 148, 87, 44, 182, 0, 151, 87, 167, 2, 247, 43] := by decide +kernel
theorem dL_law_1146 : decode cL_law 1146 = .ok (.pop, 1) := dz0 dzo87 0 dzbL_law_1146 rfl
theorem dL_law_1147 : decode cL_law 1147 = .ok (.aload_n 2, 1) := dz0 dzo44 1 dzbL_law_1146 rfl
theorem dL_law_1148 : decode cL_law 1148 = .ok (.invokevirtual 147, 3) := dz2 dzo182 2 0 147 dzbL_law_1146 rfl
theorem dL_law_1151 : decode cL_law 1151 = .ok (.pop, 1) := dz0 dzo87 5 dzbL_law_1146 rfl
theorem dL_law_1152 : decode cL_law 1152 = .ok (.goto 772, 3) := dz4 dzo167 6 3 4 772 rfl dzbL_law_1146 rfl
theorem dL_law_1155 : decode cL_law 1155 = .ok (.aload_n 1, 1) := dz0 dzo43 9 dzbL_law_1146 rfl
theorem dL_law_1156 : decode cL_law 1156 = .ok (.invokevirtual 148, 3) := dz2 dzo182 10 0 148 dzbL_law_1146 rfl
theorem dL_law_1159 : decode cL_law 1159 = .ok (.pop, 1) := dz0 dzo87 13 dzbL_law_1146 rfl
theorem dL_law_1160 : decode cL_law 1160 = .ok (.aload_n 2, 1) := dz0 dzo44 14 dzbL_law_1146 rfl
theorem dL_law_1161 : decode cL_law 1161 = .ok (.invokevirtual 151, 3) := dz2 dzo182 15 0 151 dzbL_law_1146 rfl
theorem dL_law_1164 : decode cL_law 1164 = .ok (.pop, 1) := dz0 dzo87 18 dzbL_law_1146 rfl
theorem dL_law_1165 : decode cL_law 1165 = .ok (.goto 759, 3) := dz4 dzo167 19 2 247 759 rfl dzbL_law_1146 rfl
theorem dL_law_1168 : decode cL_law 1168 = .ok (.aload_n 1, 1) := dz0 dzo43 22 dzbL_law_1146 rfl
theorem dzbL_law_1169 : dzB cL_law 1169 [182, 0, 152, 87, 44, 182, 0, 155, 87, 167, 2, 234, 43, 42, 21, 4, 4, 96, 46, 42, 21, 4, 5, 96] := by decide +kernel
theorem dL_law_1169 : decode cL_law 1169 = .ok (.invokevirtual 152, 3) := dz2 dzo182 0 0 152 dzbL_law_1169 rfl
theorem dL_law_1172 : decode cL_law 1172 = .ok (.pop, 1) := dz0 dzo87 3 dzbL_law_1169 rfl
theorem dL_law_1173 : decode cL_law 1173 = .ok (.aload_n 2, 1) := dz0 dzo44 4 dzbL_law_1169 rfl
theorem dL_law_1174 : decode cL_law 1174 = .ok (.invokevirtual 155, 3) := dz2 dzo182 5 0 155 dzbL_law_1169 rfl
theorem dL_law_1177 : decode cL_law 1177 = .ok (.pop, 1) := dz0 dzo87 8 dzbL_law_1169 rfl
theorem dL_law_1178 : decode cL_law 1178 = .ok (.goto 746, 3) := dz4 dzo167 9 2 234 746 rfl dzbL_law_1169 rfl
theorem dL_law_1181 : decode cL_law 1181 = .ok (.aload_n 1, 1) := dz0 dzo43 12 dzbL_law_1169 rfl
theorem dL_law_1182 : decode cL_law 1182 = .ok (.aload_n 0, 1) := dz0 dzo42 13 dzbL_law_1169 rfl
theorem dL_law_1183 : decode cL_law 1183 = .ok (.iload 4, 2) := dz1 dzo21 14 4 dzbL_law_1169 rfl
theorem dL_law_1185 : decode cL_law 1185 = .ok (.iconst 1, 1) := dz0 dzo4 16 dzbL_law_1169 rfl
theorem dL_law_1186 : decode cL_law 1186 = .ok (.iadd, 1) := dz0 dzo96 17 dzbL_law_1169 rfl
theorem dL_law_1187 : decode cL_law 1187 = .ok (.iaload, 1) := dz0 dzo46 18 dzbL_law_1169 rfl
theorem dL_law_1188 : decode cL_law 1188 = .ok (.aload_n 0, 1) := dz0 dzo42 19 dzbL_law_1169 rfl
theorem dL_law_1189 : decode cL_law 1189 = .ok (.iload 4, 2) := dz1 dzo21 20 4 dzbL_law_1169 rfl
theorem dL_law_1191 : decode cL_law 1191 = .ok (.iconst 2, 1) := dz0 dzo5 22 dzbL_law_1169 rfl
theorem dL_law_1192 : decode cL_law 1192 = .ok (.iadd, 1) := dz0 dzo96 23 dzbL_law_1169 rfl
theorem dzbL_law_1193 : dzB cL_law 1193 [46, 42, 21, 4, 6, 96, 46, 153, 0, 7, 4, 167, 0, 4, 3, 182, 0, 156, 88, 44, 42, 21, 4, 4] := by decide +kernel
theorem dL_law_1193 : decode cL_law 1193 = .ok (.iaload, 1) := dz0 dzo46 0 dzbL_law_1193 rfl
theorem dL_law_1194 : decode cL_law 1194 = .ok (.aload_n 0, 1) := dz0 dzo42 1 dzbL_law_1193 rfl
theorem dL_law_1195 : decode cL_law 1195 = .ok (.iload 4, 2) := dz1 dzo21 2 4 dzbL_law_1193 rfl
theorem dL_law_1197 : decode cL_law 1197 = .ok (.iconst 3, 1) := dz0 dzo6 4 dzbL_law_1193 rfl
theorem dL_law_1198 : decode cL_law 1198 = .ok (.iadd, 1) := dz0 dzo96 5 dzbL_law_1193 rfl
theorem dL_law_1199 : decode cL_law 1199 = .ok (.iaload, 1) := dz0 dzo46 6 dzbL_law_1193 rfl
theorem dL_law_1200 : decode cL_law 1200 = .ok (.ifCond .eq 7, 3) := dz4 dzo153 7 0 7 7 rfl dzbL_law_1193 rfl
theorem dL_law_1203 : decode cL_law 1203 = .ok (.iconst 1, 1) := dz0 dzo4 10 dzbL_law_1193 rfl
theorem dL_law_1204 : decode cL_law 1204 = .ok (.goto 4, 3) := dz4 dzo167 11 0 4 4 rfl dzbL_law_1193 rfl
theorem dL_law_1207 : decode cL_law 1207 = .ok (.iconst 0, 1) := dz0 dzo3 14 dzbL_law_1193 rfl
theorem dL_law_1208 : decode cL_law 1208 = .ok (.invokevirtual 156, 3) := dz2 dzo182 15 0 156 dzbL_law_1193 rfl
theorem dL_law_1211 : decode cL_law 1211 = .ok (.pop2, 1) := dz0 dzo88 18 dzbL_law_1193 rfl
theorem dL_law_1212 : decode cL_law 1212 = .ok (.aload_n 2, 1) := dz0 dzo44 19 dzbL_law_1193 rfl
theorem dL_law_1213 : decode cL_law 1213 = .ok (.aload_n 0, 1) := dz0 dzo42 20 dzbL_law_1193 rfl
theorem dL_law_1214 : decode cL_law 1214 = .ok (.iload 4, 2) := dz1 dzo21 21 4 dzbL_law_1193 rfl
theorem dL_law_1216 : decode cL_law 1216 = .ok (.iconst 1, 1) := dz0 dzo4 23 dzbL_law_1193 rfl
theorem dzbL_law_1217 : dzB cL_law 1217 [96, 46, 42, 21, 4, 5, 96, 46, 42, 21, 4, 6, 96, 46, 153, 0, 7, 4, 167, 0, 4, 3] := by decide +kernel
theorem dL_law_1217 : decode cL_law 1217 = .ok (.iadd, 1) := dz0 dzo96 0 dzbL_law_1217 rfl
theorem dL_law_1218 : decode cL_law 1218 = .ok (.iaload, 1) := dz0 dzo46 1 dzbL_law_1217 rfl
theorem dL_law_1219 : decode cL_law 1219 = .ok (.aload_n 0, 1) := dz0 dzo42 2 dzbL_law_1217 rfl
theorem dL_law_1220 : decode cL_law 1220 = .ok (.iload 4, 2) := dz1 dzo21 3 4 dzbL_law_1217 rfl
theorem dL_law_1222 : decode cL_law 1222 = .ok (.iconst 2, 1) := dz0 dzo5 5 dzbL_law_1217 rfl
theorem dL_law_1223 : decode cL_law 1223 = .ok (.iadd, 1) := dz0 dzo96 6 dzbL_law_1217 rfl
theorem dL_law_1224 : decode cL_law 1224 = .ok (.iaload, 1) := dz0 dzo46 7 dzbL_law_1217 rfl
theorem dL_law_1225 : decode cL_law 1225 = .ok (.aload_n 0, 1) := dz0 dzo42 8 dzbL_law_1217 rfl
theorem dL_law_1226 : decode cL_law 1226 = .ok (.iload 4, 2) := dz1 dzo21 9 4 dzbL_law_1217 rfl
theorem dL_law_1228 : decode cL_law 1228 = .ok (.iconst 3, 1) := dz0 dzo6 11 dzbL_law_1217 rfl
theorem dL_law_1229 : decode cL_law 1229 = .ok (.iadd, 1) := dz0 dzo96 12 dzbL_law_1217 rfl
theorem dL_law_1230 : decode cL_law 1230 = .ok (.iaload, 1) := dz0 dzo46 13 dzbL_law_1217 rfl
theorem dL_law_1231 : decode cL_law 1231 = .ok (.ifCond .eq 7, 3) := dz4 dzo153 14 0 7 7 rfl dzbL_law_1217 rfl
theorem dL_law_1234 : decode cL_law 1234 = .ok (.iconst 1, 1) := dz0 dzo4 17 dzbL_law_1217 rfl
theorem dL_law_1235 : decode cL_law 1235 = .ok (.goto 4, 3) := dz4 dzo167 18 0 4 4 rfl dzbL_law_1217 rfl
theorem dL_law_1238 : decode cL_law 1238 = .ok (.iconst 0, 1) := dz0 dzo3 21 dzbL_law_1217 rfl
theorem dzbL_law_1239 : dzB cL_law 1239 [182, 0, 160, 88, 167, 2, 169, 43, 42, 21, 4, 4, 96, 46, 42, 21, 4, 5, 96, 46, 153, 0, 7, 4] := by decide +kernel
theorem dL_law_1239 : decode cL_law 1239 = .ok (.invokevirtual 160, 3) := dz2 dzo182 0 0 160 dzbL_law_1239 rfl
theorem dL_law_1242 : decode cL_law 1242 = .ok (.pop2, 1) := dz0 dzo88 3 dzbL_law_1239 rfl
theorem dL_law_1243 : decode cL_law 1243 = .ok (.goto 681, 3) := dz4 dzo167 4 2 169 681 rfl dzbL_law_1239 rfl
theorem dL_law_1246 : decode cL_law 1246 = .ok (.aload_n 1, 1) := dz0 dzo43 7 dzbL_law_1239 rfl
theorem dL_law_1247 : decode cL_law 1247 = .ok (.aload_n 0, 1) := dz0 dzo42 8 dzbL_law_1239 rfl
theorem dL_law_1248 : decode cL_law 1248 = .ok (.iload 4, 2) := dz1 dzo21 9 4 dzbL_law_1239 rfl
theorem dL_law_1250 : decode cL_law 1250 = .ok (.iconst 1, 1) := dz0 dzo4 11 dzbL_law_1239 rfl
theorem dL_law_1251 : decode cL_law 1251 = .ok (.iadd, 1) := dz0 dzo96 12 dzbL_law_1239 rfl
theorem dL_law_1252 : decode cL_law 1252 = .ok (.iaload, 1) := dz0 dzo46 13 dzbL_law_1239 rfl
theorem dL_law_1253 : decode cL_law 1253 = .ok (.aload_n 0, 1) := dz0 dzo42 14 dzbL_law_1239 rfl
theorem dL_law_1254 : decode cL_law 1254 = .ok (.iload 4, 2) := dz1 dzo21 15 4 dzbL_law_1239 rfl
theorem dL_law_1256 : decode cL_law 1256 = .ok (.iconst 2, 1) := dz0 dzo5 17 dzbL_law_1239 rfl
theorem dL_law_1257 : decode cL_law 1257 = .ok (.iadd, 1) := dz0 dzo96 18 dzbL_law_1239 rfl
theorem dL_law_1258 : decode cL_law 1258 = .ok (.iaload, 1) := dz0 dzo46 19 dzbL_law_1239 rfl
theorem dL_law_1259 : decode cL_law 1259 = .ok (.ifCond .eq 7, 3) := dz4 dzo153 20 0 7 7 rfl dzbL_law_1239 rfl
theorem dL_law_1262 : decode cL_law 1262 = .ok (.iconst 1, 1) := dz0 dzo4 23 dzbL_law_1239 rfl
theorem dzbL_law_1263 : dzB cL_law 1263 [167, 0, 4, 3, 42, 21, 4, 6, 96, 46, 153, 0, 7, 4, 167, 0, 4, 3, 42, 21, 4, 7, 96, 46] := by decide +kernel
theorem dL_law_1263 : decode cL_law 1263 = .ok (.goto 4, 3) := dz4 dzo167 0 0 4 4 rfl dzbL_law_1263 rfl
theorem dL_law_1266 : decode cL_law 1266 = .ok (.iconst 0, 1) := dz0 dzo3 3 dzbL_law_1263 rfl
theorem dL_law_1267 : decode cL_law 1267 = .ok (.aload_n 0, 1) := dz0 dzo42 4 dzbL_law_1263 rfl
theorem dL_law_1268 : decode cL_law 1268 = .ok (.iload 4, 2) := dz1 dzo21 5 4 dzbL_law_1263 rfl
theorem dL_law_1270 : decode cL_law 1270 = .ok (.iconst 3, 1) := dz0 dzo6 7 dzbL_law_1263 rfl
theorem dL_law_1271 : decode cL_law 1271 = .ok (.iadd, 1) := dz0 dzo96 8 dzbL_law_1263 rfl
theorem dL_law_1272 : decode cL_law 1272 = .ok (.iaload, 1) := dz0 dzo46 9 dzbL_law_1263 rfl
theorem dL_law_1273 : decode cL_law 1273 = .ok (.ifCond .eq 7, 3) := dz4 dzo153 10 0 7 7 rfl dzbL_law_1263 rfl
theorem dL_law_1276 : decode cL_law 1276 = .ok (.iconst 1, 1) := dz0 dzo4 13 dzbL_law_1263 rfl
theorem dL_law_1277 : decode cL_law 1277 = .ok (.goto 4, 3) := dz4 dzo167 14 0 4 4 rfl dzbL_law_1263 rfl
theorem dL_law_1280 : decode cL_law 1280 = .ok (.iconst 0, 1) := dz0 dzo3 17 dzbL_law_1263 rfl
theorem dL_law_1281 : decode cL_law 1281 = .ok (.aload_n 0, 1) := dz0 dzo42 18 dzbL_law_1263 rfl
theorem dL_law_1282 : decode cL_law 1282 = .ok (.iload 4, 2) := dz1 dzo21 19 4 dzbL_law_1263 rfl
theorem dL_law_1284 : decode cL_law 1284 = .ok (.iconst 4, 1) := dz0 dzo7 21 dzbL_law_1263 rfl
theorem dL_law_1285 : decode cL_law 1285 = .ok (.iadd, 1) := dz0 dzo96 22 dzbL_law_1263 rfl
theorem dL_law_1286 : decode cL_law 1286 = .ok (.iaload, 1) := dz0 dzo46 23 dzbL_law_1263 rfl
theorem dzbL_law_1287 : dzB cL_law 1287 [153, 0, 7, 4, 167, 0, 4, 3, 182, 0, 161, 87, 44, 42, 21, 4, 4, 96, 46, 42, 21, 4, 5, 96] := by decide +kernel
theorem dL_law_1287 : decode cL_law 1287 = .ok (.ifCond .eq 7, 3) := dz4 dzo153 0 0 7 7 rfl dzbL_law_1287 rfl
theorem dL_law_1290 : decode cL_law 1290 = .ok (.iconst 1, 1) := dz0 dzo4 3 dzbL_law_1287 rfl
theorem dL_law_1291 : decode cL_law 1291 = .ok (.goto 4, 3) := dz4 dzo167 4 0 4 4 rfl dzbL_law_1287 rfl
theorem dL_law_1294 : decode cL_law 1294 = .ok (.iconst 0, 1) := dz0 dzo3 7 dzbL_law_1287 rfl
theorem dL_law_1295 : decode cL_law 1295 = .ok (.invokevirtual 161, 3) := dz2 dzo182 8 0 161 dzbL_law_1287 rfl
theorem dL_law_1298 : decode cL_law 1298 = .ok (.pop, 1) := dz0 dzo87 11 dzbL_law_1287 rfl
theorem dL_law_1299 : decode cL_law 1299 = .ok (.aload_n 2, 1) := dz0 dzo44 12 dzbL_law_1287 rfl
theorem dL_law_1300 : decode cL_law 1300 = .ok (.aload_n 0, 1) := dz0 dzo42 13 dzbL_law_1287 rfl
theorem dL_law_1301 : decode cL_law 1301 = .ok (.iload 4, 2) := dz1 dzo21 14 4 dzbL_law_1287 rfl
theorem dL_law_1303 : decode cL_law 1303 = .ok (.iconst 1, 1) := dz0 dzo4 16 dzbL_law_1287 rfl
theorem dL_law_1304 : decode cL_law 1304 = .ok (.iadd, 1) := dz0 dzo96 17 dzbL_law_1287 rfl
theorem dL_law_1305 : decode cL_law 1305 = .ok (.iaload, 1) := dz0 dzo46 18 dzbL_law_1287 rfl
theorem dL_law_1306 : decode cL_law 1306 = .ok (.aload_n 0, 1) := dz0 dzo42 19 dzbL_law_1287 rfl
theorem dL_law_1307 : decode cL_law 1307 = .ok (.iload 4, 2) := dz1 dzo21 20 4 dzbL_law_1287 rfl
theorem dL_law_1309 : decode cL_law 1309 = .ok (.iconst 2, 1) := dz0 dzo5 22 dzbL_law_1287 rfl
theorem dL_law_1310 : decode cL_law 1310 = .ok (.iadd, 1) := dz0 dzo96 23 dzbL_law_1287 rfl
theorem dzbL_law_1311 : dzB cL_law 1311 [46, 153, 0, 7, 4, 167, 0, 4, 3, 42, 21, 4, 6, 96, 46, 153, 0, 7, 4, 167, 0, 4, 3, 42] := by decide +kernel
theorem dL_law_1311 : decode cL_law 1311 = .ok (.iaload, 1) := dz0 dzo46 0 dzbL_law_1311 rfl
theorem dL_law_1312 : decode cL_law 1312 = .ok (.ifCond .eq 7, 3) := dz4 dzo153 1 0 7 7 rfl dzbL_law_1311 rfl
theorem dL_law_1315 : decode cL_law 1315 = .ok (.iconst 1, 1) := dz0 dzo4 4 dzbL_law_1311 rfl
theorem dL_law_1316 : decode cL_law 1316 = .ok (.goto 4, 3) := dz4 dzo167 5 0 4 4 rfl dzbL_law_1311 rfl
theorem dL_law_1319 : decode cL_law 1319 = .ok (.iconst 0, 1) := dz0 dzo3 8 dzbL_law_1311 rfl
theorem dL_law_1320 : decode cL_law 1320 = .ok (.aload_n 0, 1) := dz0 dzo42 9 dzbL_law_1311 rfl
theorem dL_law_1321 : decode cL_law 1321 = .ok (.iload 4, 2) := dz1 dzo21 10 4 dzbL_law_1311 rfl
theorem dL_law_1323 : decode cL_law 1323 = .ok (.iconst 3, 1) := dz0 dzo6 12 dzbL_law_1311 rfl
theorem dL_law_1324 : decode cL_law 1324 = .ok (.iadd, 1) := dz0 dzo96 13 dzbL_law_1311 rfl
theorem dL_law_1325 : decode cL_law 1325 = .ok (.iaload, 1) := dz0 dzo46 14 dzbL_law_1311 rfl
theorem dL_law_1326 : decode cL_law 1326 = .ok (.ifCond .eq 7, 3) := dz4 dzo153 15 0 7 7 rfl dzbL_law_1311 rfl
theorem dL_law_1329 : decode cL_law 1329 = .ok (.iconst 1, 1) := dz0 dzo4 18 dzbL_law_1311 rfl
theorem dL_law_1330 : decode cL_law 1330 = .ok (.goto 4, 3) := dz4 dzo167 19 0 4 4 rfl dzbL_law_1311 rfl
theorem dL_law_1333 : decode cL_law 1333 = .ok (.iconst 0, 1) := dz0 dzo3 22 dzbL_law_1311 rfl
theorem dL_law_1334 : decode cL_law 1334 = .ok (.aload_n 0, 1) := dz0 dzo42 23 dzbL_law_1311 rfl
theorem dzbL_law_1335 : dzB cL_law 1335 [21, 4, 7, 96, 46, 153, 0, 7, 4, 167, 0, 4, 3, 182, 0, 165, 87, 167, 2, 60, 43, 42, 21, 4] := by decide +kernel
theorem dL_law_1335 : decode cL_law 1335 = .ok (.iload 4, 2) := dz1 dzo21 0 4 dzbL_law_1335 rfl
theorem dL_law_1337 : decode cL_law 1337 = .ok (.iconst 4, 1) := dz0 dzo7 2 dzbL_law_1335 rfl
theorem dL_law_1338 : decode cL_law 1338 = .ok (.iadd, 1) := dz0 dzo96 3 dzbL_law_1335 rfl
theorem dL_law_1339 : decode cL_law 1339 = .ok (.iaload, 1) := dz0 dzo46 4 dzbL_law_1335 rfl
theorem dL_law_1340 : decode cL_law 1340 = .ok (.ifCond .eq 7, 3) := dz4 dzo153 5 0 7 7 rfl dzbL_law_1335 rfl
theorem dL_law_1343 : decode cL_law 1343 = .ok (.iconst 1, 1) := dz0 dzo4 8 dzbL_law_1335 rfl
theorem dL_law_1344 : decode cL_law 1344 = .ok (.goto 4, 3) := dz4 dzo167 9 0 4 4 rfl dzbL_law_1335 rfl
theorem dL_law_1347 : decode cL_law 1347 = .ok (.iconst 0, 1) := dz0 dzo3 12 dzbL_law_1335 rfl
theorem dL_law_1348 : decode cL_law 1348 = .ok (.invokevirtual 165, 3) := dz2 dzo182 13 0 165 dzbL_law_1335 rfl
theorem dL_law_1351 : decode cL_law 1351 = .ok (.pop, 1) := dz0 dzo87 16 dzbL_law_1335 rfl
theorem dL_law_1352 : decode cL_law 1352 = .ok (.goto 572, 3) := dz4 dzo167 17 2 60 572 rfl dzbL_law_1335 rfl
theorem dL_law_1355 : decode cL_law 1355 = .ok (.aload_n 1, 1) := dz0 dzo43 20 dzbL_law_1335 rfl
theorem dL_law_1356 : decode cL_law 1356 = .ok (.aload_n 0, 1) := dz0 dzo42 21 dzbL_law_1335 rfl
theorem dL_law_1357 : decode cL_law 1357 = .ok (.iload 4, 2) := dz1 dzo21 22 4 dzbL_law_1335 rfl
theorem dzbL_law_1359 : dzB cL_law 1359 [4, 96, 46, 182, 0, 166, 87, 44, 42, 21, 4, 4, 96, 46, 182, 0, 169, 87, 167, 2, 35, 43, 42] := by decide +kernel
theorem dL_law_1359 : decode cL_law 1359 = .ok (.iconst 1, 1) := dz0 dzo4 0 dzbL_law_1359 rfl
theorem dL_law_1360 : decode cL_law 1360 = .ok (.iadd, 1) := dz0 dzo96 1 dzbL_law_1359 rfl
theorem dL_law_1361 : decode cL_law 1361 = .ok (.iaload, 1) := dz0 dzo46 2 dzbL_law_1359 rfl
theorem dL_law_1362 : decode cL_law 1362 = .ok (.invokevirtual 166, 3) := dz2 dzo182 3 0 166 dzbL_law_1359 rfl
theorem dL_law_1365 : decode cL_law 1365 = .ok (.pop, 1) := dz0 dzo87 6 dzbL_law_1359 rfl
theorem dL_law_1366 : decode cL_law 1366 = .ok (.aload_n 2, 1) := dz0 dzo44 7 dzbL_law_1359 rfl
theorem dL_law_1367 : decode cL_law 1367 = .ok (.aload_n 0, 1) := dz0 dzo42 8 dzbL_law_1359 rfl
theorem dL_law_1368 : decode cL_law 1368 = .ok (.iload 4, 2) := dz1 dzo21 9 4 dzbL_law_1359 rfl
theorem dL_law_1370 : decode cL_law 1370 = .ok (.iconst 1, 1) := dz0 dzo4 11 dzbL_law_1359 rfl
theorem dL_law_1371 : decode cL_law 1371 = .ok (.iadd, 1) := dz0 dzo96 12 dzbL_law_1359 rfl
theorem dL_law_1372 : decode cL_law 1372 = .ok (.iaload, 1) := dz0 dzo46 13 dzbL_law_1359 rfl
theorem dL_law_1373 : decode cL_law 1373 = .ok (.invokevirtual 169, 3) := dz2 dzo182 14 0 169 dzbL_law_1359 rfl
theorem dL_law_1376 : decode cL_law 1376 = .ok (.pop, 1) := dz0 dzo87 17 dzbL_law_1359 rfl
theorem dL_law_1377 : decode cL_law 1377 = .ok (.goto 547, 3) := dz4 dzo167 18 2 35 547 rfl dzbL_law_1359 rfl
theorem dL_law_1380 : decode cL_law 1380 = .ok (.aload_n 1, 1) := dz0 dzo43 21 dzbL_law_1359 rfl
theorem dL_law_1381 : decode cL_law 1381 = .ok (.aload_n 0, 1) := dz0 dzo42 22 dzbL_law_1359 rfl
theorem dzbL_law_1382 : dzB cL_law 1382 [21, 4, 4, 96, 46, 182, 0, 170, 87, 44, 42, 21, 4, 4, 96, 46, 182, 0, 173, 87, 167, 2, 10, 43] := by decide +kernel
theorem dL_law_1382 : decode cL_law 1382 = .ok (.iload 4, 2) := dz1 dzo21 0 4 dzbL_law_1382 rfl
theorem dL_law_1384 : decode cL_law 1384 = .ok (.iconst 1, 1) := dz0 dzo4 2 dzbL_law_1382 rfl
theorem dL_law_1385 : decode cL_law 1385 = .ok (.iadd, 1) := dz0 dzo96 3 dzbL_law_1382 rfl
theorem dL_law_1386 : decode cL_law 1386 = .ok (.iaload, 1) := dz0 dzo46 4 dzbL_law_1382 rfl
theorem dL_law_1387 : decode cL_law 1387 = .ok (.invokevirtual 170, 3) := dz2 dzo182 5 0 170 dzbL_law_1382 rfl
theorem dL_law_1390 : decode cL_law 1390 = .ok (.pop, 1) := dz0 dzo87 8 dzbL_law_1382 rfl
theorem dL_law_1391 : decode cL_law 1391 = .ok (.aload_n 2, 1) := dz0 dzo44 9 dzbL_law_1382 rfl
theorem dL_law_1392 : decode cL_law 1392 = .ok (.aload_n 0, 1) := dz0 dzo42 10 dzbL_law_1382 rfl
theorem dL_law_1393 : decode cL_law 1393 = .ok (.iload 4, 2) := dz1 dzo21 11 4 dzbL_law_1382 rfl
theorem dL_law_1395 : decode cL_law 1395 = .ok (.iconst 1, 1) := dz0 dzo4 13 dzbL_law_1382 rfl
theorem dL_law_1396 : decode cL_law 1396 = .ok (.iadd, 1) := dz0 dzo96 14 dzbL_law_1382 rfl
theorem dL_law_1397 : decode cL_law 1397 = .ok (.iaload, 1) := dz0 dzo46 15 dzbL_law_1382 rfl
theorem dL_law_1398 : decode cL_law 1398 = .ok (.invokevirtual 173, 3) := dz2 dzo182 16 0 173 dzbL_law_1382 rfl
theorem dL_law_1401 : decode cL_law 1401 = .ok (.pop, 1) := dz0 dzo87 19 dzbL_law_1382 rfl
theorem dL_law_1402 : decode cL_law 1402 = .ok (.goto 522, 3) := dz4 dzo167 20 2 10 522 rfl dzbL_law_1382 rfl
theorem dL_law_1405 : decode cL_law 1405 = .ok (.aload_n 1, 1) := dz0 dzo43 23 dzbL_law_1382 rfl
theorem dzbL_law_1406 : dzB cL_law 1406 [42, 21, 4, 4, 96, 46, 42, 21, 4, 5, 96, 46, 42, 21, 4, 6, 96, 46, 153, 0, 7, 4] := by decide +kernel
theorem dL_law_1406 : decode cL_law 1406 = .ok (.aload_n 0, 1) := dz0 dzo42 0 dzbL_law_1406 rfl
theorem dL_law_1407 : decode cL_law 1407 = .ok (.iload 4, 2) := dz1 dzo21 1 4 dzbL_law_1406 rfl
theorem dL_law_1409 : decode cL_law 1409 = .ok (.iconst 1, 1) := dz0 dzo4 3 dzbL_law_1406 rfl
theorem dL_law_1410 : decode cL_law 1410 = .ok (.iadd, 1) := dz0 dzo96 4 dzbL_law_1406 rfl
theorem dL_law_1411 : decode cL_law 1411 = .ok (.iaload, 1) := dz0 dzo46 5 dzbL_law_1406 rfl
theorem dL_law_1412 : decode cL_law 1412 = .ok (.aload_n 0, 1) := dz0 dzo42 6 dzbL_law_1406 rfl
theorem dL_law_1413 : decode cL_law 1413 = .ok (.iload 4, 2) := dz1 dzo21 7 4 dzbL_law_1406 rfl
theorem dL_law_1415 : decode cL_law 1415 = .ok (.iconst 2, 1) := dz0 dzo5 9 dzbL_law_1406 rfl
theorem dL_law_1416 : decode cL_law 1416 = .ok (.iadd, 1) := dz0 dzo96 10 dzbL_law_1406 rfl
theorem dL_law_1417 : decode cL_law 1417 = .ok (.iaload, 1) := dz0 dzo46 11 dzbL_law_1406 rfl
theorem dL_law_1418 : decode cL_law 1418 = .ok (.aload_n 0, 1) := dz0 dzo42 12 dzbL_law_1406 rfl
theorem dL_law_1419 : decode cL_law 1419 = .ok (.iload 4, 2) := dz1 dzo21 13 4 dzbL_law_1406 rfl
theorem dL_law_1421 : decode cL_law 1421 = .ok (.iconst 3, 1) := dz0 dzo6 15 dzbL_law_1406 rfl
theorem dL_law_1422 : decode cL_law 1422 = .ok (.iadd, 1) := dz0 dzo96 16 dzbL_law_1406 rfl
theorem dL_law_1423 : decode cL_law 1423 = .ok (.iaload, 1) := dz0 dzo46 17 dzbL_law_1406 rfl
theorem dL_law_1424 : decode cL_law 1424 = .ok (.ifCond .eq 7, 3) := dz4 dzo153 18 0 7 7 rfl dzbL_law_1406 rfl
theorem dL_law_1427 : decode cL_law 1427 = .ok (.iconst 1, 1) := dz0 dzo4 21 dzbL_law_1406 rfl
theorem dzbL_law_1428 : dzB cL_law 1428 [167, 0, 4, 3, 182, 0, 174, 88, 44, 42, 21, 4, 4, 96, 46, 42, 21, 4, 5, 96, 46, 42, 21, 4] := by decide +kernel
theorem dL_law_1428 : decode cL_law 1428 = .ok (.goto 4, 3) := dz4 dzo167 0 0 4 4 rfl dzbL_law_1428 rfl
theorem dL_law_1431 : decode cL_law 1431 = .ok (.iconst 0, 1) := dz0 dzo3 3 dzbL_law_1428 rfl
theorem dL_law_1432 : decode cL_law 1432 = .ok (.invokevirtual 174, 3) := dz2 dzo182 4 0 174 dzbL_law_1428 rfl
theorem dL_law_1435 : decode cL_law 1435 = .ok (.pop2, 1) := dz0 dzo88 7 dzbL_law_1428 rfl
theorem dL_law_1436 : decode cL_law 1436 = .ok (.aload_n 2, 1) := dz0 dzo44 8 dzbL_law_1428 rfl
theorem dL_law_1437 : decode cL_law 1437 = .ok (.aload_n 0, 1) := dz0 dzo42 9 dzbL_law_1428 rfl
theorem dL_law_1438 : decode cL_law 1438 = .ok (.iload 4, 2) := dz1 dzo21 10 4 dzbL_law_1428 rfl
theorem dL_law_1440 : decode cL_law 1440 = .ok (.iconst 1, 1) := dz0 dzo4 12 dzbL_law_1428 rfl
theorem dL_law_1441 : decode cL_law 1441 = .ok (.iadd, 1) := dz0 dzo96 13 dzbL_law_1428 rfl
theorem dL_law_1442 : decode cL_law 1442 = .ok (.iaload, 1) := dz0 dzo46 14 dzbL_law_1428 rfl
theorem dL_law_1443 : decode cL_law 1443 = .ok (.aload_n 0, 1) := dz0 dzo42 15 dzbL_law_1428 rfl
theorem dL_law_1444 : decode cL_law 1444 = .ok (.iload 4, 2) := dz1 dzo21 16 4 dzbL_law_1428 rfl
theorem dL_law_1446 : decode cL_law 1446 = .ok (.iconst 2, 1) := dz0 dzo5 18 dzbL_law_1428 rfl
theorem dL_law_1447 : decode cL_law 1447 = .ok (.iadd, 1) := dz0 dzo96 19 dzbL_law_1428 rfl
theorem dL_law_1448 : decode cL_law 1448 = .ok (.iaload, 1) := dz0 dzo46 20 dzbL_law_1428 rfl
theorem dL_law_1449 : decode cL_law 1449 = .ok (.aload_n 0, 1) := dz0 dzo42 21 dzbL_law_1428 rfl
theorem dL_law_1450 : decode cL_law 1450 = .ok (.iload 4, 2) := dz1 dzo21 22 4 dzbL_law_1428 rfl
theorem dzbL_law_1452 : dzB cL_law 1452 [6, 96, 46, 153, 0, 7, 4, 167, 0, 4, 3, 182, 0, 177, 88, 167, 1, 201, 43, 42, 21, 4, 4, 96] := by decide +kernel
theorem dL_law_1452 : decode cL_law 1452 = .ok (.iconst 3, 1) := dz0 dzo6 0 dzbL_law_1452 rfl
theorem dL_law_1453 : decode cL_law 1453 = .ok (.iadd, 1) := dz0 dzo96 1 dzbL_law_1452 rfl
theorem dL_law_1454 : decode cL_law 1454 = .ok (.iaload, 1) := dz0 dzo46 2 dzbL_law_1452 rfl
theorem dL_law_1455 : decode cL_law 1455 = .ok (.ifCond .eq 7, 3) := dz4 dzo153 3 0 7 7 rfl dzbL_law_1452 rfl
theorem dL_law_1458 : decode cL_law 1458 = .ok (.iconst 1, 1) := dz0 dzo4 6 dzbL_law_1452 rfl
theorem dL_law_1459 : decode cL_law 1459 = .ok (.goto 4, 3) := dz4 dzo167 7 0 4 4 rfl dzbL_law_1452 rfl
theorem dL_law_1462 : decode cL_law 1462 = .ok (.iconst 0, 1) := dz0 dzo3 10 dzbL_law_1452 rfl
theorem dL_law_1463 : decode cL_law 1463 = .ok (.invokevirtual 177, 3) := dz2 dzo182 11 0 177 dzbL_law_1452 rfl
theorem dL_law_1466 : decode cL_law 1466 = .ok (.pop2, 1) := dz0 dzo88 14 dzbL_law_1452 rfl
theorem dL_law_1467 : decode cL_law 1467 = .ok (.goto 457, 3) := dz4 dzo167 15 1 201 457 rfl dzbL_law_1452 rfl
theorem dL_law_1470 : decode cL_law 1470 = .ok (.aload_n 1, 1) := dz0 dzo43 18 dzbL_law_1452 rfl
theorem dL_law_1471 : decode cL_law 1471 = .ok (.aload_n 0, 1) := dz0 dzo42 19 dzbL_law_1452 rfl
theorem dL_law_1472 : decode cL_law 1472 = .ok (.iload 4, 2) := dz1 dzo21 20 4 dzbL_law_1452 rfl
theorem dL_law_1474 : decode cL_law 1474 = .ok (.iconst 1, 1) := dz0 dzo4 22 dzbL_law_1452 rfl
theorem dL_law_1475 : decode cL_law 1475 = .ok (.iadd, 1) := dz0 dzo96 23 dzbL_law_1452 rfl
theorem dzbL_law_1476 : dzB cL_law 1476 [46, 42, 21, 4, 5, 96, 46, 153, 0, 7, 4, 167, 0, 4, 3, 182, 0, 178, 88, 44, 42, 21, 4, 4] := by decide +kernel
theorem dL_law_1476 : decode cL_law 1476 = .ok (.iaload, 1) := dz0 dzo46 0 dzbL_law_1476 rfl
theorem dL_law_1477 : decode cL_law 1477 = .ok (.aload_n 0, 1) := dz0 dzo42 1 dzbL_law_1476 rfl
theorem dL_law_1478 : decode cL_law 1478 = .ok (.iload 4, 2) := dz1 dzo21 2 4 dzbL_law_1476 rfl
theorem dL_law_1480 : decode cL_law 1480 = .ok (.iconst 2, 1) := dz0 dzo5 4 dzbL_law_1476 rfl
theorem dL_law_1481 : decode cL_law 1481 = .ok (.iadd, 1) := dz0 dzo96 5 dzbL_law_1476 rfl
theorem dL_law_1482 : decode cL_law 1482 = .ok (.iaload, 1) := dz0 dzo46 6 dzbL_law_1476 rfl
theorem dL_law_1483 : decode cL_law 1483 = .ok (.ifCond .eq 7, 3) := dz4 dzo153 7 0 7 7 rfl dzbL_law_1476 rfl
theorem dL_law_1486 : decode cL_law 1486 = .ok (.iconst 1, 1) := dz0 dzo4 10 dzbL_law_1476 rfl
theorem dL_law_1487 : decode cL_law 1487 = .ok (.goto 4, 3) := dz4 dzo167 11 0 4 4 rfl dzbL_law_1476 rfl
theorem dL_law_1490 : decode cL_law 1490 = .ok (.iconst 0, 1) := dz0 dzo3 14 dzbL_law_1476 rfl
theorem dL_law_1491 : decode cL_law 1491 = .ok (.invokevirtual 178, 3) := dz2 dzo182 15 0 178 dzbL_law_1476 rfl
theorem dL_law_1494 : decode cL_law 1494 = .ok (.pop2, 1) := dz0 dzo88 18 dzbL_law_1476 rfl
theorem dL_law_1495 : decode cL_law 1495 = .ok (.aload_n 2, 1) := dz0 dzo44 19 dzbL_law_1476 rfl
theorem dL_law_1496 : decode cL_law 1496 = .ok (.aload_n 0, 1) := dz0 dzo42 20 dzbL_law_1476 rfl
theorem dL_law_1497 : decode cL_law 1497 = .ok (.iload 4, 2) := dz1 dzo21 21 4 dzbL_law_1476 rfl
theorem dL_law_1499 : decode cL_law 1499 = .ok (.iconst 1, 1) := dz0 dzo4 23 dzbL_law_1476 rfl
theorem dzbL_law_1500 : dzB cL_law 1500 [96, 46, 42, 21, 4, 5, 96, 46, 153, 0, 7, 4, 167, 0, 4, 3, 182, 0, 181, 88, 167, 1, 148, 43] := by decide +kernel
theorem dL_law_1500 : decode cL_law 1500 = .ok (.iadd, 1) := dz0 dzo96 0 dzbL_law_1500 rfl
theorem dL_law_1501 : decode cL_law 1501 = .ok (.iaload, 1) := dz0 dzo46 1 dzbL_law_1500 rfl
theorem dL_law_1502 : decode cL_law 1502 = .ok (.aload_n 0, 1) := dz0 dzo42 2 dzbL_law_1500 rfl
theorem dL_law_1503 : decode cL_law 1503 = .ok (.iload 4, 2) := dz1 dzo21 3 4 dzbL_law_1500 rfl
theorem dL_law_1505 : decode cL_law 1505 = .ok (.iconst 2, 1) := dz0 dzo5 5 dzbL_law_1500 rfl
theorem dL_law_1506 : decode cL_law 1506 = .ok (.iadd, 1) := dz0 dzo96 6 dzbL_law_1500 rfl
theorem dL_law_1507 : decode cL_law 1507 = .ok (.iaload, 1) := dz0 dzo46 7 dzbL_law_1500 rfl
theorem dL_law_1508 : decode cL_law 1508 = .ok (.ifCond .eq 7, 3) := dz4 dzo153 8 0 7 7 rfl dzbL_law_1500 rfl
theorem dL_law_1511 : decode cL_law 1511 = .ok (.iconst 1, 1) := dz0 dzo4 11 dzbL_law_1500 rfl
theorem dL_law_1512 : decode cL_law 1512 = .ok (.goto 4, 3) := dz4 dzo167 12 0 4 4 rfl dzbL_law_1500 rfl
theorem dL_law_1515 : decode cL_law 1515 = .ok (.iconst 0, 1) := dz0 dzo3 15 dzbL_law_1500 rfl
theorem dL_law_1516 : decode cL_law 1516 = .ok (.invokevirtual 181, 3) := dz2 dzo182 16 0 181 dzbL_law_1500 rfl
theorem dL_law_1519 : decode cL_law 1519 = .ok (.pop2, 1) := dz0 dzo88 19 dzbL_law_1500 rfl
theorem dL_law_1520 : decode cL_law 1520 = .ok (.goto 404, 3) := dz4 dzo167 20 1 148 404 rfl dzbL_law_1500 rfl
theorem dL_law_1523 : decode cL_law 1523 = .ok (.aload_n 1, 1) := dz0 dzo43 23 dzbL_law_1500 rfl
theorem dzbL_law_1524 : dzB cL_law 1524 [42, 21, 4, 4, 96, 46, 42, 21, 4, 5, 96, 46, 42, 21, 4, 6, 96, 46, 182, 0, 182, 87, 44, 42] := by decide +kernel
theorem dL_law_1524 : decode cL_law 1524 = .ok (.aload_n 0, 1) := dz0 dzo42 0 dzbL_law_1524 rfl
theorem dL_law_1525 : decode cL_law 1525 = .ok (.iload 4, 2) := dz1 dzo21 1 4 dzbL_law_1524 rfl
theorem dL_law_1527 : decode cL_law 1527 = .ok (.iconst 1, 1) := dz0 dzo4 3 dzbL_law_1524 rfl
theorem dL_law_1528 : decode cL_law 1528 = .ok (.iadd, 1) := dz0 dzo96 4 dzbL_law_1524 rfl
theorem dL_law_1529 : decode cL_law 1529 = .ok (.iaload, 1) := dz0 dzo46 5 dzbL_law_1524 rfl
theorem dL_law_1530 : decode cL_law 1530 = .ok (.aload_n 0, 1) := dz0 dzo42 6 dzbL_law_1524 rfl
theorem dL_law_1531 : decode cL_law 1531 = .ok (.iload 4, 2) := dz1 dzo21 7 4 dzbL_law_1524 rfl
theorem dL_law_1533 : decode cL_law 1533 = .ok (.iconst 2, 1) := dz0 dzo5 9 dzbL_law_1524 rfl
theorem dL_law_1534 : decode cL_law 1534 = .ok (.iadd, 1) := dz0 dzo96 10 dzbL_law_1524 rfl
theorem dL_law_1535 : decode cL_law 1535 = .ok (.iaload, 1) := dz0 dzo46 11 dzbL_law_1524 rfl
theorem dL_law_1536 : decode cL_law 1536 = .ok (.aload_n 0, 1) := dz0 dzo42 12 dzbL_law_1524 rfl
theorem dL_law_1537 : decode cL_law 1537 = .ok (.iload 4, 2) := dz1 dzo21 13 4 dzbL_law_1524 rfl
theorem dL_law_1539 : decode cL_law 1539 = .ok (.iconst 3, 1) := dz0 dzo6 15 dzbL_law_1524 rfl
theorem dL_law_1540 : decode cL_law 1540 = .ok (.iadd, 1) := dz0 dzo96 16 dzbL_law_1524 rfl
theorem dL_law_1541 : decode cL_law 1541 = .ok (.iaload, 1) := dz0 dzo46 17 dzbL_law_1524 rfl
theorem dL_law_1542 : decode cL_law 1542 = .ok (.invokevirtual 182, 3) := dz2 dzo182 18 0 182 dzbL_law_1524 rfl
theorem dL_law_1545 : decode cL_law 1545 = .ok (.pop, 1) := dz0 dzo87 21 dzbL_law_1524 rfl
theorem dL_law_1546 : decode cL_law 1546 = .ok (.aload_n 2, 1) := dz0 dzo44 22 dzbL_law_1524 rfl
theorem dL_law_1547 : decode cL_law 1547 = .ok (.aload_n 0, 1) := dz0 dzo42 23 dzbL_law_1524 rfl
theorem dzbL_law_1548 : dzB cL_law 1548 [21, 4, 4, 96, 46, 42, 21, 4, 5, 96, 46, 42, 21, 4, 6, 96, 46, 182, 0, 185, 87, 167, 1, 99] := by decide +kernel
theorem dL_law_1548 : decode cL_law 1548 = .ok (.iload 4, 2) := dz1 dzo21 0 4 dzbL_law_1548 rfl
theorem dL_law_1550 : decode cL_law 1550 = .ok (.iconst 1, 1) := dz0 dzo4 2 dzbL_law_1548 rfl
theorem dL_law_1551 : decode cL_law 1551 = .ok (.iadd, 1) := dz0 dzo96 3 dzbL_law_1548 rfl
theorem dL_law_1552 : decode cL_law 1552 = .ok (.iaload, 1) := dz0 dzo46 4 dzbL_law_1548 rfl
theorem dL_law_1553 : decode cL_law 1553 = .ok (.aload_n 0, 1) := dz0 dzo42 5 dzbL_law_1548 rfl
theorem dL_law_1554 : decode cL_law 1554 = .ok (.iload 4, 2) := dz1 dzo21 6 4 dzbL_law_1548 rfl
theorem dL_law_1556 : decode cL_law 1556 = .ok (.iconst 2, 1) := dz0 dzo5 8 dzbL_law_1548 rfl
theorem dL_law_1557 : decode cL_law 1557 = .ok (.iadd, 1) := dz0 dzo96 9 dzbL_law_1548 rfl
theorem dL_law_1558 : decode cL_law 1558 = .ok (.iaload, 1) := dz0 dzo46 10 dzbL_law_1548 rfl
theorem dL_law_1559 : decode cL_law 1559 = .ok (.aload_n 0, 1) := dz0 dzo42 11 dzbL_law_1548 rfl
theorem dL_law_1560 : decode cL_law 1560 = .ok (.iload 4, 2) := dz1 dzo21 12 4 dzbL_law_1548 rfl
theorem dL_law_1562 : decode cL_law 1562 = .ok (.iconst 3, 1) := dz0 dzo6 14 dzbL_law_1548 rfl
theorem dL_law_1563 : decode cL_law 1563 = .ok (.iadd, 1) := dz0 dzo96 15 dzbL_law_1548 rfl
theorem dL_law_1564 : decode cL_law 1564 = .ok (.iaload, 1) := dz0 dzo46 16 dzbL_law_1548 rfl
theorem dL_law_1565 : decode cL_law 1565 = .ok (.invokevirtual 185, 3) := dz2 dzo182 17 0 185 dzbL_law_1548 rfl
theorem dL_law_1568 : decode cL_law 1568 = .ok (.pop, 1) := dz0 dzo87 20 dzbL_law_1548 rfl
theorem dL_law_1569 : decode cL_law 1569 = .ok (.goto 355, 3) := dz4 dzo167 21 1 99 355 rfl dzbL_law_1548 rfl
theorem dzbL_law_1572 : dzB cL_law 1572 [43, 42, 21, 4, 4, 96, 46, 42, 21, 4, 5, 96, 46, 42, 21, 4, 6, 96, 46, 182, 0, 186, 87, 44] := by decide +kernel
theorem dL_law_1572 : decode cL_law 1572 = .ok (.aload_n 1, 1) := dz0 dzo43 0 dzbL_law_1572 rfl
theorem dL_law_1573 : decode cL_law 1573 = .ok (.aload_n 0, 1) := dz0 dzo42 1 dzbL_law_1572 rfl
theorem dL_law_1574 : decode cL_law 1574 = .ok (.iload 4, 2) := dz1 dzo21 2 4 dzbL_law_1572 rfl
theorem dL_law_1576 : decode cL_law 1576 = .ok (.iconst 1, 1) := dz0 dzo4 4 dzbL_law_1572 rfl
theorem dL_law_1577 : decode cL_law 1577 = .ok (.iadd, 1) := dz0 dzo96 5 dzbL_law_1572 rfl
theorem dL_law_1578 : decode cL_law 1578 = .ok (.iaload, 1) := dz0 dzo46 6 dzbL_law_1572 rfl
theorem dL_law_1579 : decode cL_law 1579 = .ok (.aload_n 0, 1) := dz0 dzo42 7 dzbL_law_1572 rfl
theorem dL_law_1580 : decode cL_law 1580 = .ok (.iload 4, 2) := dz1 dzo21 8 4 dzbL_law_1572 rfl
theorem dL_law_1582 : decode cL_law 1582 = .ok (.iconst 2, 1) := dz0 dzo5 10 dzbL_law_1572 rfl
theorem dL_law_1583 : decode cL_law 1583 = .ok (.iadd, 1) := dz0 dzo96 11 dzbL_law_1572 rfl
theorem dL_law_1584 : decode cL_law 1584 = .ok (.iaload, 1) := dz0 dzo46 12 dzbL_law_1572 rfl
theorem dL_law_1585 : decode cL_law 1585 = .ok (.aload_n 0, 1) := dz0 dzo42 13 dzbL_law_1572 rfl
theorem dL_law_1586 : decode cL_law 1586 = .ok (.iload 4, 2) := dz1 dzo21 14 4 dzbL_law_1572 rfl
theorem dL_law_1588 : decode cL_law 1588 = .ok (.iconst 3, 1) := dz0 dzo6 16 dzbL_law_1572 rfl
theorem dL_law_1589 : decode cL_law 1589 = .ok (.iadd, 1) := dz0 dzo96 17 dzbL_law_1572 rfl
theorem dL_law_1590 : decode cL_law 1590 = .ok (.iaload, 1) := dz0 dzo46 18 dzbL_law_1572 rfl
theorem dL_law_1591 : decode cL_law 1591 = .ok (.invokevirtual 186, 3) := dz2 dzo182 19 0 186 dzbL_law_1572 rfl
theorem dL_law_1594 : decode cL_law 1594 = .ok (.pop, 1) := dz0 dzo87 22 dzbL_law_1572 rfl
theorem dL_law_1595 : decode cL_law 1595 = .ok (.aload_n 2, 1) := dz0 dzo44 23 dzbL_law_1572 rfl
theorem dzbL_law_1596 : dzB cL_law 1596 [42, 21, 4, 4, 96, 46, 42, 21, 4, 5, 96, 46, 42, 21, 4, 6, 96, 46, 182, 0, 189, 87] := by decide +kernel
theorem dL_law_1596 : decode cL_law 1596 = .ok (.aload_n 0, 1) := dz0 dzo42 0 dzbL_law_1596 rfl
theorem dL_law_1597 : decode cL_law 1597 = .ok (.iload 4, 2) := dz1 dzo21 1 4 dzbL_law_1596 rfl
theorem dL_law_1599 : decode cL_law 1599 = .ok (.iconst 1, 1) := dz0 dzo4 3 dzbL_law_1596 rfl
theorem dL_law_1600 : decode cL_law 1600 = .ok (.iadd, 1) := dz0 dzo96 4 dzbL_law_1596 rfl
theorem dL_law_1601 : decode cL_law 1601 = .ok (.iaload, 1) := dz0 dzo46 5 dzbL_law_1596 rfl
theorem dL_law_1602 : decode cL_law 1602 = .ok (.aload_n 0, 1) := dz0 dzo42 6 dzbL_law_1596 rfl
theorem dL_law_1603 : decode cL_law 1603 = .ok (.iload 4, 2) := dz1 dzo21 7 4 dzbL_law_1596 rfl
theorem dL_law_1605 : decode cL_law 1605 = .ok (.iconst 2, 1) := dz0 dzo5 9 dzbL_law_1596 rfl
theorem dL_law_1606 : decode cL_law 1606 = .ok (.iadd, 1) := dz0 dzo96 10 dzbL_law_1596 rfl
theorem dL_law_1607 : decode cL_law 1607 = .ok (.iaload, 1) := dz0 dzo46 11 dzbL_law_1596 rfl
theorem dL_law_1608 : decode cL_law 1608 = .ok (.aload_n 0, 1) := dz0 dzo42 12 dzbL_law_1596 rfl
theorem dL_law_1609 : decode cL_law 1609 = .ok (.iload 4, 2) := dz1 dzo21 13 4 dzbL_law_1596 rfl
theorem dL_law_1611 : decode cL_law 1611 = .ok (.iconst 3, 1) := dz0 dzo6 15 dzbL_law_1596 rfl
theorem dL_law_1612 : decode cL_law 1612 = .ok (.iadd, 1) := dz0 dzo96 16 dzbL_law_1596 rfl
theorem dL_law_1613 : decode cL_law 1613 = .ok (.iaload, 1) := dz0 dzo46 17 dzbL_law_1596 rfl
theorem dL_law_1614 : decode cL_law 1614 = .ok (.invokevirtual 189, 3) := dz2 dzo182 18 0 189 dzbL_law_1596 rfl
theorem dL_law_1617 : decode cL_law 1617 = .ok (.pop, 1) := dz0 dzo87 21 dzbL_law_1596 rfl
theorem dzbL_law_1618 : dzB cL_law 1618 [167, 1, 50, 43, 42, 21, 4, 4, 96, 46, 42, 21, 4, 5, 96, 46, 42, 21, 4, 6, 96, 46] := by decide +kernel
theorem dL_law_1618 : decode cL_law 1618 = .ok (.goto 306, 3) := dz4 dzo167 0 1 50 306 rfl dzbL_law_1618 rfl
theorem dL_law_1621 : decode cL_law 1621 = .ok (.aload_n 1, 1) := dz0 dzo43 3 dzbL_law_1618 rfl
theorem dL_law_1622 : decode cL_law 1622 = .ok (.aload_n 0, 1) := dz0 dzo42 4 dzbL_law_1618 rfl
theorem dL_law_1623 : decode cL_law 1623 = .ok (.iload 4, 2) := dz1 dzo21 5 4 dzbL_law_1618 rfl
theorem dL_law_1625 : decode cL_law 1625 = .ok (.iconst 1, 1) := dz0 dzo4 7 dzbL_law_1618 rfl
theorem dL_law_1626 : decode cL_law 1626 = .ok (.iadd, 1) := dz0 dzo96 8 dzbL_law_1618 rfl
theorem dL_law_1627 : decode cL_law 1627 = .ok (.iaload, 1) := dz0 dzo46 9 dzbL_law_1618 rfl
theorem dL_law_1628 : decode cL_law 1628 = .ok (.aload_n 0, 1) := dz0 dzo42 10 dzbL_law_1618 rfl
theorem dL_law_1629 : decode cL_law 1629 = .ok (.iload 4, 2) := dz1 dzo21 11 4 dzbL_law_1618 rfl
theorem dL_law_1631 : decode cL_law 1631 = .ok (.iconst 2, 1) := dz0 dzo5 13 dzbL_law_1618 rfl
theorem dL_law_1632 : decode cL_law 1632 = .ok (.iadd, 1) := dz0 dzo96 14 dzbL_law_1618 rfl
theorem dL_law_1633 : decode cL_law 1633 = .ok (.iaload, 1) := dz0 dzo46 15 dzbL_law_1618 rfl
theorem dL_law_1634 : decode cL_law 1634 = .ok (.aload_n 0, 1) := dz0 dzo42 16 dzbL_law_1618 rfl
theorem dL_law_1635 : decode cL_law 1635 = .ok (.iload 4, 2) := dz1 dzo21 17 4 dzbL_law_1618 rfl
theorem dL_law_1637 : decode cL_law 1637 = .ok (.iconst 3, 1) := dz0 dzo6 19 dzbL_law_1618 rfl
theorem dL_law_1638 : decode cL_law 1638 = .ok (.iadd, 1) := dz0 dzo96 20 dzbL_law_1618 rfl
theorem dL_law_1639 : decode cL_law 1639 = .ok (.iaload, 1) := dz0 dzo46 21 dzbL_law_1618 rfl
theorem dzbL_law_1640 : dzB cL_law 1640 [182, 0, 190, 87, 44, 42, 21, 4, 4, 96, 46, 42, 21, 4, 5, 96, 46, 42, 21, 4, 6, 96, 46] := by decide +kernel
theorem dL_law_1640 : decode cL_law 1640 = .ok (.invokevirtual 190, 3) := dz2 dzo182 0 0 190 dzbL_law_1640 rfl
theorem dL_law_1643 : decode cL_law 1643 = .ok (.pop, 1) := dz0 dzo87 3 dzbL_law_1640 rfl
theorem dL_law_1644 : decode cL_law 1644 = .ok (.aload_n 2, 1) := dz0 dzo44 4 dzbL_law_1640 rfl
theorem dL_law_1645 : decode cL_law 1645 = .ok (.aload_n 0, 1) := dz0 dzo42 5 dzbL_law_1640 rfl
theorem dL_law_1646 : decode cL_law 1646 = .ok (.iload 4, 2) := dz1 dzo21 6 4 dzbL_law_1640 rfl
theorem dL_law_1648 : decode cL_law 1648 = .ok (.iconst 1, 1) := dz0 dzo4 8 dzbL_law_1640 rfl
theorem dL_law_1649 : decode cL_law 1649 = .ok (.iadd, 1) := dz0 dzo96 9 dzbL_law_1640 rfl
theorem dL_law_1650 : decode cL_law 1650 = .ok (.iaload, 1) := dz0 dzo46 10 dzbL_law_1640 rfl
theorem dL_law_1651 : decode cL_law 1651 = .ok (.aload_n 0, 1) := dz0 dzo42 11 dzbL_law_1640 rfl
theorem dL_law_1652 : decode cL_law 1652 = .ok (.iload 4, 2) := dz1 dzo21 12 4 dzbL_law_1640 rfl
theorem dL_law_1654 : decode cL_law 1654 = .ok (.iconst 2, 1) := dz0 dzo5 14 dzbL_law_1640 rfl
theorem dL_law_1655 : decode cL_law 1655 = .ok (.iadd, 1) := dz0 dzo96 15 dzbL_law_1640 rfl
theorem dL_law_1656 : decode cL_law 1656 = .ok (.iaload, 1) := dz0 dzo46 16 dzbL_law_1640 rfl
theorem dL_law_1657 : decode cL_law 1657 = .ok (.aload_n 0, 1) := dz0 dzo42 17 dzbL_law_1640 rfl
theorem dL_law_1658 : decode cL_law 1658 = .ok (.iload 4, 2) := dz1 dzo21 18 4 dzbL_law_1640 rfl
theorem dL_law_1660 : decode cL_law 1660 = .ok (.iconst 3, 1) := dz0 dzo6 20 dzbL_law_1640 rfl
theorem dL_law_1661 : decode cL_law 1661 = .ok (.iadd, 1) := dz0 dzo96 21 dzbL_law_1640 rfl
theorem dL_law_1662 : decode cL_law 1662 = .ok (.iaload, 1) := dz0 dzo46 22 dzbL_law_1640 rfl
theorem dzbL_law_1663 : dzB cL_law 1663 [182, 0, 193, 87, 167, 1, 1, 43, 42, 21, 4, 4, 96, 46, 42, 21, 4, 5, 96, 46, 182, 0, 194, 87] := by decide +kernel
theorem dL_law_1663 : decode cL_law 1663 = .ok (.invokevirtual 193, 3) := dz2 dzo182 0 0 193 dzbL_law_1663 rfl
theorem dL_law_1666 : decode cL_law 1666 = .ok (.pop, 1) := dz0 dzo87 3 dzbL_law_1663 rfl
theorem dL_law_1667 : decode cL_law 1667 = .ok (.goto 257, 3) := dz4 dzo167 4 1 1 257 rfl dzbL_law_1663 rfl
theorem dL_law_1670 : decode cL_law 1670 = .ok (.aload_n 1, 1) := dz0 dzo43 7 dzbL_law_1663 rfl
theorem dL_law_1671 : decode cL_law 1671 = .ok (.aload_n 0, 1) := dz0 dzo42 8 dzbL_law_1663 rfl
theorem dL_law_1672 : decode cL_law 1672 = .ok (.iload 4, 2) := dz1 dzo21 9 4 dzbL_law_1663 rfl
theorem dL_law_1674 : decode cL_law 1674 = .ok (.iconst 1, 1) := dz0 dzo4 11 dzbL_law_1663 rfl
theorem dL_law_1675 : decode cL_law 1675 = .ok (.iadd, 1) := dz0 dzo96 12 dzbL_law_1663 rfl
theorem dL_law_1676 : decode cL_law 1676 = .ok (.iaload, 1) := dz0 dzo46 13 dzbL_law_1663 rfl
theorem dL_law_1677 : decode cL_law 1677 = .ok (.aload_n 0, 1) := dz0 dzo42 14 dzbL_law_1663 rfl
theorem dL_law_1678 : decode cL_law 1678 = .ok (.iload 4, 2) := dz1 dzo21 15 4 dzbL_law_1663 rfl
theorem dL_law_1680 : decode cL_law 1680 = .ok (.iconst 2, 1) := dz0 dzo5 17 dzbL_law_1663 rfl
theorem dL_law_1681 : decode cL_law 1681 = .ok (.iadd, 1) := dz0 dzo96 18 dzbL_law_1663 rfl
theorem dL_law_1682 : decode cL_law 1682 = .ok (.iaload, 1) := dz0 dzo46 19 dzbL_law_1663 rfl
theorem dL_law_1683 : decode cL_law 1683 = .ok (.invokevirtual 194, 3) := dz2 dzo182 20 0 194 dzbL_law_1663 rfl
theorem dL_law_1686 : decode cL_law 1686 = .ok (.pop, 1) := dz0 dzo87 23 dzbL_law_1663 rfl
theorem dzbL_law_1687 : dzB cL_law 1687 [44, 42, 21, 4, 4, 96, 46, 42, 21, 4, 5, 96, 46, 182, 0, 197, 87, 167, 0, 220, 43, 42, 21, 4] := by decide +kernel
theorem dL_law_1687 : decode cL_law 1687 = .ok (.aload_n 2, 1) := dz0 dzo44 0 dzbL_law_1687 rfl
theorem dL_law_1688 : decode cL_law 1688 = .ok (.aload_n 0, 1) := dz0 dzo42 1 dzbL_law_1687 rfl
theorem dL_law_1689 : decode cL_law 1689 = .ok (.iload 4, 2) := dz1 dzo21 2 4 dzbL_law_1687 rfl
theorem dL_law_1691 : decode cL_law 1691 = .ok (.iconst 1, 1) := dz0 dzo4 4 dzbL_law_1687 rfl
theorem dL_law_1692 : decode cL_law 1692 = .ok (.iadd, 1) := dz0 dzo96 5 dzbL_law_1687 rfl
theorem dL_law_1693 : decode cL_law 1693 = .ok (.iaload, 1) := dz0 dzo46 6 dzbL_law_1687 rfl
theorem dL_law_1694 : decode cL_law 1694 = .ok (.aload_n 0, 1) := dz0 dzo42 7 dzbL_law_1687 rfl
theorem dL_law_1695 : decode cL_law 1695 = .ok (.iload 4, 2) := dz1 dzo21 8 4 dzbL_law_1687 rfl
theorem dL_law_1697 : decode cL_law 1697 = .ok (.iconst 2, 1) := dz0 dzo5 10 dzbL_law_1687 rfl
theorem dL_law_1698 : decode cL_law 1698 = .ok (.iadd, 1) := dz0 dzo96 11 dzbL_law_1687 rfl
theorem dL_law_1699 : decode cL_law 1699 = .ok (.iaload, 1) := dz0 dzo46 12 dzbL_law_1687 rfl
theorem dL_law_1700 : decode cL_law 1700 = .ok (.invokevirtual 197, 3) := dz2 dzo182 13 0 197 dzbL_law_1687 rfl
theorem dL_law_1703 : decode cL_law 1703 = .ok (.pop, 1) := dz0 dzo87 16 dzbL_law_1687 rfl
theorem dL_law_1704 : decode cL_law 1704 = .ok (.goto 220, 3) := dz4 dzo167 17 0 220 220 rfl dzbL_law_1687 rfl
theorem dL_law_1707 : decode cL_law 1707 = .ok (.aload_n 1, 1) := dz0 dzo43 20 dzbL_law_1687 rfl
theorem dL_law_1708 : decode cL_law 1708 = .ok (.aload_n 0, 1) := dz0 dzo42 21 dzbL_law_1687 rfl
theorem dL_law_1709 : decode cL_law 1709 = .ok (.iload 4, 2) := dz1 dzo21 22 4 dzbL_law_1687 rfl
theorem dzbL_law_1711 : dzB cL_law 1711 [4, 96, 46, 182, 0, 198, 87, 44, 42, 21, 4, 4, 96, 46, 182, 0, 202, 87, 167, 0, 195, 43, 42] := by decide +kernel
theorem dL_law_1711 : decode cL_law 1711 = .ok (.iconst 1, 1) := dz0 dzo4 0 dzbL_law_1711 rfl
theorem dL_law_1712 : decode cL_law 1712 = .ok (.iadd, 1) := dz0 dzo96 1 dzbL_law_1711 rfl
theorem dL_law_1713 : decode cL_law 1713 = .ok (.iaload, 1) := dz0 dzo46 2 dzbL_law_1711 rfl
theorem dL_law_1714 : decode cL_law 1714 = .ok (.invokevirtual 198, 3) := dz2 dzo182 3 0 198 dzbL_law_1711 rfl
theorem dL_law_1717 : decode cL_law 1717 = .ok (.pop, 1) := dz0 dzo87 6 dzbL_law_1711 rfl
theorem dL_law_1718 : decode cL_law 1718 = .ok (.aload_n 2, 1) := dz0 dzo44 7 dzbL_law_1711 rfl
theorem dL_law_1719 : decode cL_law 1719 = .ok (.aload_n 0, 1) := dz0 dzo42 8 dzbL_law_1711 rfl
theorem dL_law_1720 : decode cL_law 1720 = .ok (.iload 4, 2) := dz1 dzo21 9 4 dzbL_law_1711 rfl
theorem dL_law_1722 : decode cL_law 1722 = .ok (.iconst 1, 1) := dz0 dzo4 11 dzbL_law_1711 rfl
theorem dL_law_1723 : decode cL_law 1723 = .ok (.iadd, 1) := dz0 dzo96 12 dzbL_law_1711 rfl
theorem dL_law_1724 : decode cL_law 1724 = .ok (.iaload, 1) := dz0 dzo46 13 dzbL_law_1711 rfl
theorem dL_law_1725 : decode cL_law 1725 = .ok (.invokevirtual 202, 3) := dz2 dzo182 14 0 202 dzbL_law_1711 rfl
theorem dL_law_1728 : decode cL_law 1728 = .ok (.pop, 1) := dz0 dzo87 17 dzbL_law_1711 rfl
theorem dL_law_1729 : decode cL_law 1729 = .ok (.goto 195, 3) := dz4 dzo167 18 0 195 195 rfl dzbL_law_1711 rfl
theorem dL_law_1732 : decode cL_law 1732 = .ok (.aload_n 1, 1) := dz0 dzo43 21 dzbL_law_1711 rfl
theorem dL_law_1733 : decode cL_law 1733 = .ok (.aload_n 0, 1) := dz0 dzo42 22 dzbL_law_1711 rfl
theorem dzbL_law_1734 : dzB cL_law 1734 [21, 4, 4, 96, 46, 182, 0, 203, 87, 44, 42, 21, 4, 4, 96, 46, 182, 0, 206, 87, 167, 0, 170, 43] := by decide +kernel
theorem dL_law_1734 : decode cL_law 1734 = .ok (.iload 4, 2) := dz1 dzo21 0 4 dzbL_law_1734 rfl
theorem dL_law_1736 : decode cL_law 1736 = .ok (.iconst 1, 1) := dz0 dzo4 2 dzbL_law_1734 rfl
theorem dL_law_1737 : decode cL_law 1737 = .ok (.iadd, 1) := dz0 dzo96 3 dzbL_law_1734 rfl
theorem dL_law_1738 : decode cL_law 1738 = .ok (.iaload, 1) := dz0 dzo46 4 dzbL_law_1734 rfl
theorem dL_law_1739 : decode cL_law 1739 = .ok (.invokevirtual 203, 3) := dz2 dzo182 5 0 203 dzbL_law_1734 rfl
theorem dL_law_1742 : decode cL_law 1742 = .ok (.pop, 1) := dz0 dzo87 8 dzbL_law_1734 rfl
theorem dL_law_1743 : decode cL_law 1743 = .ok (.aload_n 2, 1) := dz0 dzo44 9 dzbL_law_1734 rfl
theorem dL_law_1744 : decode cL_law 1744 = .ok (.aload_n 0, 1) := dz0 dzo42 10 dzbL_law_1734 rfl
theorem dL_law_1745 : decode cL_law 1745 = .ok (.iload 4, 2) := dz1 dzo21 11 4 dzbL_law_1734 rfl
theorem dL_law_1747 : decode cL_law 1747 = .ok (.iconst 1, 1) := dz0 dzo4 13 dzbL_law_1734 rfl
theorem dL_law_1748 : decode cL_law 1748 = .ok (.iadd, 1) := dz0 dzo96 14 dzbL_law_1734 rfl
theorem dL_law_1749 : decode cL_law 1749 = .ok (.iaload, 1) := dz0 dzo46 15 dzbL_law_1734 rfl
theorem dL_law_1750 : decode cL_law 1750 = .ok (.invokevirtual 206, 3) := dz2 dzo182 16 0 206 dzbL_law_1734 rfl
theorem dL_law_1753 : decode cL_law 1753 = .ok (.pop, 1) := dz0 dzo87 19 dzbL_law_1734 rfl
theorem dL_law_1754 : decode cL_law 1754 = .ok (.goto 170, 3) := dz4 dzo167 20 0 170 170 rfl dzbL_law_1734 rfl
theorem dL_law_1757 : decode cL_law 1757 = .ok (.aload_n 1, 1) := dz0 dzo43 23 dzbL_law_1734 rfl
theorem dzbL_law_1758 : dzB cL_law 1758 [42, 21, 4, 4, 96, 46, 182, 0, 207, 87, 44, 42, 21, 4, 4, 96, 46, 182, 0, 210, 87, 167, 0, 145] := by decide +kernel
theorem dL_law_1758 : decode cL_law 1758 = .ok (.aload_n 0, 1) := dz0 dzo42 0 dzbL_law_1758 rfl
theorem dL_law_1759 : decode cL_law 1759 = .ok (.iload 4, 2) := dz1 dzo21 1 4 dzbL_law_1758 rfl
theorem dL_law_1761 : decode cL_law 1761 = .ok (.iconst 1, 1) := dz0 dzo4 3 dzbL_law_1758 rfl
theorem dL_law_1762 : decode cL_law 1762 = .ok (.iadd, 1) := dz0 dzo96 4 dzbL_law_1758 rfl
theorem dL_law_1763 : decode cL_law 1763 = .ok (.iaload, 1) := dz0 dzo46 5 dzbL_law_1758 rfl
theorem dL_law_1764 : decode cL_law 1764 = .ok (.invokevirtual 207, 3) := dz2 dzo182 6 0 207 dzbL_law_1758 rfl
theorem dL_law_1767 : decode cL_law 1767 = .ok (.pop, 1) := dz0 dzo87 9 dzbL_law_1758 rfl
theorem dL_law_1768 : decode cL_law 1768 = .ok (.aload_n 2, 1) := dz0 dzo44 10 dzbL_law_1758 rfl
theorem dL_law_1769 : decode cL_law 1769 = .ok (.aload_n 0, 1) := dz0 dzo42 11 dzbL_law_1758 rfl
theorem dL_law_1770 : decode cL_law 1770 = .ok (.iload 4, 2) := dz1 dzo21 12 4 dzbL_law_1758 rfl
theorem dL_law_1772 : decode cL_law 1772 = .ok (.iconst 1, 1) := dz0 dzo4 14 dzbL_law_1758 rfl
theorem dL_law_1773 : decode cL_law 1773 = .ok (.iadd, 1) := dz0 dzo96 15 dzbL_law_1758 rfl
theorem dL_law_1774 : decode cL_law 1774 = .ok (.iaload, 1) := dz0 dzo46 16 dzbL_law_1758 rfl
theorem dL_law_1775 : decode cL_law 1775 = .ok (.invokevirtual 210, 3) := dz2 dzo182 17 0 210 dzbL_law_1758 rfl
theorem dL_law_1778 : decode cL_law 1778 = .ok (.pop, 1) := dz0 dzo87 20 dzbL_law_1758 rfl
theorem dL_law_1779 : decode cL_law 1779 = .ok (.goto 145, 3) := dz4 dzo167 21 0 145 145 rfl dzbL_law_1758 rfl
theorem dzbL_law_1782 : dzB cL_law 1782 [43, 42, 21, 4, 4, 96, 46, 182, 0, 211, 87, 44, 42, 21, 4, 4, 96, 46, 182, 0, 214, 87] := by decide +kernel
theorem dL_law_1782 : decode cL_law 1782 = .ok (.aload_n 1, 1) := dz0 dzo43 0 dzbL_law_1782 rfl
theorem dL_law_1783 : decode cL_law 1783 = .ok (.aload_n 0, 1) := dz0 dzo42 1 dzbL_law_1782 rfl
theorem dL_law_1784 : decode cL_law 1784 = .ok (.iload 4, 2) := dz1 dzo21 2 4 dzbL_law_1782 rfl
theorem dL_law_1786 : decode cL_law 1786 = .ok (.iconst 1, 1) := dz0 dzo4 4 dzbL_law_1782 rfl
theorem dL_law_1787 : decode cL_law 1787 = .ok (.iadd, 1) := dz0 dzo96 5 dzbL_law_1782 rfl
theorem dL_law_1788 : decode cL_law 1788 = .ok (.iaload, 1) := dz0 dzo46 6 dzbL_law_1782 rfl
theorem dL_law_1789 : decode cL_law 1789 = .ok (.invokevirtual 211, 3) := dz2 dzo182 7 0 211 dzbL_law_1782 rfl
theorem dL_law_1792 : decode cL_law 1792 = .ok (.pop, 1) := dz0 dzo87 10 dzbL_law_1782 rfl
theorem dL_law_1793 : decode cL_law 1793 = .ok (.aload_n 2, 1) := dz0 dzo44 11 dzbL_law_1782 rfl
theorem dL_law_1794 : decode cL_law 1794 = .ok (.aload_n 0, 1) := dz0 dzo42 12 dzbL_law_1782 rfl
theorem dL_law_1795 : decode cL_law 1795 = .ok (.iload 4, 2) := dz1 dzo21 13 4 dzbL_law_1782 rfl
theorem dL_law_1797 : decode cL_law 1797 = .ok (.iconst 1, 1) := dz0 dzo4 15 dzbL_law_1782 rfl
theorem dL_law_1798 : decode cL_law 1798 = .ok (.iadd, 1) := dz0 dzo96 16 dzbL_law_1782 rfl
theorem dL_law_1799 : decode cL_law 1799 = .ok (.iaload, 1) := dz0 dzo46 17 dzbL_law_1782 rfl
theorem dL_law_1800 : decode cL_law 1800 = .ok (.invokevirtual 214, 3) := dz2 dzo182 18 0 214 dzbL_law_1782 rfl
theorem dL_law_1803 : decode cL_law 1803 = .ok (.pop, 1) := dz0 dzo87 21 dzbL_law_1782 rfl
theorem dzbL_law_1804 : dzB cL_law 1804 [167, 0, 120, 43, 182, 0, 215, 87, 44, 182, 0, 219, 87, 167, 0, 107, 43, 182, 0, 220, 87, 44] := by decide +kernel
theorem dL_law_1804 : decode cL_law 1804 = .ok (.goto 120, 3) := dz4 dzo167 0 0 120 120 rfl dzbL_law_1804 rfl
theorem dL_law_1807 : decode cL_law 1807 = .ok (.aload_n 1, 1) := dz0 dzo43 3 dzbL_law_1804 rfl
theorem dL_law_1808 : decode cL_law 1808 = .ok (.invokevirtual 215, 3) := dz2 dzo182 4 0 215 dzbL_law_1804 rfl
theorem dL_law_1811 : decode cL_law 1811 = .ok (.pop, 1) := dz0 dzo87 7 dzbL_law_1804 rfl
theorem dL_law_1812 : decode cL_law 1812 = .ok (.aload_n 2, 1) := dz0 dzo44 8 dzbL_law_1804 rfl
theorem dL_law_1813 : decode cL_law 1813 = .ok (.invokevirtual 219, 3) := dz2 dzo182 9 0 219 dzbL_law_1804 rfl
theorem dL_law_1816 : decode cL_law 1816 = .ok (.pop, 1) := dz0 dzo87 12 dzbL_law_1804 rfl
theorem dL_law_1817 : decode cL_law 1817 = .ok (.goto 107, 3) := dz4 dzo167 13 0 107 107 rfl dzbL_law_1804 rfl
theorem dL_law_1820 : decode cL_law 1820 = .ok (.aload_n 1, 1) := dz0 dzo43 16 dzbL_law_1804 rfl
theorem dL_law_1821 : decode cL_law 1821 = .ok (.invokevirtual 220, 3) := dz2 dzo182 17 0 220 dzbL_law_1804 rfl
theorem dL_law_1824 : decode cL_law 1824 = .ok (.pop, 1) := dz0 dzo87 20 dzbL_law_1804 rfl
theorem dL_law_1825 : decode cL_law 1825 = .ok (.aload_n 2, 1) := dz0 dzo44 21 dzbL_law_1804 rfl
theorem dzbL_law_1826 : dzB cL_law 1826 [182, 0, 223, 87, 167, 0, 94, 43, 42, 21, 4, 4, 96, 46, 182, 0, 224, 87, 44, 42, 21, 4, 4, 96] := by decide +kernel
theorem dL_law_1826 : decode cL_law 1826 = .ok (.invokevirtual 223, 3) := dz2 dzo182 0 0 223 dzbL_law_1826 rfl
theorem dL_law_1829 : decode cL_law 1829 = .ok (.pop, 1) := dz0 dzo87 3 dzbL_law_1826 rfl
theorem dL_law_1830 : decode cL_law 1830 = .ok (.goto 94, 3) := dz4 dzo167 4 0 94 94 rfl dzbL_law_1826 rfl
theorem dL_law_1833 : decode cL_law 1833 = .ok (.aload_n 1, 1) := dz0 dzo43 7 dzbL_law_1826 rfl
theorem dL_law_1834 : decode cL_law 1834 = .ok (.aload_n 0, 1) := dz0 dzo42 8 dzbL_law_1826 rfl
theorem dL_law_1835 : decode cL_law 1835 = .ok (.iload 4, 2) := dz1 dzo21 9 4 dzbL_law_1826 rfl
theorem dL_law_1837 : decode cL_law 1837 = .ok (.iconst 1, 1) := dz0 dzo4 11 dzbL_law_1826 rfl
theorem dL_law_1838 : decode cL_law 1838 = .ok (.iadd, 1) := dz0 dzo96 12 dzbL_law_1826 rfl
theorem dL_law_1839 : decode cL_law 1839 = .ok (.iaload, 1) := dz0 dzo46 13 dzbL_law_1826 rfl
theorem dL_law_1840 : decode cL_law 1840 = .ok (.invokevirtual 224, 3) := dz2 dzo182 14 0 224 dzbL_law_1826 rfl
theorem dL_law_1843 : decode cL_law 1843 = .ok (.pop, 1) := dz0 dzo87 17 dzbL_law_1826 rfl
theorem dL_law_1844 : decode cL_law 1844 = .ok (.aload_n 2, 1) := dz0 dzo44 18 dzbL_law_1826 rfl
theorem dL_law_1845 : decode cL_law 1845 = .ok (.aload_n 0, 1) := dz0 dzo42 19 dzbL_law_1826 rfl
theorem dL_law_1846 : decode cL_law 1846 = .ok (.iload 4, 2) := dz1 dzo21 20 4 dzbL_law_1826 rfl
theorem dL_law_1848 : decode cL_law 1848 = .ok (.iconst 1, 1) := dz0 dzo4 22 dzbL_law_1826 rfl
theorem dL_law_1849 : decode cL_law 1849 = .ok (.iadd, 1) := dz0 dzo96 23 dzbL_law_1826 rfl
theorem dzbL_law_1850 : dzB cL_law 1850 [46, 182, 0, 227, 87, 167, 0, 69, 43, 42, 21, 4, 4, 96, 46, 45, 184, 0, 228, 54, 5, 44, 42] := by decide +kernel
theorem dL_law_1850 : decode cL_law 1850 = .ok (.iaload, 1) := dz0 dzo46 0 dzbL_law_1850 rfl
theorem dL_law_1851 : decode cL_law 1851 = .ok (.invokevirtual 227, 3) := dz2 dzo182 1 0 227 dzbL_law_1850 rfl
theorem dL_law_1854 : decode cL_law 1854 = .ok (.pop, 1) := dz0 dzo87 4 dzbL_law_1850 rfl
theorem dL_law_1855 : decode cL_law 1855 = .ok (.goto 69, 3) := dz4 dzo167 5 0 69 69 rfl dzbL_law_1850 rfl
theorem dL_law_1858 : decode cL_law 1858 = .ok (.aload_n 1, 1) := dz0 dzo43 8 dzbL_law_1850 rfl
theorem dL_law_1859 : decode cL_law 1859 = .ok (.aload_n 0, 1) := dz0 dzo42 9 dzbL_law_1850 rfl
theorem dL_law_1860 : decode cL_law 1860 = .ok (.iload 4, 2) := dz1 dzo21 10 4 dzbL_law_1850 rfl
theorem dL_law_1862 : decode cL_law 1862 = .ok (.iconst 1, 1) := dz0 dzo4 12 dzbL_law_1850 rfl
theorem dL_law_1863 : decode cL_law 1863 = .ok (.iadd, 1) := dz0 dzo96 13 dzbL_law_1850 rfl
theorem dL_law_1864 : decode cL_law 1864 = .ok (.iaload, 1) := dz0 dzo46 14 dzbL_law_1850 rfl
theorem dL_law_1865 : decode cL_law 1865 = .ok (.aload_n 3, 1) := dz0 dzo45 15 dzbL_law_1850 rfl
theorem dL_law_1866 : decode cL_law 1866 = .ok (.invokestatic 228, 3) := dz2 dzo184 16 0 228 dzbL_law_1850 rfl
theorem dL_law_1869 : decode cL_law 1869 = .ok (.istore 5, 2) := dz1 dzo54 19 5 dzbL_law_1850 rfl
theorem dL_law_1871 : decode cL_law 1871 = .ok (.aload_n 2, 1) := dz0 dzo44 21 dzbL_law_1850 rfl
theorem dL_law_1872 : decode cL_law 1872 = .ok (.aload_n 0, 1) := dz0 dzo42 22 dzbL_law_1850 rfl
theorem dzbL_law_1873 : dzB cL_law 1873 [21, 4, 4, 96, 46, 182, 0, 233, 54, 6, 167, 0, 41, 43, 42, 21, 4, 4, 96, 46, 182, 0, 234, 87] := by decide +kernel
theorem dL_law_1873 : decode cL_law 1873 = .ok (.iload 4, 2) := dz1 dzo21 0 4 dzbL_law_1873 rfl
theorem dL_law_1875 : decode cL_law 1875 = .ok (.iconst 1, 1) := dz0 dzo4 2 dzbL_law_1873 rfl
theorem dL_law_1876 : decode cL_law 1876 = .ok (.iadd, 1) := dz0 dzo96 3 dzbL_law_1873 rfl
theorem dL_law_1877 : decode cL_law 1877 = .ok (.iaload, 1) := dz0 dzo46 4 dzbL_law_1873 rfl
theorem dL_law_1878 : decode cL_law 1878 = .ok (.invokevirtual 233, 3) := dz2 dzo182 5 0 233 dzbL_law_1873 rfl
theorem dL_law_1881 : decode cL_law 1881 = .ok (.istore 6, 2) := dz1 dzo54 8 6 dzbL_law_1873 rfl
theorem dL_law_1883 : decode cL_law 1883 = .ok (.goto 41, 3) := dz4 dzo167 10 0 41 41 rfl dzbL_law_1873 rfl
theorem dL_law_1886 : decode cL_law 1886 = .ok (.aload_n 1, 1) := dz0 dzo43 13 dzbL_law_1873 rfl
theorem dL_law_1887 : decode cL_law 1887 = .ok (.aload_n 0, 1) := dz0 dzo42 14 dzbL_law_1873 rfl
theorem dL_law_1888 : decode cL_law 1888 = .ok (.iload 4, 2) := dz1 dzo21 15 4 dzbL_law_1873 rfl
theorem dL_law_1890 : decode cL_law 1890 = .ok (.iconst 1, 1) := dz0 dzo4 17 dzbL_law_1873 rfl
theorem dL_law_1891 : decode cL_law 1891 = .ok (.iadd, 1) := dz0 dzo96 18 dzbL_law_1873 rfl
theorem dL_law_1892 : decode cL_law 1892 = .ok (.iaload, 1) := dz0 dzo46 19 dzbL_law_1873 rfl
theorem dL_law_1893 : decode cL_law 1893 = .ok (.invokevirtual 234, 3) := dz2 dzo182 20 0 234 dzbL_law_1873 rfl
theorem dL_law_1896 : decode cL_law 1896 = .ok (.pop, 1) := dz0 dzo87 23 dzbL_law_1873 rfl
theorem dzbL_law_1897 : dzB cL_law 1897 [44, 42, 21, 4, 4, 96, 46, 182, 0, 237, 87, 167, 0, 16, 43, 182, 0, 238, 87, 44, 182, 0, 241, 87] := by decide +kernel
theorem dL_law_1897 : decode cL_law 1897 = .ok (.aload_n 2, 1) := dz0 dzo44 0 dzbL_law_1897 rfl
theorem dL_law_1898 : decode cL_law 1898 = .ok (.aload_n 0, 1) := dz0 dzo42 1 dzbL_law_1897 rfl
theorem dL_law_1899 : decode cL_law 1899 = .ok (.iload 4, 2) := dz1 dzo21 2 4 dzbL_law_1897 rfl
theorem dL_law_1901 : decode cL_law 1901 = .ok (.iconst 1, 1) := dz0 dzo4 4 dzbL_law_1897 rfl
theorem dL_law_1902 : decode cL_law 1902 = .ok (.iadd, 1) := dz0 dzo96 5 dzbL_law_1897 rfl
theorem dL_law_1903 : decode cL_law 1903 = .ok (.iaload, 1) := dz0 dzo46 6 dzbL_law_1897 rfl
theorem dL_law_1904 : decode cL_law 1904 = .ok (.invokevirtual 237, 3) := dz2 dzo182 7 0 237 dzbL_law_1897 rfl
theorem dL_law_1907 : decode cL_law 1907 = .ok (.pop, 1) := dz0 dzo87 10 dzbL_law_1897 rfl
theorem dL_law_1908 : decode cL_law 1908 = .ok (.goto 16, 3) := dz4 dzo167 11 0 16 16 rfl dzbL_law_1897 rfl
theorem dL_law_1911 : decode cL_law 1911 = .ok (.aload_n 1, 1) := dz0 dzo43 14 dzbL_law_1897 rfl
theorem dL_law_1912 : decode cL_law 1912 = .ok (.invokevirtual 238, 3) := dz2 dzo182 15 0 238 dzbL_law_1897 rfl
theorem dL_law_1915 : decode cL_law 1915 = .ok (.pop, 1) := dz0 dzo87 18 dzbL_law_1897 rfl
theorem dL_law_1916 : decode cL_law 1916 = .ok (.aload_n 2, 1) := dz0 dzo44 19 dzbL_law_1897 rfl
theorem dL_law_1917 : decode cL_law 1917 = .ok (.invokevirtual 241, 3) := dz2 dzo182 20 0 241 dzbL_law_1897 rfl
theorem dL_law_1920 : decode cL_law 1920 = .ok (.pop, 1) := dz0 dzo87 23 dzbL_law_1897 rfl
theorem dzbL_law_1921 : dzB cL_law 1921 [167, 0, 3, 132, 4, 6, 167, 248, 144, 4, 172] := by decide +kernel
theorem dL_law_1921 : decode cL_law 1921 = .ok (.goto 3, 3) := dz4 dzo167 0 0 3 3 rfl dzbL_law_1921 rfl
theorem dL_law_1924 : decode cL_law 1924 = .ok (.iinc 4 6, 3) := dz5 dzo132 3 4 6 6 rfl dzbL_law_1921 rfl
theorem dL_law_1927 : decode cL_law 1927 = .ok (.goto (-1904), 3) := dz4 dzo167 6 248 144 (-1904) rfl dzbL_law_1921 rfl
theorem dL_law_1930 : decode cL_law 1930 = .ok (.iconst 1, 1) := dz0 dzo4 9 dzbL_law_1921 rfl
theorem dL_law_1931 : decode cL_law 1931 = .ok (.ireturn, 1) := dz0 dzo172 10 dzbL_law_1921 rfl
theorem dzbL_led_0 : dzB cL_led 0 [44, 3, 42, 27, 182, 0, 7, 133, 80, 167, 0, 6, 78, 4, 172, 3, 172] := by decide +kernel
theorem dL_led_0 : decode cL_led 0 = .ok (.aload_n 2, 1) := dz0 dzo44 0 dzbL_led_0 rfl
theorem dL_led_1 : decode cL_led 1 = .ok (.iconst 0, 1) := dz0 dzo3 1 dzbL_led_0 rfl
theorem dL_led_2 : decode cL_led 2 = .ok (.aload_n 0, 1) := dz0 dzo42 2 dzbL_led_0 rfl
theorem dL_led_3 : decode cL_led 3 = .ok (.iload_n 1, 1) := dz0 dzo27 3 dzbL_led_0 rfl
theorem dL_led_4 : decode cL_led 4 = .ok (.invokevirtual 7, 3) := dz2 dzo182 4 0 7 dzbL_led_0 rfl
theorem dL_led_7 : decode cL_led 7 = .ok (.i2l, 1) := dz0 dzo133 7 dzbL_led_0 rfl
theorem dL_led_8 : decode cL_led 8 = .ok (.lastore, 1) := dz0 dzo80 8 dzbL_led_0 rfl
theorem dL_led_9 : decode cL_led 9 = .ok (.goto 6, 3) := dz4 dzo167 9 0 6 6 rfl dzbL_led_0 rfl
theorem dL_led_12 : decode cL_led 12 = .ok (.astore_n 3, 1) := dz0 dzo78 12 dzbL_led_0 rfl
theorem dL_led_13 : decode cL_led 13 = .ok (.iconst 1, 1) := dz0 dzo4 13 dzbL_led_0 rfl
theorem dL_led_14 : decode cL_led 14 = .ok (.ireturn, 1) := dz0 dzo172 14 dzbL_led_0 rfl
theorem dL_led_15 : decode cL_led 15 = .ok (.iconst 0, 1) := dz0 dzo3 15 dzbL_led_0 rfl
theorem dL_led_16 : decode cL_led 16 = .ok (.ireturn, 1) := dz0 dzo172 16 dzbL_led_0 rfl
theorem w_1261 : Cond.codeWith yL_led cL_led 4 (some .int) [(0, 9, 12, 13)] ∈ wsU := wT5 202 rfl (by decide +kernel)
theorem w_1260 : Cond.static yL_led ∈ wsU := wT5 201 rfl (by decide +kernel)
theorem w_1267 : Cond.classLink RX11 357 "java/util/NoSuchElementException" ∈ wsU := wT5 208 rfl (by decide +kernel)
theorem w_1262 : Cond.classLink RL 13 "java/util/NoSuchElementException" ∈ wsU := wT5 203 rfl (by decide +kernel)
theorem n_1269 : Cond.castable "java/util/NoSuchElementException" "java/util/NoSuchElementException" ∈ nwL := nT5 210 rfl (by decide +kernel)
