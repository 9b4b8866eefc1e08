theorem dL_law_348 : decode cL_law 348 = .ok (.aload_n 1, 1) := kop_2b (show kBy cL_law 348 43 from kbyte (k := 320) (j := 28) kbk_320 rfl)
theorem dL_law_349 : decode cL_law 349 = .ok (.aload_n 0, 1) := kop_2a (show kBy cL_law 349 42 from kbyte (k := 320) (j := 29) kbk_320 rfl)
theorem dL_law_350 : decode cL_law 350 = .ok (.iload_n 3, 1) := kop_1d (show kBy cL_law 350 29 from kbyte (k := 320) (j := 30) kbk_320 rfl)
theorem dL_law_351 : decode cL_law 351 = .ok (.iconst 1, 1) := kop_04 (show kBy cL_law 351 4 from kbyte (k := 320) (j := 31) kbk_320 rfl)
theorem dL_law_352 : decode cL_law 352 = .ok (.iadd, 1) := kop_60 (show kBy cL_law 352 96 from kbyte (k := 320) (j := 32) kbk_320 rfl)
theorem dL_law_353 : decode cL_law 353 = .ok (.iaload, 1) := kop_2e (show kBy cL_law 353 46 from kbyte (k := 320) (j := 33) kbk_320 rfl)
theorem dL_law_354 : decode cL_law 354 = .ok (.invokevirtual 31, 3) := kop_b6 (show kBy cL_law 354 182 from kbyte (k := 320) (j := 34) kbk_320 rfl) (show kBy cL_law 355 0 from kbyte (k := 320) (j := 35) kbk_320 rfl) (show kBy cL_law 356 31 from kbyte (k := 320) (j := 36) kbk_320 rfl) (by decide)
theorem dL_law_357 : decode cL_law 357 = .ok (.pop, 1) := kop_57 (show kBy cL_law 357 87 from kbyte (k := 320) (j := 37) kbk_320 rfl)
theorem dL_law_358 : decode cL_law 358 = .ok (.aload_n 2, 1) := kop_2c (show kBy cL_law 358 44 from kbyte (k := 320) (j := 38) kbk_320 rfl)
theorem dL_law_359 : decode cL_law 359 = .ok (.aload_n 0, 1) := kop_2a (show kBy cL_law 359 42 from kbyte (k := 320) (j := 39) kbk_320 rfl)
theorem dL_law_360 : decode cL_law 360 = .ok (.iload_n 3, 1) := kop_1d (show kBy cL_law 360 29 from kbyte (k := 320) (j := 40) kbk_320 rfl)
theorem dL_law_361 : decode cL_law 361 = .ok (.iconst 1, 1) := kop_04 (show kBy cL_law 361 4 from kbyte (k := 320) (j := 41) kbk_320 rfl)
theorem dL_law_362 : decode cL_law 362 = .ok (.iadd, 1) := kop_60 (show kBy cL_law 362 96 from kbyte (k := 320) (j := 42) kbk_320 rfl)
theorem dL_law_363 : decode cL_law 363 = .ok (.iaload, 1) := kop_2e (show kBy cL_law 363 46 from kbyte (k := 320) (j := 43) kbk_320 rfl)
theorem dL_law_364 : decode cL_law 364 = .ok (.invokevirtual 35, 3) := kop_b6 (show kBy cL_law 364 182 from kbyte (k := 320) (j := 44) kbk_320 rfl) (show kBy cL_law 365 0 from kbyte (k := 320) (j := 45) kbk_320 rfl) (show kBy cL_law 366 35 from kbyte (k := 320) (j := 46) kbk_320 rfl) (by decide)
theorem dL_law_367 : decode cL_law 367 = .ok (.pop, 1) := kop_57 (show kBy cL_law 367 87 from kbyte (k := 320) (j := 47) kbk_320 rfl)
theorem dL_law_368 : decode cL_law 368 = .ok (.goto 764, 3) := by decide +kernel
set_option maxRecDepth 20000 in
theorem ggL_law_X8_erase : GoodIn lw_tbl wsX8_erase := goodIn_2 _ [(15, 23), (1, 3), (8, 10), (5, 3), (5, 4), (0, 2), (5, 5), (16, 0), (16, 1), (16, 2), (1, 2), (16, 3), (15, 12), (9, 2), (9, 3), (9, 4), (9, 5), (1, 15), (0, 23), (1, 7), (9, 6), (9, 7), (9, 8), (0, 22), (9, 9), (7, 12), (9, 10), (9, 11), (9, 12), (1, 14), (9, 13), (9, 14), (9, 15), (9, 16), (9, 17), (9, 18), (9, 19), (9, 20), (3, 6), (3, 7), (3, 11), (9, 21), (9, 22), (9, 23), (10, 0), (10, 1), (3, 8), (10, 2), (10, 3), (10, 4), (10, 5), (2, 14), (10, 6), (10, 7), (10, 8), (10, 9), (3, 13), (10, 10), (8, 22), (8, 23), (9, 0), (10, 11), (10, 12), (10, 13), (10, 14), (10, 15), (3, 9), (3, 10), (10, 16), (10, 17), (10, 18), (10, 19), (10, 20), (10, 21), (35, 0), (35, 1), (35, 2), (35, 3), (35, 4), (35, 5), (35, 6), (35, 7), (35, 8), (35, 9), (35, 10), (35, 11), (35, 12), (35, 13), (35, 14), (40, 0), (40, 1), (39, 0), (39, 1), (39, 2), (39, 3), (43, 0), (43, 1), (43, 2), (43, 3), (43, 4), (43, 5), (43, 6), (43, 7), (43, 8), (43, 9), (41, 0), (41, 1)] (by decide +kernel) (by decide +kernel)
set_option maxRecDepth 20000 in
theorem gL_law_X8_erase : GoodIn lw_tbl (wsV RL 31 RX8 yX8_erase wsX8_erase) := goodIn_app (goodIn_2 _ [(15, 20), (15, 21), (15, 22), (0, 2)] (by decide +kernel) (by decide +kernel)) ggL_law_X8_erase
set_option maxRecDepth 20000 in
theorem ggL_law_X9_erase : GoodIn lw_tbl wsX9_erase := goodIn_2 _ [(16, 7), (11, 6), (11, 11), (11, 12), (0, 5), (11, 13), (36, 0), (36, 1), (36, 2), (36, 3), (36, 4), (36, 5), (36, 6), (36, 7), (36, 8), (36, 9), (36, 10), (36, 11), (36, 12), (36, 13), (36, 14), (36, 15), (36, 16), (36, 17), (36, 18), (36, 19), (36, 20), (36, 21), (36, 22), (36, 23), (36, 24), (36, 25), (36, 26), (36, 27), (36, 28), (36, 29), (36, 30)] (by decide +kernel) (by decide +kernel)
set_option maxRecDepth 20000 in
theorem gL_law_X9_erase : GoodIn lw_tbl (wsV RL 35 RX9 yX9_erase wsX9_erase) := goodIn_app (goodIn_2 _ [(16, 4), (16, 5), (16, 6), (0, 5)] (by decide +kernel) (by decide +kernel)) ggL_law_X9_erase
theorem dL_law_371 : decode cL_law 371 = .ok (.aload_n 1, 1) := kop_2b (show kBy cL_law 371 43 from kbyte (k := 320) (j := 51) kbk_320 rfl)
theorem dL_law_372 : decode cL_law 372 = .ok (.aload_n 0, 1) := kop_2a (show kBy cL_law 372 42 from kbyte (k := 320) (j := 52) kbk_320 rfl)
theorem dL_law_373 : decode cL_law 373 = .ok (.iload_n 3, 1) := kop_1d (show kBy cL_law 373 29 from kbyte (k := 320) (j := 53) kbk_320 rfl)
theorem dL_law_374 : decode cL_law 374 = .ok (.iconst 1, 1) := kop_04 (show kBy cL_law 374 4 from kbyte (k := 320) (j := 54) kbk_320 rfl)
theorem dL_law_375 : decode cL_law 375 = .ok (.iadd, 1) := kop_60 (show kBy cL_law 375 96 from kbyte (k := 320) (j := 55) kbk_320 rfl)
theorem dL_law_376 : decode cL_law 376 = .ok (.iaload, 1) := kop_2e (show kBy cL_law 376 46 from kbyte (k := 320) (j := 56) kbk_320 rfl)
theorem dL_law_377 : decode cL_law 377 = .ok (.invokevirtual 36, 3) := kop_b6 (show kBy cL_law 377 182 from kbyte (k := 320) (j := 57) kbk_320 rfl) (show kBy cL_law 378 0 from kbyte (k := 320) (j := 58) kbk_320 rfl) (show kBy cL_law 379 36 from kbyte (k := 320) (j := 59) kbk_320 rfl) (by decide)
theorem dL_law_380 : decode cL_law 380 = .ok (.pop, 1) := kop_57 (show kBy cL_law 380 87 from kbyte (k := 320) (j := 60) kbk_320 rfl)
theorem dL_law_381 : decode cL_law 381 = .ok (.aload_n 2, 1) := kop_2c (show kBy cL_law 381 44 from kbyte (k := 320) (j := 61) kbk_320 rfl)
theorem dL_law_382 : decode cL_law 382 = .ok (.aload_n 0, 1) := kop_2a (show kBy cL_law 382 42 from kbyte (k := 320) (j := 62) kbk_320 rfl)
theorem dL_law_383 : decode cL_law 383 = .ok (.iload_n 3, 1) := kop_1d (show kBy cL_law 383 29 from kbyte (k := 320) (j := 63) kbk_320 rfl)
theorem dL_law_384 : decode cL_law 384 = .ok (.iconst 1, 1) := kop_04 (show kBy cL_law 384 4 from kbyte (k := 384) (j := 0) kbk_384 rfl)
theorem dL_law_385 : decode cL_law 385 = .ok (.iadd, 1) := kop_60 (show kBy cL_law 385 96 from kbyte (k := 384) (j := 1) kbk_384 rfl)
theorem dL_law_386 : decode cL_law 386 = .ok (.iaload, 1) := kop_2e (show kBy cL_law 386 46 from kbyte (k := 384) (j := 2) kbk_384 rfl)
theorem dL_law_387 : decode cL_law 387 = .ok (.invokevirtual 39, 3) := kop_b6 (show kBy cL_law 387 182 from kbyte (k := 384) (j := 3) kbk_384 rfl) (show kBy cL_law 388 0 from kbyte (k := 384) (j := 4) kbk_384 rfl) (show kBy cL_law 389 39 from kbyte (k := 384) (j := 5) kbk_384 rfl) (by decide)
theorem dL_law_390 : decode cL_law 390 = .ok (.pop, 1) := kop_57 (show kBy cL_law 390 87 from kbyte (k := 384) (j := 6) kbk_384 rfl)
theorem dL_law_391 : decode cL_law 391 = .ok (.goto 741, 3) := by decide +kernel
set_option maxRecDepth 20000 in
theorem ggL_law_X8_letter : GoodIn lw_tbl wsX8_letter := goodIn_2 _ [(16, 11), (1, 3), (8, 10), (16, 12), (5, 3), (5, 4), (0, 2), (5, 5), (35, 0), (35, 1), (35, 2), (35, 3), (35, 4), (35, 5), (35, 6), (35, 7), (35, 8), (35, 9), (35, 10), (35, 11), (35, 12), (35, 13), (35, 14), (40, 0), (40, 1)] (by decide +kernel) (by decide +kernel)
set_option maxRecDepth 20000 in
theorem gL_law_X8_letter : GoodIn lw_tbl (wsV RL 36 RX8 yX8_letter wsX8_letter) := goodIn_app (goodIn_2 _ [(16, 8), (16, 9), (16, 10), (0, 2)] (by decide +kernel) (by decide +kernel)) ggL_law_X8_letter
set_option maxRecDepth 20000 in
theorem ggL_law_X9_letter : GoodIn lw_tbl wsX9_letter := goodIn_2 _ [(16, 16), (11, 6), (4, 8), (11, 11), (11, 12), (0, 5), (11, 13), (36, 0), (36, 1), (36, 2), (36, 3), (36, 4), (36, 5), (36, 6), (36, 7), (36, 8), (36, 9), (36, 10), (36, 11), (36, 12), (36, 13), (36, 14), (36, 15), (36, 16), (36, 17), (36, 18), (36, 19), (36, 20), (36, 21), (36, 22), (36, 23), (36, 24), (36, 25), (36, 26), (36, 27), (36, 28), (36, 29), (36, 30)] (by decide +kernel) (by decide +kernel)
set_option maxRecDepth 20000 in
theorem gL_law_X9_letter : GoodIn lw_tbl (wsV RL 39 RX9 yX9_letter wsX9_letter) := goodIn_app (goodIn_2 _ [(16, 13), (16, 14), (16, 15), (0, 5)] (by decide +kernel) (by decide +kernel)) ggL_law_X9_letter
theorem dL_law_394 : decode cL_law 394 = .ok (.aload_n 1, 1) := kop_2b (show kBy cL_law 394 43 from kbyte (k := 384) (j := 10) kbk_384 rfl)
theorem dL_law_395 : decode cL_law 395 = .ok (.aload_n 0, 1) := kop_2a (show kBy cL_law 395 42 from kbyte (k := 384) (j := 11) kbk_384 rfl)
theorem dL_law_396 : decode cL_law 396 = .ok (.iload_n 3, 1) := kop_1d (show kBy cL_law 396 29 from kbyte (k := 384) (j := 12) kbk_384 rfl)
theorem dL_law_397 : decode cL_law 397 = .ok (.iconst 1, 1) := kop_04 (show kBy cL_law 397 4 from kbyte (k := 384) (j := 13) kbk_384 rfl)
theorem dL_law_398 : decode cL_law 398 = .ok (.iadd, 1) := kop_60 (show kBy cL_law 398 96 from kbyte (k := 384) (j := 14) kbk_384 rfl)
theorem dL_law_399 : decode cL_law 399 = .ok (.iaload, 1) := kop_2e (show kBy cL_law 399 46 from kbyte (k := 384) (j := 15) kbk_384 rfl)
theorem dL_law_400 : decode cL_law 400 = .ok (.aload_n 0, 1) := kop_2a (show kBy cL_law 400 42 from kbyte (k := 384) (j := 16) kbk_384 rfl)
theorem dL_law_401 : decode cL_law 401 = .ok (.iload_n 3, 1) := kop_1d (show kBy cL_law 401 29 from kbyte (k := 384) (j := 17) kbk_384 rfl)
theorem dL_law_402 : decode cL_law 402 = .ok (.iconst 2, 1) := kop_05 (show kBy cL_law 402 5 from kbyte (k := 384) (j := 18) kbk_384 rfl)
theorem dL_law_403 : decode cL_law 403 = .ok (.iadd, 1) := kop_60 (show kBy cL_law 403 96 from kbyte (k := 384) (j := 19) kbk_384 rfl)
theorem dL_law_404 : decode cL_law 404 = .ok (.iaload, 1) := kop_2e (show kBy cL_law 404 46 from kbyte (k := 384) (j := 20) kbk_384 rfl)
theorem dL_law_405 : decode cL_law 405 = .ok (.invokevirtual 40, 3) := kop_b6 (show kBy cL_law 405 182 from kbyte (k := 384) (j := 21) kbk_384 rfl) (show kBy cL_law 406 0 from kbyte (k := 384) (j := 22) kbk_384 rfl) (show kBy cL_law 407 40 from kbyte (k := 384) (j := 23) kbk_384 rfl) (by decide)
theorem dL_law_408 : decode cL_law 408 = .ok (.pop, 1) := kop_57 (show kBy cL_law 408 87 from kbyte (k := 384) (j := 24) kbk_384 rfl)
theorem dL_law_409 : decode cL_law 409 = .ok (.aload_n 2, 1) := kop_2c (show kBy cL_law 409 44 from kbyte (k := 384) (j := 25) kbk_384 rfl)
theorem dL_law_410 : decode cL_law 410 = .ok (.aload_n 0, 1) := kop_2a (show kBy cL_law 410 42 from kbyte (k := 384) (j := 26) kbk_384 rfl)
theorem dL_law_411 : decode cL_law 411 = .ok (.iload_n 3, 1) := kop_1d (show kBy cL_law 411 29 from kbyte (k := 384) (j := 27) kbk_384 rfl)
theorem dL_law_412 : decode cL_law 412 = .ok (.iconst 1, 1) := kop_04 (show kBy cL_law 412 4 from kbyte (k := 384) (j := 28) kbk_384 rfl)
theorem dL_law_413 : decode cL_law 413 = .ok (.iadd, 1) := kop_60 (show kBy cL_law 413 96 from kbyte (k := 384) (j := 29) kbk_384 rfl)
theorem dL_law_414 : decode cL_law 414 = .ok (.iaload, 1) := kop_2e (show kBy cL_law 414 46 from kbyte (k := 384) (j := 30) kbk_384 rfl)
theorem dL_law_415 : decode cL_law 415 = .ok (.aload_n 0, 1) := kop_2a (show kBy cL_law 415 42 from kbyte (k := 384) (j := 31) kbk_384 rfl)
theorem dL_law_416 : decode cL_law 416 = .ok (.iload_n 3, 1) := kop_1d (show kBy cL_law 416 29 from kbyte (k := 384) (j := 32) kbk_384 rfl)
theorem dL_law_417 : decode cL_law 417 = .ok (.iconst 2, 1) := kop_05 (show kBy cL_law 417 5 from kbyte (k := 384) (j := 33) kbk_384 rfl)
theorem dL_law_418 : decode cL_law 418 = .ok (.iadd, 1) := kop_60 (show kBy cL_law 418 96 from kbyte (k := 384) (j := 34) kbk_384 rfl)
theorem dL_law_419 : decode cL_law 419 = .ok (.iaload, 1) := kop_2e (show kBy cL_law 419 46 from kbyte (k := 384) (j := 35) kbk_384 rfl)
theorem dL_law_420 : decode cL_law 420 = .ok (.invokevirtual 43, 3) := kop_b6 (show kBy cL_law 420 182 from kbyte (k := 384) (j := 36) kbk_384 rfl) (show kBy cL_law 421 0 from kbyte (k := 384) (j := 37) kbk_384 rfl) (show kBy cL_law 422 43 from kbyte (k := 384) (j := 38) kbk_384 rfl) (by decide)
theorem dL_law_423 : decode cL_law 423 = .ok (.pop, 1) := kop_57 (show kBy cL_law 423 87 from kbyte (k := 384) (j := 39) kbk_384 rfl)
theorem dL_law_424 : decode cL_law 424 = .ok (.goto 708, 3) := by decide +kernel
set_option maxRecDepth 20000 in
theorem ggL_law_X8_ofCluster : GoodIn lw_tbl wsX8_ofCluster := goodIn_2 _ [(16, 20), (1, 15), (16, 21), (16, 22), (16, 23), (17, 0), (17, 1), (17, 2), (17, 3), (17, 4), (1, 14), (17, 5), (9, 18), (5, 4), (0, 2), (5, 5), (35, 0), (35, 1), (35, 2), (35, 3), (35, 4), (35, 5), (35, 6), (35, 7), (35, 8), (35, 9), (35, 10), (35, 11), (35, 12), (35, 13), (35, 14), (43, 0), (43, 1), (43, 2), (43, 3), (43, 4), (43, 5), (43, 6), (43, 7), (43, 8), (43, 9)] (by decide +kernel) (by decide +kernel)
set_option maxRecDepth 20000 in
theorem gL_law_X8_ofCluster : GoodIn lw_tbl (wsV RL 40 RX8 yX8_ofCluster wsX8_ofCluster) := goodIn_app (goodIn_2 _ [(16, 17), (16, 18), (16, 19), (0, 2)] (by decide +kernel) (by decide +kernel)) ggL_law_X8_ofCluster
set_option maxRecDepth 20000 in
theorem ggL_law_X9_ofCluster : GoodIn lw_tbl wsX9_ofCluster := goodIn_2 _ [(17, 9), (17, 10), (4, 12), (4, 13), (4, 15), (17, 11), (17, 12), (17, 13), (0, 5), (17, 14), (17, 15), (17, 16), (4, 6), (17, 17), (17, 18), (17, 19), (17, 20), (11, 5), (4, 14), (17, 21), (17, 22), (17, 23), (18, 0), (18, 1), (11, 6), (4, 8), (4, 5), (18, 2), (18, 3), (18, 4), (18, 5), (18, 6), (18, 7), (18, 8), (18, 9), (12, 16), (12, 17), (12, 18), (18, 10), (18, 11), (18, 12), (18, 13), (13, 22), (13, 23), (14, 0), (14, 1), (4, 3), (4, 4), (11, 11), (11, 12), (11, 13), (18, 14), (18, 15), (18, 16), (18, 17), (36, 0), (36, 1), (36, 2), (36, 3), (36, 4), (36, 5), (36, 6), (36, 7), (36, 8), (36, 9), (36, 10), (36, 11), (36, 12), (36, 13), (36, 14), (36, 15), (36, 16), (36, 17), (36, 18), (36, 19), (36, 20), (36, 21), (36, 22), (36, 23), (36, 24), (36, 25), (36, 26), (36, 27), (36, 28), (36, 29), (36, 30)] (by decide +kernel) (by decide +kernel)
set_option maxRecDepth 20000 in
theorem gL_law_X9_ofCluster : GoodIn lw_tbl (wsV RL 43 RX9 yX9_ofCluster wsX9_ofCluster) := goodIn_app (goodIn_2 _ [(17, 6), (17, 7), (17, 8), (0, 5)] (by decide +kernel) (by decide +kernel)) ggL_law_X9_ofCluster
theorem dL_law_427 : decode cL_law 427 = .ok (.aload_n 1, 1) := kop_2b (show kBy cL_law 427 43 from kbyte (k := 384) (j := 43) kbk_384 rfl)
theorem dL_law_428 : decode cL_law 428 = .ok (.aload_n 0, 1) := kop_2a (show kBy cL_law 428 42 from kbyte (k := 384) (j := 44) kbk_384 rfl)
theorem dL_law_429 : decode cL_law 429 = .ok (.iload_n 3, 1) := kop_1d (show kBy cL_law 429 29 from kbyte (k := 384) (j := 45) kbk_384 rfl)
theorem dL_law_430 : decode cL_law 430 = .ok (.iconst 1, 1) := kop_04 (show kBy cL_law 430 4 from kbyte (k := 384) (j := 46) kbk_384 rfl)
theorem dL_law_431 : decode cL_law 431 = .ok (.iadd, 1) := kop_60 (show kBy cL_law 431 96 from kbyte (k := 384) (j := 47) kbk_384 rfl)
theorem dL_law_432 : decode cL_law 432 = .ok (.iaload, 1) := kop_2e (show kBy cL_law 432 46 from kbyte (k := 384) (j := 48) kbk_384 rfl)
theorem dL_law_433 : decode cL_law 433 = .ok (.aload_n 0, 1) := kop_2a (show kBy cL_law 433 42 from kbyte (k := 384) (j := 49) kbk_384 rfl)
theorem dL_law_434 : decode cL_law 434 = .ok (.iload_n 3, 1) := kop_1d (show kBy cL_law 434 29 from kbyte (k := 384) (j := 50) kbk_384 rfl)
theorem dL_law_435 : decode cL_law 435 = .ok (.iconst 2, 1) := kop_05 (show kBy cL_law 435 5 from kbyte (k := 384) (j := 51) kbk_384 rfl)
theorem dL_law_436 : decode cL_law 436 = .ok (.iadd, 1) := kop_60 (show kBy cL_law 436 96 from kbyte (k := 384) (j := 52) kbk_384 rfl)
theorem dL_law_437 : decode cL_law 437 = .ok (.iaload, 1) := kop_2e (show kBy cL_law 437 46 from kbyte (k := 384) (j := 53) kbk_384 rfl)
theorem dL_law_438 : decode cL_law 438 = .ok (.invokevirtual 44, 3) := kop_b6 (show kBy cL_law 438 182 from kbyte (k := 384) (j := 54) kbk_384 rfl) (show kBy cL_law 439 0 from kbyte (k := 384) (j := 55) kbk_384 rfl) (show kBy cL_law 440 44 from kbyte (k := 384) (j := 56) kbk_384 rfl) (by decide)
theorem dL_law_441 : decode cL_law 441 = .ok (.pop, 1) := kop_57 (show kBy cL_law 441 87 from kbyte (k := 384) (j := 57) kbk_384 rfl)
theorem dL_law_442 : decode cL_law 442 = .ok (.aload_n 2, 1) := kop_2c (show kBy cL_law 442 44 from kbyte (k := 384) (j := 58) kbk_384 rfl)
theorem dL_law_443 : decode cL_law 443 = .ok (.aload_n 0, 1) := kop_2a (show kBy cL_law 443 42 from kbyte (k := 384) (j := 59) kbk_384 rfl)
theorem dL_law_444 : decode cL_law 444 = .ok (.iload_n 3, 1) := kop_1d (show kBy cL_law 444 29 from kbyte (k := 384) (j := 60) kbk_384 rfl)
theorem dL_law_445 : decode cL_law 445 = .ok (.iconst 1, 1) := kop_04 (show kBy cL_law 445 4 from kbyte (k := 384) (j := 61) kbk_384 rfl)
theorem dL_law_446 : decode cL_law 446 = .ok (.iadd, 1) := kop_60 (show kBy cL_law 446 96 from kbyte (k := 384) (j := 62) kbk_384 rfl)
theorem dL_law_447 : decode cL_law 447 = .ok (.iaload, 1) := kop_2e (show kBy cL_law 447 46 from kbyte (k := 384) (j := 63) kbk_384 rfl)
theorem dL_law_448 : decode cL_law 448 = .ok (.aload_n 0, 1) := kop_2a (show kBy cL_law 448 42 from kbyte (k := 448) (j := 0) kbk_448 rfl)
theorem dL_law_449 : decode cL_law 449 = .ok (.iload_n 3, 1) := kop_1d (show kBy cL_law 449 29 from kbyte (k := 448) (j := 1) kbk_448 rfl)
theorem dL_law_450 : decode cL_law 450 = .ok (.iconst 2, 1) := kop_05 (show kBy cL_law 450 5 from kbyte (k := 448) (j := 2) kbk_448 rfl)
theorem dL_law_451 : decode cL_law 451 = .ok (.iadd, 1) := kop_60 (show kBy cL_law 451 96 from kbyte (k := 448) (j := 3) kbk_448 rfl)
theorem dL_law_452 : decode cL_law 452 = .ok (.iaload, 1) := kop_2e (show kBy cL_law 452 46 from kbyte (k := 448) (j := 4) kbk_448 rfl)
theorem dL_law_453 : decode cL_law 453 = .ok (.invokevirtual 47, 3) := kop_b6 (show kBy cL_law 453 182 from kbyte (k := 448) (j := 5) kbk_448 rfl) (show kBy cL_law 454 0 from kbyte (k := 448) (j := 6) kbk_448 rfl) (show kBy cL_law 455 47 from kbyte (k := 448) (j := 7) kbk_448 rfl) (by decide)
theorem dL_law_456 : decode cL_law 456 = .ok (.pop, 1) := kop_57 (show kBy cL_law 456 87 from kbyte (k := 448) (j := 8) kbk_448 rfl)
theorem dL_law_457 : decode cL_law 457 = .ok (.goto 675, 3) := by decide +kernel
set_option maxRecDepth 20000 in
theorem ggL_law_X8_ofRun : GoodIn lw_tbl wsX8_ofRun := goodIn_2 _ [(18, 21), (1, 15), (18, 22), (17, 0), (0, 23), (5, 3), (5, 4), (0, 2), (5, 5), (18, 23), (19, 0), (19, 1), (1, 14), (19, 2), (9, 18), (3, 10), (19, 3), (19, 4), (19, 5), (19, 6), (13, 3), (13, 4), (13, 5), (0, 22), (13, 6), (2, 12), (2, 13), (13, 7), (7, 9), (7, 10), (7, 11), (7, 12), (13, 8), (13, 9), (35, 0), (35, 1), (35, 2), (35, 3), (35, 4), (35, 5), (35, 6), (35, 7), (35, 8), (35, 9), (35, 10), (35, 11), (35, 12), (35, 13), (35, 14), (43, 0), (43, 1), (43, 2), (43, 3), (43, 4), (43, 5), (43, 6), (43, 7), (43, 8), (43, 9), (39, 0), (39, 1), (39, 2), (39, 3)] (by decide +kernel) (by decide +kernel)
set_option maxRecDepth 20000 in
theorem gL_law_X8_ofRun : GoodIn lw_tbl (wsV RL 44 RX8 yX8_ofRun wsX8_ofRun) := goodIn_app (goodIn_2 _ [(18, 18), (18, 19), (18, 20), (0, 2)] (by decide +kernel) (by decide +kernel)) ggL_law_X8_ofRun
set_option maxRecDepth 20000 in
theorem ggL_law_X9_ofRun : GoodIn lw_tbl wsX9_ofRun := goodIn_2 _ [(19, 10), (17, 16), (17, 10), (4, 15), (17, 11), (17, 12), (17, 13), (0, 5), (17, 14), (17, 15), (4, 6), (17, 17), (17, 18), (17, 19), (17, 20), (11, 5), (4, 14), (17, 21), (17, 22), (17, 23), (18, 0), (18, 1), (11, 6), (4, 8), (4, 12), (4, 13), (4, 5), (18, 2), (18, 3), (18, 4), (18, 5), (18, 6), (18, 7), (18, 8), (18, 9), (12, 16), (12, 17), (12, 18), (18, 10), (18, 11), (18, 12), (18, 13), (13, 22), (13, 23), (14, 0), (14, 1), (4, 3), (4, 4), (11, 11), (11, 12), (11, 13), (18, 14), (18, 15), (18, 16), (18, 17), (36, 0), (36, 1), (36, 2), (36, 3), (36, 4), (36, 5), (36, 6), (36, 7), (36, 8), (36, 9), (36, 10), (36, 11), (36, 12), (36, 13), (36, 14), (36, 15), (36, 16), (36, 17), (36, 18), (36, 19), (36, 20), (36, 21), (36, 22), (36, 23), (36, 24), (36, 25), (36, 26), (36, 27), (36, 28), (36, 29), (36, 30)] (by decide +kernel) (by decide +kernel)
set_option maxRecDepth 20000 in
theorem gL_law_X9_ofRun : GoodIn lw_tbl (wsV RL 47 RX9 yX9_ofRun wsX9_ofRun) := goodIn_app (goodIn_2 _ [(19, 7), (19, 8), (19, 9), (0, 5)] (by decide +kernel) (by decide +kernel)) ggL_law_X9_ofRun
