theorem dL_law_348 : decode cL_law 348 = .ok (.aload_n 1, 1) := kop_2b (show kBy cL_law 348 43 from kbyte (k := 320) (j := 28) kbk_320 rfl)
theorem dL_law_349 : decode cL_law 349 = .ok (.aload_n 0, 1) := kop_2a (show kBy cL_law 349 42 from kbyte (k := 320) (j := 29) kbk_320 rfl)
theorem dL_law_350 : decode cL_law 350 = .ok (.iload_n 3, 1) := kop_1d (show kBy cL_law 350 29 from kbyte (k := 320) (j := 30) kbk_320 rfl)
theorem dL_law_351 : decode cL_law 351 = .ok (.iconst 1, 1) := kop_04 (show kBy cL_law 351 4 from kbyte (k := 320) (j := 31) kbk_320 rfl)
theorem dL_law_352 : decode cL_law 352 = .ok (.iadd, 1) := kop_60 (show kBy cL_law 352 96 from kbyte (k := 320) (j := 32) kbk_320 rfl)
theorem dL_law_353 : decode cL_law 353 = .ok (.iaload, 1) := kop_2e (show kBy cL_law 353 46 from kbyte (k := 320) (j := 33) kbk_320 rfl)
theorem dL_law_354 : decode cL_law 354 = .ok (.invokevirtual 31, 3) := kop_b6 (show kBy cL_law 354 182 from kbyte (k := 320) (j := 34) kbk_320 rfl) (show kBy cL_law 355 0 from kbyte (k := 320) (j := 35) kbk_320 rfl) (show kBy cL_law 356 31 from kbyte (k := 320) (j := 36) kbk_320 rfl) (by decide)
theorem dL_law_357 : decode cL_law 357 = .ok (.pop, 1) := kop_57 (show kBy cL_law 357 87 from kbyte (k := 320) (j := 37) kbk_320 rfl)
theorem dL_law_358 : decode cL_law 358 = .ok (.aload_n 2, 1) := kop_2c (show kBy cL_law 358 44 from kbyte (k := 320) (j := 38) kbk_320 rfl)
theorem dL_law_359 : decode cL_law 359 = .ok (.aload_n 0, 1) := kop_2a (show kBy cL_law 359 42 from kbyte (k := 320) (j := 39) kbk_320 rfl)
theorem dL_law_360 : decode cL_law 360 = .ok (.iload_n 3, 1) := kop_1d (show kBy cL_law 360 29 from kbyte (k := 320) (j := 40) kbk_320 rfl)
theorem dL_law_361 : decode cL_law 361 = .ok (.iconst 1, 1) := kop_04 (show kBy cL_law 361 4 from kbyte (k := 320) (j := 41) kbk_320 rfl)
theorem dL_law_362 : decode cL_law 362 = .ok (.iadd, 1) := kop_60 (show kBy cL_law 362 96 from kbyte (k := 320) (j := 42) kbk_320 rfl)
theorem dL_law_363 : decode cL_law 363 = .ok (.iaload, 1) := kop_2e (show kBy cL_law 363 46 from kbyte (k := 320) (j := 43) kbk_320 rfl)
theorem dL_law_364 : decode cL_law 364 = .ok (.invokevirtual 35, 3) := kop_b6 (show kBy cL_law 364 182 from kbyte (k := 320) (j := 44) kbk_320 rfl) (show kBy cL_law 365 0 from kbyte (k := 320) (j := 45) kbk_320 rfl) (show kBy cL_law 366 35 from kbyte (k := 320) (j := 46) kbk_320 rfl) (by decide)
theorem dL_law_367 : decode cL_law 367 = .ok (.pop, 1) := kop_57 (show kBy cL_law 367 87 from kbyte (k := 320) (j := 47) kbk_320 rfl)
theorem dL_law_368 : decode cL_law 368 = .ok (.goto 764, 3) := by decide +kernel
set_option maxRecDepth 20000 in
theorem ggL_law_X8_erase : GoodIn wsL_law wsX8_erase := goodIn_r _ [383, 27, 202, 123, 124, 2, 125, 384, 385, 386, 26, 387, 372, 218, 219, 220, 221, 39, 23, 31, 222, 223, 224, 22, 225, 180, 226, 227, 228, 38, 229, 230, 231, 232, 233, 234, 235, 236, 78, 79, 83, 237, 238, 239, 240, 241, 80, 242, 243, 244, 245, 62, 246, 247, 248, 249, 85, 250, 214, 215, 216, 251, 252, 253, 254, 255, 81, 82, 256, 257, 258, 259, 260, 261, 821, 822, 823, 824, 825, 826, 827, 828, 829, 830, 831, 832, 833, 834, 835, 877, 878, 873, 874, 875, 876, 883, 884, 885, 886, 887, 888, 889, 890, 891, 892, 879, 880] (by decide +kernel) (by decide +kernel)
set_option maxRecDepth 20000 in
theorem gL_law_X8_erase : GoodIn wsL_law (wsV RL 31 RX8 yX8_erase wsX8_erase) := goodIn_app (goodIn_of _ (by decide +kernel)) ggL_law_X8_erase
set_option maxRecDepth 20000 in
theorem ggL_law_X9_erase : GoodIn wsL_law wsX9_erase := goodIn_r _ [391, 270, 275, 276, 5, 277, 836, 837, 838, 839, 840, 841, 842, 843, 844, 845, 846, 847, 848, 849, 850, 851, 852, 853, 854, 855, 856, 857, 858, 859, 860, 861, 862, 863, 864, 865, 866] (by decide +kernel) (by decide +kernel)
set_option maxRecDepth 20000 in
theorem gL_law_X9_erase : GoodIn wsL_law (wsV RL 35 RX9 yX9_erase wsX9_erase) := goodIn_app (goodIn_of _ (by decide +kernel)) ggL_law_X9_erase
theorem dL_law_371 : decode cL_law 371 = .ok (.aload_n 1, 1) := kop_2b (show kBy cL_law 371 43 from kbyte (k := 320) (j := 51) kbk_320 rfl)
theorem dL_law_372 : decode cL_law 372 = .ok (.aload_n 0, 1) := kop_2a (show kBy cL_law 372 42 from kbyte (k := 320) (j := 52) kbk_320 rfl)
theorem dL_law_373 : decode cL_law 373 = .ok (.iload_n 3, 1) := kop_1d (show kBy cL_law 373 29 from kbyte (k := 320) (j := 53) kbk_320 rfl)
theorem dL_law_374 : decode cL_law 374 = .ok (.iconst 1, 1) := kop_04 (show kBy cL_law 374 4 from kbyte (k := 320) (j := 54) kbk_320 rfl)
theorem dL_law_375 : decode cL_law 375 = .ok (.iadd, 1) := kop_60 (show kBy cL_law 375 96 from kbyte (k := 320) (j := 55) kbk_320 rfl)
theorem dL_law_376 : decode cL_law 376 = .ok (.iaload, 1) := kop_2e (show kBy cL_law 376 46 from kbyte (k := 320) (j := 56) kbk_320 rfl)
theorem dL_law_377 : decode cL_law 377 = .ok (.invokevirtual 36, 3) := kop_b6 (show kBy cL_law 377 182 from kbyte (k := 320) (j := 57) kbk_320 rfl) (show kBy cL_law 378 0 from kbyte (k := 320) (j := 58) kbk_320 rfl) (show kBy cL_law 379 36 from kbyte (k := 320) (j := 59) kbk_320 rfl) (by decide)
theorem dL_law_380 : decode cL_law 380 = .ok (.pop, 1) := kop_57 (show kBy cL_law 380 87 from kbyte (k := 320) (j := 60) kbk_320 rfl)
theorem dL_law_381 : decode cL_law 381 = .ok (.aload_n 2, 1) := kop_2c (show kBy cL_law 381 44 from kbyte (k := 320) (j := 61) kbk_320 rfl)
theorem dL_law_382 : decode cL_law 382 = .ok (.aload_n 0, 1) := kop_2a (show kBy cL_law 382 42 from kbyte (k := 320) (j := 62) kbk_320 rfl)
theorem dL_law_383 : decode cL_law 383 = .ok (.iload_n 3, 1) := kop_1d (show kBy cL_law 383 29 from kbyte (k := 320) (j := 63) kbk_320 rfl)
theorem dL_law_384 : decode cL_law 384 = .ok (.iconst 1, 1) := kop_04 (show kBy cL_law 384 4 from kbyte (k := 384) (j := 0) kbk_384 rfl)
theorem dL_law_385 : decode cL_law 385 = .ok (.iadd, 1) := kop_60 (show kBy cL_law 385 96 from kbyte (k := 384) (j := 1) kbk_384 rfl)
theorem dL_law_386 : decode cL_law 386 = .ok (.iaload, 1) := kop_2e (show kBy cL_law 386 46 from kbyte (k := 384) (j := 2) kbk_384 rfl)
theorem dL_law_387 : decode cL_law 387 = .ok (.invokevirtual 39, 3) := kop_b6 (show kBy cL_law 387 182 from kbyte (k := 384) (j := 3) kbk_384 rfl) (show kBy cL_law 388 0 from kbyte (k := 384) (j := 4) kbk_384 rfl) (show kBy cL_law 389 39 from kbyte (k := 384) (j := 5) kbk_384 rfl) (by decide)
theorem dL_law_390 : decode cL_law 390 = .ok (.pop, 1) := kop_57 (show kBy cL_law 390 87 from kbyte (k := 384) (j := 6) kbk_384 rfl)
theorem dL_law_391 : decode cL_law 391 = .ok (.goto 741, 3) := by decide +kernel
set_option maxRecDepth 20000 in
theorem ggL_law_X8_letter : GoodIn wsL_law wsX8_letter := goodIn_r _ [395, 27, 202, 396, 123, 124, 2, 125, 821, 822, 823, 824, 825, 826, 827, 828, 829, 830, 831, 832, 833, 834, 835, 877, 878] (by decide +kernel) (by decide +kernel)
set_option maxRecDepth 20000 in
theorem gL_law_X8_letter : GoodIn wsL_law (wsV RL 36 RX8 yX8_letter wsX8_letter) := goodIn_app (goodIn_of _ (by decide +kernel)) ggL_law_X8_letter
set_option maxRecDepth 20000 in
theorem ggL_law_X9_letter : GoodIn wsL_law wsX9_letter := goodIn_r _ [400, 270, 104, 275, 276, 5, 277, 836, 837, 838, 839, 840, 841, 842, 843, 844, 845, 846, 847, 848, 849, 850, 851, 852, 853, 854, 855, 856, 857, 858, 859, 860, 861, 862, 863, 864, 865, 866] (by decide +kernel) (by decide +kernel)
set_option maxRecDepth 20000 in
theorem gL_law_X9_letter : GoodIn wsL_law (wsV RL 39 RX9 yX9_letter wsX9_letter) := goodIn_app (goodIn_of _ (by decide +kernel)) ggL_law_X9_letter
theorem dL_law_394 : decode cL_law 394 = .ok (.aload_n 1, 1) := kop_2b (show kBy cL_law 394 43 from kbyte (k := 384) (j := 10) kbk_384 rfl)
theorem dL_law_395 : decode cL_law 395 = .ok (.aload_n 0, 1) := kop_2a (show kBy cL_law 395 42 from kbyte (k := 384) (j := 11) kbk_384 rfl)
theorem dL_law_396 : decode cL_law 396 = .ok (.iload_n 3, 1) := kop_1d (show kBy cL_law 396 29 from kbyte (k := 384) (j := 12) kbk_384 rfl)
theorem dL_law_397 : decode cL_law 397 = .ok (.iconst 1, 1) := kop_04 (show kBy cL_law 397 4 from kbyte (k := 384) (j := 13) kbk_384 rfl)
theorem dL_law_398 : decode cL_law 398 = .ok (.iadd, 1) := kop_60 (show kBy cL_law 398 96 from kbyte (k := 384) (j := 14) kbk_384 rfl)
theorem dL_law_399 : decode cL_law 399 = .ok (.iaload, 1) := kop_2e (show kBy cL_law 399 46 from kbyte (k := 384) (j := 15) kbk_384 rfl)
theorem dL_law_400 : decode cL_law 400 = .ok (.aload_n 0, 1) := kop_2a (show kBy cL_law 400 42 from kbyte (k := 384) (j := 16) kbk_384 rfl)
theorem dL_law_401 : decode cL_law 401 = .ok (.iload_n 3, 1) := kop_1d (show kBy cL_law 401 29 from kbyte (k := 384) (j := 17) kbk_384 rfl)
theorem dL_law_402 : decode cL_law 402 = .ok (.iconst 2, 1) := kop_05 (show kBy cL_law 402 5 from kbyte (k := 384) (j := 18) kbk_384 rfl)
theorem dL_law_403 : decode cL_law 403 = .ok (.iadd, 1) := kop_60 (show kBy cL_law 403 96 from kbyte (k := 384) (j := 19) kbk_384 rfl)
theorem dL_law_404 : decode cL_law 404 = .ok (.iaload, 1) := kop_2e (show kBy cL_law 404 46 from kbyte (k := 384) (j := 20) kbk_384 rfl)
theorem dL_law_405 : decode cL_law 405 = .ok (.invokevirtual 40, 3) := kop_b6 (show kBy cL_law 405 182 from kbyte (k := 384) (j := 21) kbk_384 rfl) (show kBy cL_law 406 0 from kbyte (k := 384) (j := 22) kbk_384 rfl) (show kBy cL_law 407 40 from kbyte (k := 384) (j := 23) kbk_384 rfl) (by decide)
theorem dL_law_408 : decode cL_law 408 = .ok (.pop, 1) := kop_57 (show kBy cL_law 408 87 from kbyte (k := 384) (j := 24) kbk_384 rfl)
theorem dL_law_409 : decode cL_law 409 = .ok (.aload_n 2, 1) := kop_2c (show kBy cL_law 409 44 from kbyte (k := 384) (j := 25) kbk_384 rfl)
theorem dL_law_410 : decode cL_law 410 = .ok (.aload_n 0, 1) := kop_2a (show kBy cL_law 410 42 from kbyte (k := 384) (j := 26) kbk_384 rfl)
theorem dL_law_411 : decode cL_law 411 = .ok (.iload_n 3, 1) := kop_1d (show kBy cL_law 411 29 from kbyte (k := 384) (j := 27) kbk_384 rfl)
theorem dL_law_412 : decode cL_law 412 = .ok (.iconst 1, 1) := kop_04 (show kBy cL_law 412 4 from kbyte (k := 384) (j := 28) kbk_384 rfl)
theorem dL_law_413 : decode cL_law 413 = .ok (.iadd, 1) := kop_60 (show kBy cL_law 413 96 from kbyte (k := 384) (j := 29) kbk_384 rfl)
theorem dL_law_414 : decode cL_law 414 = .ok (.iaload, 1) := kop_2e (show kBy cL_law 414 46 from kbyte (k := 384) (j := 30) kbk_384 rfl)
theorem dL_law_415 : decode cL_law 415 = .ok (.aload_n 0, 1) := kop_2a (show kBy cL_law 415 42 from kbyte (k := 384) (j := 31) kbk_384 rfl)
theorem dL_law_416 : decode cL_law 416 = .ok (.iload_n 3, 1) := kop_1d (show kBy cL_law 416 29 from kbyte (k := 384) (j := 32) kbk_384 rfl)
theorem dL_law_417 : decode cL_law 417 = .ok (.iconst 2, 1) := kop_05 (show kBy cL_law 417 5 from kbyte (k := 384) (j := 33) kbk_384 rfl)
theorem dL_law_418 : decode cL_law 418 = .ok (.iadd, 1) := kop_60 (show kBy cL_law 418 96 from kbyte (k := 384) (j := 34) kbk_384 rfl)
theorem dL_law_419 : decode cL_law 419 = .ok (.iaload, 1) := kop_2e (show kBy cL_law 419 46 from kbyte (k := 384) (j := 35) kbk_384 rfl)
theorem dL_law_420 : decode cL_law 420 = .ok (.invokevirtual 43, 3) := kop_b6 (show kBy cL_law 420 182 from kbyte (k := 384) (j := 36) kbk_384 rfl) (show kBy cL_law 421 0 from kbyte (k := 384) (j := 37) kbk_384 rfl) (show kBy cL_law 422 43 from kbyte (k := 384) (j := 38) kbk_384 rfl) (by decide)
theorem dL_law_423 : decode cL_law 423 = .ok (.pop, 1) := kop_57 (show kBy cL_law 423 87 from kbyte (k := 384) (j := 39) kbk_384 rfl)
theorem dL_law_424 : decode cL_law 424 = .ok (.goto 708, 3) := by decide +kernel
set_option maxRecDepth 20000 in
theorem ggL_law_X8_ofCluster : GoodIn wsL_law wsX8_ofCluster := goodIn_r _ [404, 39, 405, 406, 407, 408, 409, 410, 411, 412, 38, 413, 234, 124, 2, 125, 821, 822, 823, 824, 825, 826, 827, 828, 829, 830, 831, 832, 833, 834, 835, 883, 884, 885, 886, 887, 888, 889, 890, 891, 892] (by decide +kernel) (by decide +kernel)
set_option maxRecDepth 20000 in
theorem gL_law_X8_ofCluster : GoodIn wsL_law (wsV RL 40 RX8 yX8_ofCluster wsX8_ofCluster) := goodIn_app (goodIn_of _ (by decide +kernel)) ggL_law_X8_ofCluster
set_option maxRecDepth 20000 in
theorem ggL_law_X9_ofCluster : GoodIn wsL_law wsX9_ofCluster := goodIn_r _ [417, 418, 108, 109, 111, 419, 420, 421, 5, 422, 423, 424, 102, 425, 426, 427, 428, 269, 110, 429, 430, 431, 432, 433, 270, 104, 101, 434, 435, 436, 437, 438, 439, 440, 441, 304, 305, 306, 442, 443, 444, 445, 334, 335, 336, 337, 99, 100, 275, 276, 277, 446, 447, 448, 449, 836, 837, 838, 839, 840, 841, 842, 843, 844, 845, 846, 847, 848, 849, 850, 851, 852, 853, 854, 855, 856, 857, 858, 859, 860, 861, 862, 863, 864, 865, 866] (by decide +kernel) (by decide +kernel)
set_option maxRecDepth 20000 in
theorem gL_law_X9_ofCluster : GoodIn wsL_law (wsV RL 43 RX9 yX9_ofCluster wsX9_ofCluster) := goodIn_app (goodIn_of _ (by decide +kernel)) ggL_law_X9_ofCluster
theorem dL_law_427 : decode cL_law 427 = .ok (.aload_n 1, 1) := kop_2b (show kBy cL_law 427 43 from kbyte (k := 384) (j := 43) kbk_384 rfl)
theorem dL_law_428 : decode cL_law 428 = .ok (.aload_n 0, 1) := kop_2a (show kBy cL_law 428 42 from kbyte (k := 384) (j := 44) kbk_384 rfl)
theorem dL_law_429 : decode cL_law 429 = .ok (.iload_n 3, 1) := kop_1d (show kBy cL_law 429 29 from kbyte (k := 384) (j := 45) kbk_384 rfl)
theorem dL_law_430 : decode cL_law 430 = .ok (.iconst 1, 1) := kop_04 (show kBy cL_law 430 4 from kbyte (k := 384) (j := 46) kbk_384 rfl)
theorem dL_law_431 : decode cL_law 431 = .ok (.iadd, 1) := kop_60 (show kBy cL_law 431 96 from kbyte (k := 384) (j := 47) kbk_384 rfl)
theorem dL_law_432 : decode cL_law 432 = .ok (.iaload, 1) := kop_2e (show kBy cL_law 432 46 from kbyte (k := 384) (j := 48) kbk_384 rfl)
theorem dL_law_433 : decode cL_law 433 = .ok (.aload_n 0, 1) := kop_2a (show kBy cL_law 433 42 from kbyte (k := 384) (j := 49) kbk_384 rfl)
theorem dL_law_434 : decode cL_law 434 = .ok (.iload_n 3, 1) := kop_1d (show kBy cL_law 434 29 from kbyte (k := 384) (j := 50) kbk_384 rfl)
theorem dL_law_435 : decode cL_law 435 = .ok (.iconst 2, 1) := kop_05 (show kBy cL_law 435 5 from kbyte (k := 384) (j := 51) kbk_384 rfl)
theorem dL_law_436 : decode cL_law 436 = .ok (.iadd, 1) := kop_60 (show kBy cL_law 436 96 from kbyte (k := 384) (j := 52) kbk_384 rfl)
theorem dL_law_437 : decode cL_law 437 = .ok (.iaload, 1) := kop_2e (show kBy cL_law 437 46 from kbyte (k := 384) (j := 53) kbk_384 rfl)
theorem dL_law_438 : decode cL_law 438 = .ok (.invokevirtual 44, 3) := kop_b6 (show kBy cL_law 438 182 from kbyte (k := 384) (j := 54) kbk_384 rfl) (show kBy cL_law 439 0 from kbyte (k := 384) (j := 55) kbk_384 rfl) (show kBy cL_law 440 44 from kbyte (k := 384) (j := 56) kbk_384 rfl) (by decide)
theorem dL_law_441 : decode cL_law 441 = .ok (.pop, 1) := kop_57 (show kBy cL_law 441 87 from kbyte (k := 384) (j := 57) kbk_384 rfl)
theorem dL_law_442 : decode cL_law 442 = .ok (.aload_n 2, 1) := kop_2c (show kBy cL_law 442 44 from kbyte (k := 384) (j := 58) kbk_384 rfl)
theorem dL_law_443 : decode cL_law 443 = .ok (.aload_n 0, 1) := kop_2a (show kBy cL_law 443 42 from kbyte (k := 384) (j := 59) kbk_384 rfl)
theorem dL_law_444 : decode cL_law 444 = .ok (.iload_n 3, 1) := kop_1d (show kBy cL_law 444 29 from kbyte (k := 384) (j := 60) kbk_384 rfl)
theorem dL_law_445 : decode cL_law 445 = .ok (.iconst 1, 1) := kop_04 (show kBy cL_law 445 4 from kbyte (k := 384) (j := 61) kbk_384 rfl)
theorem dL_law_446 : decode cL_law 446 = .ok (.iadd, 1) := kop_60 (show kBy cL_law 446 96 from kbyte (k := 384) (j := 62) kbk_384 rfl)
theorem dL_law_447 : decode cL_law 447 = .ok (.iaload, 1) := kop_2e (show kBy cL_law 447 46 from kbyte (k := 384) (j := 63) kbk_384 rfl)
theorem dL_law_448 : decode cL_law 448 = .ok (.aload_n 0, 1) := kop_2a (show kBy cL_law 448 42 from kbyte (k := 448) (j := 0) kbk_448 rfl)
theorem dL_law_449 : decode cL_law 449 = .ok (.iload_n 3, 1) := kop_1d (show kBy cL_law 449 29 from kbyte (k := 448) (j := 1) kbk_448 rfl)
theorem dL_law_450 : decode cL_law 450 = .ok (.iconst 2, 1) := kop_05 (show kBy cL_law 450 5 from kbyte (k := 448) (j := 2) kbk_448 rfl)
theorem dL_law_451 : decode cL_law 451 = .ok (.iadd, 1) := kop_60 (show kBy cL_law 451 96 from kbyte (k := 448) (j := 3) kbk_448 rfl)
theorem dL_law_452 : decode cL_law 452 = .ok (.iaload, 1) := kop_2e (show kBy cL_law 452 46 from kbyte (k := 448) (j := 4) kbk_448 rfl)
theorem dL_law_453 : decode cL_law 453 = .ok (.invokevirtual 47, 3) := kop_b6 (show kBy cL_law 453 182 from kbyte (k := 448) (j := 5) kbk_448 rfl) (show kBy cL_law 454 0 from kbyte (k := 448) (j := 6) kbk_448 rfl) (show kBy cL_law 455 47 from kbyte (k := 448) (j := 7) kbk_448 rfl) (by decide)
theorem dL_law_456 : decode cL_law 456 = .ok (.pop, 1) := kop_57 (show kBy cL_law 456 87 from kbyte (k := 448) (j := 8) kbk_448 rfl)
theorem dL_law_457 : decode cL_law 457 = .ok (.goto 675, 3) := by decide +kernel
set_option maxRecDepth 20000 in
theorem ggL_law_X8_ofRun : GoodIn wsL_law wsX8_ofRun := goodIn_r _ [453, 39, 454, 408, 23, 123, 124, 2, 125, 455, 456, 457, 38, 458, 234, 82, 459, 460, 461, 462, 315, 316, 317, 22, 318, 60, 61, 319, 177, 178, 179, 180, 320, 321, 821, 822, 823, 824, 825, 826, 827, 828, 829, 830, 831, 832, 833, 834, 835, 883, 884, 885, 886, 887, 888, 889, 890, 891, 892, 873, 874, 875, 876] (by decide +kernel) (by decide +kernel)
set_option maxRecDepth 20000 in
theorem gL_law_X8_ofRun : GoodIn wsL_law (wsV RL 44 RX8 yX8_ofRun wsX8_ofRun) := goodIn_app (goodIn_of _ (by decide +kernel)) ggL_law_X8_ofRun
set_option maxRecDepth 20000 in
theorem ggL_law_X9_ofRun : GoodIn wsL_law wsX9_ofRun := goodIn_r _ [466, 424, 418, 111, 419, 420, 421, 5, 422, 423, 102, 425, 426, 427, 428, 269, 110, 429, 430, 431, 432, 433, 270, 104, 108, 109, 101, 434, 435, 436, 437, 438, 439, 440, 441, 304, 305, 306, 442, 443, 444, 445, 334, 335, 336, 337, 99, 100, 275, 276, 277, 446, 447, 448, 449, 836, 837, 838, 839, 840, 841, 842, 843, 844, 845, 846, 847, 848, 849, 850, 851, 852, 853, 854, 855, 856, 857, 858, 859, 860, 861, 862, 863, 864, 865, 866] (by decide +kernel) (by decide +kernel)
set_option maxRecDepth 20000 in
theorem gL_law_X9_ofRun : GoodIn wsL_law (wsV RL 47 RX9 yX9_ofRun wsX9_ofRun) := goodIn_app (goodIn_of _ (by decide +kernel)) ggL_law_X9_ofRun
