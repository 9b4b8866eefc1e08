theorem dL_law_460 : decode cL_law 460 = .ok (.aload_n 1, 1) := kop_2b (show kBy cL_law 460 43 from kbyte (k := 448) (j := 12) kbk_448 rfl)
theorem dL_law_461 : decode cL_law 461 = .ok (.aload_n 0, 1) := kop_2a (show kBy cL_law 461 42 from kbyte (k := 448) (j := 13) kbk_448 rfl)
theorem dL_law_462 : decode cL_law 462 = .ok (.iload_n 3, 1) := kop_1d (show kBy cL_law 462 29 from kbyte (k := 448) (j := 14) kbk_448 rfl)
theorem dL_law_463 : decode cL_law 463 = .ok (.iconst 1, 1) := kop_04 (show kBy cL_law 463 4 from kbyte (k := 448) (j := 15) kbk_448 rfl)
theorem dL_law_464 : decode cL_law 464 = .ok (.iadd, 1) := kop_60 (show kBy cL_law 464 96 from kbyte (k := 448) (j := 16) kbk_448 rfl)
theorem dL_law_465 : decode cL_law 465 = .ok (.iaload, 1) := kop_2e (show kBy cL_law 465 46 from kbyte (k := 448) (j := 17) kbk_448 rfl)
theorem dL_law_466 : decode cL_law 466 = .ok (.invokevirtual 48, 3) := kop_b6 (show kBy cL_law 466 182 from kbyte (k := 448) (j := 18) kbk_448 rfl) (show kBy cL_law 467 0 from kbyte (k := 448) (j := 19) kbk_448 rfl) (show kBy cL_law 468 48 from kbyte (k := 448) (j := 20) kbk_448 rfl) (by decide)
theorem dL_law_469 : decode cL_law 469 = .ok (.pop, 1) := kop_57 (show kBy cL_law 469 87 from kbyte (k := 448) (j := 21) kbk_448 rfl)
theorem dL_law_470 : decode cL_law 470 = .ok (.aload_n 2, 1) := kop_2c (show kBy cL_law 470 44 from kbyte (k := 448) (j := 22) kbk_448 rfl)
theorem dL_law_471 : decode cL_law 471 = .ok (.aload_n 0, 1) := kop_2a (show kBy cL_law 471 42 from kbyte (k := 448) (j := 23) kbk_448 rfl)
theorem dL_law_472 : decode cL_law 472 = .ok (.iload_n 3, 1) := kop_1d (show kBy cL_law 472 29 from kbyte (k := 448) (j := 24) kbk_448 rfl)
theorem dL_law_473 : decode cL_law 473 = .ok (.iconst 1, 1) := kop_04 (show kBy cL_law 473 4 from kbyte (k := 448) (j := 25) kbk_448 rfl)
theorem dL_law_474 : decode cL_law 474 = .ok (.iadd, 1) := kop_60 (show kBy cL_law 474 96 from kbyte (k := 448) (j := 26) kbk_448 rfl)
theorem dL_law_475 : decode cL_law 475 = .ok (.iaload, 1) := kop_2e (show kBy cL_law 475 46 from kbyte (k := 448) (j := 27) kbk_448 rfl)
theorem dL_law_476 : decode cL_law 476 = .ok (.invokevirtual 51, 3) := kop_b6 (show kBy cL_law 476 182 from kbyte (k := 448) (j := 28) kbk_448 rfl) (show kBy cL_law 477 0 from kbyte (k := 448) (j := 29) kbk_448 rfl) (show kBy cL_law 478 51 from kbyte (k := 448) (j := 30) kbk_448 rfl) (by decide)
theorem dL_law_479 : decode cL_law 479 = .ok (.pop, 1) := kop_57 (show kBy cL_law 479 87 from kbyte (k := 448) (j := 31) kbk_448 rfl)
theorem dL_law_480 : decode cL_law 480 = .ok (.goto 652, 3) := by decide +kernel
set_option maxRecDepth 20000 in
theorem ggL_law_X8_prefer : GoodIn lw_tbl wsX8_prefer := goodIn_2 _ [(19, 14), (0, 23), (1, 7), (1, 11), (13, 2), (7, 9), (7, 10), (0, 22), (7, 11), (7, 12), (5, 4), (0, 2), (5, 5), (13, 10), (13, 11), (13, 12), (1, 6), (13, 13), (9, 1), (2, 22), (19, 15), (19, 16), (19, 17), (19, 18), (19, 19), (19, 20), (19, 21), (19, 22), (1, 10), (19, 23), (3, 2), (20, 0), (20, 1), (8, 22), (8, 23), (9, 0), (9, 2), (9, 3), (9, 4), (9, 5), (1, 15), (1, 3), (9, 6), (9, 7), (9, 8), (9, 9), (9, 10), (9, 11), (9, 12), (1, 14), (9, 13), (9, 14), (9, 15), (9, 16), (9, 17), (9, 18), (9, 19), (9, 20), (3, 6), (3, 7), (3, 11), (9, 21), (9, 22), (9, 23), (10, 0), (10, 1), (3, 8), (10, 2), (10, 3), (10, 4), (10, 5), (2, 14), (10, 6), (10, 7), (10, 8), (10, 9), (3, 13), (10, 10), (10, 11), (10, 12), (10, 13), (10, 14), (10, 15), (3, 9), (3, 10), (10, 16), (10, 17), (10, 18), (10, 19), (10, 20), (10, 21), (35, 0), (35, 1), (35, 2), (35, 3), (35, 4), (35, 5), (35, 6), (35, 7), (35, 8), (35, 9), (35, 10), (35, 11), (35, 12), (35, 13), (35, 14), (39, 0), (39, 1), (39, 2), (39, 3), (41, 0), (41, 1), (42, 0), (42, 1), (43, 0), (43, 1), (43, 2), (43, 3), (43, 4), (43, 5), (43, 6), (43, 7), (43, 8), (43, 9), (40, 0), (40, 1)] (by decide +kernel) (by decide +kernel)
set_option maxRecDepth 20000 in
theorem gL_law_X8_prefer : GoodIn lw_tbl (wsV RL 48 RX8 yX8_prefer wsX8_prefer) := goodIn_app (goodIn_2 _ [(19, 11), (19, 12), (19, 13), (0, 2)] (by decide +kernel) (by decide +kernel)) ggL_law_X8_prefer
set_option maxRecDepth 20000 in
theorem ggL_law_X9_prefer : GoodIn lw_tbl wsX9_prefer := goodIn_2 _ [(20, 5), (4, 7), (13, 18), (13, 19), (13, 20), (0, 5), (13, 21), (11, 5), (20, 6), (20, 7), (20, 8), (20, 9), (4, 6), (14, 2), (14, 3), (14, 4), (14, 5), (36, 0), (36, 1), (36, 2), (36, 3), (36, 4), (36, 5), (36, 6), (36, 7), (36, 8), (36, 9), (36, 10), (36, 11), (36, 12), (36, 13), (36, 14), (36, 15), (36, 16), (36, 17), (36, 18), (36, 19), (36, 20), (36, 21), (36, 22), (36, 23), (36, 24), (36, 25), (36, 26), (36, 27), (36, 28), (36, 29), (36, 30)] (by decide +kernel) (by decide +kernel)
set_option maxRecDepth 20000 in
theorem gL_law_X9_prefer : GoodIn lw_tbl (wsV RL 51 RX9 yX9_prefer wsX9_prefer) := goodIn_app (goodIn_2 _ [(20, 2), (20, 3), (20, 4), (0, 5)] (by decide +kernel) (by decide +kernel)) ggL_law_X9_prefer
theorem dL_law_483 : decode cL_law 483 = .ok (.aload_n 1, 1) := kop_2b (show kBy cL_law 483 43 from kbyte (k := 448) (j := 35) kbk_448 rfl)
theorem dL_law_484 : decode cL_law 484 = .ok (.aload_n 0, 1) := kop_2a (show kBy cL_law 484 42 from kbyte (k := 448) (j := 36) kbk_448 rfl)
theorem dL_law_485 : decode cL_law 485 = .ok (.iload_n 3, 1) := kop_1d (show kBy cL_law 485 29 from kbyte (k := 448) (j := 37) kbk_448 rfl)
theorem dL_law_486 : decode cL_law 486 = .ok (.iconst 1, 1) := kop_04 (show kBy cL_law 486 4 from kbyte (k := 448) (j := 38) kbk_448 rfl)
theorem dL_law_487 : decode cL_law 487 = .ok (.iadd, 1) := kop_60 (show kBy cL_law 487 96 from kbyte (k := 448) (j := 39) kbk_448 rfl)
theorem dL_law_488 : decode cL_law 488 = .ok (.iaload, 1) := kop_2e (show kBy cL_law 488 46 from kbyte (k := 448) (j := 40) kbk_448 rfl)
theorem dL_law_489 : decode cL_law 489 = .ok (.invokevirtual 52, 3) := kop_b6 (show kBy cL_law 489 182 from kbyte (k := 448) (j := 41) kbk_448 rfl) (show kBy cL_law 490 0 from kbyte (k := 448) (j := 42) kbk_448 rfl) (show kBy cL_law 491 52 from kbyte (k := 448) (j := 43) kbk_448 rfl) (by decide)
theorem dL_law_492 : decode cL_law 492 = .ok (.pop, 1) := kop_57 (show kBy cL_law 492 87 from kbyte (k := 448) (j := 44) kbk_448 rfl)
theorem dL_law_493 : decode cL_law 493 = .ok (.aload_n 2, 1) := kop_2c (show kBy cL_law 493 44 from kbyte (k := 448) (j := 45) kbk_448 rfl)
theorem dL_law_494 : decode cL_law 494 = .ok (.aload_n 0, 1) := kop_2a (show kBy cL_law 494 42 from kbyte (k := 448) (j := 46) kbk_448 rfl)
theorem dL_law_495 : decode cL_law 495 = .ok (.iload_n 3, 1) := kop_1d (show kBy cL_law 495 29 from kbyte (k := 448) (j := 47) kbk_448 rfl)
theorem dL_law_496 : decode cL_law 496 = .ok (.iconst 1, 1) := kop_04 (show kBy cL_law 496 4 from kbyte (k := 448) (j := 48) kbk_448 rfl)
theorem dL_law_497 : decode cL_law 497 = .ok (.iadd, 1) := kop_60 (show kBy cL_law 497 96 from kbyte (k := 448) (j := 49) kbk_448 rfl)
theorem dL_law_498 : decode cL_law 498 = .ok (.iaload, 1) := kop_2e (show kBy cL_law 498 46 from kbyte (k := 448) (j := 50) kbk_448 rfl)
theorem dL_law_499 : decode cL_law 499 = .ok (.invokevirtual 55, 3) := kop_b6 (show kBy cL_law 499 182 from kbyte (k := 448) (j := 51) kbk_448 rfl) (show kBy cL_law 500 0 from kbyte (k := 448) (j := 52) kbk_448 rfl) (show kBy cL_law 501 55 from kbyte (k := 448) (j := 53) kbk_448 rfl) (by decide)
theorem dL_law_502 : decode cL_law 502 = .ok (.pop, 1) := kop_57 (show kBy cL_law 502 87 from kbyte (k := 448) (j := 54) kbk_448 rfl)
theorem dL_law_503 : decode cL_law 503 = .ok (.goto 629, 3) := by decide +kernel
set_option maxRecDepth 20000 in
theorem ggL_law_X8_latest : GoodIn lw_tbl wsX8_latest := goodIn_2 _ [(20, 13), (1, 11), (8, 11), (20, 14), (5, 3), (5, 4), (0, 2), (5, 5), (35, 0), (35, 1), (35, 2), (35, 3), (35, 4), (35, 5), (35, 6), (35, 7), (35, 8), (35, 9), (35, 10), (35, 11), (35, 12), (35, 13), (35, 14), (42, 0), (42, 1)] (by decide +kernel) (by decide +kernel)
set_option maxRecDepth 20000 in
theorem gL_law_X8_latest : GoodIn lw_tbl (wsV RL 52 RX8 yX8_latest wsX8_latest) := goodIn_app (goodIn_2 _ [(20, 10), (20, 11), (20, 12), (0, 2)] (by decide +kernel) (by decide +kernel)) ggL_law_X8_latest
set_option maxRecDepth 20000 in
theorem ggL_law_X9_latest : GoodIn lw_tbl wsX9_latest := goodIn_2 _ [(20, 18), (11, 5), (4, 7), (11, 11), (11, 12), (0, 5), (11, 13), (36, 0), (36, 1), (36, 2), (36, 3), (36, 4), (36, 5), (36, 6), (36, 7), (36, 8), (36, 9), (36, 10), (36, 11), (36, 12), (36, 13), (36, 14), (36, 15), (36, 16), (36, 17), (36, 18), (36, 19), (36, 20), (36, 21), (36, 22), (36, 23), (36, 24), (36, 25), (36, 26), (36, 27), (36, 28), (36, 29), (36, 30)] (by decide +kernel) (by decide +kernel)
set_option maxRecDepth 20000 in
theorem gL_law_X9_latest : GoodIn lw_tbl (wsV RL 55 RX9 yX9_latest wsX9_latest) := goodIn_app (goodIn_2 _ [(20, 15), (20, 16), (20, 17), (0, 5)] (by decide +kernel) (by decide +kernel)) ggL_law_X9_latest
theorem dL_law_506 : decode cL_law 506 = .ok (.aload_n 1, 1) := kop_2b (show kBy cL_law 506 43 from kbyte (k := 448) (j := 58) kbk_448 rfl)
theorem dL_law_507 : decode cL_law 507 = .ok (.invokevirtual 56, 3) := kop_b6 (show kBy cL_law 507 182 from kbyte (k := 448) (j := 59) kbk_448 rfl) (show kBy cL_law 508 0 from kbyte (k := 448) (j := 60) kbk_448 rfl) (show kBy cL_law 509 56 from kbyte (k := 448) (j := 61) kbk_448 rfl) (by decide)
theorem dL_law_510 : decode cL_law 510 = .ok (.aload_n 2, 1) := kop_2c (show kBy cL_law 510 44 from kbyte (k := 448) (j := 62) kbk_448 rfl)
theorem dL_law_511 : decode cL_law 511 = .ok (.invokevirtual 60, 3) := kop_b6 (show kBy cL_law 511 182 from kbyte (k := 448) (j := 63) kbk_448 rfl) (show kBy cL_law 512 0 from kbyte (k := 512) (j := 0) kbk_512 rfl) (show kBy cL_law 513 60 from kbyte (k := 512) (j := 1) kbk_512 rfl) (by decide)
theorem dL_law_514 : decode cL_law 514 = .ok (.if_icmp .eq 618, 3) := by decide +kernel
set_option maxRecDepth 20000 in
theorem ggL_law_X8_tally : GoodIn lw_tbl wsX8_tally := goodIn_2 _ [(20, 22), (15, 5), (35, 0), (35, 1), (35, 2), (35, 3), (35, 4), (35, 5), (35, 6), (35, 7), (35, 8), (35, 9), (35, 10), (35, 11), (35, 12), (35, 13), (35, 14)] (by decide +kernel) (by decide +kernel)
set_option maxRecDepth 20000 in
theorem gL_law_X8_tally : GoodIn lw_tbl (wsV RL 56 RX8 yX8_tally wsX8_tally) := goodIn_app (goodIn_2 _ [(20, 19), (20, 20), (20, 21), (0, 2)] (by decide +kernel) (by decide +kernel)) ggL_law_X8_tally
set_option maxRecDepth 20000 in
theorem ggL_law_X9_tally : GoodIn lw_tbl wsX9_tally := goodIn_2 _ [(21, 2), (15, 17), (36, 0), (36, 1), (36, 2), (36, 3), (36, 4), (36, 5), (36, 6), (36, 7), (36, 8), (36, 9), (36, 10), (36, 11), (36, 12), (36, 13), (36, 14), (36, 15), (36, 16), (36, 17), (36, 18), (36, 19), (36, 20), (36, 21), (36, 22), (36, 23), (36, 24), (36, 25), (36, 26), (36, 27), (36, 28), (36, 29), (36, 30)] (by decide +kernel) (by decide +kernel)
set_option maxRecDepth 20000 in
theorem gL_law_X9_tally : GoodIn lw_tbl (wsV RL 60 RX9 yX9_tally wsX9_tally) := goodIn_app (goodIn_2 _ [(20, 23), (21, 0), (21, 1), (0, 5)] (by decide +kernel) (by decide +kernel)) ggL_law_X9_tally
theorem dL_law_519 : decode cL_law 519 = .ok (.aload_n 1, 1) := kop_2b (show kBy cL_law 519 43 from kbyte (k := 512) (j := 7) kbk_512 rfl)
theorem dL_law_520 : decode cL_law 520 = .ok (.invokevirtual 61, 3) := kop_b6 (show kBy cL_law 520 182 from kbyte (k := 512) (j := 8) kbk_512 rfl) (show kBy cL_law 521 0 from kbyte (k := 512) (j := 9) kbk_512 rfl) (show kBy cL_law 522 61 from kbyte (k := 512) (j := 10) kbk_512 rfl) (by decide)
theorem dL_law_523 : decode cL_law 523 = .ok (.pop2, 1) := kop_58 (show kBy cL_law 523 88 from kbyte (k := 512) (j := 11) kbk_512 rfl)
theorem dL_law_524 : decode cL_law 524 = .ok (.aload_n 2, 1) := kop_2c (show kBy cL_law 524 44 from kbyte (k := 512) (j := 12) kbk_512 rfl)
theorem dL_law_525 : decode cL_law 525 = .ok (.invokevirtual 65, 3) := kop_b6 (show kBy cL_law 525 182 from kbyte (k := 512) (j := 13) kbk_512 rfl) (show kBy cL_law 526 0 from kbyte (k := 512) (j := 14) kbk_512 rfl) (show kBy cL_law 527 65 from kbyte (k := 512) (j := 15) kbk_512 rfl) (by decide)
theorem dL_law_528 : decode cL_law 528 = .ok (.pop2, 1) := kop_58 (show kBy cL_law 528 88 from kbyte (k := 512) (j := 16) kbk_512 rfl)
theorem dL_law_529 : decode cL_law 529 = .ok (.goto 603, 3) := by decide +kernel
set_option maxRecDepth 20000 in
theorem ggL_law_X8_check : GoodIn lw_tbl wsX8_check := goodIn_2 _ [(21, 6), (15, 7), (35, 0), (35, 1), (35, 2), (35, 3), (35, 4), (35, 5), (35, 6), (35, 7), (35, 8), (35, 9), (35, 10), (35, 11), (35, 12), (35, 13), (35, 14)] (by decide +kernel) (by decide +kernel)
set_option maxRecDepth 20000 in
theorem gL_law_X8_check : GoodIn lw_tbl (wsV RL 61 RX8 yX8_check wsX8_check) := goodIn_app (goodIn_2 _ [(21, 3), (21, 4), (21, 5), (0, 2)] (by decide +kernel) (by decide +kernel)) ggL_law_X8_check
set_option maxRecDepth 20000 in
theorem ggL_law_X9_check : GoodIn lw_tbl wsX9_check := goodIn_2 _ [(21, 10), (15, 19), (36, 0), (36, 1), (36, 2), (36, 3), (36, 4), (36, 5), (36, 6), (36, 7), (36, 8), (36, 9), (36, 10), (36, 11), (36, 12), (36, 13), (36, 14), (36, 15), (36, 16), (36, 17), (36, 18), (36, 19), (36, 20), (36, 21), (36, 22), (36, 23), (36, 24), (36, 25), (36, 26), (36, 27), (36, 28), (36, 29), (36, 30)] (by decide +kernel) (by decide +kernel)
set_option maxRecDepth 20000 in
theorem gL_law_X9_check : GoodIn lw_tbl (wsV RL 65 RX9 yX9_check wsX9_check) := goodIn_app (goodIn_2 _ [(21, 7), (21, 8), (21, 9), (0, 5)] (by decide +kernel) (by decide +kernel)) ggL_law_X9_check
