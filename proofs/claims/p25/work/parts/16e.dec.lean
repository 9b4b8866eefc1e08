theorem dL_law_460 : decode cL_law 460 = .ok (.aload_n 1, 1) := kop_2b (show kBy cL_law 460 43 from kbyte (k := 448) (j := 12) kbk_448 rfl)
theorem dL_law_461 : decode cL_law 461 = .ok (.aload_n 0, 1) := kop_2a (show kBy cL_law 461 42 from kbyte (k := 448) (j := 13) kbk_448 rfl)
theorem dL_law_462 : decode cL_law 462 = .ok (.iload_n 3, 1) := kop_1d (show kBy cL_law 462 29 from kbyte (k := 448) (j := 14) kbk_448 rfl)
theorem dL_law_463 : decode cL_law 463 = .ok (.iconst 1, 1) := kop_04 (show kBy cL_law 463 4 from kbyte (k := 448) (j := 15) kbk_448 rfl)
theorem dL_law_464 : decode cL_law 464 = .ok (.iadd, 1) := kop_60 (show kBy cL_law 464 96 from kbyte (k := 448) (j := 16) kbk_448 rfl)
theorem dL_law_465 : decode cL_law 465 = .ok (.iaload, 1) := kop_2e (show kBy cL_law 465 46 from kbyte (k := 448) (j := 17) kbk_448 rfl)
theorem dL_law_466 : decode cL_law 466 = .ok (.invokevirtual 48, 3) := kop_b6 (show kBy cL_law 466 182 from kbyte (k := 448) (j := 18) kbk_448 rfl) (show kBy cL_law 467 0 from kbyte (k := 448) (j := 19) kbk_448 rfl) (show kBy cL_law 468 48 from kbyte (k := 448) (j := 20) kbk_448 rfl) (by decide)
theorem dL_law_469 : decode cL_law 469 = .ok (.pop, 1) := kop_57 (show kBy cL_law 469 87 from kbyte (k := 448) (j := 21) kbk_448 rfl)
theorem dL_law_470 : decode cL_law 470 = .ok (.aload_n 2, 1) := kop_2c (show kBy cL_law 470 44 from kbyte (k := 448) (j := 22) kbk_448 rfl)
theorem dL_law_471 : decode cL_law 471 = .ok (.aload_n 0, 1) := kop_2a (show kBy cL_law 471 42 from kbyte (k := 448) (j := 23) kbk_448 rfl)
theorem dL_law_472 : decode cL_law 472 = .ok (.iload_n 3, 1) := kop_1d (show kBy cL_law 472 29 from kbyte (k := 448) (j := 24) kbk_448 rfl)
theorem dL_law_473 : decode cL_law 473 = .ok (.iconst 1, 1) := kop_04 (show kBy cL_law 473 4 from kbyte (k := 448) (j := 25) kbk_448 rfl)
theorem dL_law_474 : decode cL_law 474 = .ok (.iadd, 1) := kop_60 (show kBy cL_law 474 96 from kbyte (k := 448) (j := 26) kbk_448 rfl)
theorem dL_law_475 : decode cL_law 475 = .ok (.iaload, 1) := kop_2e (show kBy cL_law 475 46 from kbyte (k := 448) (j := 27) kbk_448 rfl)
theorem dL_law_476 : decode cL_law 476 = .ok (.invokevirtual 51, 3) := kop_b6 (show kBy cL_law 476 182 from kbyte (k := 448) (j := 28) kbk_448 rfl) (show kBy cL_law 477 0 from kbyte (k := 448) (j := 29) kbk_448 rfl) (show kBy cL_law 478 51 from kbyte (k := 448) (j := 30) kbk_448 rfl) (by decide)
theorem dL_law_479 : decode cL_law 479 = .ok (.pop, 1) := kop_57 (show kBy cL_law 479 87 from kbyte (k := 448) (j := 31) kbk_448 rfl)
theorem dL_law_480 : decode cL_law 480 = .ok (.goto 652, 3) := by decide +kernel
set_option maxRecDepth 20000 in
theorem ggL_law_X8_prefer : GoodIn wsL_law wsX8_prefer := goodIn_r _ [470, 23, 31, 35, 314, 177, 178, 22, 179, 180, 124, 2, 125, 322, 323, 324, 30, 325, 217, 70, 471, 472, 473, 474, 475, 476, 477, 478, 34, 479, 74, 480, 481, 214, 215, 216, 218, 219, 220, 221, 39, 27, 222, 223, 224, 225, 226, 227, 228, 38, 229, 230, 231, 232, 233, 234, 235, 236, 78, 79, 83, 237, 238, 239, 240, 241, 80, 242, 243, 244, 245, 62, 246, 247, 248, 249, 85, 250, 251, 252, 253, 254, 255, 81, 82, 256, 257, 258, 259, 260, 261, 821, 822, 823, 824, 825, 826, 827, 828, 829, 830, 831, 832, 833, 834, 835, 873, 874, 875, 876, 879, 880, 881, 882, 883, 884, 885, 886, 887, 888, 889, 890, 891, 892, 877, 878] (by decide +kernel) (by decide +kernel)
set_option maxRecDepth 20000 in
theorem gL_law_X8_prefer : GoodIn wsL_law (wsV RL 48 RX8 yX8_prefer wsX8_prefer) := goodIn_app (goodIn_of _ (by decide +kernel)) ggL_law_X8_prefer
set_option maxRecDepth 20000 in
theorem ggL_law_X9_prefer : GoodIn wsL_law wsX9_prefer := goodIn_r _ [485, 103, 330, 331, 332, 5, 333, 269, 486, 487, 488, 489, 102, 338, 339, 340, 341, 836, 837, 838, 839, 840, 841, 842, 843, 844, 845, 846, 847, 848, 849, 850, 851, 852, 853, 854, 855, 856, 857, 858, 859, 860, 861, 862, 863, 864, 865, 866] (by decide +kernel) (by decide +kernel)
set_option maxRecDepth 20000 in
theorem gL_law_X9_prefer : GoodIn wsL_law (wsV RL 51 RX9 yX9_prefer wsX9_prefer) := goodIn_app (goodIn_of _ (by decide +kernel)) ggL_law_X9_prefer
theorem dL_law_483 : decode cL_law 483 = .ok (.aload_n 1, 1) := kop_2b (show kBy cL_law 483 43 from kbyte (k := 448) (j := 35) kbk_448 rfl)
theorem dL_law_484 : decode cL_law 484 = .ok (.aload_n 0, 1) := kop_2a (show kBy cL_law 484 42 from kbyte (k := 448) (j := 36) kbk_448 rfl)
theorem dL_law_485 : decode cL_law 485 = .ok (.iload_n 3, 1) := kop_1d (show kBy cL_law 485 29 from kbyte (k := 448) (j := 37) kbk_448 rfl)
theorem dL_law_486 : decode cL_law 486 = .ok (.iconst 1, 1) := kop_04 (show kBy cL_law 486 4 from kbyte (k := 448) (j := 38) kbk_448 rfl)
theorem dL_law_487 : decode cL_law 487 = .ok (.iadd, 1) := kop_60 (show kBy cL_law 487 96 from kbyte (k := 448) (j := 39) kbk_448 rfl)
theorem dL_law_488 : decode cL_law 488 = .ok (.iaload, 1) := kop_2e (show kBy cL_law 488 46 from kbyte (k := 448) (j := 40) kbk_448 rfl)
theorem dL_law_489 : decode cL_law 489 = .ok (.invokevirtual 52, 3) := kop_b6 (show kBy cL_law 489 182 from kbyte (k := 448) (j := 41) kbk_448 rfl) (show kBy cL_law 490 0 from kbyte (k := 448) (j := 42) kbk_448 rfl) (show kBy cL_law 491 52 from kbyte (k := 448) (j := 43) kbk_448 rfl) (by decide)
theorem dL_law_492 : decode cL_law 492 = .ok (.pop, 1) := kop_57 (show kBy cL_law 492 87 from kbyte (k := 448) (j := 44) kbk_448 rfl)
theorem dL_law_493 : decode cL_law 493 = .ok (.aload_n 2, 1) := kop_2c (show kBy cL_law 493 44 from kbyte (k := 448) (j := 45) kbk_448 rfl)
theorem dL_law_494 : decode cL_law 494 = .ok (.aload_n 0, 1) := kop_2a (show kBy cL_law 494 42 from kbyte (k := 448) (j := 46) kbk_448 rfl)
theorem dL_law_495 : decode cL_law 495 = .ok (.iload_n 3, 1) := kop_1d (show kBy cL_law 495 29 from kbyte (k := 448) (j := 47) kbk_448 rfl)
theorem dL_law_496 : decode cL_law 496 = .ok (.iconst 1, 1) := kop_04 (show kBy cL_law 496 4 from kbyte (k := 448) (j := 48) kbk_448 rfl)
theorem dL_law_497 : decode cL_law 497 = .ok (.iadd, 1) := kop_60 (show kBy cL_law 497 96 from kbyte (k := 448) (j := 49) kbk_448 rfl)
theorem dL_law_498 : decode cL_law 498 = .ok (.iaload, 1) := kop_2e (show kBy cL_law 498 46 from kbyte (k := 448) (j := 50) kbk_448 rfl)
theorem dL_law_499 : decode cL_law 499 = .ok (.invokevirtual 55, 3) := kop_b6 (show kBy cL_law 499 182 from kbyte (k := 448) (j := 51) kbk_448 rfl) (show kBy cL_law 500 0 from kbyte (k := 448) (j := 52) kbk_448 rfl) (show kBy cL_law 501 55 from kbyte (k := 448) (j := 53) kbk_448 rfl) (by decide)
theorem dL_law_502 : decode cL_law 502 = .ok (.pop, 1) := kop_57 (show kBy cL_law 502 87 from kbyte (k := 448) (j := 54) kbk_448 rfl)
theorem dL_law_503 : decode cL_law 503 = .ok (.goto 629, 3) := by decide +kernel
set_option maxRecDepth 20000 in
theorem ggL_law_X8_latest : GoodIn wsL_law wsX8_latest := goodIn_r _ [493, 35, 203, 494, 123, 124, 2, 125, 821, 822, 823, 824, 825, 826, 827, 828, 829, 830, 831, 832, 833, 834, 835, 881, 882] (by decide +kernel) (by decide +kernel)
set_option maxRecDepth 20000 in
theorem gL_law_X8_latest : GoodIn wsL_law (wsV RL 52 RX8 yX8_latest wsX8_latest) := goodIn_app (goodIn_of _ (by decide +kernel)) ggL_law_X8_latest
set_option maxRecDepth 20000 in
theorem ggL_law_X9_latest : GoodIn wsL_law wsX9_latest := goodIn_r _ [498, 269, 103, 275, 276, 5, 277, 836, 837, 838, 839, 840, 841, 842, 843, 844, 845, 846, 847, 848, 849, 850, 851, 852, 853, 854, 855, 856, 857, 858, 859, 860, 861, 862, 863, 864, 865, 866] (by decide +kernel) (by decide +kernel)
set_option maxRecDepth 20000 in
theorem gL_law_X9_latest : GoodIn wsL_law (wsV RL 55 RX9 yX9_latest wsX9_latest) := goodIn_app (goodIn_of _ (by decide +kernel)) ggL_law_X9_latest
theorem dL_law_506 : decode cL_law 506 = .ok (.aload_n 1, 1) := kop_2b (show kBy cL_law 506 43 from kbyte (k := 448) (j := 58) kbk_448 rfl)
theorem dL_law_507 : decode cL_law 507 = .ok (.invokevirtual 56, 3) := kop_b6 (show kBy cL_law 507 182 from kbyte (k := 448) (j := 59) kbk_448 rfl) (show kBy cL_law 508 0 from kbyte (k := 448) (j := 60) kbk_448 rfl) (show kBy cL_law 509 56 from kbyte (k := 448) (j := 61) kbk_448 rfl) (by decide)
theorem dL_law_510 : decode cL_law 510 = .ok (.pop, 1) := kop_57 (show kBy cL_law 510 87 from kbyte (k := 448) (j := 62) kbk_448 rfl)
theorem dL_law_511 : decode cL_law 511 = .ok (.aload_n 2, 1) := kop_2c (show kBy cL_law 511 44 from kbyte (k := 448) (j := 63) kbk_448 rfl)
theorem dL_law_512 : decode cL_law 512 = .ok (.invokevirtual 60, 3) := kop_b6 (show kBy cL_law 512 182 from kbyte (k := 512) (j := 0) kbk_512 rfl) (show kBy cL_law 513 0 from kbyte (k := 512) (j := 1) kbk_512 rfl) (show kBy cL_law 514 60 from kbyte (k := 512) (j := 2) kbk_512 rfl) (by decide)
theorem dL_law_515 : decode cL_law 515 = .ok (.pop, 1) := kop_57 (show kBy cL_law 515 87 from kbyte (k := 512) (j := 3) kbk_512 rfl)
theorem dL_law_516 : decode cL_law 516 = .ok (.goto 616, 3) := by decide +kernel
set_option maxRecDepth 20000 in
theorem ggL_law_X8_tally : GoodIn wsL_law wsX8_tally := goodIn_r _ [502, 365, 821, 822, 823, 824, 825, 826, 827, 828, 829, 830, 831, 832, 833, 834, 835] (by decide +kernel) (by decide +kernel)
set_option maxRecDepth 20000 in
theorem gL_law_X8_tally : GoodIn wsL_law (wsV RL 56 RX8 yX8_tally wsX8_tally) := goodIn_app (goodIn_of _ (by decide +kernel)) ggL_law_X8_tally
set_option maxRecDepth 20000 in
theorem ggL_law_X9_tally : GoodIn wsL_law wsX9_tally := goodIn_r _ [506, 377, 836, 837, 838, 839, 840, 841, 842, 843, 844, 845, 846, 847, 848, 849, 850, 851, 852, 853, 854, 855, 856, 857, 858, 859, 860, 861, 862, 863, 864, 865, 866] (by decide +kernel) (by decide +kernel)
set_option maxRecDepth 20000 in
theorem gL_law_X9_tally : GoodIn wsL_law (wsV RL 60 RX9 yX9_tally wsX9_tally) := goodIn_app (goodIn_of _ (by decide +kernel)) ggL_law_X9_tally
theorem dL_law_519 : decode cL_law 519 = .ok (.aload_n 1, 1) := kop_2b (show kBy cL_law 519 43 from kbyte (k := 512) (j := 7) kbk_512 rfl)
theorem dL_law_520 : decode cL_law 520 = .ok (.invokevirtual 61, 3) := kop_b6 (show kBy cL_law 520 182 from kbyte (k := 512) (j := 8) kbk_512 rfl) (show kBy cL_law 521 0 from kbyte (k := 512) (j := 9) kbk_512 rfl) (show kBy cL_law 522 61 from kbyte (k := 512) (j := 10) kbk_512 rfl) (by decide)
theorem dL_law_523 : decode cL_law 523 = .ok (.pop2, 1) := kop_58 (show kBy cL_law 523 88 from kbyte (k := 512) (j := 11) kbk_512 rfl)
theorem dL_law_524 : decode cL_law 524 = .ok (.aload_n 2, 1) := kop_2c (show kBy cL_law 524 44 from kbyte (k := 512) (j := 12) kbk_512 rfl)
theorem dL_law_525 : decode cL_law 525 = .ok (.invokevirtual 65, 3) := kop_b6 (show kBy cL_law 525 182 from kbyte (k := 512) (j := 13) kbk_512 rfl) (show kBy cL_law 526 0 from kbyte (k := 512) (j := 14) kbk_512 rfl) (show kBy cL_law 527 65 from kbyte (k := 512) (j := 15) kbk_512 rfl) (by decide)
theorem dL_law_528 : decode cL_law 528 = .ok (.pop2, 1) := kop_58 (show kBy cL_law 528 88 from kbyte (k := 512) (j := 16) kbk_512 rfl)
theorem dL_law_529 : decode cL_law 529 = .ok (.goto 603, 3) := by decide +kernel
set_option maxRecDepth 20000 in
theorem ggL_law_X8_check : GoodIn wsL_law wsX8_check := goodIn_r _ [510, 367, 821, 822, 823, 824, 825, 826, 827, 828, 829, 830, 831, 832, 833, 834, 835] (by decide +kernel) (by decide +kernel)
set_option maxRecDepth 20000 in
theorem gL_law_X8_check : GoodIn wsL_law (wsV RL 61 RX8 yX8_check wsX8_check) := goodIn_app (goodIn_of _ (by decide +kernel)) ggL_law_X8_check
set_option maxRecDepth 20000 in
theorem ggL_law_X9_check : GoodIn wsL_law wsX9_check := goodIn_r _ [514, 379, 836, 837, 838, 839, 840, 841, 842, 843, 844, 845, 846, 847, 848, 849, 850, 851, 852, 853, 854, 855, 856, 857, 858, 859, 860, 861, 862, 863, 864, 865, 866] (by decide +kernel) (by decide +kernel)
set_option maxRecDepth 20000 in
theorem gL_law_X9_check : GoodIn wsL_law (wsV RL 65 RX9 yX9_check wsX9_check) := goodIn_app (goodIn_of _ (by decide +kernel)) ggL_law_X9_check
