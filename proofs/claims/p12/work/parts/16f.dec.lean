theorem dL_law_532 : decode cL_law 532 = .ok (.aload_n 1, 1) := kop_2b (show kBy cL_law 532 43 from kbyte (k := 512) (j := 20) kbk_512 rfl)
theorem dL_law_533 : decode cL_law 533 = .ok (.aload_n 0, 1) := kop_2a (show kBy cL_law 533 42 from kbyte (k := 512) (j := 21) kbk_512 rfl)
theorem dL_law_534 : decode cL_law 534 = .ok (.iload_n 3, 1) := kop_1d (show kBy cL_law 534 29 from kbyte (k := 512) (j := 22) kbk_512 rfl)
theorem dL_law_535 : decode cL_law 535 = .ok (.iconst 1, 1) := kop_04 (show kBy cL_law 535 4 from kbyte (k := 512) (j := 23) kbk_512 rfl)
theorem dL_law_536 : decode cL_law 536 = .ok (.iadd, 1) := kop_60 (show kBy cL_law 536 96 from kbyte (k := 512) (j := 24) kbk_512 rfl)
theorem dL_law_537 : decode cL_law 537 = .ok (.iaload, 1) := kop_2e (show kBy cL_law 537 46 from kbyte (k := 512) (j := 25) kbk_512 rfl)
theorem dL_law_538 : decode cL_law 538 = .ok (.aload_n 0, 1) := kop_2a (show kBy cL_law 538 42 from kbyte (k := 512) (j := 26) kbk_512 rfl)
theorem dL_law_539 : decode cL_law 539 = .ok (.iload_n 3, 1) := kop_1d (show kBy cL_law 539 29 from kbyte (k := 512) (j := 27) kbk_512 rfl)
theorem dL_law_540 : decode cL_law 540 = .ok (.iconst 2, 1) := kop_05 (show kBy cL_law 540 5 from kbyte (k := 512) (j := 28) kbk_512 rfl)
theorem dL_law_541 : decode cL_law 541 = .ok (.iadd, 1) := kop_60 (show kBy cL_law 541 96 from kbyte (k := 512) (j := 29) kbk_512 rfl)
theorem dL_law_542 : decode cL_law 542 = .ok (.iaload, 1) := kop_2e (show kBy cL_law 542 46 from kbyte (k := 512) (j := 30) kbk_512 rfl)
theorem dL_law_543 : decode cL_law 543 = .ok (.aload_n 0, 1) := kop_2a (show kBy cL_law 543 42 from kbyte (k := 512) (j := 31) kbk_512 rfl)
theorem dL_law_544 : decode cL_law 544 = .ok (.iload_n 3, 1) := kop_1d (show kBy cL_law 544 29 from kbyte (k := 512) (j := 32) kbk_512 rfl)
theorem dL_law_545 : decode cL_law 545 = .ok (.iconst 3, 1) := kop_06 (show kBy cL_law 545 6 from kbyte (k := 512) (j := 33) kbk_512 rfl)
theorem dL_law_546 : decode cL_law 546 = .ok (.iadd, 1) := kop_60 (show kBy cL_law 546 96 from kbyte (k := 512) (j := 34) kbk_512 rfl)
theorem dL_law_547 : decode cL_law 547 = .ok (.iaload, 1) := kop_2e (show kBy cL_law 547 46 from kbyte (k := 512) (j := 35) kbk_512 rfl)
theorem dL_law_548 : decode cL_law 548 = .ok (.aload_n 0, 1) := kop_2a (show kBy cL_law 548 42 from kbyte (k := 512) (j := 36) kbk_512 rfl)
theorem dL_law_549 : decode cL_law 549 = .ok (.iload_n 3, 1) := kop_1d (show kBy cL_law 549 29 from kbyte (k := 512) (j := 37) kbk_512 rfl)
theorem dL_law_550 : decode cL_law 550 = .ok (.iconst 4, 1) := kop_07 (show kBy cL_law 550 7 from kbyte (k := 512) (j := 38) kbk_512 rfl)
theorem dL_law_551 : decode cL_law 551 = .ok (.iadd, 1) := kop_60 (show kBy cL_law 551 96 from kbyte (k := 512) (j := 39) kbk_512 rfl)
theorem dL_law_552 : decode cL_law 552 = .ok (.iaload, 1) := kop_2e (show kBy cL_law 552 46 from kbyte (k := 512) (j := 40) kbk_512 rfl)
theorem dL_law_553 : decode cL_law 553 = .ok (.aload_n 0, 1) := kop_2a (show kBy cL_law 553 42 from kbyte (k := 512) (j := 41) kbk_512 rfl)
theorem dL_law_554 : decode cL_law 554 = .ok (.iload_n 3, 1) := kop_1d (show kBy cL_law 554 29 from kbyte (k := 512) (j := 42) kbk_512 rfl)
theorem dL_law_555 : decode cL_law 555 = .ok (.iconst 5, 1) := kop_08 (show kBy cL_law 555 8 from kbyte (k := 512) (j := 43) kbk_512 rfl)
theorem dL_law_556 : decode cL_law 556 = .ok (.iadd, 1) := kop_60 (show kBy cL_law 556 96 from kbyte (k := 512) (j := 44) kbk_512 rfl)
theorem dL_law_557 : decode cL_law 557 = .ok (.iaload, 1) := kop_2e (show kBy cL_law 557 46 from kbyte (k := 512) (j := 45) kbk_512 rfl)
theorem dL_law_558 : decode cL_law 558 = .ok (.invokevirtual 66, 3) := kop_b6 (show kBy cL_law 558 182 from kbyte (k := 512) (j := 46) kbk_512 rfl) (show kBy cL_law 559 0 from kbyte (k := 512) (j := 47) kbk_512 rfl) (show kBy cL_law 560 66 from kbyte (k := 512) (j := 48) kbk_512 rfl) (by decide)
theorem dL_law_561 : decode cL_law 561 = .ok (.pop, 1) := kop_57 (show kBy cL_law 561 87 from kbyte (k := 512) (j := 49) kbk_512 rfl)
theorem dL_law_562 : decode cL_law 562 = .ok (.aload_n 2, 1) := kop_2c (show kBy cL_law 562 44 from kbyte (k := 512) (j := 50) kbk_512 rfl)
theorem dL_law_563 : decode cL_law 563 = .ok (.aload_n 0, 1) := kop_2a (show kBy cL_law 563 42 from kbyte (k := 512) (j := 51) kbk_512 rfl)
theorem dL_law_564 : decode cL_law 564 = .ok (.iload_n 3, 1) := kop_1d (show kBy cL_law 564 29 from kbyte (k := 512) (j := 52) kbk_512 rfl)
theorem dL_law_565 : decode cL_law 565 = .ok (.iconst 1, 1) := kop_04 (show kBy cL_law 565 4 from kbyte (k := 512) (j := 53) kbk_512 rfl)
theorem dL_law_566 : decode cL_law 566 = .ok (.iadd, 1) := kop_60 (show kBy cL_law 566 96 from kbyte (k := 512) (j := 54) kbk_512 rfl)
theorem dL_law_567 : decode cL_law 567 = .ok (.iaload, 1) := kop_2e (show kBy cL_law 567 46 from kbyte (k := 512) (j := 55) kbk_512 rfl)
theorem dL_law_568 : decode cL_law 568 = .ok (.aload_n 0, 1) := kop_2a (show kBy cL_law 568 42 from kbyte (k := 512) (j := 56) kbk_512 rfl)
theorem dL_law_569 : decode cL_law 569 = .ok (.iload_n 3, 1) := kop_1d (show kBy cL_law 569 29 from kbyte (k := 512) (j := 57) kbk_512 rfl)
theorem dL_law_570 : decode cL_law 570 = .ok (.iconst 2, 1) := kop_05 (show kBy cL_law 570 5 from kbyte (k := 512) (j := 58) kbk_512 rfl)
theorem dL_law_571 : decode cL_law 571 = .ok (.iadd, 1) := kop_60 (show kBy cL_law 571 96 from kbyte (k := 512) (j := 59) kbk_512 rfl)
theorem dL_law_572 : decode cL_law 572 = .ok (.iaload, 1) := kop_2e (show kBy cL_law 572 46 from kbyte (k := 512) (j := 60) kbk_512 rfl)
theorem dL_law_573 : decode cL_law 573 = .ok (.aload_n 0, 1) := kop_2a (show kBy cL_law 573 42 from kbyte (k := 512) (j := 61) kbk_512 rfl)
theorem dL_law_574 : decode cL_law 574 = .ok (.iload_n 3, 1) := kop_1d (show kBy cL_law 574 29 from kbyte (k := 512) (j := 62) kbk_512 rfl)
theorem dL_law_575 : decode cL_law 575 = .ok (.iconst 3, 1) := kop_06 (show kBy cL_law 575 6 from kbyte (k := 512) (j := 63) kbk_512 rfl)
theorem dL_law_576 : decode cL_law 576 = .ok (.iadd, 1) := kop_60 (show kBy cL_law 576 96 from kbyte (k := 576) (j := 0) kbk_576 rfl)
theorem dL_law_577 : decode cL_law 577 = .ok (.iaload, 1) := kop_2e (show kBy cL_law 577 46 from kbyte (k := 576) (j := 1) kbk_576 rfl)
theorem dL_law_578 : decode cL_law 578 = .ok (.aload_n 0, 1) := kop_2a (show kBy cL_law 578 42 from kbyte (k := 576) (j := 2) kbk_576 rfl)
theorem dL_law_579 : decode cL_law 579 = .ok (.iload_n 3, 1) := kop_1d (show kBy cL_law 579 29 from kbyte (k := 576) (j := 3) kbk_576 rfl)
theorem dL_law_580 : decode cL_law 580 = .ok (.iconst 4, 1) := kop_07 (show kBy cL_law 580 7 from kbyte (k := 576) (j := 4) kbk_576 rfl)
theorem dL_law_581 : decode cL_law 581 = .ok (.iadd, 1) := kop_60 (show kBy cL_law 581 96 from kbyte (k := 576) (j := 5) kbk_576 rfl)
theorem dL_law_582 : decode cL_law 582 = .ok (.iaload, 1) := kop_2e (show kBy cL_law 582 46 from kbyte (k := 576) (j := 6) kbk_576 rfl)
theorem dL_law_583 : decode cL_law 583 = .ok (.aload_n 0, 1) := kop_2a (show kBy cL_law 583 42 from kbyte (k := 576) (j := 7) kbk_576 rfl)
theorem dL_law_584 : decode cL_law 584 = .ok (.iload_n 3, 1) := kop_1d (show kBy cL_law 584 29 from kbyte (k := 576) (j := 8) kbk_576 rfl)
theorem dL_law_585 : decode cL_law 585 = .ok (.iconst 5, 1) := kop_08 (show kBy cL_law 585 8 from kbyte (k := 576) (j := 9) kbk_576 rfl)
theorem dL_law_586 : decode cL_law 586 = .ok (.iadd, 1) := kop_60 (show kBy cL_law 586 96 from kbyte (k := 576) (j := 10) kbk_576 rfl)
theorem dL_law_587 : decode cL_law 587 = .ok (.iaload, 1) := kop_2e (show kBy cL_law 587 46 from kbyte (k := 576) (j := 11) kbk_576 rfl)
theorem dL_law_588 : decode cL_law 588 = .ok (.invokevirtual 70, 3) := kop_b6 (show kBy cL_law 588 182 from kbyte (k := 576) (j := 12) kbk_576 rfl) (show kBy cL_law 589 0 from kbyte (k := 576) (j := 13) kbk_576 rfl) (show kBy cL_law 590 70 from kbyte (k := 576) (j := 14) kbk_576 rfl) (by decide)
theorem dL_law_591 : decode cL_law 591 = .ok (.pop, 1) := kop_57 (show kBy cL_law 591 87 from kbyte (k := 576) (j := 15) kbk_576 rfl)
theorem dL_law_592 : decode cL_law 592 = .ok (.goto 540, 3) := by decide +kernel
set_option maxRecDepth 20000 in
theorem ggL_law_X8_day : GoodIn lw_tbl wsX8_day := goodIn_2 _ [(21, 14), (4, 22), (0, 13), (0, 23), (4, 23), (5, 0), (5, 1), (0, 2), (5, 2), (5, 3), (5, 4), (5, 5), (5, 6), (5, 7), (5, 8), (21, 15), (21, 16), (21, 17), (14, 18), (14, 19), (14, 20), (5, 9), (5, 10), (5, 11), (5, 12), (5, 13), (5, 14), (5, 15), (5, 16), (0, 15), (5, 17), (5, 18), (5, 19), (5, 20), (5, 21), (5, 22), (5, 23), (21, 18), (21, 19), (21, 20), (15, 0), (6, 7), (6, 8), (6, 9), (2, 3), (6, 10), (6, 11), (6, 12), (6, 13), (21, 21), (21, 22), (21, 23), (22, 0), (22, 1), (22, 2), (22, 3), (1, 20), (1, 3), (1, 21), (1, 7), (22, 4), (22, 5), (22, 6), (1, 2), (22, 7), (15, 12), (2, 18), (22, 8), (22, 9), (22, 10), (1, 6), (22, 11), (9, 1), (2, 22), (22, 12), (22, 13), (22, 14), (22, 15), (15, 8), (15, 9), (15, 10), (15, 11), (16, 0), (16, 1), (16, 2), (16, 3), (19, 15), (19, 16), (19, 17), (19, 18), (19, 19), (13, 11), (13, 12), (13, 13), (22, 16), (22, 17), (22, 18), (22, 19), (1, 22), (22, 20), (22, 21), (13, 10), (9, 6), (9, 7), (9, 8), (0, 22), (9, 9), (7, 12), (9, 10), (9, 11), (9, 12), (1, 14), (9, 13), (9, 14), (9, 15), (9, 16), (9, 17), (9, 18), (9, 19), (9, 20), (3, 6), (3, 7), (3, 11), (9, 21), (9, 22), (9, 23), (10, 0), (10, 1), (3, 8), (10, 2), (10, 3), (10, 4), (10, 5), (2, 14), (10, 6), (10, 7), (10, 8), (10, 9), (3, 13), (10, 10), (8, 22), (8, 23), (9, 0), (10, 11), (10, 12), (10, 13), (10, 14), (10, 15), (3, 9), (3, 10), (10, 16), (10, 17), (10, 18), (10, 19), (10, 20), (10, 21), (22, 22), (22, 23), (23, 0), (23, 1), (23, 2), (23, 3), (23, 4), (23, 5), (23, 6), (23, 7), (23, 8), (23, 9), (13, 4), (13, 5), (13, 6), (2, 12), (2, 13), (13, 7), (7, 9), (7, 10), (7, 11), (13, 8), (13, 9), (35, 0), (35, 1), (35, 2), (35, 3), (35, 4), (35, 5), (35, 6), (35, 7), (35, 8), (35, 9), (35, 10), (35, 11), (35, 12), (35, 13), (35, 14), (39, 0), (39, 1), (39, 2), (39, 3), (37, 0), (37, 1), (37, 2), (37, 3), (40, 0), (40, 1), (41, 0), (41, 1), (43, 0), (43, 1), (43, 2), (43, 3), (43, 4), (43, 5), (43, 6), (43, 7), (43, 8), (43, 9)] (by decide +kernel) (by decide +kernel)
set_option maxRecDepth 20000 in
theorem gL_law_X8_day : GoodIn lw_tbl (wsV RL 66 RX8 yX8_day wsX8_day) := goodIn_app (goodIn_2 _ [(21, 11), (21, 12), (21, 13), (0, 2)] (by decide +kernel) (by decide +kernel)) ggL_law_X8_day
set_option maxRecDepth 20000 in
theorem ggL_law_X9_day : GoodIn lw_tbl wsX9_day := goodIn_2 _ [(23, 13), (11, 2), (11, 5), (4, 2), (11, 8), (11, 9), (0, 5), (11, 10), (11, 11), (11, 12), (11, 13), (11, 14), (11, 15), (11, 16), (11, 17), (11, 18), (11, 19), (11, 20), (4, 0), (4, 1), (11, 21), (11, 22), (11, 23), (12, 0), (23, 14), (23, 15), (23, 16), (23, 17), (23, 18), (23, 19), (23, 20), (4, 16), (11, 6), (4, 8), (4, 6), (23, 21), (23, 22), (23, 23), (24, 0), (24, 1), (24, 2), (24, 3), (24, 4), (13, 18), (13, 19), (13, 20), (13, 21), (20, 6), (20, 7), (20, 8), (20, 9), (14, 2), (14, 3), (14, 4), (14, 5), (24, 5), (24, 6), (24, 7), (24, 8), (17, 10), (18, 1), (17, 15), (17, 11), (17, 12), (17, 13), (17, 14), (17, 16), (4, 15), (17, 17), (17, 18), (17, 19), (17, 20), (4, 14), (17, 21), (17, 22), (17, 23), (18, 0), (4, 12), (4, 13), (4, 5), (18, 2), (18, 3), (18, 4), (18, 5), (18, 6), (18, 7), (18, 8), (18, 9), (12, 16), (12, 17), (12, 18), (18, 10), (18, 11), (18, 12), (18, 13), (13, 22), (13, 23), (14, 0), (14, 1), (4, 3), (4, 4), (24, 9), (24, 10), (24, 11), (24, 12), (36, 0), (36, 1), (36, 2), (36, 3), (36, 4), (36, 5), (36, 6), (36, 7), (36, 8), (36, 9), (36, 10), (36, 11), (36, 12), (36, 13), (36, 14), (36, 15), (36, 16), (36, 17), (36, 18), (36, 19), (36, 20), (36, 21), (36, 22), (36, 23), (36, 24), (36, 25), (36, 26), (36, 27), (36, 28), (36, 29), (36, 30)] (by decide +kernel) (by decide +kernel)
set_option maxRecDepth 20000 in
theorem gL_law_X9_day : GoodIn lw_tbl (wsV RL 70 RX9 yX9_day wsX9_day) := goodIn_app (goodIn_2 _ [(23, 10), (23, 11), (23, 12), (0, 5)] (by decide +kernel) (by decide +kernel)) ggL_law_X9_day
theorem dL_law_595 : decode cL_law 595 = .ok (.aload_n 1, 1) := kop_2b (show kBy cL_law 595 43 from kbyte (k := 576) (j := 19) kbk_576 rfl)
theorem dL_law_596 : decode cL_law 596 = .ok (.aload_n 0, 1) := kop_2a (show kBy cL_law 596 42 from kbyte (k := 576) (j := 20) kbk_576 rfl)
theorem dL_law_597 : decode cL_law 597 = .ok (.iload_n 3, 1) := kop_1d (show kBy cL_law 597 29 from kbyte (k := 576) (j := 21) kbk_576 rfl)
theorem dL_law_598 : decode cL_law 598 = .ok (.iconst 1, 1) := kop_04 (show kBy cL_law 598 4 from kbyte (k := 576) (j := 22) kbk_576 rfl)
theorem dL_law_599 : decode cL_law 599 = .ok (.iadd, 1) := kop_60 (show kBy cL_law 599 96 from kbyte (k := 576) (j := 23) kbk_576 rfl)
theorem dL_law_600 : decode cL_law 600 = .ok (.iaload, 1) := kop_2e (show kBy cL_law 600 46 from kbyte (k := 576) (j := 24) kbk_576 rfl)
theorem dL_law_601 : decode cL_law 601 = .ok (.invokevirtual 71, 3) := kop_b6 (show kBy cL_law 601 182 from kbyte (k := 576) (j := 25) kbk_576 rfl) (show kBy cL_law 602 0 from kbyte (k := 576) (j := 26) kbk_576 rfl) (show kBy cL_law 603 71 from kbyte (k := 576) (j := 27) kbk_576 rfl) (by decide)
theorem dL_law_604 : decode cL_law 604 = .ok (.pop, 1) := kop_57 (show kBy cL_law 604 87 from kbyte (k := 576) (j := 28) kbk_576 rfl)
theorem dL_law_605 : decode cL_law 605 = .ok (.aload_n 2, 1) := kop_2c (show kBy cL_law 605 44 from kbyte (k := 576) (j := 29) kbk_576 rfl)
theorem dL_law_606 : decode cL_law 606 = .ok (.aload_n 0, 1) := kop_2a (show kBy cL_law 606 42 from kbyte (k := 576) (j := 30) kbk_576 rfl)
theorem dL_law_607 : decode cL_law 607 = .ok (.iload_n 3, 1) := kop_1d (show kBy cL_law 607 29 from kbyte (k := 576) (j := 31) kbk_576 rfl)
theorem dL_law_608 : decode cL_law 608 = .ok (.iconst 1, 1) := kop_04 (show kBy cL_law 608 4 from kbyte (k := 576) (j := 32) kbk_576 rfl)
theorem dL_law_609 : decode cL_law 609 = .ok (.iadd, 1) := kop_60 (show kBy cL_law 609 96 from kbyte (k := 576) (j := 33) kbk_576 rfl)
theorem dL_law_610 : decode cL_law 610 = .ok (.iaload, 1) := kop_2e (show kBy cL_law 610 46 from kbyte (k := 576) (j := 34) kbk_576 rfl)
theorem dL_law_611 : decode cL_law 611 = .ok (.invokevirtual 74, 3) := kop_b6 (show kBy cL_law 611 182 from kbyte (k := 576) (j := 35) kbk_576 rfl) (show kBy cL_law 612 0 from kbyte (k := 576) (j := 36) kbk_576 rfl) (show kBy cL_law 613 74 from kbyte (k := 576) (j := 37) kbk_576 rfl) (by decide)
theorem dL_law_614 : decode cL_law 614 = .ok (.pop, 1) := kop_57 (show kBy cL_law 614 87 from kbyte (k := 576) (j := 38) kbk_576 rfl)
theorem dL_law_615 : decode cL_law 615 = .ok (.goto 517, 3) := by decide +kernel
set_option maxRecDepth 20000 in
theorem ggL_law_X8_best : GoodIn lw_tbl wsX8_best := goodIn_2 _ [(24, 16), (0, 23), (4, 23), (1, 15), (18, 22), (22, 21), (5, 3), (5, 4), (0, 2), (5, 5), (22, 22), (22, 23), (23, 0), (1, 14), (23, 1), (10, 15), (23, 2), (23, 3), (8, 23), (23, 4), (23, 5), (23, 6), (23, 7), (23, 8), (9, 18), (3, 9), (23, 9), (13, 4), (13, 5), (0, 22), (13, 6), (2, 12), (2, 13), (13, 7), (7, 9), (7, 10), (7, 11), (7, 12), (13, 8), (13, 9), (35, 0), (35, 1), (35, 2), (35, 3), (35, 4), (35, 5), (35, 6), (35, 7), (35, 8), (35, 9), (35, 10), (35, 11), (35, 12), (35, 13), (35, 14), (39, 0), (39, 1), (39, 2), (39, 3), (43, 0), (43, 1), (43, 2), (43, 3), (43, 4), (43, 5), (43, 6), (43, 7), (43, 8), (43, 9)] (by decide +kernel) (by decide +kernel)
set_option maxRecDepth 20000 in
theorem gL_law_X8_best : GoodIn lw_tbl (wsV RL 71 RX8 yX8_best wsX8_best) := goodIn_app (goodIn_2 _ [(24, 13), (24, 14), (24, 15), (0, 2)] (by decide +kernel) (by decide +kernel)) ggL_law_X8_best
set_option maxRecDepth 20000 in
theorem ggL_law_X9_best : GoodIn lw_tbl wsX9_best := goodIn_2 _ [(24, 20), (11, 5), (17, 16), (18, 1), (17, 15), (11, 11), (11, 12), (0, 5), (11, 13), (17, 11), (17, 12), (17, 13), (17, 14), (17, 10), (4, 6), (4, 15), (17, 17), (17, 18), (17, 19), (17, 20), (4, 14), (17, 21), (17, 22), (17, 23), (18, 0), (11, 6), (4, 8), (4, 12), (4, 13), (4, 5), (18, 2), (18, 3), (18, 4), (18, 5), (18, 6), (18, 7), (18, 8), (18, 9), (12, 16), (12, 17), (12, 18), (18, 10), (18, 11), (18, 12), (18, 13), (13, 22), (13, 23), (14, 0), (14, 1), (4, 3), (4, 4), (36, 0), (36, 1), (36, 2), (36, 3), (36, 4), (36, 5), (36, 6), (36, 7), (36, 8), (36, 9), (36, 10), (36, 11), (36, 12), (36, 13), (36, 14), (36, 15), (36, 16), (36, 17), (36, 18), (36, 19), (36, 20), (36, 21), (36, 22), (36, 23), (36, 24), (36, 25), (36, 26), (36, 27), (36, 28), (36, 29), (36, 30)] (by decide +kernel) (by decide +kernel)
set_option maxRecDepth 20000 in
theorem gL_law_X9_best : GoodIn lw_tbl (wsV RL 74 RX9 yX9_best wsX9_best) := goodIn_app (goodIn_2 _ [(24, 17), (24, 18), (24, 19), (0, 5)] (by decide +kernel) (by decide +kernel)) ggL_law_X9_best
theorem dL_law_618 : decode cL_law 618 = .ok (.aload_n 1, 1) := kop_2b (show kBy cL_law 618 43 from kbyte (k := 576) (j := 42) kbk_576 rfl)
theorem dL_law_619 : decode cL_law 619 = .ok (.aload_n 0, 1) := kop_2a (show kBy cL_law 619 42 from kbyte (k := 576) (j := 43) kbk_576 rfl)
theorem dL_law_620 : decode cL_law 620 = .ok (.iload_n 3, 1) := kop_1d (show kBy cL_law 620 29 from kbyte (k := 576) (j := 44) kbk_576 rfl)
theorem dL_law_621 : decode cL_law 621 = .ok (.iconst 1, 1) := kop_04 (show kBy cL_law 621 4 from kbyte (k := 576) (j := 45) kbk_576 rfl)
theorem dL_law_622 : decode cL_law 622 = .ok (.iadd, 1) := kop_60 (show kBy cL_law 622 96 from kbyte (k := 576) (j := 46) kbk_576 rfl)
theorem dL_law_623 : decode cL_law 623 = .ok (.iaload, 1) := kop_2e (show kBy cL_law 623 46 from kbyte (k := 576) (j := 47) kbk_576 rfl)
theorem dL_law_624 : decode cL_law 624 = .ok (.invokevirtual 75, 3) := kop_b6 (show kBy cL_law 624 182 from kbyte (k := 576) (j := 48) kbk_576 rfl) (show kBy cL_law 625 0 from kbyte (k := 576) (j := 49) kbk_576 rfl) (show kBy cL_law 626 75 from kbyte (k := 576) (j := 50) kbk_576 rfl) (by decide)
theorem dL_law_627 : decode cL_law 627 = .ok (.pop, 1) := kop_57 (show kBy cL_law 627 87 from kbyte (k := 576) (j := 51) kbk_576 rfl)
theorem dL_law_628 : decode cL_law 628 = .ok (.aload_n 2, 1) := kop_2c (show kBy cL_law 628 44 from kbyte (k := 576) (j := 52) kbk_576 rfl)
theorem dL_law_629 : decode cL_law 629 = .ok (.aload_n 0, 1) := kop_2a (show kBy cL_law 629 42 from kbyte (k := 576) (j := 53) kbk_576 rfl)
theorem dL_law_630 : decode cL_law 630 = .ok (.iload_n 3, 1) := kop_1d (show kBy cL_law 630 29 from kbyte (k := 576) (j := 54) kbk_576 rfl)
theorem dL_law_631 : decode cL_law 631 = .ok (.iconst 1, 1) := kop_04 (show kBy cL_law 631 4 from kbyte (k := 576) (j := 55) kbk_576 rfl)
theorem dL_law_632 : decode cL_law 632 = .ok (.iadd, 1) := kop_60 (show kBy cL_law 632 96 from kbyte (k := 576) (j := 56) kbk_576 rfl)
theorem dL_law_633 : decode cL_law 633 = .ok (.iaload, 1) := kop_2e (show kBy cL_law 633 46 from kbyte (k := 576) (j := 57) kbk_576 rfl)
theorem dL_law_634 : decode cL_law 634 = .ok (.invokevirtual 78, 3) := kop_b6 (show kBy cL_law 634 182 from kbyte (k := 576) (j := 58) kbk_576 rfl) (show kBy cL_law 635 0 from kbyte (k := 576) (j := 59) kbk_576 rfl) (show kBy cL_law 636 78 from kbyte (k := 576) (j := 60) kbk_576 rfl) (by decide)
theorem dL_law_637 : decode cL_law 637 = .ok (.pop, 1) := kop_57 (show kBy cL_law 637 87 from kbyte (k := 576) (j := 61) kbk_576 rfl)
theorem dL_law_638 : decode cL_law 638 = .ok (.goto 494, 3) := by decide +kernel
set_option maxRecDepth 20000 in
theorem ggL_law_X8_without : GoodIn lw_tbl wsX8_without := goodIn_2 _ [(25, 0), (0, 23), (4, 23), (1, 22), (1, 3), (1, 7), (13, 2), (7, 9), (7, 10), (0, 22), (7, 11), (7, 12), (5, 4), (0, 2), (5, 5), (9, 6), (9, 7), (9, 8), (9, 9), (9, 10), (9, 11), (9, 12), (1, 14), (9, 13), (9, 14), (9, 15), (9, 16), (9, 17), (9, 18), (9, 19), (9, 20), (3, 6), (3, 7), (3, 11), (9, 21), (9, 22), (9, 23), (10, 0), (10, 1), (3, 8), (10, 2), (10, 3), (10, 4), (10, 5), (2, 14), (10, 6), (10, 7), (10, 8), (10, 9), (3, 13), (10, 10), (8, 22), (8, 23), (9, 0), (10, 11), (10, 12), (10, 13), (10, 14), (10, 15), (3, 9), (3, 10), (10, 16), (10, 17), (10, 18), (10, 19), (10, 20), (10, 21), (22, 22), (22, 23), (23, 0), (23, 1), (23, 2), (23, 3), (23, 4), (35, 0), (35, 1), (35, 2), (35, 3), (35, 4), (35, 5), (35, 6), (35, 7), (35, 8), (35, 9), (35, 10), (35, 11), (35, 12), (35, 13), (35, 14), (39, 0), (39, 1), (39, 2), (39, 3), (43, 0), (43, 1), (43, 2), (43, 3), (43, 4), (43, 5), (43, 6), (43, 7), (43, 8), (43, 9), (40, 0), (40, 1), (41, 0), (41, 1)] (by decide +kernel) (by decide +kernel)
set_option maxRecDepth 20000 in
theorem gL_law_X8_without : GoodIn lw_tbl (wsV RL 75 RX8 yX8_without wsX8_without) := goodIn_app (goodIn_2 _ [(24, 21), (24, 22), (24, 23), (0, 2)] (by decide +kernel) (by decide +kernel)) ggL_law_X8_without
set_option maxRecDepth 20000 in
theorem ggL_law_X9_without : GoodIn lw_tbl wsX9_without := goodIn_2 _ [(25, 4), (11, 5), (13, 18), (13, 19), (13, 20), (0, 5), (13, 21), (17, 17), (17, 18), (17, 19), (17, 20), (17, 10), (4, 14), (17, 21), (17, 22), (17, 23), (18, 0), (18, 1), (11, 6), (4, 8), (4, 12), (4, 13), (4, 5), (18, 2), (18, 3), (18, 4), (18, 5), (18, 6), (18, 7), (18, 8), (18, 9), (12, 16), (12, 17), (12, 18), (36, 0), (36, 1), (36, 2), (36, 3), (36, 4), (36, 5), (36, 6), (36, 7), (36, 8), (36, 9), (36, 10), (36, 11), (36, 12), (36, 13), (36, 14), (36, 15), (36, 16), (36, 17), (36, 18), (36, 19), (36, 20), (36, 21), (36, 22), (36, 23), (36, 24), (36, 25), (36, 26), (36, 27), (36, 28), (36, 29), (36, 30)] (by decide +kernel) (by decide +kernel)
set_option maxRecDepth 20000 in
theorem gL_law_X9_without : GoodIn lw_tbl (wsV RL 78 RX9 yX9_without wsX9_without) := goodIn_app (goodIn_2 _ [(25, 1), (25, 2), (25, 3), (0, 5)] (by decide +kernel) (by decide +kernel)) ggL_law_X9_without
theorem dL_law_641 : decode cL_law 641 = .ok (.aload_n 1, 1) := kop_2b (show kBy cL_law 641 43 from kbyte (k := 640) (j := 1) kbk_640 rfl)
theorem dL_law_642 : decode cL_law 642 = .ok (.aload_n 0, 1) := kop_2a (show kBy cL_law 642 42 from kbyte (k := 640) (j := 2) kbk_640 rfl)
theorem dL_law_643 : decode cL_law 643 = .ok (.iload_n 3, 1) := kop_1d (show kBy cL_law 643 29 from kbyte (k := 640) (j := 3) kbk_640 rfl)
theorem dL_law_644 : decode cL_law 644 = .ok (.iconst 1, 1) := kop_04 (show kBy cL_law 644 4 from kbyte (k := 640) (j := 4) kbk_640 rfl)
theorem dL_law_645 : decode cL_law 645 = .ok (.iadd, 1) := kop_60 (show kBy cL_law 645 96 from kbyte (k := 640) (j := 5) kbk_640 rfl)
theorem dL_law_646 : decode cL_law 646 = .ok (.iaload, 1) := kop_2e (show kBy cL_law 646 46 from kbyte (k := 640) (j := 6) kbk_640 rfl)
theorem dL_law_647 : decode cL_law 647 = .ok (.invokevirtual 79, 3) := kop_b6 (show kBy cL_law 647 182 from kbyte (k := 640) (j := 7) kbk_640 rfl) (show kBy cL_law 648 0 from kbyte (k := 640) (j := 8) kbk_640 rfl) (show kBy cL_law 649 79 from kbyte (k := 640) (j := 9) kbk_640 rfl) (by decide)
theorem dL_law_650 : decode cL_law 650 = .ok (.pop, 1) := kop_57 (show kBy cL_law 650 87 from kbyte (k := 640) (j := 10) kbk_640 rfl)
theorem dL_law_651 : decode cL_law 651 = .ok (.aload_n 2, 1) := kop_2c (show kBy cL_law 651 44 from kbyte (k := 640) (j := 11) kbk_640 rfl)
theorem dL_law_652 : decode cL_law 652 = .ok (.aload_n 0, 1) := kop_2a (show kBy cL_law 652 42 from kbyte (k := 640) (j := 12) kbk_640 rfl)
theorem dL_law_653 : decode cL_law 653 = .ok (.iload_n 3, 1) := kop_1d (show kBy cL_law 653 29 from kbyte (k := 640) (j := 13) kbk_640 rfl)
theorem dL_law_654 : decode cL_law 654 = .ok (.iconst 1, 1) := kop_04 (show kBy cL_law 654 4 from kbyte (k := 640) (j := 14) kbk_640 rfl)
theorem dL_law_655 : decode cL_law 655 = .ok (.iadd, 1) := kop_60 (show kBy cL_law 655 96 from kbyte (k := 640) (j := 15) kbk_640 rfl)
theorem dL_law_656 : decode cL_law 656 = .ok (.iaload, 1) := kop_2e (show kBy cL_law 656 46 from kbyte (k := 640) (j := 16) kbk_640 rfl)
theorem dL_law_657 : decode cL_law 657 = .ok (.invokevirtual 82, 3) := kop_b6 (show kBy cL_law 657 182 from kbyte (k := 640) (j := 17) kbk_640 rfl) (show kBy cL_law 658 0 from kbyte (k := 640) (j := 18) kbk_640 rfl) (show kBy cL_law 659 82 from kbyte (k := 640) (j := 19) kbk_640 rfl) (by decide)
theorem dL_law_660 : decode cL_law 660 = .ok (.pop, 1) := kop_57 (show kBy cL_law 660 87 from kbyte (k := 640) (j := 20) kbk_640 rfl)
theorem dL_law_661 : decode cL_law 661 = .ok (.goto 471, 3) := by decide +kernel
set_option maxRecDepth 20000 in
theorem ggL_law_X8_enough : GoodIn lw_tbl wsX8_enough := goodIn_2 _ [(25, 8), (0, 23), (4, 23), (5, 3), (5, 4), (0, 2), (5, 5), (25, 9), (25, 10), (25, 11), (25, 12), (1, 15), (9, 6), (9, 7), (9, 8), (0, 22), (9, 9), (7, 12), (25, 13), (25, 14), (25, 15), (1, 14), (25, 16), (9, 18), (3, 8), (25, 17), (7, 23), (8, 0), (8, 1), (8, 2), (8, 3), (8, 4), (35, 0), (35, 1), (35, 2), (35, 3), (35, 4), (35, 5), (35, 6), (35, 7), (35, 8), (35, 9), (35, 10), (35, 11), (35, 12), (35, 13), (35, 14), (39, 0), (39, 1), (39, 2), (39, 3), (43, 0), (43, 1), (43, 2), (43, 3), (43, 4), (43, 5), (43, 6), (43, 7), (43, 8), (43, 9)] (by decide +kernel) (by decide +kernel)
set_option maxRecDepth 20000 in
theorem gL_law_X8_enough : GoodIn lw_tbl (wsV RL 79 RX8 yX8_enough wsX8_enough) := goodIn_app (goodIn_2 _ [(25, 5), (25, 6), (25, 7), (0, 2)] (by decide +kernel) (by decide +kernel)) ggL_law_X8_enough
set_option maxRecDepth 20000 in
theorem ggL_law_X9_enough : GoodIn lw_tbl wsX9_enough := goodIn_2 _ [(25, 21), (11, 5), (17, 10), (4, 13), (11, 11), (11, 12), (0, 5), (11, 13), (17, 21), (17, 22), (17, 23), (18, 0), (18, 1), (11, 6), (4, 8), (4, 12), (4, 5), (12, 13), (12, 14), (12, 15), (36, 0), (36, 1), (36, 2), (36, 3), (36, 4), (36, 5), (36, 6), (36, 7), (36, 8), (36, 9), (36, 10), (36, 11), (36, 12), (36, 13), (36, 14), (36, 15), (36, 16), (36, 17), (36, 18), (36, 19), (36, 20), (36, 21), (36, 22), (36, 23), (36, 24), (36, 25), (36, 26), (36, 27), (36, 28), (36, 29), (36, 30)] (by decide +kernel) (by decide +kernel)
set_option maxRecDepth 20000 in
theorem gL_law_X9_enough : GoodIn lw_tbl (wsV RL 82 RX9 yX9_enough wsX9_enough) := goodIn_app (goodIn_2 _ [(25, 18), (25, 19), (25, 20), (0, 5)] (by decide +kernel) (by decide +kernel)) ggL_law_X9_enough
