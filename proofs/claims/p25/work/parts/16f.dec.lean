theorem dL_law_532 : decode cL_law 532 = .ok (.aload_n 1, 1) := kop_2b (show kBy cL_law 532 43 from kbyte (k := 512) (j := 20) kbk_512 rfl)
theorem dL_law_533 : decode cL_law 533 = .ok (.aload_n 0, 1) := kop_2a (show kBy cL_law 533 42 from kbyte (k := 512) (j := 21) kbk_512 rfl)
theorem dL_law_534 : decode cL_law 534 = .ok (.iload_n 3, 1) := kop_1d (show kBy cL_law 534 29 from kbyte (k := 512) (j := 22) kbk_512 rfl)
theorem dL_law_535 : decode cL_law 535 = .ok (.iconst 1, 1) := kop_04 (show kBy cL_law 535 4 from kbyte (k := 512) (j := 23) kbk_512 rfl)
theorem dL_law_536 : decode cL_law 536 = .ok (.iadd, 1) := kop_60 (show kBy cL_law 536 96 from kbyte (k := 512) (j := 24) kbk_512 rfl)
theorem dL_law_537 : decode cL_law 537 = .ok (.iaload, 1) := kop_2e (show kBy cL_law 537 46 from kbyte (k := 512) (j := 25) kbk_512 rfl)
theorem dL_law_538 : decode cL_law 538 = .ok (.aload_n 0, 1) := kop_2a (show kBy cL_law 538 42 from kbyte (k := 512) (j := 26) kbk_512 rfl)
theorem dL_law_539 : decode cL_law 539 = .ok (.iload_n 3, 1) := kop_1d (show kBy cL_law 539 29 from kbyte (k := 512) (j := 27) kbk_512 rfl)
theorem dL_law_540 : decode cL_law 540 = .ok (.iconst 2, 1) := kop_05 (show kBy cL_law 540 5 from kbyte (k := 512) (j := 28) kbk_512 rfl)
theorem dL_law_541 : decode cL_law 541 = .ok (.iadd, 1) := kop_60 (show kBy cL_law 541 96 from kbyte (k := 512) (j := 29) kbk_512 rfl)
theorem dL_law_542 : decode cL_law 542 = .ok (.iaload, 1) := kop_2e (show kBy cL_law 542 46 from kbyte (k := 512) (j := 30) kbk_512 rfl)
theorem dL_law_543 : decode cL_law 543 = .ok (.aload_n 0, 1) := kop_2a (show kBy cL_law 543 42 from kbyte (k := 512) (j := 31) kbk_512 rfl)
theorem dL_law_544 : decode cL_law 544 = .ok (.iload_n 3, 1) := kop_1d (show kBy cL_law 544 29 from kbyte (k := 512) (j := 32) kbk_512 rfl)
theorem dL_law_545 : decode cL_law 545 = .ok (.iconst 3, 1) := kop_06 (show kBy cL_law 545 6 from kbyte (k := 512) (j := 33) kbk_512 rfl)
theorem dL_law_546 : decode cL_law 546 = .ok (.iadd, 1) := kop_60 (show kBy cL_law 546 96 from kbyte (k := 512) (j := 34) kbk_512 rfl)
theorem dL_law_547 : decode cL_law 547 = .ok (.iaload, 1) := kop_2e (show kBy cL_law 547 46 from kbyte (k := 512) (j := 35) kbk_512 rfl)
theorem dL_law_548 : decode cL_law 548 = .ok (.aload_n 0, 1) := kop_2a (show kBy cL_law 548 42 from kbyte (k := 512) (j := 36) kbk_512 rfl)
theorem dL_law_549 : decode cL_law 549 = .ok (.iload_n 3, 1) := kop_1d (show kBy cL_law 549 29 from kbyte (k := 512) (j := 37) kbk_512 rfl)
theorem dL_law_550 : decode cL_law 550 = .ok (.iconst 4, 1) := kop_07 (show kBy cL_law 550 7 from kbyte (k := 512) (j := 38) kbk_512 rfl)
theorem dL_law_551 : decode cL_law 551 = .ok (.iadd, 1) := kop_60 (show kBy cL_law 551 96 from kbyte (k := 512) (j := 39) kbk_512 rfl)
theorem dL_law_552 : decode cL_law 552 = .ok (.iaload, 1) := kop_2e (show kBy cL_law 552 46 from kbyte (k := 512) (j := 40) kbk_512 rfl)
theorem dL_law_553 : decode cL_law 553 = .ok (.aload_n 0, 1) := kop_2a (show kBy cL_law 553 42 from kbyte (k := 512) (j := 41) kbk_512 rfl)
theorem dL_law_554 : decode cL_law 554 = .ok (.iload_n 3, 1) := kop_1d (show kBy cL_law 554 29 from kbyte (k := 512) (j := 42) kbk_512 rfl)
theorem dL_law_555 : decode cL_law 555 = .ok (.iconst 5, 1) := kop_08 (show kBy cL_law 555 8 from kbyte (k := 512) (j := 43) kbk_512 rfl)
theorem dL_law_556 : decode cL_law 556 = .ok (.iadd, 1) := kop_60 (show kBy cL_law 556 96 from kbyte (k := 512) (j := 44) kbk_512 rfl)
theorem dL_law_557 : decode cL_law 557 = .ok (.iaload, 1) := kop_2e (show kBy cL_law 557 46 from kbyte (k := 512) (j := 45) kbk_512 rfl)
theorem dL_law_558 : decode cL_law 558 = .ok (.invokevirtual 66, 3) := kop_b6 (show kBy cL_law 558 182 from kbyte (k := 512) (j := 46) kbk_512 rfl) (show kBy cL_law 559 0 from kbyte (k := 512) (j := 47) kbk_512 rfl) (show kBy cL_law 560 66 from kbyte (k := 512) (j := 48) kbk_512 rfl) (by decide)
theorem dL_law_561 : decode cL_law 561 = .ok (.pop, 1) := kop_57 (show kBy cL_law 561 87 from kbyte (k := 512) (j := 49) kbk_512 rfl)
theorem dL_law_562 : decode cL_law 562 = .ok (.aload_n 2, 1) := kop_2c (show kBy cL_law 562 44 from kbyte (k := 512) (j := 50) kbk_512 rfl)
theorem dL_law_563 : decode cL_law 563 = .ok (.aload_n 0, 1) := kop_2a (show kBy cL_law 563 42 from kbyte (k := 512) (j := 51) kbk_512 rfl)
theorem dL_law_564 : decode cL_law 564 = .ok (.iload_n 3, 1) := kop_1d (show kBy cL_law 564 29 from kbyte (k := 512) (j := 52) kbk_512 rfl)
theorem dL_law_565 : decode cL_law 565 = .ok (.iconst 1, 1) := kop_04 (show kBy cL_law 565 4 from kbyte (k := 512) (j := 53) kbk_512 rfl)
theorem dL_law_566 : decode cL_law 566 = .ok (.iadd, 1) := kop_60 (show kBy cL_law 566 96 from kbyte (k := 512) (j := 54) kbk_512 rfl)
theorem dL_law_567 : decode cL_law 567 = .ok (.iaload, 1) := kop_2e (show kBy cL_law 567 46 from kbyte (k := 512) (j := 55) kbk_512 rfl)
theorem dL_law_568 : decode cL_law 568 = .ok (.aload_n 0, 1) := kop_2a (show kBy cL_law 568 42 from kbyte (k := 512) (j := 56) kbk_512 rfl)
theorem dL_law_569 : decode cL_law 569 = .ok (.iload_n 3, 1) := kop_1d (show kBy cL_law 569 29 from kbyte (k := 512) (j := 57) kbk_512 rfl)
theorem dL_law_570 : decode cL_law 570 = .ok (.iconst 2, 1) := kop_05 (show kBy cL_law 570 5 from kbyte (k := 512) (j := 58) kbk_512 rfl)
theorem dL_law_571 : decode cL_law 571 = .ok (.iadd, 1) := kop_60 (show kBy cL_law 571 96 from kbyte (k := 512) (j := 59) kbk_512 rfl)
theorem dL_law_572 : decode cL_law 572 = .ok (.iaload, 1) := kop_2e (show kBy cL_law 572 46 from kbyte (k := 512) (j := 60) kbk_512 rfl)
theorem dL_law_573 : decode cL_law 573 = .ok (.aload_n 0, 1) := kop_2a (show kBy cL_law 573 42 from kbyte (k := 512) (j := 61) kbk_512 rfl)
theorem dL_law_574 : decode cL_law 574 = .ok (.iload_n 3, 1) := kop_1d (show kBy cL_law 574 29 from kbyte (k := 512) (j := 62) kbk_512 rfl)
theorem dL_law_575 : decode cL_law 575 = .ok (.iconst 3, 1) := kop_06 (show kBy cL_law 575 6 from kbyte (k := 512) (j := 63) kbk_512 rfl)
theorem dL_law_576 : decode cL_law 576 = .ok (.iadd, 1) := kop_60 (show kBy cL_law 576 96 from kbyte (k := 576) (j := 0) kbk_576 rfl)
theorem dL_law_577 : decode cL_law 577 = .ok (.iaload, 1) := kop_2e (show kBy cL_law 577 46 from kbyte (k := 576) (j := 1) kbk_576 rfl)
theorem dL_law_578 : decode cL_law 578 = .ok (.aload_n 0, 1) := kop_2a (show kBy cL_law 578 42 from kbyte (k := 576) (j := 2) kbk_576 rfl)
theorem dL_law_579 : decode cL_law 579 = .ok (.iload_n 3, 1) := kop_1d (show kBy cL_law 579 29 from kbyte (k := 576) (j := 3) kbk_576 rfl)
theorem dL_law_580 : decode cL_law 580 = .ok (.iconst 4, 1) := kop_07 (show kBy cL_law 580 7 from kbyte (k := 576) (j := 4) kbk_576 rfl)
theorem dL_law_581 : decode cL_law 581 = .ok (.iadd, 1) := kop_60 (show kBy cL_law 581 96 from kbyte (k := 576) (j := 5) kbk_576 rfl)
theorem dL_law_582 : decode cL_law 582 = .ok (.iaload, 1) := kop_2e (show kBy cL_law 582 46 from kbyte (k := 576) (j := 6) kbk_576 rfl)
theorem dL_law_583 : decode cL_law 583 = .ok (.aload_n 0, 1) := kop_2a (show kBy cL_law 583 42 from kbyte (k := 576) (j := 7) kbk_576 rfl)
theorem dL_law_584 : decode cL_law 584 = .ok (.iload_n 3, 1) := kop_1d (show kBy cL_law 584 29 from kbyte (k := 576) (j := 8) kbk_576 rfl)
theorem dL_law_585 : decode cL_law 585 = .ok (.iconst 5, 1) := kop_08 (show kBy cL_law 585 8 from kbyte (k := 576) (j := 9) kbk_576 rfl)
theorem dL_law_586 : decode cL_law 586 = .ok (.iadd, 1) := kop_60 (show kBy cL_law 586 96 from kbyte (k := 576) (j := 10) kbk_576 rfl)
theorem dL_law_587 : decode cL_law 587 = .ok (.iaload, 1) := kop_2e (show kBy cL_law 587 46 from kbyte (k := 576) (j := 11) kbk_576 rfl)
theorem dL_law_588 : decode cL_law 588 = .ok (.invokevirtual 70, 3) := kop_b6 (show kBy cL_law 588 182 from kbyte (k := 576) (j := 12) kbk_576 rfl) (show kBy cL_law 589 0 from kbyte (k := 576) (j := 13) kbk_576 rfl) (show kBy cL_law 590 70 from kbyte (k := 576) (j := 14) kbk_576 rfl) (by decide)
theorem dL_law_591 : decode cL_law 591 = .ok (.pop, 1) := kop_57 (show kBy cL_law 591 87 from kbyte (k := 576) (j := 15) kbk_576 rfl)
theorem dL_law_592 : decode cL_law 592 = .ok (.goto 540, 3) := by decide +kernel
set_option maxRecDepth 20000 in
theorem ggL_law_X8_day : GoodIn wsL_law wsX8_day := goodIn_r _ [518, 118, 13, 23, 119, 120, 121, 2, 122, 123, 124, 125, 126, 127, 128, 519, 520, 521, 354, 355, 356, 129, 130, 131, 132, 133, 134, 135, 136, 15, 137, 138, 139, 140, 141, 142, 143, 522, 523, 524, 360, 151, 152, 153, 51, 154, 155, 156, 157, 525, 526, 527, 528, 529, 530, 531, 44, 27, 45, 31, 532, 533, 534, 26, 535, 372, 66, 536, 537, 538, 30, 539, 217, 70, 540, 541, 542, 543, 368, 369, 370, 371, 384, 385, 386, 387, 471, 472, 473, 474, 475, 323, 324, 325, 544, 545, 546, 547, 46, 548, 549, 322, 222, 223, 224, 22, 225, 180, 226, 227, 228, 38, 229, 230, 231, 232, 233, 234, 235, 236, 78, 79, 83, 237, 238, 239, 240, 241, 80, 242, 243, 244, 245, 62, 246, 247, 248, 249, 85, 250, 214, 215, 216, 251, 252, 253, 254, 255, 81, 82, 256, 257, 258, 259, 260, 261, 550, 551, 552, 553, 554, 555, 556, 557, 558, 559, 560, 561, 316, 317, 318, 60, 61, 319, 177, 178, 179, 320, 321, 821, 822, 823, 824, 825, 826, 827, 828, 829, 830, 831, 832, 833, 834, 835, 873, 874, 875, 876, 867, 868, 869, 870, 877, 878, 879, 880, 883, 884, 885, 886, 887, 888, 889, 890, 891, 892] (by decide +kernel) (by decide +kernel)
set_option maxRecDepth 20000 in
theorem gL_law_X8_day : GoodIn wsL_law (wsV RL 66 RX8 yX8_day wsX8_day) := goodIn_app (goodIn_of _ (by decide +kernel)) ggL_law_X8_day
set_option maxRecDepth 20000 in
theorem ggL_law_X9_day : GoodIn wsL_law wsX9_day := goodIn_r _ [565, 266, 269, 98, 272, 273, 5, 274, 275, 276, 277, 278, 279, 280, 281, 282, 283, 284, 96, 97, 285, 286, 287, 288, 566, 567, 568, 569, 570, 571, 572, 112, 270, 104, 102, 573, 574, 575, 576, 577, 578, 579, 580, 330, 331, 332, 333, 486, 487, 488, 489, 338, 339, 340, 341, 581, 582, 583, 584, 418, 433, 423, 419, 420, 421, 422, 424, 111, 425, 426, 427, 428, 110, 429, 430, 431, 432, 108, 109, 101, 434, 435, 436, 437, 438, 439, 440, 441, 304, 305, 306, 442, 443, 444, 445, 334, 335, 336, 337, 99, 100, 585, 586, 587, 588, 836, 837, 838, 839, 840, 841, 842, 843, 844, 845, 846, 847, 848, 849, 850, 851, 852, 853, 854, 855, 856, 857, 858, 859, 860, 861, 862, 863, 864, 865, 866] (by decide +kernel) (by decide +kernel)
set_option maxRecDepth 20000 in
theorem gL_law_X9_day : GoodIn wsL_law (wsV RL 70 RX9 yX9_day wsX9_day) := goodIn_app (goodIn_of _ (by decide +kernel)) ggL_law_X9_day
theorem dL_law_595 : decode cL_law 595 = .ok (.aload_n 1, 1) := kop_2b (show kBy cL_law 595 43 from kbyte (k := 576) (j := 19) kbk_576 rfl)
theorem dL_law_596 : decode cL_law 596 = .ok (.aload_n 0, 1) := kop_2a (show kBy cL_law 596 42 from kbyte (k := 576) (j := 20) kbk_576 rfl)
theorem dL_law_597 : decode cL_law 597 = .ok (.iload_n 3, 1) := kop_1d (show kBy cL_law 597 29 from kbyte (k := 576) (j := 21) kbk_576 rfl)
theorem dL_law_598 : decode cL_law 598 = .ok (.iconst 1, 1) := kop_04 (show kBy cL_law 598 4 from kbyte (k := 576) (j := 22) kbk_576 rfl)
theorem dL_law_599 : decode cL_law 599 = .ok (.iadd, 1) := kop_60 (show kBy cL_law 599 96 from kbyte (k := 576) (j := 23) kbk_576 rfl)
theorem dL_law_600 : decode cL_law 600 = .ok (.iaload, 1) := kop_2e (show kBy cL_law 600 46 from kbyte (k := 576) (j := 24) kbk_576 rfl)
theorem dL_law_601 : decode cL_law 601 = .ok (.invokevirtual 71, 3) := kop_b6 (show kBy cL_law 601 182 from kbyte (k := 576) (j := 25) kbk_576 rfl) (show kBy cL_law 602 0 from kbyte (k := 576) (j := 26) kbk_576 rfl) (show kBy cL_law 603 71 from kbyte (k := 576) (j := 27) kbk_576 rfl) (by decide)
theorem dL_law_604 : decode cL_law 604 = .ok (.pop, 1) := kop_57 (show kBy cL_law 604 87 from kbyte (k := 576) (j := 28) kbk_576 rfl)
theorem dL_law_605 : decode cL_law 605 = .ok (.aload_n 2, 1) := kop_2c (show kBy cL_law 605 44 from kbyte (k := 576) (j := 29) kbk_576 rfl)
theorem dL_law_606 : decode cL_law 606 = .ok (.aload_n 0, 1) := kop_2a (show kBy cL_law 606 42 from kbyte (k := 576) (j := 30) kbk_576 rfl)
theorem dL_law_607 : decode cL_law 607 = .ok (.iload_n 3, 1) := kop_1d (show kBy cL_law 607 29 from kbyte (k := 576) (j := 31) kbk_576 rfl)
theorem dL_law_608 : decode cL_law 608 = .ok (.iconst 1, 1) := kop_04 (show kBy cL_law 608 4 from kbyte (k := 576) (j := 32) kbk_576 rfl)
theorem dL_law_609 : decode cL_law 609 = .ok (.iadd, 1) := kop_60 (show kBy cL_law 609 96 from kbyte (k := 576) (j := 33) kbk_576 rfl)
theorem dL_law_610 : decode cL_law 610 = .ok (.iaload, 1) := kop_2e (show kBy cL_law 610 46 from kbyte (k := 576) (j := 34) kbk_576 rfl)
theorem dL_law_611 : decode cL_law 611 = .ok (.invokevirtual 74, 3) := kop_b6 (show kBy cL_law 611 182 from kbyte (k := 576) (j := 35) kbk_576 rfl) (show kBy cL_law 612 0 from kbyte (k := 576) (j := 36) kbk_576 rfl) (show kBy cL_law 613 74 from kbyte (k := 576) (j := 37) kbk_576 rfl) (by decide)
theorem dL_law_614 : decode cL_law 614 = .ok (.pop, 1) := kop_57 (show kBy cL_law 614 87 from kbyte (k := 576) (j := 38) kbk_576 rfl)
theorem dL_law_615 : decode cL_law 615 = .ok (.goto 517, 3) := by decide +kernel
set_option maxRecDepth 20000 in
theorem ggL_law_X8_best : GoodIn wsL_law wsX8_best := goodIn_r _ [592, 23, 119, 39, 454, 549, 123, 124, 2, 125, 550, 551, 552, 38, 553, 255, 554, 555, 215, 556, 557, 558, 559, 560, 234, 81, 561, 316, 317, 22, 318, 60, 61, 319, 177, 178, 179, 180, 320, 321, 821, 822, 823, 824, 825, 826, 827, 828, 829, 830, 831, 832, 833, 834, 835, 873, 874, 875, 876, 883, 884, 885, 886, 887, 888, 889, 890, 891, 892] (by decide +kernel) (by decide +kernel)
set_option maxRecDepth 20000 in
theorem gL_law_X8_best : GoodIn wsL_law (wsV RL 71 RX8 yX8_best wsX8_best) := goodIn_app (goodIn_of _ (by decide +kernel)) ggL_law_X8_best
set_option maxRecDepth 20000 in
theorem ggL_law_X9_best : GoodIn wsL_law wsX9_best := goodIn_r _ [596, 269, 424, 433, 423, 275, 276, 5, 277, 419, 420, 421, 422, 418, 102, 111, 425, 426, 427, 428, 110, 429, 430, 431, 432, 270, 104, 108, 109, 101, 434, 435, 436, 437, 438, 439, 440, 441, 304, 305, 306, 442, 443, 444, 445, 334, 335, 336, 337, 99, 100, 836, 837, 838, 839, 840, 841, 842, 843, 844, 845, 846, 847, 848, 849, 850, 851, 852, 853, 854, 855, 856, 857, 858, 859, 860, 861, 862, 863, 864, 865, 866] (by decide +kernel) (by decide +kernel)
set_option maxRecDepth 20000 in
theorem gL_law_X9_best : GoodIn wsL_law (wsV RL 74 RX9 yX9_best wsX9_best) := goodIn_app (goodIn_of _ (by decide +kernel)) ggL_law_X9_best
theorem dL_law_618 : decode cL_law 618 = .ok (.aload_n 1, 1) := kop_2b (show kBy cL_law 618 43 from kbyte (k := 576) (j := 42) kbk_576 rfl)
theorem dL_law_619 : decode cL_law 619 = .ok (.aload_n 0, 1) := kop_2a (show kBy cL_law 619 42 from kbyte (k := 576) (j := 43) kbk_576 rfl)
theorem dL_law_620 : decode cL_law 620 = .ok (.iload_n 3, 1) := kop_1d (show kBy cL_law 620 29 from kbyte (k := 576) (j := 44) kbk_576 rfl)
theorem dL_law_621 : decode cL_law 621 = .ok (.iconst 1, 1) := kop_04 (show kBy cL_law 621 4 from kbyte (k := 576) (j := 45) kbk_576 rfl)
theorem dL_law_622 : decode cL_law 622 = .ok (.iadd, 1) := kop_60 (show kBy cL_law 622 96 from kbyte (k := 576) (j := 46) kbk_576 rfl)
theorem dL_law_623 : decode cL_law 623 = .ok (.iaload, 1) := kop_2e (show kBy cL_law 623 46 from kbyte (k := 576) (j := 47) kbk_576 rfl)
theorem dL_law_624 : decode cL_law 624 = .ok (.invokevirtual 75, 3) := kop_b6 (show kBy cL_law 624 182 from kbyte (k := 576) (j := 48) kbk_576 rfl) (show kBy cL_law 625 0 from kbyte (k := 576) (j := 49) kbk_576 rfl) (show kBy cL_law 626 75 from kbyte (k := 576) (j := 50) kbk_576 rfl) (by decide)
theorem dL_law_627 : decode cL_law 627 = .ok (.pop, 1) := kop_57 (show kBy cL_law 627 87 from kbyte (k := 576) (j := 51) kbk_576 rfl)
theorem dL_law_628 : decode cL_law 628 = .ok (.aload_n 2, 1) := kop_2c (show kBy cL_law 628 44 from kbyte (k := 576) (j := 52) kbk_576 rfl)
theorem dL_law_629 : decode cL_law 629 = .ok (.aload_n 0, 1) := kop_2a (show kBy cL_law 629 42 from kbyte (k := 576) (j := 53) kbk_576 rfl)
theorem dL_law_630 : decode cL_law 630 = .ok (.iload_n 3, 1) := kop_1d (show kBy cL_law 630 29 from kbyte (k := 576) (j := 54) kbk_576 rfl)
theorem dL_law_631 : decode cL_law 631 = .ok (.iconst 1, 1) := kop_04 (show kBy cL_law 631 4 from kbyte (k := 576) (j := 55) kbk_576 rfl)
theorem dL_law_632 : decode cL_law 632 = .ok (.iadd, 1) := kop_60 (show kBy cL_law 632 96 from kbyte (k := 576) (j := 56) kbk_576 rfl)
theorem dL_law_633 : decode cL_law 633 = .ok (.iaload, 1) := kop_2e (show kBy cL_law 633 46 from kbyte (k := 576) (j := 57) kbk_576 rfl)
theorem dL_law_634 : decode cL_law 634 = .ok (.invokevirtual 78, 3) := kop_b6 (show kBy cL_law 634 182 from kbyte (k := 576) (j := 58) kbk_576 rfl) (show kBy cL_law 635 0 from kbyte (k := 576) (j := 59) kbk_576 rfl) (show kBy cL_law 636 78 from kbyte (k := 576) (j := 60) kbk_576 rfl) (by decide)
theorem dL_law_637 : decode cL_law 637 = .ok (.pop, 1) := kop_57 (show kBy cL_law 637 87 from kbyte (k := 576) (j := 61) kbk_576 rfl)
theorem dL_law_638 : decode cL_law 638 = .ok (.goto 494, 3) := by decide +kernel
set_option maxRecDepth 20000 in
theorem ggL_law_X8_without : GoodIn wsL_law wsX8_without := goodIn_r _ [600, 23, 119, 46, 27, 31, 314, 177, 178, 22, 179, 180, 124, 2, 125, 222, 223, 224, 225, 226, 227, 228, 38, 229, 230, 231, 232, 233, 234, 235, 236, 78, 79, 83, 237, 238, 239, 240, 241, 80, 242, 243, 244, 245, 62, 246, 247, 248, 249, 85, 250, 214, 215, 216, 251, 252, 253, 254, 255, 81, 82, 256, 257, 258, 259, 260, 261, 550, 551, 552, 553, 554, 555, 556, 821, 822, 823, 824, 825, 826, 827, 828, 829, 830, 831, 832, 833, 834, 835, 873, 874, 875, 876, 883, 884, 885, 886, 887, 888, 889, 890, 891, 892, 877, 878, 879, 880] (by decide +kernel) (by decide +kernel)
set_option maxRecDepth 20000 in
theorem gL_law_X8_without : GoodIn wsL_law (wsV RL 75 RX8 yX8_without wsX8_without) := goodIn_app (goodIn_of _ (by decide +kernel)) ggL_law_X8_without
set_option maxRecDepth 20000 in
theorem ggL_law_X9_without : GoodIn wsL_law wsX9_without := goodIn_r _ [604, 269, 330, 331, 332, 5, 333, 425, 426, 427, 428, 418, 110, 429, 430, 431, 432, 433, 270, 104, 108, 109, 101, 434, 435, 436, 437, 438, 439, 440, 441, 304, 305, 306, 836, 837, 838, 839, 840, 841, 842, 843, 844, 845, 846, 847, 848, 849, 850, 851, 852, 853, 854, 855, 856, 857, 858, 859, 860, 861, 862, 863, 864, 865, 866] (by decide +kernel) (by decide +kernel)
set_option maxRecDepth 20000 in
theorem gL_law_X9_without : GoodIn wsL_law (wsV RL 78 RX9 yX9_without wsX9_without) := goodIn_app (goodIn_of _ (by decide +kernel)) ggL_law_X9_without
theorem dL_law_641 : decode cL_law 641 = .ok (.aload_n 1, 1) := kop_2b (show kBy cL_law 641 43 from kbyte (k := 640) (j := 1) kbk_640 rfl)
theorem dL_law_642 : decode cL_law 642 = .ok (.aload_n 0, 1) := kop_2a (show kBy cL_law 642 42 from kbyte (k := 640) (j := 2) kbk_640 rfl)
theorem dL_law_643 : decode cL_law 643 = .ok (.iload_n 3, 1) := kop_1d (show kBy cL_law 643 29 from kbyte (k := 640) (j := 3) kbk_640 rfl)
theorem dL_law_644 : decode cL_law 644 = .ok (.iconst 1, 1) := kop_04 (show kBy cL_law 644 4 from kbyte (k := 640) (j := 4) kbk_640 rfl)
theorem dL_law_645 : decode cL_law 645 = .ok (.iadd, 1) := kop_60 (show kBy cL_law 645 96 from kbyte (k := 640) (j := 5) kbk_640 rfl)
theorem dL_law_646 : decode cL_law 646 = .ok (.iaload, 1) := kop_2e (show kBy cL_law 646 46 from kbyte (k := 640) (j := 6) kbk_640 rfl)
theorem dL_law_647 : decode cL_law 647 = .ok (.invokevirtual 79, 3) := kop_b6 (show kBy cL_law 647 182 from kbyte (k := 640) (j := 7) kbk_640 rfl) (show kBy cL_law 648 0 from kbyte (k := 640) (j := 8) kbk_640 rfl) (show kBy cL_law 649 79 from kbyte (k := 640) (j := 9) kbk_640 rfl) (by decide)
theorem dL_law_650 : decode cL_law 650 = .ok (.pop, 1) := kop_57 (show kBy cL_law 650 87 from kbyte (k := 640) (j := 10) kbk_640 rfl)
theorem dL_law_651 : decode cL_law 651 = .ok (.aload_n 2, 1) := kop_2c (show kBy cL_law 651 44 from kbyte (k := 640) (j := 11) kbk_640 rfl)
theorem dL_law_652 : decode cL_law 652 = .ok (.aload_n 0, 1) := kop_2a (show kBy cL_law 652 42 from kbyte (k := 640) (j := 12) kbk_640 rfl)
theorem dL_law_653 : decode cL_law 653 = .ok (.iload_n 3, 1) := kop_1d (show kBy cL_law 653 29 from kbyte (k := 640) (j := 13) kbk_640 rfl)
theorem dL_law_654 : decode cL_law 654 = .ok (.iconst 1, 1) := kop_04 (show kBy cL_law 654 4 from kbyte (k := 640) (j := 14) kbk_640 rfl)
theorem dL_law_655 : decode cL_law 655 = .ok (.iadd, 1) := kop_60 (show kBy cL_law 655 96 from kbyte (k := 640) (j := 15) kbk_640 rfl)
theorem dL_law_656 : decode cL_law 656 = .ok (.iaload, 1) := kop_2e (show kBy cL_law 656 46 from kbyte (k := 640) (j := 16) kbk_640 rfl)
theorem dL_law_657 : decode cL_law 657 = .ok (.invokevirtual 82, 3) := kop_b6 (show kBy cL_law 657 182 from kbyte (k := 640) (j := 17) kbk_640 rfl) (show kBy cL_law 658 0 from kbyte (k := 640) (j := 18) kbk_640 rfl) (show kBy cL_law 659 82 from kbyte (k := 640) (j := 19) kbk_640 rfl) (by decide)
theorem dL_law_660 : decode cL_law 660 = .ok (.pop, 1) := kop_57 (show kBy cL_law 660 87 from kbyte (k := 640) (j := 20) kbk_640 rfl)
theorem dL_law_661 : decode cL_law 661 = .ok (.goto 471, 3) := by decide +kernel
set_option maxRecDepth 20000 in
theorem ggL_law_X8_enough : GoodIn wsL_law wsX8_enough := goodIn_r _ [608, 23, 119, 123, 124, 2, 125, 609, 610, 611, 612, 39, 222, 223, 224, 22, 225, 180, 613, 614, 615, 38, 616, 234, 80, 617, 191, 192, 193, 194, 195, 196, 821, 822, 823, 824, 825, 826, 827, 828, 829, 830, 831, 832, 833, 834, 835, 873, 874, 875, 876, 883, 884, 885, 886, 887, 888, 889, 890, 891, 892] (by decide +kernel) (by decide +kernel)
set_option maxRecDepth 20000 in
theorem gL_law_X8_enough : GoodIn wsL_law (wsV RL 79 RX8 yX8_enough wsX8_enough) := goodIn_app (goodIn_of _ (by decide +kernel)) ggL_law_X8_enough
set_option maxRecDepth 20000 in
theorem ggL_law_X9_enough : GoodIn wsL_law wsX9_enough := goodIn_r _ [621, 269, 418, 109, 275, 276, 5, 277, 429, 430, 431, 432, 433, 270, 104, 108, 101, 301, 302, 303, 836, 837, 838, 839, 840, 841, 842, 843, 844, 845, 846, 847, 848, 849, 850, 851, 852, 853, 854, 855, 856, 857, 858, 859, 860, 861, 862, 863, 864, 865, 866] (by decide +kernel) (by decide +kernel)
set_option maxRecDepth 20000 in
theorem gL_law_X9_enough : GoodIn wsL_law (wsV RL 82 RX9 yX9_enough wsX9_enough) := goodIn_app (goodIn_of _ (by decide +kernel)) ggL_law_X9_enough
