theorem dL_law_664 : decode cL_law 664 = .ok (.aload_n 1, 1) := kop_2b (show kBy cL_law 664 43 from kbyte (k := 640) (j := 24) kbk_640 rfl)
theorem dL_law_665 : decode cL_law 665 = .ok (.aload_n 0, 1) := kop_2a (show kBy cL_law 665 42 from kbyte (k := 640) (j := 25) kbk_640 rfl)
theorem dL_law_666 : decode cL_law 666 = .ok (.iload_n 3, 1) := kop_1d (show kBy cL_law 666 29 from kbyte (k := 640) (j := 26) kbk_640 rfl)
theorem dL_law_667 : decode cL_law 667 = .ok (.iconst 1, 1) := kop_04 (show kBy cL_law 667 4 from kbyte (k := 640) (j := 27) kbk_640 rfl)
theorem dL_law_668 : decode cL_law 668 = .ok (.iadd, 1) := kop_60 (show kBy cL_law 668 96 from kbyte (k := 640) (j := 28) kbk_640 rfl)
theorem dL_law_669 : decode cL_law 669 = .ok (.iaload, 1) := kop_2e (show kBy cL_law 669 46 from kbyte (k := 640) (j := 29) kbk_640 rfl)
theorem dL_law_670 : decode cL_law 670 = .ok (.invokevirtual 83, 3) := kop_b6 (show kBy cL_law 670 182 from kbyte (k := 640) (j := 30) kbk_640 rfl) (show kBy cL_law 671 0 from kbyte (k := 640) (j := 31) kbk_640 rfl) (show kBy cL_law 672 83 from kbyte (k := 640) (j := 32) kbk_640 rfl) (by decide)
theorem dL_law_673 : decode cL_law 673 = .ok (.pop, 1) := kop_57 (show kBy cL_law 673 87 from kbyte (k := 640) (j := 33) kbk_640 rfl)
theorem dL_law_674 : decode cL_law 674 = .ok (.aload_n 2, 1) := kop_2c (show kBy cL_law 674 44 from kbyte (k := 640) (j := 34) kbk_640 rfl)
theorem dL_law_675 : decode cL_law 675 = .ok (.aload_n 0, 1) := kop_2a (show kBy cL_law 675 42 from kbyte (k := 640) (j := 35) kbk_640 rfl)
theorem dL_law_676 : decode cL_law 676 = .ok (.iload_n 3, 1) := kop_1d (show kBy cL_law 676 29 from kbyte (k := 640) (j := 36) kbk_640 rfl)
theorem dL_law_677 : decode cL_law 677 = .ok (.iconst 1, 1) := kop_04 (show kBy cL_law 677 4 from kbyte (k := 640) (j := 37) kbk_640 rfl)
theorem dL_law_678 : decode cL_law 678 = .ok (.iadd, 1) := kop_60 (show kBy cL_law 678 96 from kbyte (k := 640) (j := 38) kbk_640 rfl)
theorem dL_law_679 : decode cL_law 679 = .ok (.iaload, 1) := kop_2e (show kBy cL_law 679 46 from kbyte (k := 640) (j := 39) kbk_640 rfl)
theorem dL_law_680 : decode cL_law 680 = .ok (.invokevirtual 86, 3) := kop_b6 (show kBy cL_law 680 182 from kbyte (k := 640) (j := 40) kbk_640 rfl) (show kBy cL_law 681 0 from kbyte (k := 640) (j := 41) kbk_640 rfl) (show kBy cL_law 682 86 from kbyte (k := 640) (j := 42) kbk_640 rfl) (by decide)
theorem dL_law_683 : decode cL_law 683 = .ok (.pop, 1) := kop_57 (show kBy cL_law 683 87 from kbyte (k := 640) (j := 43) kbk_640 rfl)
theorem dL_law_684 : decode cL_law 684 = .ok (.goto 448, 3) := by decide +kernel
set_option maxRecDepth 20000 in
theorem ggL_law_X8_reading : GoodIn lw_tbl wsX8_reading := goodIn_2 _ [(26, 1), (0, 23), (4, 23), (1, 19), (8, 12), (1, 15), (5, 3), (5, 4), (0, 2), (5, 5), (26, 2), (26, 3), (26, 4), (1, 18), (26, 5), (26, 6), (3, 17), (3, 19), (26, 7), (26, 8), (26, 9), (1, 14), (26, 10), (9, 18), (3, 9), (35, 0), (35, 1), (35, 2), (35, 3), (35, 4), (35, 5), (35, 6), (35, 7), (35, 8), (35, 9), (35, 10), (35, 11), (35, 12), (35, 13), (35, 14), (39, 0), (39, 1), (39, 2), (39, 3), (44, 0), (44, 1), (44, 2), (43, 0), (43, 1), (43, 2), (43, 3), (43, 4), (43, 5), (43, 6), (43, 7), (43, 8), (43, 9)] (by decide +kernel) (by decide +kernel)
set_option maxRecDepth 20000 in
theorem gL_law_X8_reading : GoodIn lw_tbl (wsV RL 83 RX8 yX8_reading wsX8_reading) := goodIn_app (goodIn_2 _ [(25, 22), (25, 23), (26, 0), (0, 2)] (by decide +kernel) (by decide +kernel)) ggL_law_X8_reading
set_option maxRecDepth 20000 in
theorem ggL_law_X9_reading : GoodIn lw_tbl wsX9_reading := goodIn_2 _ [(26, 14), (11, 5), (11, 7), (4, 17), (11, 11), (11, 12), (0, 5), (11, 13), (36, 0), (36, 1), (36, 2), (36, 3), (36, 4), (36, 5), (36, 6), (36, 7), (36, 8), (36, 9), (36, 10), (36, 11), (36, 12), (36, 13), (36, 14), (36, 15), (36, 16), (36, 17), (36, 18), (36, 19), (36, 20), (36, 21), (36, 22), (36, 23), (36, 24), (36, 25), (36, 26), (36, 27), (36, 28), (36, 29), (36, 30)] (by decide +kernel) (by decide +kernel)
set_option maxRecDepth 20000 in
theorem gL_law_X9_reading : GoodIn lw_tbl (wsV RL 86 RX9 yX9_reading wsX9_reading) := goodIn_app (goodIn_2 _ [(26, 11), (26, 12), (26, 13), (0, 5)] (by decide +kernel) (by decide +kernel)) ggL_law_X9_reading
theorem dL_law_687 : decode cL_law 687 = .ok (.aload_n 1, 1) := kop_2b (show kBy cL_law 687 43 from kbyte (k := 640) (j := 47) kbk_640 rfl)
theorem dL_law_688 : decode cL_law 688 = .ok (.aload_n 0, 1) := kop_2a (show kBy cL_law 688 42 from kbyte (k := 640) (j := 48) kbk_640 rfl)
theorem dL_law_689 : decode cL_law 689 = .ok (.iload_n 3, 1) := kop_1d (show kBy cL_law 689 29 from kbyte (k := 640) (j := 49) kbk_640 rfl)
theorem dL_law_690 : decode cL_law 690 = .ok (.iconst 1, 1) := kop_04 (show kBy cL_law 690 4 from kbyte (k := 640) (j := 50) kbk_640 rfl)
theorem dL_law_691 : decode cL_law 691 = .ok (.iadd, 1) := kop_60 (show kBy cL_law 691 96 from kbyte (k := 640) (j := 51) kbk_640 rfl)
theorem dL_law_692 : decode cL_law 692 = .ok (.iaload, 1) := kop_2e (show kBy cL_law 692 46 from kbyte (k := 640) (j := 52) kbk_640 rfl)
theorem dL_law_693 : decode cL_law 693 = .ok (.invokevirtual 87, 3) := kop_b6 (show kBy cL_law 693 182 from kbyte (k := 640) (j := 53) kbk_640 rfl) (show kBy cL_law 694 0 from kbyte (k := 640) (j := 54) kbk_640 rfl) (show kBy cL_law 695 87 from kbyte (k := 640) (j := 55) kbk_640 rfl) (by decide)
theorem dL_law_696 : decode cL_law 696 = .ok (.pop, 1) := kop_57 (show kBy cL_law 696 87 from kbyte (k := 640) (j := 56) kbk_640 rfl)
theorem dL_law_697 : decode cL_law 697 = .ok (.aload_n 2, 1) := kop_2c (show kBy cL_law 697 44 from kbyte (k := 640) (j := 57) kbk_640 rfl)
theorem dL_law_698 : decode cL_law 698 = .ok (.aload_n 0, 1) := kop_2a (show kBy cL_law 698 42 from kbyte (k := 640) (j := 58) kbk_640 rfl)
theorem dL_law_699 : decode cL_law 699 = .ok (.iload_n 3, 1) := kop_1d (show kBy cL_law 699 29 from kbyte (k := 640) (j := 59) kbk_640 rfl)
theorem dL_law_700 : decode cL_law 700 = .ok (.iconst 1, 1) := kop_04 (show kBy cL_law 700 4 from kbyte (k := 640) (j := 60) kbk_640 rfl)
theorem dL_law_701 : decode cL_law 701 = .ok (.iadd, 1) := kop_60 (show kBy cL_law 701 96 from kbyte (k := 640) (j := 61) kbk_640 rfl)
theorem dL_law_702 : decode cL_law 702 = .ok (.iaload, 1) := kop_2e (show kBy cL_law 702 46 from kbyte (k := 640) (j := 62) kbk_640 rfl)
theorem dL_law_703 : decode cL_law 703 = .ok (.invokevirtual 90, 3) := kop_b6 (show kBy cL_law 703 182 from kbyte (k := 640) (j := 63) kbk_640 rfl) (show kBy cL_law 704 0 from kbyte (k := 704) (j := 0) kbk_704 rfl) (show kBy cL_law 705 90 from kbyte (k := 704) (j := 1) kbk_704 rfl) (by decide)
theorem dL_law_706 : decode cL_law 706 = .ok (.pop, 1) := kop_57 (show kBy cL_law 706 87 from kbyte (k := 704) (j := 2) kbk_704 rfl)
theorem dL_law_707 : decode cL_law 707 = .ok (.goto 425, 3) := by decide +kernel
set_option maxRecDepth 20000 in
theorem ggL_law_X8_back : GoodIn lw_tbl wsX8_back := goodIn_2 _ [(26, 18), (1, 19), (8, 12), (5, 3), (5, 4), (0, 2), (5, 5), (35, 0), (35, 1), (35, 2), (35, 3), (35, 4), (35, 5), (35, 6), (35, 7), (35, 8), (35, 9), (35, 10), (35, 11), (35, 12), (35, 13), (35, 14), (44, 0), (44, 1), (44, 2)] (by decide +kernel) (by decide +kernel)
set_option maxRecDepth 20000 in
theorem gL_law_X8_back : GoodIn lw_tbl (wsV RL 87 RX8 yX8_back wsX8_back) := goodIn_app (goodIn_2 _ [(26, 15), (26, 16), (26, 17), (0, 2)] (by decide +kernel) (by decide +kernel)) ggL_law_X8_back
set_option maxRecDepth 20000 in
theorem ggL_law_X9_back : GoodIn lw_tbl wsX9_back := goodIn_2 _ [(26, 22), (11, 7), (11, 11), (11, 12), (0, 5), (11, 13), (36, 0), (36, 1), (36, 2), (36, 3), (36, 4), (36, 5), (36, 6), (36, 7), (36, 8), (36, 9), (36, 10), (36, 11), (36, 12), (36, 13), (36, 14), (36, 15), (36, 16), (36, 17), (36, 18), (36, 19), (36, 20), (36, 21), (36, 22), (36, 23), (36, 24), (36, 25), (36, 26), (36, 27), (36, 28), (36, 29), (36, 30)] (by decide +kernel) (by decide +kernel)
set_option maxRecDepth 20000 in
theorem gL_law_X9_back : GoodIn lw_tbl (wsV RL 90 RX9 yX9_back wsX9_back) := goodIn_app (goodIn_2 _ [(26, 19), (26, 20), (26, 21), (0, 5)] (by decide +kernel) (by decide +kernel)) ggL_law_X9_back
theorem dL_law_710 : decode cL_law 710 = .ok (.aload_n 1, 1) := kop_2b (show kBy cL_law 710 43 from kbyte (k := 704) (j := 6) kbk_704 rfl)
theorem dL_law_711 : decode cL_law 711 = .ok (.aload_n 0, 1) := kop_2a (show kBy cL_law 711 42 from kbyte (k := 704) (j := 7) kbk_704 rfl)
theorem dL_law_712 : decode cL_law 712 = .ok (.iload_n 3, 1) := kop_1d (show kBy cL_law 712 29 from kbyte (k := 704) (j := 8) kbk_704 rfl)
theorem dL_law_713 : decode cL_law 713 = .ok (.iconst 1, 1) := kop_04 (show kBy cL_law 713 4 from kbyte (k := 704) (j := 9) kbk_704 rfl)
theorem dL_law_714 : decode cL_law 714 = .ok (.iadd, 1) := kop_60 (show kBy cL_law 714 96 from kbyte (k := 704) (j := 10) kbk_704 rfl)
theorem dL_law_715 : decode cL_law 715 = .ok (.iaload, 1) := kop_2e (show kBy cL_law 715 46 from kbyte (k := 704) (j := 11) kbk_704 rfl)
theorem dL_law_716 : decode cL_law 716 = .ok (.invokevirtual 91, 3) := kop_b6 (show kBy cL_law 716 182 from kbyte (k := 704) (j := 12) kbk_704 rfl) (show kBy cL_law 717 0 from kbyte (k := 704) (j := 13) kbk_704 rfl) (show kBy cL_law 718 91 from kbyte (k := 704) (j := 14) kbk_704 rfl) (by decide)
theorem dL_law_719 : decode cL_law 719 = .ok (.pop, 1) := kop_57 (show kBy cL_law 719 87 from kbyte (k := 704) (j := 15) kbk_704 rfl)
theorem dL_law_720 : decode cL_law 720 = .ok (.aload_n 2, 1) := kop_2c (show kBy cL_law 720 44 from kbyte (k := 704) (j := 16) kbk_704 rfl)
theorem dL_law_721 : decode cL_law 721 = .ok (.aload_n 0, 1) := kop_2a (show kBy cL_law 721 42 from kbyte (k := 704) (j := 17) kbk_704 rfl)
theorem dL_law_722 : decode cL_law 722 = .ok (.iload_n 3, 1) := kop_1d (show kBy cL_law 722 29 from kbyte (k := 704) (j := 18) kbk_704 rfl)
theorem dL_law_723 : decode cL_law 723 = .ok (.iconst 1, 1) := kop_04 (show kBy cL_law 723 4 from kbyte (k := 704) (j := 19) kbk_704 rfl)
theorem dL_law_724 : decode cL_law 724 = .ok (.iadd, 1) := kop_60 (show kBy cL_law 724 96 from kbyte (k := 704) (j := 20) kbk_704 rfl)
theorem dL_law_725 : decode cL_law 725 = .ok (.iaload, 1) := kop_2e (show kBy cL_law 725 46 from kbyte (k := 704) (j := 21) kbk_704 rfl)
theorem dL_law_726 : decode cL_law 726 = .ok (.invokevirtual 94, 3) := kop_b6 (show kBy cL_law 726 182 from kbyte (k := 704) (j := 22) kbk_704 rfl) (show kBy cL_law 727 0 from kbyte (k := 704) (j := 23) kbk_704 rfl) (show kBy cL_law 728 94 from kbyte (k := 704) (j := 24) kbk_704 rfl) (by decide)
theorem dL_law_729 : decode cL_law 729 = .ok (.pop, 1) := kop_57 (show kBy cL_law 729 87 from kbyte (k := 704) (j := 25) kbk_704 rfl)
theorem dL_law_730 : decode cL_law 730 = .ok (.goto 402, 3) := by decide +kernel
set_option maxRecDepth 20000 in
theorem ggL_law_X8_kinds : GoodIn lw_tbl wsX8_kinds := goodIn_2 _ [(27, 2), (0, 23), (1, 19), (13, 0), (13, 2), (7, 9), (7, 10), (0, 22), (7, 11), (7, 12), (5, 4), (0, 2), (5, 5), (27, 3), (13, 8), (13, 9), (27, 4), (27, 5), (27, 6), (1, 18), (27, 7), (26, 6), (27, 8), (3, 19), (3, 17), (27, 9), (13, 4), (13, 5), (13, 6), (2, 12), (2, 13), (13, 7), (35, 0), (35, 1), (35, 2), (35, 3), (35, 4), (35, 5), (35, 6), (35, 7), (35, 8), (35, 9), (35, 10), (35, 11), (35, 12), (35, 13), (35, 14), (39, 0), (39, 1), (39, 2), (39, 3), (44, 0), (44, 1), (44, 2)] (by decide +kernel) (by decide +kernel)
set_option maxRecDepth 20000 in
theorem gL_law_X8_kinds : GoodIn lw_tbl (wsV RL 91 RX8 yX8_kinds wsX8_kinds) := goodIn_app (goodIn_2 _ [(26, 23), (27, 0), (27, 1), (0, 2)] (by decide +kernel) (by decide +kernel)) ggL_law_X8_kinds
set_option maxRecDepth 20000 in
theorem ggL_law_X9_kinds : GoodIn lw_tbl wsX9_kinds := goodIn_2 _ [(27, 13), (4, 3), (13, 18), (13, 19), (13, 20), (0, 5), (13, 21), (11, 5), (27, 14), (27, 15), (27, 16), (27, 17), (11, 7), (4, 17), (17, 15), (17, 11), (17, 12), (17, 13), (17, 14), (17, 16), (17, 10), (4, 6), (4, 15), (17, 17), (17, 18), (17, 19), (17, 20), (4, 14), (17, 21), (17, 22), (17, 23), (18, 0), (18, 1), (11, 6), (4, 8), (4, 12), (4, 13), (4, 5), (18, 2), (18, 3), (18, 4), (18, 5), (18, 6), (18, 7), (18, 8), (18, 9), (12, 16), (12, 17), (12, 18), (18, 10), (18, 11), (18, 12), (18, 13), (13, 22), (13, 23), (14, 0), (14, 1), (4, 4), (36, 0), (36, 1), (36, 2), (36, 3), (36, 4), (36, 5), (36, 6), (36, 7), (36, 8), (36, 9), (36, 10), (36, 11), (36, 12), (36, 13), (36, 14), (36, 15), (36, 16), (36, 17), (36, 18), (36, 19), (36, 20), (36, 21), (36, 22), (36, 23), (36, 24), (36, 25), (36, 26), (36, 27), (36, 28), (36, 29), (36, 30)] (by decide +kernel) (by decide +kernel)
set_option maxRecDepth 20000 in
theorem gL_law_X9_kinds : GoodIn lw_tbl (wsV RL 94 RX9 yX9_kinds wsX9_kinds) := goodIn_app (goodIn_2 _ [(27, 10), (27, 11), (27, 12), (0, 5)] (by decide +kernel) (by decide +kernel)) ggL_law_X9_kinds
theorem dL_law_733 : decode cL_law 733 = .ok (.aload_n 1, 1) := kop_2b (show kBy cL_law 733 43 from kbyte (k := 704) (j := 29) kbk_704 rfl)
theorem dL_law_734 : decode cL_law 734 = .ok (.aload_n 0, 1) := kop_2a (show kBy cL_law 734 42 from kbyte (k := 704) (j := 30) kbk_704 rfl)
theorem dL_law_735 : decode cL_law 735 = .ok (.iload_n 3, 1) := kop_1d (show kBy cL_law 735 29 from kbyte (k := 704) (j := 31) kbk_704 rfl)
theorem dL_law_736 : decode cL_law 736 = .ok (.iconst 1, 1) := kop_04 (show kBy cL_law 736 4 from kbyte (k := 704) (j := 32) kbk_704 rfl)
theorem dL_law_737 : decode cL_law 737 = .ok (.iadd, 1) := kop_60 (show kBy cL_law 737 96 from kbyte (k := 704) (j := 33) kbk_704 rfl)
theorem dL_law_738 : decode cL_law 738 = .ok (.iaload, 1) := kop_2e (show kBy cL_law 738 46 from kbyte (k := 704) (j := 34) kbk_704 rfl)
theorem dL_law_739 : decode cL_law 739 = .ok (.invokevirtual 95, 3) := kop_b6 (show kBy cL_law 739 182 from kbyte (k := 704) (j := 35) kbk_704 rfl) (show kBy cL_law 740 0 from kbyte (k := 704) (j := 36) kbk_704 rfl) (show kBy cL_law 741 95 from kbyte (k := 704) (j := 37) kbk_704 rfl) (by decide)
theorem dL_law_742 : decode cL_law 742 = .ok (.pop, 1) := kop_57 (show kBy cL_law 742 87 from kbyte (k := 704) (j := 38) kbk_704 rfl)
theorem dL_law_743 : decode cL_law 743 = .ok (.aload_n 2, 1) := kop_2c (show kBy cL_law 743 44 from kbyte (k := 704) (j := 39) kbk_704 rfl)
theorem dL_law_744 : decode cL_law 744 = .ok (.aload_n 0, 1) := kop_2a (show kBy cL_law 744 42 from kbyte (k := 704) (j := 40) kbk_704 rfl)
theorem dL_law_745 : decode cL_law 745 = .ok (.iload_n 3, 1) := kop_1d (show kBy cL_law 745 29 from kbyte (k := 704) (j := 41) kbk_704 rfl)
theorem dL_law_746 : decode cL_law 746 = .ok (.iconst 1, 1) := kop_04 (show kBy cL_law 746 4 from kbyte (k := 704) (j := 42) kbk_704 rfl)
theorem dL_law_747 : decode cL_law 747 = .ok (.iadd, 1) := kop_60 (show kBy cL_law 747 96 from kbyte (k := 704) (j := 43) kbk_704 rfl)
theorem dL_law_748 : decode cL_law 748 = .ok (.iaload, 1) := kop_2e (show kBy cL_law 748 46 from kbyte (k := 704) (j := 44) kbk_704 rfl)
theorem dL_law_749 : decode cL_law 749 = .ok (.invokevirtual 98, 3) := kop_b6 (show kBy cL_law 749 182 from kbyte (k := 704) (j := 45) kbk_704 rfl) (show kBy cL_law 750 0 from kbyte (k := 704) (j := 46) kbk_704 rfl) (show kBy cL_law 751 98 from kbyte (k := 704) (j := 47) kbk_704 rfl) (by decide)
theorem dL_law_752 : decode cL_law 752 = .ok (.pop, 1) := kop_57 (show kBy cL_law 752 87 from kbyte (k := 704) (j := 48) kbk_704 rfl)
theorem dL_law_753 : decode cL_law 753 = .ok (.goto 379, 3) := by decide +kernel
set_option maxRecDepth 20000 in
theorem ggL_law_X8_widths : GoodIn lw_tbl wsX8_widths := goodIn_2 _ [(27, 21), (0, 23), (1, 19), (12, 23), (13, 2), (7, 9), (7, 10), (0, 22), (7, 11), (7, 12), (5, 4), (0, 2), (5, 5), (27, 3), (13, 8), (13, 9), (27, 4), (27, 5), (27, 6), (1, 18), (27, 7), (26, 6), (27, 8), (3, 19), (3, 17), (27, 9), (13, 4), (13, 5), (13, 6), (2, 12), (2, 13), (13, 7), (35, 0), (35, 1), (35, 2), (35, 3), (35, 4), (35, 5), (35, 6), (35, 7), (35, 8), (35, 9), (35, 10), (35, 11), (35, 12), (35, 13), (35, 14), (39, 0), (39, 1), (39, 2), (39, 3), (44, 0), (44, 1), (44, 2)] (by decide +kernel) (by decide +kernel)
set_option maxRecDepth 20000 in
theorem gL_law_X8_widths : GoodIn lw_tbl (wsV RL 95 RX8 yX8_widths wsX8_widths) := goodIn_app (goodIn_2 _ [(27, 18), (27, 19), (27, 20), (0, 2)] (by decide +kernel) (by decide +kernel)) ggL_law_X8_widths
set_option maxRecDepth 20000 in
theorem ggL_law_X9_widths : GoodIn lw_tbl wsX9_widths := goodIn_2 _ [(28, 1), (4, 4), (13, 18), (13, 19), (13, 20), (0, 5), (13, 21), (11, 5), (27, 14), (27, 15), (27, 16), (27, 17), (11, 7), (4, 17), (17, 15), (17, 11), (17, 12), (17, 13), (17, 14), (17, 16), (17, 10), (4, 6), (4, 15), (17, 17), (17, 18), (17, 19), (17, 20), (4, 14), (17, 21), (17, 22), (17, 23), (18, 0), (18, 1), (11, 6), (4, 8), (4, 12), (4, 13), (4, 5), (18, 2), (18, 3), (18, 4), (18, 5), (18, 6), (18, 7), (18, 8), (18, 9), (12, 16), (12, 17), (12, 18), (18, 10), (18, 11), (18, 12), (18, 13), (13, 22), (13, 23), (14, 0), (14, 1), (4, 3), (36, 0), (36, 1), (36, 2), (36, 3), (36, 4), (36, 5), (36, 6), (36, 7), (36, 8), (36, 9), (36, 10), (36, 11), (36, 12), (36, 13), (36, 14), (36, 15), (36, 16), (36, 17), (36, 18), (36, 19), (36, 20), (36, 21), (36, 22), (36, 23), (36, 24), (36, 25), (36, 26), (36, 27), (36, 28), (36, 29), (36, 30)] (by decide +kernel) (by decide +kernel)
set_option maxRecDepth 20000 in
theorem gL_law_X9_widths : GoodIn lw_tbl (wsV RL 98 RX9 yX9_widths wsX9_widths) := goodIn_app (goodIn_2 _ [(27, 22), (27, 23), (28, 0), (0, 5)] (by decide +kernel) (by decide +kernel)) ggL_law_X9_widths
