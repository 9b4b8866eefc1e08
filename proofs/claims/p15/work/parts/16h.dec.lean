theorem dL_law_756 : decode cL_law 756 = .ok (.aload_n 1, 1) := kop_2b (show kBy cL_law 756 43 from kbyte (k := 704) (j := 52) kbk_704 rfl)
theorem dL_law_757 : decode cL_law 757 = .ok (.aload_n 0, 1) := kop_2a (show kBy cL_law 757 42 from kbyte (k := 704) (j := 53) kbk_704 rfl)
theorem dL_law_758 : decode cL_law 758 = .ok (.iload_n 3, 1) := kop_1d (show kBy cL_law 758 29 from kbyte (k := 704) (j := 54) kbk_704 rfl)
theorem dL_law_759 : decode cL_law 759 = .ok (.iconst 1, 1) := kop_04 (show kBy cL_law 759 4 from kbyte (k := 704) (j := 55) kbk_704 rfl)
theorem dL_law_760 : decode cL_law 760 = .ok (.iadd, 1) := kop_60 (show kBy cL_law 760 96 from kbyte (k := 704) (j := 56) kbk_704 rfl)
theorem dL_law_761 : decode cL_law 761 = .ok (.iaload, 1) := kop_2e (show kBy cL_law 761 46 from kbyte (k := 704) (j := 57) kbk_704 rfl)
theorem dL_law_762 : decode cL_law 762 = .ok (.aload_n 0, 1) := kop_2a (show kBy cL_law 762 42 from kbyte (k := 704) (j := 58) kbk_704 rfl)
theorem dL_law_763 : decode cL_law 763 = .ok (.iload_n 3, 1) := kop_1d (show kBy cL_law 763 29 from kbyte (k := 704) (j := 59) kbk_704 rfl)
theorem dL_law_764 : decode cL_law 764 = .ok (.iconst 2, 1) := kop_05 (show kBy cL_law 764 5 from kbyte (k := 704) (j := 60) kbk_704 rfl)
theorem dL_law_765 : decode cL_law 765 = .ok (.iadd, 1) := kop_60 (show kBy cL_law 765 96 from kbyte (k := 704) (j := 61) kbk_704 rfl)
theorem dL_law_766 : decode cL_law 766 = .ok (.iaload, 1) := kop_2e (show kBy cL_law 766 46 from kbyte (k := 704) (j := 62) kbk_704 rfl)
theorem dL_law_767 : decode cL_law 767 = .ok (.invokevirtual 99, 3) := kop_b6 (show kBy cL_law 767 182 from kbyte (k := 704) (j := 63) kbk_704 rfl) (show kBy cL_law 768 0 from kbyte (k := 768) (j := 0) kbk_768 rfl) (show kBy cL_law 769 99 from kbyte (k := 768) (j := 1) kbk_768 rfl) (by decide)
theorem dL_law_770 : decode cL_law 770 = .ok (.pop2, 1) := kop_58 (show kBy cL_law 770 88 from kbyte (k := 768) (j := 2) kbk_768 rfl)
theorem dL_law_771 : decode cL_law 771 = .ok (.aload_n 2, 1) := kop_2c (show kBy cL_law 771 44 from kbyte (k := 768) (j := 3) kbk_768 rfl)
theorem dL_law_772 : decode cL_law 772 = .ok (.aload_n 0, 1) := kop_2a (show kBy cL_law 772 42 from kbyte (k := 768) (j := 4) kbk_768 rfl)
theorem dL_law_773 : decode cL_law 773 = .ok (.iload_n 3, 1) := kop_1d (show kBy cL_law 773 29 from kbyte (k := 768) (j := 5) kbk_768 rfl)
theorem dL_law_774 : decode cL_law 774 = .ok (.iconst 1, 1) := kop_04 (show kBy cL_law 774 4 from kbyte (k := 768) (j := 6) kbk_768 rfl)
theorem dL_law_775 : decode cL_law 775 = .ok (.iadd, 1) := kop_60 (show kBy cL_law 775 96 from kbyte (k := 768) (j := 7) kbk_768 rfl)
theorem dL_law_776 : decode cL_law 776 = .ok (.iaload, 1) := kop_2e (show kBy cL_law 776 46 from kbyte (k := 768) (j := 8) kbk_768 rfl)
theorem dL_law_777 : decode cL_law 777 = .ok (.aload_n 0, 1) := kop_2a (show kBy cL_law 777 42 from kbyte (k := 768) (j := 9) kbk_768 rfl)
theorem dL_law_778 : decode cL_law 778 = .ok (.iload_n 3, 1) := kop_1d (show kBy cL_law 778 29 from kbyte (k := 768) (j := 10) kbk_768 rfl)
theorem dL_law_779 : decode cL_law 779 = .ok (.iconst 2, 1) := kop_05 (show kBy cL_law 779 5 from kbyte (k := 768) (j := 11) kbk_768 rfl)
theorem dL_law_780 : decode cL_law 780 = .ok (.iadd, 1) := kop_60 (show kBy cL_law 780 96 from kbyte (k := 768) (j := 12) kbk_768 rfl)
theorem dL_law_781 : decode cL_law 781 = .ok (.iaload, 1) := kop_2e (show kBy cL_law 781 46 from kbyte (k := 768) (j := 13) kbk_768 rfl)
theorem dL_law_782 : decode cL_law 782 = .ok (.invokevirtual 103, 3) := kop_b6 (show kBy cL_law 782 182 from kbyte (k := 768) (j := 14) kbk_768 rfl) (show kBy cL_law 783 0 from kbyte (k := 768) (j := 15) kbk_768 rfl) (show kBy cL_law 784 103 from kbyte (k := 768) (j := 16) kbk_768 rfl) (by decide)
theorem dL_law_785 : decode cL_law 785 = .ok (.pop2, 1) := kop_58 (show kBy cL_law 785 88 from kbyte (k := 768) (j := 17) kbk_768 rfl)
theorem dL_law_786 : decode cL_law 786 = .ok (.goto 346, 3) := by decide +kernel
set_option maxRecDepth 20000 in
theorem mr_wsX8_odds_r1 : ∀ w ∈ wsX8_odds_r1, w ∈ lw_tbl := List.forall_mem_cons.mpr ⟨iw_28_6, List.forall_mem_cons.mpr ⟨iw_0_23, List.forall_mem_cons.mpr ⟨iw_4_23, List.forall_mem_cons.mpr ⟨iw_1_3, List.forall_mem_cons.mpr ⟨iw_8_10, List.forall_mem_cons.mpr ⟨iw_5_3, List.forall_mem_cons.mpr ⟨iw_5_4, List.forall_mem_cons.mpr ⟨iw_0_2, List.forall_mem_cons.mpr ⟨iw_5_5, List.forall_mem_cons.mpr ⟨iw_28_7, List.forall_mem_cons.mpr ⟨iw_28_8, List.forall_mem_cons.mpr ⟨iw_28_9, List.forall_mem_cons.mpr ⟨iw_28_10, List.forall_mem_cons.mpr ⟨iw_1_20, List.forall_mem_cons.mpr ⟨iw_1_22, List.forall_mem_cons.mpr ⟨iw_1_7, List.forall_mem_cons.mpr ⟨iw_22_4, List.forall_mem_cons.mpr ⟨iw_22_5, List.forall_mem_cons.mpr ⟨iw_22_6, List.forall_mem_cons.mpr ⟨iw_1_2, List.forall_mem_cons.mpr ⟨iw_22_7, List.forall_mem_cons.mpr ⟨iw_15_12, List.forall_mem_cons.mpr ⟨iw_2_18, List.forall_mem_cons.mpr ⟨iw_15_8, fun _ h9 => absurd h9 List.not_mem_nil⟩⟩⟩⟩⟩⟩⟩⟩⟩⟩⟩⟩⟩⟩⟩⟩⟩⟩⟩⟩⟩⟩⟩⟩
set_option maxRecDepth 20000 in
theorem mr_wsX8_odds_r2 : ∀ w ∈ wsX8_odds_r2, w ∈ lw_tbl := List.forall_mem_cons.mpr ⟨iw_15_9, List.forall_mem_cons.mpr ⟨iw_15_10, List.forall_mem_cons.mpr ⟨iw_15_11, List.forall_mem_cons.mpr ⟨iw_9_6, List.forall_mem_cons.mpr ⟨iw_9_7, List.forall_mem_cons.mpr ⟨iw_9_8, List.forall_mem_cons.mpr ⟨iw_0_22, List.forall_mem_cons.mpr ⟨iw_9_9, List.forall_mem_cons.mpr ⟨iw_7_12, List.forall_mem_cons.mpr ⟨iw_9_10, List.forall_mem_cons.mpr ⟨iw_9_11, List.forall_mem_cons.mpr ⟨iw_9_12, List.forall_mem_cons.mpr ⟨iw_1_14, List.forall_mem_cons.mpr ⟨iw_9_13, List.forall_mem_cons.mpr ⟨iw_9_14, List.forall_mem_cons.mpr ⟨iw_9_15, List.forall_mem_cons.mpr ⟨iw_9_16, List.forall_mem_cons.mpr ⟨iw_9_17, List.forall_mem_cons.mpr ⟨iw_9_18, List.forall_mem_cons.mpr ⟨iw_9_19, List.forall_mem_cons.mpr ⟨iw_9_20, List.forall_mem_cons.mpr ⟨iw_3_6, List.forall_mem_cons.mpr ⟨iw_3_7, List.forall_mem_cons.mpr ⟨iw_3_11, fun _ h9 => absurd h9 List.not_mem_nil⟩⟩⟩⟩⟩⟩⟩⟩⟩⟩⟩⟩⟩⟩⟩⟩⟩⟩⟩⟩⟩⟩⟩⟩
set_option maxRecDepth 20000 in
theorem mr_wsX8_odds_r3 : ∀ w ∈ wsX8_odds_r3, w ∈ lw_tbl := List.forall_mem_cons.mpr ⟨iw_9_21, List.forall_mem_cons.mpr ⟨iw_9_22, List.forall_mem_cons.mpr ⟨iw_9_23, List.forall_mem_cons.mpr ⟨iw_10_0, List.forall_mem_cons.mpr ⟨iw_10_1, List.forall_mem_cons.mpr ⟨iw_3_8, List.forall_mem_cons.mpr ⟨iw_10_2, List.forall_mem_cons.mpr ⟨iw_10_3, List.forall_mem_cons.mpr ⟨iw_10_4, List.forall_mem_cons.mpr ⟨iw_10_5, List.forall_mem_cons.mpr ⟨iw_2_14, List.forall_mem_cons.mpr ⟨iw_10_6, List.forall_mem_cons.mpr ⟨iw_10_7, List.forall_mem_cons.mpr ⟨iw_10_8, List.forall_mem_cons.mpr ⟨iw_10_9, List.forall_mem_cons.mpr ⟨iw_3_13, List.forall_mem_cons.mpr ⟨iw_10_10, List.forall_mem_cons.mpr ⟨iw_8_22, List.forall_mem_cons.mpr ⟨iw_8_23, List.forall_mem_cons.mpr ⟨iw_9_0, List.forall_mem_cons.mpr ⟨iw_10_11, List.forall_mem_cons.mpr ⟨iw_10_12, List.forall_mem_cons.mpr ⟨iw_10_13, List.forall_mem_cons.mpr ⟨iw_10_14, fun _ h9 => absurd h9 List.not_mem_nil⟩⟩⟩⟩⟩⟩⟩⟩⟩⟩⟩⟩⟩⟩⟩⟩⟩⟩⟩⟩⟩⟩⟩⟩
set_option maxRecDepth 20000 in
theorem mr_wsX8_odds_r4 : ∀ w ∈ wsX8_odds_r4, w ∈ lw_tbl := List.forall_mem_cons.mpr ⟨iw_10_15, List.forall_mem_cons.mpr ⟨iw_3_9, List.forall_mem_cons.mpr ⟨iw_3_10, List.forall_mem_cons.mpr ⟨iw_10_16, List.forall_mem_cons.mpr ⟨iw_10_17, List.forall_mem_cons.mpr ⟨iw_10_18, List.forall_mem_cons.mpr ⟨iw_10_19, List.forall_mem_cons.mpr ⟨iw_10_20, List.forall_mem_cons.mpr ⟨iw_10_21, List.forall_mem_cons.mpr ⟨iw_22_22, List.forall_mem_cons.mpr ⟨iw_22_23, List.forall_mem_cons.mpr ⟨iw_23_0, List.forall_mem_cons.mpr ⟨iw_23_1, List.forall_mem_cons.mpr ⟨iw_23_2, List.forall_mem_cons.mpr ⟨iw_23_3, List.forall_mem_cons.mpr ⟨iw_23_4, fun _ h9 => absurd h9 List.not_mem_nil⟩⟩⟩⟩⟩⟩⟩⟩⟩⟩⟩⟩⟩⟩⟩⟩
set_option maxRecDepth 20000 in
theorem mr_wsX9_odds_r1 : ∀ w ∈ wsX9_odds_r1, w ∈ lw_tbl := List.forall_mem_cons.mpr ⟨iw_11_5, List.forall_mem_cons.mpr ⟨iw_11_6, List.forall_mem_cons.mpr ⟨iw_28_15, List.forall_mem_cons.mpr ⟨iw_4_8, List.forall_mem_cons.mpr ⟨iw_28_16, List.forall_mem_cons.mpr ⟨iw_11_11, List.forall_mem_cons.mpr ⟨iw_11_12, List.forall_mem_cons.mpr ⟨iw_0_5, List.forall_mem_cons.mpr ⟨iw_11_13, List.forall_mem_cons.mpr ⟨iw_17_17, List.forall_mem_cons.mpr ⟨iw_17_18, List.forall_mem_cons.mpr ⟨iw_17_19, List.forall_mem_cons.mpr ⟨iw_17_20, List.forall_mem_cons.mpr ⟨iw_17_10, List.forall_mem_cons.mpr ⟨iw_4_14, List.forall_mem_cons.mpr ⟨iw_17_21, List.forall_mem_cons.mpr ⟨iw_17_22, List.forall_mem_cons.mpr ⟨iw_17_23, List.forall_mem_cons.mpr ⟨iw_18_0, List.forall_mem_cons.mpr ⟨iw_18_1, List.forall_mem_cons.mpr ⟨iw_4_12, List.forall_mem_cons.mpr ⟨iw_4_13, List.forall_mem_cons.mpr ⟨iw_4_5, List.forall_mem_cons.mpr ⟨iw_18_2, fun _ h9 => absurd h9 List.not_mem_nil⟩⟩⟩⟩⟩⟩⟩⟩⟩⟩⟩⟩⟩⟩⟩⟩⟩⟩⟩⟩⟩⟩⟩⟩
set_option maxRecDepth 20000 in
theorem mr_wsX9_odds_r2 : ∀ w ∈ wsX9_odds_r2, w ∈ lw_tbl := List.forall_mem_cons.mpr ⟨iw_18_3, List.forall_mem_cons.mpr ⟨iw_18_4, List.forall_mem_cons.mpr ⟨iw_18_5, List.forall_mem_cons.mpr ⟨iw_18_6, List.forall_mem_cons.mpr ⟨iw_18_7, List.forall_mem_cons.mpr ⟨iw_18_8, List.forall_mem_cons.mpr ⟨iw_18_9, List.forall_mem_cons.mpr ⟨iw_12_16, List.forall_mem_cons.mpr ⟨iw_12_17, List.forall_mem_cons.mpr ⟨iw_12_18, List.forall_mem_cons.mpr ⟨iw_28_17, List.forall_mem_cons.mpr ⟨iw_28_18, List.forall_mem_cons.mpr ⟨iw_28_19, fun _ h9 => absurd h9 List.not_mem_nil⟩⟩⟩⟩⟩⟩⟩⟩⟩⟩⟩⟩⟩
set_option maxRecDepth 20000 in
theorem ggL_law_X8_odds : GoodIn lw_tbl wsX8_odds := goodIn_3 _ (List.forall_mem_cons.mpr ⟨iw_28_5, List.forall_mem_append.mpr ⟨List.forall_mem_append.mpr ⟨List.forall_mem_append.mpr ⟨List.forall_mem_append.mpr ⟨List.forall_mem_append.mpr ⟨List.forall_mem_append.mpr ⟨mr_wsX8_odds_r1, List.forall_mem_append.mpr ⟨mr_wsX8_odds_r2, List.forall_mem_append.mpr ⟨mr_wsX8_odds_r3, mr_wsX8_odds_r4⟩⟩⟩, inX8⟩, inX0⟩, inX7⟩, inX4⟩, inX1⟩⟩) (by decide +kernel)
theorem gL_law_X8_odds : GoodIn lw_tbl (wsV RL 99 RX8 yX8_odds wsX8_odds) := goodIn_app (goodIn_3 _ (List.forall_mem_cons.mpr ⟨iw_28_2, List.forall_mem_cons.mpr ⟨iw_28_3, List.forall_mem_cons.mpr ⟨iw_28_4, List.forall_mem_cons.mpr ⟨iw_0_2, fun _ h9 => absurd h9 List.not_mem_nil⟩⟩⟩⟩) (by decide +kernel)) ggL_law_X8_odds
set_option maxRecDepth 20000 in
theorem ggL_law_X9_odds : GoodIn lw_tbl wsX9_odds := goodIn_3 _ (List.forall_mem_cons.mpr ⟨iw_28_14, List.forall_mem_append.mpr ⟨List.forall_mem_append.mpr ⟨mr_wsX9_odds_r1, mr_wsX9_odds_r2⟩, inX9⟩⟩) (by decide +kernel)
theorem gL_law_X9_odds : GoodIn lw_tbl (wsV RL 103 RX9 yX9_odds wsX9_odds) := goodIn_app (goodIn_3 _ (List.forall_mem_cons.mpr ⟨iw_28_11, List.forall_mem_cons.mpr ⟨iw_28_12, List.forall_mem_cons.mpr ⟨iw_28_13, List.forall_mem_cons.mpr ⟨iw_0_5, fun _ h9 => absurd h9 List.not_mem_nil⟩⟩⟩⟩) (by decide +kernel)) ggL_law_X9_odds
theorem dL_law_789 : decode cL_law 789 = .ok (.aload_n 1, 1) := kop_2b (show kBy cL_law 789 43 from kbyte (k := 768) (j := 21) kbk_768 rfl)
theorem dL_law_790 : decode cL_law 790 = .ok (.aload_n 0, 1) := kop_2a (show kBy cL_law 790 42 from kbyte (k := 768) (j := 22) kbk_768 rfl)
theorem dL_law_791 : decode cL_law 791 = .ok (.iload_n 3, 1) := kop_1d (show kBy cL_law 791 29 from kbyte (k := 768) (j := 23) kbk_768 rfl)
theorem dL_law_792 : decode cL_law 792 = .ok (.iconst 1, 1) := kop_04 (show kBy cL_law 792 4 from kbyte (k := 768) (j := 24) kbk_768 rfl)
theorem dL_law_793 : decode cL_law 793 = .ok (.iadd, 1) := kop_60 (show kBy cL_law 793 96 from kbyte (k := 768) (j := 25) kbk_768 rfl)
theorem dL_law_794 : decode cL_law 794 = .ok (.iaload, 1) := kop_2e (show kBy cL_law 794 46 from kbyte (k := 768) (j := 26) kbk_768 rfl)
theorem dL_law_795 : decode cL_law 795 = .ok (.aload_n 0, 1) := kop_2a (show kBy cL_law 795 42 from kbyte (k := 768) (j := 27) kbk_768 rfl)
theorem dL_law_796 : decode cL_law 796 = .ok (.iload_n 3, 1) := kop_1d (show kBy cL_law 796 29 from kbyte (k := 768) (j := 28) kbk_768 rfl)
theorem dL_law_797 : decode cL_law 797 = .ok (.iconst 2, 1) := kop_05 (show kBy cL_law 797 5 from kbyte (k := 768) (j := 29) kbk_768 rfl)
theorem dL_law_798 : decode cL_law 798 = .ok (.iadd, 1) := kop_60 (show kBy cL_law 798 96 from kbyte (k := 768) (j := 30) kbk_768 rfl)
theorem dL_law_799 : decode cL_law 799 = .ok (.iaload, 1) := kop_2e (show kBy cL_law 799 46 from kbyte (k := 768) (j := 31) kbk_768 rfl)
theorem dL_law_800 : decode cL_law 800 = .ok (.aload_n 0, 1) := kop_2a (show kBy cL_law 800 42 from kbyte (k := 768) (j := 32) kbk_768 rfl)
theorem dL_law_801 : decode cL_law 801 = .ok (.iload_n 3, 1) := kop_1d (show kBy cL_law 801 29 from kbyte (k := 768) (j := 33) kbk_768 rfl)
theorem dL_law_802 : decode cL_law 802 = .ok (.iconst 3, 1) := kop_06 (show kBy cL_law 802 6 from kbyte (k := 768) (j := 34) kbk_768 rfl)
theorem dL_law_803 : decode cL_law 803 = .ok (.iadd, 1) := kop_60 (show kBy cL_law 803 96 from kbyte (k := 768) (j := 35) kbk_768 rfl)
theorem dL_law_804 : decode cL_law 804 = .ok (.iaload, 1) := kop_2e (show kBy cL_law 804 46 from kbyte (k := 768) (j := 36) kbk_768 rfl)
theorem dL_law_805 : decode cL_law 805 = .ok (.invokevirtual 104, 3) := kop_b6 (show kBy cL_law 805 182 from kbyte (k := 768) (j := 37) kbk_768 rfl) (show kBy cL_law 806 0 from kbyte (k := 768) (j := 38) kbk_768 rfl) (show kBy cL_law 807 104 from kbyte (k := 768) (j := 39) kbk_768 rfl) (by decide)
theorem dL_law_808 : decode cL_law 808 = .ok (.pop, 1) := kop_57 (show kBy cL_law 808 87 from kbyte (k := 768) (j := 40) kbk_768 rfl)
theorem dL_law_809 : decode cL_law 809 = .ok (.aload_n 2, 1) := kop_2c (show kBy cL_law 809 44 from kbyte (k := 768) (j := 41) kbk_768 rfl)
theorem dL_law_810 : decode cL_law 810 = .ok (.aload_n 0, 1) := kop_2a (show kBy cL_law 810 42 from kbyte (k := 768) (j := 42) kbk_768 rfl)
theorem dL_law_811 : decode cL_law 811 = .ok (.iload_n 3, 1) := kop_1d (show kBy cL_law 811 29 from kbyte (k := 768) (j := 43) kbk_768 rfl)
theorem dL_law_812 : decode cL_law 812 = .ok (.iconst 1, 1) := kop_04 (show kBy cL_law 812 4 from kbyte (k := 768) (j := 44) kbk_768 rfl)
theorem dL_law_813 : decode cL_law 813 = .ok (.iadd, 1) := kop_60 (show kBy cL_law 813 96 from kbyte (k := 768) (j := 45) kbk_768 rfl)
theorem dL_law_814 : decode cL_law 814 = .ok (.iaload, 1) := kop_2e (show kBy cL_law 814 46 from kbyte (k := 768) (j := 46) kbk_768 rfl)
theorem dL_law_815 : decode cL_law 815 = .ok (.aload_n 0, 1) := kop_2a (show kBy cL_law 815 42 from kbyte (k := 768) (j := 47) kbk_768 rfl)
theorem dL_law_816 : decode cL_law 816 = .ok (.iload_n 3, 1) := kop_1d (show kBy cL_law 816 29 from kbyte (k := 768) (j := 48) kbk_768 rfl)
theorem dL_law_817 : decode cL_law 817 = .ok (.iconst 2, 1) := kop_05 (show kBy cL_law 817 5 from kbyte (k := 768) (j := 49) kbk_768 rfl)
theorem dL_law_818 : decode cL_law 818 = .ok (.iadd, 1) := kop_60 (show kBy cL_law 818 96 from kbyte (k := 768) (j := 50) kbk_768 rfl)
theorem dL_law_819 : decode cL_law 819 = .ok (.iaload, 1) := kop_2e (show kBy cL_law 819 46 from kbyte (k := 768) (j := 51) kbk_768 rfl)
theorem dL_law_820 : decode cL_law 820 = .ok (.aload_n 0, 1) := kop_2a (show kBy cL_law 820 42 from kbyte (k := 768) (j := 52) kbk_768 rfl)
theorem dL_law_821 : decode cL_law 821 = .ok (.iload_n 3, 1) := kop_1d (show kBy cL_law 821 29 from kbyte (k := 768) (j := 53) kbk_768 rfl)
theorem dL_law_822 : decode cL_law 822 = .ok (.iconst 3, 1) := kop_06 (show kBy cL_law 822 6 from kbyte (k := 768) (j := 54) kbk_768 rfl)
theorem dL_law_823 : decode cL_law 823 = .ok (.iadd, 1) := kop_60 (show kBy cL_law 823 96 from kbyte (k := 768) (j := 55) kbk_768 rfl)
theorem dL_law_824 : decode cL_law 824 = .ok (.iaload, 1) := kop_2e (show kBy cL_law 824 46 from kbyte (k := 768) (j := 56) kbk_768 rfl)
theorem dL_law_825 : decode cL_law 825 = .ok (.invokevirtual 108, 3) := kop_b6 (show kBy cL_law 825 182 from kbyte (k := 768) (j := 57) kbk_768 rfl) (show kBy cL_law 826 0 from kbyte (k := 768) (j := 58) kbk_768 rfl) (show kBy cL_law 827 108 from kbyte (k := 768) (j := 59) kbk_768 rfl) (by decide)
theorem dL_law_828 : decode cL_law 828 = .ok (.pop, 1) := kop_57 (show kBy cL_law 828 87 from kbyte (k := 768) (j := 60) kbk_768 rfl)
theorem dL_law_829 : decode cL_law 829 = .ok (.goto 303, 3) := by decide +kernel
set_option maxRecDepth 20000 in
theorem mr_wsX8_sheet_r1 : ∀ w ∈ wsX8_sheet_r1, w ∈ lw_tbl := List.forall_mem_cons.mpr ⟨iw_4_22, List.forall_mem_cons.mpr ⟨iw_0_13, List.forall_mem_cons.mpr ⟨iw_5_0, List.forall_mem_cons.mpr ⟨iw_5_1, List.forall_mem_cons.mpr ⟨iw_0_2, List.forall_mem_cons.mpr ⟨iw_5_2, List.forall_mem_cons.mpr ⟨iw_5_3, List.forall_mem_cons.mpr ⟨iw_5_4, List.forall_mem_cons.mpr ⟨iw_5_5, List.forall_mem_cons.mpr ⟨iw_5_6, List.forall_mem_cons.mpr ⟨iw_5_7, List.forall_mem_cons.mpr ⟨iw_5_8, List.forall_mem_cons.mpr ⟨iw_5_20, List.forall_mem_cons.mpr ⟨iw_5_21, List.forall_mem_cons.mpr ⟨iw_5_22, List.forall_mem_cons.mpr ⟨iw_5_23, List.forall_mem_cons.mpr ⟨iw_29_0, List.forall_mem_cons.mpr ⟨iw_29_1, List.forall_mem_cons.mpr ⟨iw_29_2, List.forall_mem_cons.mpr ⟨iw_0_15, List.forall_mem_cons.mpr ⟨iw_29_3, List.forall_mem_cons.mpr ⟨iw_2_3, List.forall_mem_cons.mpr ⟨iw_5_18, List.forall_mem_cons.mpr ⟨iw_29_4, fun _ h9 => absurd h9 List.not_mem_nil⟩⟩⟩⟩⟩⟩⟩⟩⟩⟩⟩⟩⟩⟩⟩⟩⟩⟩⟩⟩⟩⟩⟩⟩
set_option maxRecDepth 20000 in
theorem mr_wsX8_sheet_r2 : ∀ w ∈ wsX8_sheet_r2, w ∈ lw_tbl := List.forall_mem_cons.mpr ⟨iw_5_19, fun _ h9 => absurd h9 List.not_mem_nil⟩
set_option maxRecDepth 20000 in
theorem ggL_law_X8_sheet : GoodIn lw_tbl wsX8_sheet := goodIn_3 _ (List.forall_mem_cons.mpr ⟨iw_28_23, List.forall_mem_append.mpr ⟨List.forall_mem_append.mpr ⟨List.forall_mem_append.mpr ⟨mr_wsX8_sheet_r1, mr_wsX8_sheet_r2⟩, inX8⟩, inX5⟩⟩) (by decide +kernel)
theorem gL_law_X8_sheet : GoodIn lw_tbl (wsV RL 104 RX8 yX8_sheet wsX8_sheet) := goodIn_app (goodIn_3 _ (List.forall_mem_cons.mpr ⟨iw_28_20, List.forall_mem_cons.mpr ⟨iw_28_21, List.forall_mem_cons.mpr ⟨iw_28_22, List.forall_mem_cons.mpr ⟨iw_0_2, fun _ h9 => absurd h9 List.not_mem_nil⟩⟩⟩⟩) (by decide +kernel)) ggL_law_X8_sheet
set_option maxRecDepth 20000 in
theorem ggL_law_X9_sheet : GoodIn lw_tbl wsX9_sheet := goodIn_3 _ (List.forall_mem_cons.mpr ⟨iw_29_8, List.forall_mem_append.mpr ⟨List.forall_mem_cons.mpr ⟨iw_11_2, List.forall_mem_cons.mpr ⟨iw_4_0, List.forall_mem_cons.mpr ⟨iw_4_1, List.forall_mem_cons.mpr ⟨iw_4_2, List.forall_mem_cons.mpr ⟨iw_11_8, List.forall_mem_cons.mpr ⟨iw_11_9, List.forall_mem_cons.mpr ⟨iw_0_5, List.forall_mem_cons.mpr ⟨iw_11_10, List.forall_mem_cons.mpr ⟨iw_11_11, List.forall_mem_cons.mpr ⟨iw_11_12, List.forall_mem_cons.mpr ⟨iw_11_13, List.forall_mem_cons.mpr ⟨iw_11_14, List.forall_mem_cons.mpr ⟨iw_11_15, List.forall_mem_cons.mpr ⟨iw_11_16, List.forall_mem_cons.mpr ⟨iw_11_21, List.forall_mem_cons.mpr ⟨iw_11_22, List.forall_mem_cons.mpr ⟨iw_11_23, List.forall_mem_cons.mpr ⟨iw_12_0, fun _ h9 => absurd h9 List.not_mem_nil⟩⟩⟩⟩⟩⟩⟩⟩⟩⟩⟩⟩⟩⟩⟩⟩⟩⟩, inX9⟩⟩) (by decide +kernel)
theorem gL_law_X9_sheet : GoodIn lw_tbl (wsV RL 108 RX9 yX9_sheet wsX9_sheet) := goodIn_app (goodIn_3 _ (List.forall_mem_cons.mpr ⟨iw_29_5, List.forall_mem_cons.mpr ⟨iw_29_6, List.forall_mem_cons.mpr ⟨iw_29_7, List.forall_mem_cons.mpr ⟨iw_0_5, fun _ h9 => absurd h9 List.not_mem_nil⟩⟩⟩⟩) (by decide +kernel)) ggL_law_X9_sheet
theorem dL_law_832 : decode cL_law 832 = .ok (.aload_n 1, 1) := kop_2b (show kBy cL_law 832 43 from kbyte (k := 832) (j := 0) kbk_832 rfl)
theorem dL_law_833 : decode cL_law 833 = .ok (.aload_n 0, 1) := kop_2a (show kBy cL_law 833 42 from kbyte (k := 832) (j := 1) kbk_832 rfl)
theorem dL_law_834 : decode cL_law 834 = .ok (.iload_n 3, 1) := kop_1d (show kBy cL_law 834 29 from kbyte (k := 832) (j := 2) kbk_832 rfl)
theorem dL_law_835 : decode cL_law 835 = .ok (.iconst 1, 1) := kop_04 (show kBy cL_law 835 4 from kbyte (k := 832) (j := 3) kbk_832 rfl)
theorem dL_law_836 : decode cL_law 836 = .ok (.iadd, 1) := kop_60 (show kBy cL_law 836 96 from kbyte (k := 832) (j := 4) kbk_832 rfl)
theorem dL_law_837 : decode cL_law 837 = .ok (.iaload, 1) := kop_2e (show kBy cL_law 837 46 from kbyte (k := 832) (j := 5) kbk_832 rfl)
theorem dL_law_838 : decode cL_law 838 = .ok (.invokevirtual 109, 3) := kop_b6 (show kBy cL_law 838 182 from kbyte (k := 832) (j := 6) kbk_832 rfl) (show kBy cL_law 839 0 from kbyte (k := 832) (j := 7) kbk_832 rfl) (show kBy cL_law 840 109 from kbyte (k := 832) (j := 8) kbk_832 rfl) (by decide)
theorem dL_law_841 : decode cL_law 841 = .ok (.pop, 1) := kop_57 (show kBy cL_law 841 87 from kbyte (k := 832) (j := 9) kbk_832 rfl)
theorem dL_law_842 : decode cL_law 842 = .ok (.aload_n 2, 1) := kop_2c (show kBy cL_law 842 44 from kbyte (k := 832) (j := 10) kbk_832 rfl)
theorem dL_law_843 : decode cL_law 843 = .ok (.aload_n 0, 1) := kop_2a (show kBy cL_law 843 42 from kbyte (k := 832) (j := 11) kbk_832 rfl)
theorem dL_law_844 : decode cL_law 844 = .ok (.iload_n 3, 1) := kop_1d (show kBy cL_law 844 29 from kbyte (k := 832) (j := 12) kbk_832 rfl)
theorem dL_law_845 : decode cL_law 845 = .ok (.iconst 1, 1) := kop_04 (show kBy cL_law 845 4 from kbyte (k := 832) (j := 13) kbk_832 rfl)
theorem dL_law_846 : decode cL_law 846 = .ok (.iadd, 1) := kop_60 (show kBy cL_law 846 96 from kbyte (k := 832) (j := 14) kbk_832 rfl)
theorem dL_law_847 : decode cL_law 847 = .ok (.iaload, 1) := kop_2e (show kBy cL_law 847 46 from kbyte (k := 832) (j := 15) kbk_832 rfl)
theorem dL_law_848 : decode cL_law 848 = .ok (.invokevirtual 112, 3) := kop_b6 (show kBy cL_law 848 182 from kbyte (k := 832) (j := 16) kbk_832 rfl) (show kBy cL_law 849 0 from kbyte (k := 832) (j := 17) kbk_832 rfl) (show kBy cL_law 850 112 from kbyte (k := 832) (j := 18) kbk_832 rfl) (by decide)
theorem dL_law_851 : decode cL_law 851 = .ok (.pop, 1) := kop_57 (show kBy cL_law 851 87 from kbyte (k := 832) (j := 19) kbk_832 rfl)
theorem dL_law_852 : decode cL_law 852 = .ok (.goto 280, 3) := by decide +kernel
set_option maxRecDepth 20000 in
theorem ggL_law_X8_lose : GoodIn lw_tbl wsX8_lose := goodIn_3 _ (List.forall_mem_cons.mpr ⟨iw_29_12, List.forall_mem_append.mpr ⟨List.forall_mem_append.mpr ⟨List.forall_mem_cons.mpr ⟨iw_0_13, List.forall_mem_cons.mpr ⟨iw_5_12, List.forall_mem_cons.mpr ⟨iw_5_0, List.forall_mem_cons.mpr ⟨iw_5_1, List.forall_mem_cons.mpr ⟨iw_0_2, List.forall_mem_cons.mpr ⟨iw_5_2, List.forall_mem_cons.mpr ⟨iw_5_3, List.forall_mem_cons.mpr ⟨iw_5_4, List.forall_mem_cons.mpr ⟨iw_5_5, fun _ h9 => absurd h9 List.not_mem_nil⟩⟩⟩⟩⟩⟩⟩⟩⟩, inX8⟩, inX5⟩⟩) (by decide +kernel)
theorem gL_law_X8_lose : GoodIn lw_tbl (wsV RL 109 RX8 yX8_lose wsX8_lose) := goodIn_app (goodIn_3 _ (List.forall_mem_cons.mpr ⟨iw_29_9, List.forall_mem_cons.mpr ⟨iw_29_10, List.forall_mem_cons.mpr ⟨iw_29_11, List.forall_mem_cons.mpr ⟨iw_0_2, fun _ h9 => absurd h9 List.not_mem_nil⟩⟩⟩⟩) (by decide +kernel)) ggL_law_X8_lose
set_option maxRecDepth 20000 in
theorem ggL_law_X9_lose : GoodIn lw_tbl wsX9_lose := goodIn_3 _ (List.forall_mem_cons.mpr ⟨iw_29_16, List.forall_mem_append.mpr ⟨List.forall_mem_cons.mpr ⟨iw_4_0, List.forall_mem_cons.mpr ⟨iw_11_8, List.forall_mem_cons.mpr ⟨iw_11_9, List.forall_mem_cons.mpr ⟨iw_0_5, List.forall_mem_cons.mpr ⟨iw_11_10, List.forall_mem_cons.mpr ⟨iw_11_11, List.forall_mem_cons.mpr ⟨iw_11_12, List.forall_mem_cons.mpr ⟨iw_11_13, fun _ h9 => absurd h9 List.not_mem_nil⟩⟩⟩⟩⟩⟩⟩⟩, inX9⟩⟩) (by decide +kernel)
theorem gL_law_X9_lose : GoodIn lw_tbl (wsV RL 112 RX9 yX9_lose wsX9_lose) := goodIn_app (goodIn_3 _ (List.forall_mem_cons.mpr ⟨iw_29_13, List.forall_mem_cons.mpr ⟨iw_29_14, List.forall_mem_cons.mpr ⟨iw_29_15, List.forall_mem_cons.mpr ⟨iw_0_5, fun _ h9 => absurd h9 List.not_mem_nil⟩⟩⟩⟩) (by decide +kernel)) ggL_law_X9_lose
theorem dL_law_855 : decode cL_law 855 = .ok (.aload_n 1, 1) := kop_2b (show kBy cL_law 855 43 from kbyte (k := 832) (j := 23) kbk_832 rfl)
theorem dL_law_856 : decode cL_law 856 = .ok (.aload_n 0, 1) := kop_2a (show kBy cL_law 856 42 from kbyte (k := 832) (j := 24) kbk_832 rfl)
theorem dL_law_857 : decode cL_law 857 = .ok (.iload_n 3, 1) := kop_1d (show kBy cL_law 857 29 from kbyte (k := 832) (j := 25) kbk_832 rfl)
theorem dL_law_858 : decode cL_law 858 = .ok (.iconst 1, 1) := kop_04 (show kBy cL_law 858 4 from kbyte (k := 832) (j := 26) kbk_832 rfl)
theorem dL_law_859 : decode cL_law 859 = .ok (.iadd, 1) := kop_60 (show kBy cL_law 859 96 from kbyte (k := 832) (j := 27) kbk_832 rfl)
theorem dL_law_860 : decode cL_law 860 = .ok (.iaload, 1) := kop_2e (show kBy cL_law 860 46 from kbyte (k := 832) (j := 28) kbk_832 rfl)
theorem dL_law_861 : decode cL_law 861 = .ok (.aload_n 0, 1) := kop_2a (show kBy cL_law 861 42 from kbyte (k := 832) (j := 29) kbk_832 rfl)
theorem dL_law_862 : decode cL_law 862 = .ok (.iload_n 3, 1) := kop_1d (show kBy cL_law 862 29 from kbyte (k := 832) (j := 30) kbk_832 rfl)
theorem dL_law_863 : decode cL_law 863 = .ok (.iconst 2, 1) := kop_05 (show kBy cL_law 863 5 from kbyte (k := 832) (j := 31) kbk_832 rfl)
theorem dL_law_864 : decode cL_law 864 = .ok (.iadd, 1) := kop_60 (show kBy cL_law 864 96 from kbyte (k := 832) (j := 32) kbk_832 rfl)
theorem dL_law_865 : decode cL_law 865 = .ok (.iaload, 1) := kop_2e (show kBy cL_law 865 46 from kbyte (k := 832) (j := 33) kbk_832 rfl)
theorem dL_law_866 : decode cL_law 866 = .ok (.aload_n 0, 1) := kop_2a (show kBy cL_law 866 42 from kbyte (k := 832) (j := 34) kbk_832 rfl)
theorem dL_law_867 : decode cL_law 867 = .ok (.iload_n 3, 1) := kop_1d (show kBy cL_law 867 29 from kbyte (k := 832) (j := 35) kbk_832 rfl)
theorem dL_law_868 : decode cL_law 868 = .ok (.iconst 3, 1) := kop_06 (show kBy cL_law 868 6 from kbyte (k := 832) (j := 36) kbk_832 rfl)
theorem dL_law_869 : decode cL_law 869 = .ok (.iadd, 1) := kop_60 (show kBy cL_law 869 96 from kbyte (k := 832) (j := 37) kbk_832 rfl)
theorem dL_law_870 : decode cL_law 870 = .ok (.iaload, 1) := kop_2e (show kBy cL_law 870 46 from kbyte (k := 832) (j := 38) kbk_832 rfl)
theorem dL_law_871 : decode cL_law 871 = .ok (.invokevirtual 113, 3) := kop_b6 (show kBy cL_law 871 182 from kbyte (k := 832) (j := 39) kbk_832 rfl) (show kBy cL_law 872 0 from kbyte (k := 832) (j := 40) kbk_832 rfl) (show kBy cL_law 873 113 from kbyte (k := 832) (j := 41) kbk_832 rfl) (by decide)
theorem dL_law_874 : decode cL_law 874 = .ok (.pop, 1) := kop_57 (show kBy cL_law 874 87 from kbyte (k := 832) (j := 42) kbk_832 rfl)
theorem dL_law_875 : decode cL_law 875 = .ok (.aload_n 2, 1) := kop_2c (show kBy cL_law 875 44 from kbyte (k := 832) (j := 43) kbk_832 rfl)
theorem dL_law_876 : decode cL_law 876 = .ok (.aload_n 0, 1) := kop_2a (show kBy cL_law 876 42 from kbyte (k := 832) (j := 44) kbk_832 rfl)
theorem dL_law_877 : decode cL_law 877 = .ok (.iload_n 3, 1) := kop_1d (show kBy cL_law 877 29 from kbyte (k := 832) (j := 45) kbk_832 rfl)
theorem dL_law_878 : decode cL_law 878 = .ok (.iconst 1, 1) := kop_04 (show kBy cL_law 878 4 from kbyte (k := 832) (j := 46) kbk_832 rfl)
theorem dL_law_879 : decode cL_law 879 = .ok (.iadd, 1) := kop_60 (show kBy cL_law 879 96 from kbyte (k := 832) (j := 47) kbk_832 rfl)
theorem dL_law_880 : decode cL_law 880 = .ok (.iaload, 1) := kop_2e (show kBy cL_law 880 46 from kbyte (k := 832) (j := 48) kbk_832 rfl)
theorem dL_law_881 : decode cL_law 881 = .ok (.aload_n 0, 1) := kop_2a (show kBy cL_law 881 42 from kbyte (k := 832) (j := 49) kbk_832 rfl)
theorem dL_law_882 : decode cL_law 882 = .ok (.iload_n 3, 1) := kop_1d (show kBy cL_law 882 29 from kbyte (k := 832) (j := 50) kbk_832 rfl)
theorem dL_law_883 : decode cL_law 883 = .ok (.iconst 2, 1) := kop_05 (show kBy cL_law 883 5 from kbyte (k := 832) (j := 51) kbk_832 rfl)
theorem dL_law_884 : decode cL_law 884 = .ok (.iadd, 1) := kop_60 (show kBy cL_law 884 96 from kbyte (k := 832) (j := 52) kbk_832 rfl)
theorem dL_law_885 : decode cL_law 885 = .ok (.iaload, 1) := kop_2e (show kBy cL_law 885 46 from kbyte (k := 832) (j := 53) kbk_832 rfl)
theorem dL_law_886 : decode cL_law 886 = .ok (.aload_n 0, 1) := kop_2a (show kBy cL_law 886 42 from kbyte (k := 832) (j := 54) kbk_832 rfl)
theorem dL_law_887 : decode cL_law 887 = .ok (.iload_n 3, 1) := kop_1d (show kBy cL_law 887 29 from kbyte (k := 832) (j := 55) kbk_832 rfl)
theorem dL_law_888 : decode cL_law 888 = .ok (.iconst 3, 1) := kop_06 (show kBy cL_law 888 6 from kbyte (k := 832) (j := 56) kbk_832 rfl)
theorem dL_law_889 : decode cL_law 889 = .ok (.iadd, 1) := kop_60 (show kBy cL_law 889 96 from kbyte (k := 832) (j := 57) kbk_832 rfl)
theorem dL_law_890 : decode cL_law 890 = .ok (.iaload, 1) := kop_2e (show kBy cL_law 890 46 from kbyte (k := 832) (j := 58) kbk_832 rfl)
theorem dL_law_891 : decode cL_law 891 = .ok (.invokevirtual 116, 3) := kop_b6 (show kBy cL_law 891 182 from kbyte (k := 832) (j := 59) kbk_832 rfl) (show kBy cL_law 892 0 from kbyte (k := 832) (j := 60) kbk_832 rfl) (show kBy cL_law 893 116 from kbyte (k := 832) (j := 61) kbk_832 rfl) (by decide)
theorem dL_law_894 : decode cL_law 894 = .ok (.pop, 1) := kop_57 (show kBy cL_law 894 87 from kbyte (k := 832) (j := 62) kbk_832 rfl)
theorem dL_law_895 : decode cL_law 895 = .ok (.goto 237, 3) := by decide +kernel
set_option maxRecDepth 20000 in
theorem mr_wsX8_put_r1 : ∀ w ∈ wsX8_put_r1, w ∈ lw_tbl := List.forall_mem_cons.mpr ⟨iw_4_22, List.forall_mem_cons.mpr ⟨iw_0_13, List.forall_mem_cons.mpr ⟨iw_5_12, List.forall_mem_cons.mpr ⟨iw_29_21, List.forall_mem_cons.mpr ⟨iw_5_0, List.forall_mem_cons.mpr ⟨iw_5_1, List.forall_mem_cons.mpr ⟨iw_0_2, List.forall_mem_cons.mpr ⟨iw_5_2, List.forall_mem_cons.mpr ⟨iw_5_3, List.forall_mem_cons.mpr ⟨iw_5_4, List.forall_mem_cons.mpr ⟨iw_5_5, List.forall_mem_cons.mpr ⟨iw_5_20, List.forall_mem_cons.mpr ⟨iw_5_21, List.forall_mem_cons.mpr ⟨iw_5_22, List.forall_mem_cons.mpr ⟨iw_5_23, List.forall_mem_cons.mpr ⟨iw_29_22, List.forall_mem_cons.mpr ⟨iw_6_11, List.forall_mem_cons.mpr ⟨iw_6_12, List.forall_mem_cons.mpr ⟨iw_0_15, List.forall_mem_cons.mpr ⟨iw_6_13, List.forall_mem_cons.mpr ⟨iw_5_18, List.forall_mem_cons.mpr ⟨iw_5_19, List.forall_mem_cons.mpr ⟨iw_29_23, List.forall_mem_cons.mpr ⟨iw_30_0, fun _ h9 => absurd h9 List.not_mem_nil⟩⟩⟩⟩⟩⟩⟩⟩⟩⟩⟩⟩⟩⟩⟩⟩⟩⟩⟩⟩⟩⟩⟩⟩
set_option maxRecDepth 20000 in
theorem mr_wsX8_put_r2 : ∀ w ∈ wsX8_put_r2, w ∈ lw_tbl := List.forall_mem_cons.mpr ⟨iw_30_1, List.forall_mem_cons.mpr ⟨iw_30_2, List.forall_mem_cons.mpr ⟨iw_29_4, fun _ h9 => absurd h9 List.not_mem_nil⟩⟩⟩
set_option maxRecDepth 20000 in
theorem ggL_law_X8_put : GoodIn lw_tbl wsX8_put := goodIn_3 _ (List.forall_mem_cons.mpr ⟨iw_29_20, List.forall_mem_append.mpr ⟨List.forall_mem_append.mpr ⟨List.forall_mem_append.mpr ⟨mr_wsX8_put_r1, mr_wsX8_put_r2⟩, inX8⟩, inX5⟩⟩) (by decide +kernel)
theorem gL_law_X8_put : GoodIn lw_tbl (wsV RL 113 RX8 yX8_put wsX8_put) := goodIn_app (goodIn_3 _ (List.forall_mem_cons.mpr ⟨iw_29_17, List.forall_mem_cons.mpr ⟨iw_29_18, List.forall_mem_cons.mpr ⟨iw_29_19, List.forall_mem_cons.mpr ⟨iw_0_2, fun _ h9 => absurd h9 List.not_mem_nil⟩⟩⟩⟩) (by decide +kernel)) ggL_law_X8_put
set_option maxRecDepth 20000 in
theorem ggL_law_X9_put : GoodIn lw_tbl wsX9_put := goodIn_3 _ (List.forall_mem_cons.mpr ⟨iw_30_6, List.forall_mem_append.mpr ⟨List.forall_mem_cons.mpr ⟨iw_11_2, List.forall_mem_cons.mpr ⟨iw_4_0, List.forall_mem_cons.mpr ⟨iw_4_1, List.forall_mem_cons.mpr ⟨iw_4_2, List.forall_mem_cons.mpr ⟨iw_11_8, List.forall_mem_cons.mpr ⟨iw_11_9, List.forall_mem_cons.mpr ⟨iw_0_5, List.forall_mem_cons.mpr ⟨iw_11_10, List.forall_mem_cons.mpr ⟨iw_11_11, List.forall_mem_cons.mpr ⟨iw_11_12, List.forall_mem_cons.mpr ⟨iw_11_13, List.forall_mem_cons.mpr ⟨iw_11_21, List.forall_mem_cons.mpr ⟨iw_11_22, List.forall_mem_cons.mpr ⟨iw_11_23, List.forall_mem_cons.mpr ⟨iw_12_0, fun _ h9 => absurd h9 List.not_mem_nil⟩⟩⟩⟩⟩⟩⟩⟩⟩⟩⟩⟩⟩⟩⟩, inX9⟩⟩) (by decide +kernel)
theorem gL_law_X9_put : GoodIn lw_tbl (wsV RL 116 RX9 yX9_put wsX9_put) := goodIn_app (goodIn_3 _ (List.forall_mem_cons.mpr ⟨iw_30_3, List.forall_mem_cons.mpr ⟨iw_30_4, List.forall_mem_cons.mpr ⟨iw_30_5, List.forall_mem_cons.mpr ⟨iw_0_5, fun _ h9 => absurd h9 List.not_mem_nil⟩⟩⟩⟩) (by decide +kernel)) ggL_law_X9_put
