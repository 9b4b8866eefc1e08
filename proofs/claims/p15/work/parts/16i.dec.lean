theorem dL_law_898 : decode cL_law 898 = .ok (.aload_n 1, 1) := kop_2b (show kBy cL_law 898 43 from kbyte (k := 896) (j := 2) kbk_896 rfl)
theorem dL_law_899 : decode cL_law 899 = .ok (.aload_n 0, 1) := kop_2a (show kBy cL_law 899 42 from kbyte (k := 896) (j := 3) kbk_896 rfl)
theorem dL_law_900 : decode cL_law 900 = .ok (.iload_n 3, 1) := kop_1d (show kBy cL_law 900 29 from kbyte (k := 896) (j := 4) kbk_896 rfl)
theorem dL_law_901 : decode cL_law 901 = .ok (.iconst 1, 1) := kop_04 (show kBy cL_law 901 4 from kbyte (k := 896) (j := 5) kbk_896 rfl)
theorem dL_law_902 : decode cL_law 902 = .ok (.iadd, 1) := kop_60 (show kBy cL_law 902 96 from kbyte (k := 896) (j := 6) kbk_896 rfl)
theorem dL_law_903 : decode cL_law 903 = .ok (.iaload, 1) := kop_2e (show kBy cL_law 903 46 from kbyte (k := 896) (j := 7) kbk_896 rfl)
theorem dL_law_904 : decode cL_law 904 = .ok (.aload_n 0, 1) := kop_2a (show kBy cL_law 904 42 from kbyte (k := 896) (j := 8) kbk_896 rfl)
theorem dL_law_905 : decode cL_law 905 = .ok (.iload_n 3, 1) := kop_1d (show kBy cL_law 905 29 from kbyte (k := 896) (j := 9) kbk_896 rfl)
theorem dL_law_906 : decode cL_law 906 = .ok (.iconst 2, 1) := kop_05 (show kBy cL_law 906 5 from kbyte (k := 896) (j := 10) kbk_896 rfl)
theorem dL_law_907 : decode cL_law 907 = .ok (.iadd, 1) := kop_60 (show kBy cL_law 907 96 from kbyte (k := 896) (j := 11) kbk_896 rfl)
theorem dL_law_908 : decode cL_law 908 = .ok (.iaload, 1) := kop_2e (show kBy cL_law 908 46 from kbyte (k := 896) (j := 12) kbk_896 rfl)
theorem dL_law_909 : decode cL_law 909 = .ok (.aload_n 0, 1) := kop_2a (show kBy cL_law 909 42 from kbyte (k := 896) (j := 13) kbk_896 rfl)
theorem dL_law_910 : decode cL_law 910 = .ok (.iload_n 3, 1) := kop_1d (show kBy cL_law 910 29 from kbyte (k := 896) (j := 14) kbk_896 rfl)
theorem dL_law_911 : decode cL_law 911 = .ok (.iconst 3, 1) := kop_06 (show kBy cL_law 911 6 from kbyte (k := 896) (j := 15) kbk_896 rfl)
theorem dL_law_912 : decode cL_law 912 = .ok (.iadd, 1) := kop_60 (show kBy cL_law 912 96 from kbyte (k := 896) (j := 16) kbk_896 rfl)
theorem dL_law_913 : decode cL_law 913 = .ok (.iaload, 1) := kop_2e (show kBy cL_law 913 46 from kbyte (k := 896) (j := 17) kbk_896 rfl)
theorem dL_law_914 : decode cL_law 914 = .ok (.invokevirtual 117, 3) := kop_b6 (show kBy cL_law 914 182 from kbyte (k := 896) (j := 18) kbk_896 rfl) (show kBy cL_law 915 0 from kbyte (k := 896) (j := 19) kbk_896 rfl) (show kBy cL_law 916 117 from kbyte (k := 896) (j := 20) kbk_896 rfl) (by decide)
theorem dL_law_917 : decode cL_law 917 = .ok (.pop2, 1) := kop_58 (show kBy cL_law 917 88 from kbyte (k := 896) (j := 21) kbk_896 rfl)
theorem dL_law_918 : decode cL_law 918 = .ok (.aload_n 2, 1) := kop_2c (show kBy cL_law 918 44 from kbyte (k := 896) (j := 22) kbk_896 rfl)
theorem dL_law_919 : decode cL_law 919 = .ok (.aload_n 0, 1) := kop_2a (show kBy cL_law 919 42 from kbyte (k := 896) (j := 23) kbk_896 rfl)
theorem dL_law_920 : decode cL_law 920 = .ok (.iload_n 3, 1) := kop_1d (show kBy cL_law 920 29 from kbyte (k := 896) (j := 24) kbk_896 rfl)
theorem dL_law_921 : decode cL_law 921 = .ok (.iconst 1, 1) := kop_04 (show kBy cL_law 921 4 from kbyte (k := 896) (j := 25) kbk_896 rfl)
theorem dL_law_922 : decode cL_law 922 = .ok (.iadd, 1) := kop_60 (show kBy cL_law 922 96 from kbyte (k := 896) (j := 26) kbk_896 rfl)
theorem dL_law_923 : decode cL_law 923 = .ok (.iaload, 1) := kop_2e (show kBy cL_law 923 46 from kbyte (k := 896) (j := 27) kbk_896 rfl)
theorem dL_law_924 : decode cL_law 924 = .ok (.aload_n 0, 1) := kop_2a (show kBy cL_law 924 42 from kbyte (k := 896) (j := 28) kbk_896 rfl)
theorem dL_law_925 : decode cL_law 925 = .ok (.iload_n 3, 1) := kop_1d (show kBy cL_law 925 29 from kbyte (k := 896) (j := 29) kbk_896 rfl)
theorem dL_law_926 : decode cL_law 926 = .ok (.iconst 2, 1) := kop_05 (show kBy cL_law 926 5 from kbyte (k := 896) (j := 30) kbk_896 rfl)
theorem dL_law_927 : decode cL_law 927 = .ok (.iadd, 1) := kop_60 (show kBy cL_law 927 96 from kbyte (k := 896) (j := 31) kbk_896 rfl)
theorem dL_law_928 : decode cL_law 928 = .ok (.iaload, 1) := kop_2e (show kBy cL_law 928 46 from kbyte (k := 896) (j := 32) kbk_896 rfl)
theorem dL_law_929 : decode cL_law 929 = .ok (.aload_n 0, 1) := kop_2a (show kBy cL_law 929 42 from kbyte (k := 896) (j := 33) kbk_896 rfl)
theorem dL_law_930 : decode cL_law 930 = .ok (.iload_n 3, 1) := kop_1d (show kBy cL_law 930 29 from kbyte (k := 896) (j := 34) kbk_896 rfl)
theorem dL_law_931 : decode cL_law 931 = .ok (.iconst 3, 1) := kop_06 (show kBy cL_law 931 6 from kbyte (k := 896) (j := 35) kbk_896 rfl)
theorem dL_law_932 : decode cL_law 932 = .ok (.iadd, 1) := kop_60 (show kBy cL_law 932 96 from kbyte (k := 896) (j := 36) kbk_896 rfl)
theorem dL_law_933 : decode cL_law 933 = .ok (.iaload, 1) := kop_2e (show kBy cL_law 933 46 from kbyte (k := 896) (j := 37) kbk_896 rfl)
theorem dL_law_934 : decode cL_law 934 = .ok (.invokevirtual 121, 3) := kop_b6 (show kBy cL_law 934 182 from kbyte (k := 896) (j := 38) kbk_896 rfl) (show kBy cL_law 935 0 from kbyte (k := 896) (j := 39) kbk_896 rfl) (show kBy cL_law 936 121 from kbyte (k := 896) (j := 40) kbk_896 rfl) (by decide)
theorem dL_law_937 : decode cL_law 937 = .ok (.pop2, 1) := kop_58 (show kBy cL_law 937 88 from kbyte (k := 896) (j := 41) kbk_896 rfl)
theorem dL_law_938 : decode cL_law 938 = .ok (.goto 194, 3) := by decide +kernel
set_option maxRecDepth 20000 in
theorem mr_wsX8_cell_r1 : ∀ w ∈ wsX8_cell_r1, w ∈ lw_tbl := List.forall_mem_cons.mpr ⟨iw_4_22, List.forall_mem_cons.mpr ⟨iw_28_6, List.forall_mem_cons.mpr ⟨iw_0_13, List.forall_mem_cons.mpr ⟨iw_5_0, List.forall_mem_cons.mpr ⟨iw_5_1, List.forall_mem_cons.mpr ⟨iw_0_2, List.forall_mem_cons.mpr ⟨iw_5_2, List.forall_mem_cons.mpr ⟨iw_5_3, List.forall_mem_cons.mpr ⟨iw_5_4, List.forall_mem_cons.mpr ⟨iw_5_5, List.forall_mem_cons.mpr ⟨iw_5_6, List.forall_mem_cons.mpr ⟨iw_5_7, List.forall_mem_cons.mpr ⟨iw_5_8, List.forall_mem_cons.mpr ⟨iw_5_9, List.forall_mem_cons.mpr ⟨iw_5_10, List.forall_mem_cons.mpr ⟨iw_5_11, List.forall_mem_cons.mpr ⟨iw_5_12, List.forall_mem_cons.mpr ⟨iw_5_13, List.forall_mem_cons.mpr ⟨iw_29_22, List.forall_mem_cons.mpr ⟨iw_6_11, List.forall_mem_cons.mpr ⟨iw_6_12, List.forall_mem_cons.mpr ⟨iw_0_15, List.forall_mem_cons.mpr ⟨iw_6_13, List.forall_mem_cons.mpr ⟨iw_5_18, fun _ h9 => absurd h9 List.not_mem_nil⟩⟩⟩⟩⟩⟩⟩⟩⟩⟩⟩⟩⟩⟩⟩⟩⟩⟩⟩⟩⟩⟩⟩⟩
set_option maxRecDepth 20000 in
theorem mr_wsX8_cell_r2 : ∀ w ∈ wsX8_cell_r2, w ∈ lw_tbl := List.forall_mem_cons.mpr ⟨iw_5_19, List.forall_mem_cons.mpr ⟨iw_15_0, List.forall_mem_cons.mpr ⟨iw_6_7, List.forall_mem_cons.mpr ⟨iw_6_8, List.forall_mem_cons.mpr ⟨iw_6_9, List.forall_mem_cons.mpr ⟨iw_2_3, List.forall_mem_cons.mpr ⟨iw_6_10, fun _ h9 => absurd h9 List.not_mem_nil⟩⟩⟩⟩⟩⟩⟩
set_option maxRecDepth 20000 in
theorem ggL_law_X8_cell : GoodIn lw_tbl wsX8_cell := goodIn_3 _ (List.forall_mem_cons.mpr ⟨iw_30_10, List.forall_mem_append.mpr ⟨List.forall_mem_append.mpr ⟨List.forall_mem_append.mpr ⟨mr_wsX8_cell_r1, mr_wsX8_cell_r2⟩, inX8⟩, inX5⟩⟩) (by decide +kernel)
theorem gL_law_X8_cell : GoodIn lw_tbl (wsV RL 117 RX8 yX8_cell wsX8_cell) := goodIn_app (goodIn_3 _ (List.forall_mem_cons.mpr ⟨iw_30_7, List.forall_mem_cons.mpr ⟨iw_30_8, List.forall_mem_cons.mpr ⟨iw_30_9, List.forall_mem_cons.mpr ⟨iw_0_2, fun _ h9 => absurd h9 List.not_mem_nil⟩⟩⟩⟩) (by decide +kernel)) ggL_law_X8_cell
set_option maxRecDepth 20000 in
theorem ggL_law_X9_cell : GoodIn lw_tbl wsX9_cell := goodIn_3 _ (List.forall_mem_cons.mpr ⟨iw_30_14, List.forall_mem_append.mpr ⟨List.forall_mem_cons.mpr ⟨iw_11_2, List.forall_mem_cons.mpr ⟨iw_28_15, List.forall_mem_cons.mpr ⟨iw_4_0, List.forall_mem_cons.mpr ⟨iw_4_1, List.forall_mem_cons.mpr ⟨iw_4_2, List.forall_mem_cons.mpr ⟨iw_11_8, List.forall_mem_cons.mpr ⟨iw_11_9, List.forall_mem_cons.mpr ⟨iw_0_5, List.forall_mem_cons.mpr ⟨iw_11_10, List.forall_mem_cons.mpr ⟨iw_11_11, List.forall_mem_cons.mpr ⟨iw_11_12, List.forall_mem_cons.mpr ⟨iw_11_13, List.forall_mem_cons.mpr ⟨iw_11_14, List.forall_mem_cons.mpr ⟨iw_11_15, List.forall_mem_cons.mpr ⟨iw_11_16, List.forall_mem_cons.mpr ⟨iw_30_15, List.forall_mem_cons.mpr ⟨iw_30_16, List.forall_mem_cons.mpr ⟨iw_30_17, List.forall_mem_cons.mpr ⟨iw_30_18, fun _ h9 => absurd h9 List.not_mem_nil⟩⟩⟩⟩⟩⟩⟩⟩⟩⟩⟩⟩⟩⟩⟩⟩⟩⟩⟩, inX9⟩⟩) (by decide +kernel)
theorem gL_law_X9_cell : GoodIn lw_tbl (wsV RL 121 RX9 yX9_cell wsX9_cell) := goodIn_app (goodIn_3 _ (List.forall_mem_cons.mpr ⟨iw_30_11, List.forall_mem_cons.mpr ⟨iw_30_12, List.forall_mem_cons.mpr ⟨iw_30_13, List.forall_mem_cons.mpr ⟨iw_0_5, fun _ h9 => absurd h9 List.not_mem_nil⟩⟩⟩⟩) (by decide +kernel)) ggL_law_X9_cell
theorem dL_law_941 : decode cL_law 941 = .ok (.aload_n 1, 1) := kop_2b (show kBy cL_law 941 43 from kbyte (k := 896) (j := 45) kbk_896 rfl)
theorem dL_law_942 : decode cL_law 942 = .ok (.aload_n 0, 1) := kop_2a (show kBy cL_law 942 42 from kbyte (k := 896) (j := 46) kbk_896 rfl)
theorem dL_law_943 : decode cL_law 943 = .ok (.iload_n 3, 1) := kop_1d (show kBy cL_law 943 29 from kbyte (k := 896) (j := 47) kbk_896 rfl)
theorem dL_law_944 : decode cL_law 944 = .ok (.iconst 1, 1) := kop_04 (show kBy cL_law 944 4 from kbyte (k := 896) (j := 48) kbk_896 rfl)
theorem dL_law_945 : decode cL_law 945 = .ok (.iadd, 1) := kop_60 (show kBy cL_law 945 96 from kbyte (k := 896) (j := 49) kbk_896 rfl)
theorem dL_law_946 : decode cL_law 946 = .ok (.iaload, 1) := kop_2e (show kBy cL_law 946 46 from kbyte (k := 896) (j := 50) kbk_896 rfl)
theorem dL_law_947 : decode cL_law 947 = .ok (.aload_n 0, 1) := kop_2a (show kBy cL_law 947 42 from kbyte (k := 896) (j := 51) kbk_896 rfl)
theorem dL_law_948 : decode cL_law 948 = .ok (.iload_n 3, 1) := kop_1d (show kBy cL_law 948 29 from kbyte (k := 896) (j := 52) kbk_896 rfl)
theorem dL_law_949 : decode cL_law 949 = .ok (.iconst 2, 1) := kop_05 (show kBy cL_law 949 5 from kbyte (k := 896) (j := 53) kbk_896 rfl)
theorem dL_law_950 : decode cL_law 950 = .ok (.iadd, 1) := kop_60 (show kBy cL_law 950 96 from kbyte (k := 896) (j := 54) kbk_896 rfl)
theorem dL_law_951 : decode cL_law 951 = .ok (.iaload, 1) := kop_2e (show kBy cL_law 951 46 from kbyte (k := 896) (j := 55) kbk_896 rfl)
theorem dL_law_952 : decode cL_law 952 = .ok (.aload_n 0, 1) := kop_2a (show kBy cL_law 952 42 from kbyte (k := 896) (j := 56) kbk_896 rfl)
theorem dL_law_953 : decode cL_law 953 = .ok (.iload_n 3, 1) := kop_1d (show kBy cL_law 953 29 from kbyte (k := 896) (j := 57) kbk_896 rfl)
theorem dL_law_954 : decode cL_law 954 = .ok (.iconst 3, 1) := kop_06 (show kBy cL_law 954 6 from kbyte (k := 896) (j := 58) kbk_896 rfl)
theorem dL_law_955 : decode cL_law 955 = .ok (.iadd, 1) := kop_60 (show kBy cL_law 955 96 from kbyte (k := 896) (j := 59) kbk_896 rfl)
theorem dL_law_956 : decode cL_law 956 = .ok (.iaload, 1) := kop_2e (show kBy cL_law 956 46 from kbyte (k := 896) (j := 60) kbk_896 rfl)
theorem dL_law_957 : decode cL_law 957 = .ok (.aload_n 0, 1) := kop_2a (show kBy cL_law 957 42 from kbyte (k := 896) (j := 61) kbk_896 rfl)
theorem dL_law_958 : decode cL_law 958 = .ok (.iload_n 3, 1) := kop_1d (show kBy cL_law 958 29 from kbyte (k := 896) (j := 62) kbk_896 rfl)
theorem dL_law_959 : decode cL_law 959 = .ok (.iconst 4, 1) := kop_07 (show kBy cL_law 959 7 from kbyte (k := 896) (j := 63) kbk_896 rfl)
theorem dL_law_960 : decode cL_law 960 = .ok (.iadd, 1) := kop_60 (show kBy cL_law 960 96 from kbyte (k := 960) (j := 0) kbk_960 rfl)
theorem dL_law_961 : decode cL_law 961 = .ok (.iaload, 1) := kop_2e (show kBy cL_law 961 46 from kbyte (k := 960) (j := 1) kbk_960 rfl)
theorem dL_law_962 : decode cL_law 962 = .ok (.aload_n 0, 1) := kop_2a (show kBy cL_law 962 42 from kbyte (k := 960) (j := 2) kbk_960 rfl)
theorem dL_law_963 : decode cL_law 963 = .ok (.iload_n 3, 1) := kop_1d (show kBy cL_law 963 29 from kbyte (k := 960) (j := 3) kbk_960 rfl)
theorem dL_law_964 : decode cL_law 964 = .ok (.iconst 5, 1) := kop_08 (show kBy cL_law 964 8 from kbyte (k := 960) (j := 4) kbk_960 rfl)
theorem dL_law_965 : decode cL_law 965 = .ok (.iadd, 1) := kop_60 (show kBy cL_law 965 96 from kbyte (k := 960) (j := 5) kbk_960 rfl)
theorem dL_law_966 : decode cL_law 966 = .ok (.iaload, 1) := kop_2e (show kBy cL_law 966 46 from kbyte (k := 960) (j := 6) kbk_960 rfl)
theorem dL_law_967 : decode cL_law 967 = .ok (.invokevirtual 122, 3) := kop_b6 (show kBy cL_law 967 182 from kbyte (k := 960) (j := 7) kbk_960 rfl) (show kBy cL_law 968 0 from kbyte (k := 960) (j := 8) kbk_960 rfl) (show kBy cL_law 969 122 from kbyte (k := 960) (j := 9) kbk_960 rfl) (by decide)
theorem dL_law_970 : decode cL_law 970 = .ok (.pop, 1) := kop_57 (show kBy cL_law 970 87 from kbyte (k := 960) (j := 10) kbk_960 rfl)
theorem dL_law_971 : decode cL_law 971 = .ok (.aload_n 2, 1) := kop_2c (show kBy cL_law 971 44 from kbyte (k := 960) (j := 11) kbk_960 rfl)
theorem dL_law_972 : decode cL_law 972 = .ok (.aload_n 0, 1) := kop_2a (show kBy cL_law 972 42 from kbyte (k := 960) (j := 12) kbk_960 rfl)
theorem dL_law_973 : decode cL_law 973 = .ok (.iload_n 3, 1) := kop_1d (show kBy cL_law 973 29 from kbyte (k := 960) (j := 13) kbk_960 rfl)
theorem dL_law_974 : decode cL_law 974 = .ok (.iconst 1, 1) := kop_04 (show kBy cL_law 974 4 from kbyte (k := 960) (j := 14) kbk_960 rfl)
theorem dL_law_975 : decode cL_law 975 = .ok (.iadd, 1) := kop_60 (show kBy cL_law 975 96 from kbyte (k := 960) (j := 15) kbk_960 rfl)
theorem dL_law_976 : decode cL_law 976 = .ok (.iaload, 1) := kop_2e (show kBy cL_law 976 46 from kbyte (k := 960) (j := 16) kbk_960 rfl)
theorem dL_law_977 : decode cL_law 977 = .ok (.aload_n 0, 1) := kop_2a (show kBy cL_law 977 42 from kbyte (k := 960) (j := 17) kbk_960 rfl)
theorem dL_law_978 : decode cL_law 978 = .ok (.iload_n 3, 1) := kop_1d (show kBy cL_law 978 29 from kbyte (k := 960) (j := 18) kbk_960 rfl)
theorem dL_law_979 : decode cL_law 979 = .ok (.iconst 2, 1) := kop_05 (show kBy cL_law 979 5 from kbyte (k := 960) (j := 19) kbk_960 rfl)
theorem dL_law_980 : decode cL_law 980 = .ok (.iadd, 1) := kop_60 (show kBy cL_law 980 96 from kbyte (k := 960) (j := 20) kbk_960 rfl)
theorem dL_law_981 : decode cL_law 981 = .ok (.iaload, 1) := kop_2e (show kBy cL_law 981 46 from kbyte (k := 960) (j := 21) kbk_960 rfl)
theorem dL_law_982 : decode cL_law 982 = .ok (.aload_n 0, 1) := kop_2a (show kBy cL_law 982 42 from kbyte (k := 960) (j := 22) kbk_960 rfl)
theorem dL_law_983 : decode cL_law 983 = .ok (.iload_n 3, 1) := kop_1d (show kBy cL_law 983 29 from kbyte (k := 960) (j := 23) kbk_960 rfl)
theorem dL_law_984 : decode cL_law 984 = .ok (.iconst 3, 1) := kop_06 (show kBy cL_law 984 6 from kbyte (k := 960) (j := 24) kbk_960 rfl)
theorem dL_law_985 : decode cL_law 985 = .ok (.iadd, 1) := kop_60 (show kBy cL_law 985 96 from kbyte (k := 960) (j := 25) kbk_960 rfl)
theorem dL_law_986 : decode cL_law 986 = .ok (.iaload, 1) := kop_2e (show kBy cL_law 986 46 from kbyte (k := 960) (j := 26) kbk_960 rfl)
theorem dL_law_987 : decode cL_law 987 = .ok (.aload_n 0, 1) := kop_2a (show kBy cL_law 987 42 from kbyte (k := 960) (j := 27) kbk_960 rfl)
theorem dL_law_988 : decode cL_law 988 = .ok (.iload_n 3, 1) := kop_1d (show kBy cL_law 988 29 from kbyte (k := 960) (j := 28) kbk_960 rfl)
theorem dL_law_989 : decode cL_law 989 = .ok (.iconst 4, 1) := kop_07 (show kBy cL_law 989 7 from kbyte (k := 960) (j := 29) kbk_960 rfl)
theorem dL_law_990 : decode cL_law 990 = .ok (.iadd, 1) := kop_60 (show kBy cL_law 990 96 from kbyte (k := 960) (j := 30) kbk_960 rfl)
theorem dL_law_991 : decode cL_law 991 = .ok (.iaload, 1) := kop_2e (show kBy cL_law 991 46 from kbyte (k := 960) (j := 31) kbk_960 rfl)
theorem dL_law_992 : decode cL_law 992 = .ok (.aload_n 0, 1) := kop_2a (show kBy cL_law 992 42 from kbyte (k := 960) (j := 32) kbk_960 rfl)
theorem dL_law_993 : decode cL_law 993 = .ok (.iload_n 3, 1) := kop_1d (show kBy cL_law 993 29 from kbyte (k := 960) (j := 33) kbk_960 rfl)
theorem dL_law_994 : decode cL_law 994 = .ok (.iconst 5, 1) := kop_08 (show kBy cL_law 994 8 from kbyte (k := 960) (j := 34) kbk_960 rfl)
theorem dL_law_995 : decode cL_law 995 = .ok (.iadd, 1) := kop_60 (show kBy cL_law 995 96 from kbyte (k := 960) (j := 35) kbk_960 rfl)
theorem dL_law_996 : decode cL_law 996 = .ok (.iaload, 1) := kop_2e (show kBy cL_law 996 46 from kbyte (k := 960) (j := 36) kbk_960 rfl)
theorem dL_law_997 : decode cL_law 997 = .ok (.invokevirtual 125, 3) := kop_b6 (show kBy cL_law 997 182 from kbyte (k := 960) (j := 37) kbk_960 rfl) (show kBy cL_law 998 0 from kbyte (k := 960) (j := 38) kbk_960 rfl) (show kBy cL_law 999 125 from kbyte (k := 960) (j := 39) kbk_960 rfl) (by decide)
theorem dL_law_1000 : decode cL_law 1000 = .ok (.pop, 1) := kop_57 (show kBy cL_law 1000 87 from kbyte (k := 960) (j := 40) kbk_960 rfl)
theorem dL_law_1001 : decode cL_law 1001 = .ok (.goto 131, 3) := by decide +kernel
set_option maxRecDepth 20000 in
theorem mr_wsX8_copy_r1 : ∀ w ∈ wsX8_copy_r1, w ∈ lw_tbl := List.forall_mem_cons.mpr ⟨iw_4_22, List.forall_mem_cons.mpr ⟨iw_0_13, List.forall_mem_cons.mpr ⟨iw_5_12, List.forall_mem_cons.mpr ⟨iw_5_13, List.forall_mem_cons.mpr ⟨iw_29_21, List.forall_mem_cons.mpr ⟨iw_30_23, List.forall_mem_cons.mpr ⟨iw_31_0, List.forall_mem_cons.mpr ⟨iw_31_1, List.forall_mem_cons.mpr ⟨iw_31_2, List.forall_mem_cons.mpr ⟨iw_5_0, List.forall_mem_cons.mpr ⟨iw_5_1, List.forall_mem_cons.mpr ⟨iw_0_2, List.forall_mem_cons.mpr ⟨iw_5_2, List.forall_mem_cons.mpr ⟨iw_5_3, List.forall_mem_cons.mpr ⟨iw_5_4, List.forall_mem_cons.mpr ⟨iw_5_5, List.forall_mem_cons.mpr ⟨iw_5_20, List.forall_mem_cons.mpr ⟨iw_5_21, List.forall_mem_cons.mpr ⟨iw_5_22, List.forall_mem_cons.mpr ⟨iw_5_23, List.forall_mem_cons.mpr ⟨iw_5_14, List.forall_mem_cons.mpr ⟨iw_5_15, List.forall_mem_cons.mpr ⟨iw_5_16, List.forall_mem_cons.mpr ⟨iw_0_15, fun _ h9 => absurd h9 List.not_mem_nil⟩⟩⟩⟩⟩⟩⟩⟩⟩⟩⟩⟩⟩⟩⟩⟩⟩⟩⟩⟩⟩⟩⟩⟩
set_option maxRecDepth 20000 in
theorem mr_wsX8_copy_r2 : ∀ w ∈ wsX8_copy_r2, w ∈ lw_tbl := List.forall_mem_cons.mpr ⟨iw_5_17, List.forall_mem_cons.mpr ⟨iw_5_18, List.forall_mem_cons.mpr ⟨iw_5_19, fun _ h9 => absurd h9 List.not_mem_nil⟩⟩⟩
set_option maxRecDepth 20000 in
theorem ggL_law_X8_copy : GoodIn lw_tbl wsX8_copy := goodIn_3 _ (List.forall_mem_cons.mpr ⟨iw_30_22, List.forall_mem_append.mpr ⟨List.forall_mem_append.mpr ⟨List.forall_mem_append.mpr ⟨mr_wsX8_copy_r1, mr_wsX8_copy_r2⟩, inX8⟩, inX5⟩⟩) (by decide +kernel)
theorem gL_law_X8_copy : GoodIn lw_tbl (wsV RL 122 RX8 yX8_copy wsX8_copy) := goodIn_app (goodIn_3 _ (List.forall_mem_cons.mpr ⟨iw_30_19, List.forall_mem_cons.mpr ⟨iw_30_20, List.forall_mem_cons.mpr ⟨iw_30_21, List.forall_mem_cons.mpr ⟨iw_0_2, fun _ h9 => absurd h9 List.not_mem_nil⟩⟩⟩⟩) (by decide +kernel)) ggL_law_X8_copy
set_option maxRecDepth 20000 in
theorem ggL_law_X9_copy : GoodIn lw_tbl wsX9_copy := goodIn_3 _ (List.forall_mem_cons.mpr ⟨iw_31_6, List.forall_mem_append.mpr ⟨List.forall_mem_cons.mpr ⟨iw_11_2, List.forall_mem_cons.mpr ⟨iw_4_0, List.forall_mem_cons.mpr ⟨iw_4_1, List.forall_mem_cons.mpr ⟨iw_4_2, List.forall_mem_cons.mpr ⟨iw_11_8, List.forall_mem_cons.mpr ⟨iw_11_9, List.forall_mem_cons.mpr ⟨iw_0_5, List.forall_mem_cons.mpr ⟨iw_11_10, List.forall_mem_cons.mpr ⟨iw_11_11, List.forall_mem_cons.mpr ⟨iw_11_12, List.forall_mem_cons.mpr ⟨iw_11_13, List.forall_mem_cons.mpr ⟨iw_11_21, List.forall_mem_cons.mpr ⟨iw_11_22, List.forall_mem_cons.mpr ⟨iw_11_23, List.forall_mem_cons.mpr ⟨iw_12_0, fun _ h9 => absurd h9 List.not_mem_nil⟩⟩⟩⟩⟩⟩⟩⟩⟩⟩⟩⟩⟩⟩⟩, inX9⟩⟩) (by decide +kernel)
theorem gL_law_X9_copy : GoodIn lw_tbl (wsV RL 125 RX9 yX9_copy wsX9_copy) := goodIn_app (goodIn_3 _ (List.forall_mem_cons.mpr ⟨iw_31_3, List.forall_mem_cons.mpr ⟨iw_31_4, List.forall_mem_cons.mpr ⟨iw_31_5, List.forall_mem_cons.mpr ⟨iw_0_5, fun _ h9 => absurd h9 List.not_mem_nil⟩⟩⟩⟩) (by decide +kernel)) ggL_law_X9_copy
theorem dL_law_1004 : decode cL_law 1004 = .ok (.aload_n 1, 1) := kop_2b (show kBy cL_law 1004 43 from kbyte (k := 960) (j := 44) kbk_960 rfl)
theorem dL_law_1005 : decode cL_law 1005 = .ok (.aload_n 0, 1) := kop_2a (show kBy cL_law 1005 42 from kbyte (k := 960) (j := 45) kbk_960 rfl)
theorem dL_law_1006 : decode cL_law 1006 = .ok (.iload_n 3, 1) := kop_1d (show kBy cL_law 1006 29 from kbyte (k := 960) (j := 46) kbk_960 rfl)
theorem dL_law_1007 : decode cL_law 1007 = .ok (.iconst 1, 1) := kop_04 (show kBy cL_law 1007 4 from kbyte (k := 960) (j := 47) kbk_960 rfl)
theorem dL_law_1008 : decode cL_law 1008 = .ok (.iadd, 1) := kop_60 (show kBy cL_law 1008 96 from kbyte (k := 960) (j := 48) kbk_960 rfl)
theorem dL_law_1009 : decode cL_law 1009 = .ok (.iaload, 1) := kop_2e (show kBy cL_law 1009 46 from kbyte (k := 960) (j := 49) kbk_960 rfl)
theorem dL_law_1010 : decode cL_law 1010 = .ok (.invokevirtual 126, 3) := kop_b6 (show kBy cL_law 1010 182 from kbyte (k := 960) (j := 50) kbk_960 rfl) (show kBy cL_law 1011 0 from kbyte (k := 960) (j := 51) kbk_960 rfl) (show kBy cL_law 1012 126 from kbyte (k := 960) (j := 52) kbk_960 rfl) (by decide)
theorem dL_law_1013 : decode cL_law 1013 = .ok (.pop, 1) := kop_57 (show kBy cL_law 1013 87 from kbyte (k := 960) (j := 53) kbk_960 rfl)
theorem dL_law_1014 : decode cL_law 1014 = .ok (.aload_n 2, 1) := kop_2c (show kBy cL_law 1014 44 from kbyte (k := 960) (j := 54) kbk_960 rfl)
theorem dL_law_1015 : decode cL_law 1015 = .ok (.aload_n 0, 1) := kop_2a (show kBy cL_law 1015 42 from kbyte (k := 960) (j := 55) kbk_960 rfl)
theorem dL_law_1016 : decode cL_law 1016 = .ok (.iload_n 3, 1) := kop_1d (show kBy cL_law 1016 29 from kbyte (k := 960) (j := 56) kbk_960 rfl)
theorem dL_law_1017 : decode cL_law 1017 = .ok (.iconst 1, 1) := kop_04 (show kBy cL_law 1017 4 from kbyte (k := 960) (j := 57) kbk_960 rfl)
theorem dL_law_1018 : decode cL_law 1018 = .ok (.iadd, 1) := kop_60 (show kBy cL_law 1018 96 from kbyte (k := 960) (j := 58) kbk_960 rfl)
theorem dL_law_1019 : decode cL_law 1019 = .ok (.iaload, 1) := kop_2e (show kBy cL_law 1019 46 from kbyte (k := 960) (j := 59) kbk_960 rfl)
theorem dL_law_1020 : decode cL_law 1020 = .ok (.invokevirtual 129, 3) := kop_b6 (show kBy cL_law 1020 182 from kbyte (k := 960) (j := 60) kbk_960 rfl) (show kBy cL_law 1021 0 from kbyte (k := 960) (j := 61) kbk_960 rfl) (show kBy cL_law 1022 129 from kbyte (k := 960) (j := 62) kbk_960 rfl) (by decide)
theorem dL_law_1023 : decode cL_law 1023 = .ok (.pop, 1) := kop_57 (show kBy cL_law 1023 87 from kbyte (k := 960) (j := 63) kbk_960 rfl)
theorem dL_law_1024 : decode cL_law 1024 = .ok (.goto 108, 3) := by decide +kernel
set_option maxRecDepth 20000 in
theorem mr_wsX8_tell_r1 : ∀ w ∈ wsX8_tell_r1, w ∈ lw_tbl := List.forall_mem_cons.mpr ⟨iw_0_23, List.forall_mem_cons.mpr ⟨iw_13_0, List.forall_mem_cons.mpr ⟨iw_12_23, List.forall_mem_cons.mpr ⟨iw_13_2, List.forall_mem_cons.mpr ⟨iw_7_9, List.forall_mem_cons.mpr ⟨iw_7_10, List.forall_mem_cons.mpr ⟨iw_0_22, List.forall_mem_cons.mpr ⟨iw_7_11, List.forall_mem_cons.mpr ⟨iw_7_12, List.forall_mem_cons.mpr ⟨iw_5_4, List.forall_mem_cons.mpr ⟨iw_0_2, List.forall_mem_cons.mpr ⟨iw_5_5, List.forall_mem_cons.mpr ⟨iw_31_11, List.forall_mem_cons.mpr ⟨iw_31_12, List.forall_mem_cons.mpr ⟨iw_31_13, List.forall_mem_cons.mpr ⟨iw_31_14, List.forall_mem_cons.mpr ⟨iw_31_15, List.forall_mem_cons.mpr ⟨iw_31_16, List.forall_mem_cons.mpr ⟨iw_31_17, List.forall_mem_cons.mpr ⟨iw_31_18, List.forall_mem_cons.mpr ⟨iw_31_19, List.forall_mem_cons.mpr ⟨iw_31_20, List.forall_mem_cons.mpr ⟨iw_31_21, List.forall_mem_cons.mpr ⟨iw_31_22, fun _ h9 => absurd h9 List.not_mem_nil⟩⟩⟩⟩⟩⟩⟩⟩⟩⟩⟩⟩⟩⟩⟩⟩⟩⟩⟩⟩⟩⟩⟩⟩
set_option maxRecDepth 20000 in
theorem mr_wsX8_tell_r2 : ∀ w ∈ wsX8_tell_r2, w ∈ lw_tbl := List.forall_mem_cons.mpr ⟨iw_31_23, List.forall_mem_cons.mpr ⟨iw_32_0, List.forall_mem_cons.mpr ⟨iw_32_1, List.forall_mem_cons.mpr ⟨iw_32_2, List.forall_mem_cons.mpr ⟨iw_32_3, fun _ h9 => absurd h9 List.not_mem_nil⟩⟩⟩⟩⟩
set_option maxRecDepth 20000 in
theorem ggL_law_X8_tell : GoodIn lw_tbl wsX8_tell := goodIn_3 _ (List.forall_mem_cons.mpr ⟨iw_31_10, List.forall_mem_append.mpr ⟨List.forall_mem_append.mpr ⟨List.forall_mem_append.mpr ⟨mr_wsX8_tell_r1, mr_wsX8_tell_r2⟩, inX8⟩, inX0⟩⟩) (by decide +kernel)
theorem gL_law_X8_tell : GoodIn lw_tbl (wsV RL 126 RX8 yX8_tell wsX8_tell) := goodIn_app (goodIn_3 _ (List.forall_mem_cons.mpr ⟨iw_31_7, List.forall_mem_cons.mpr ⟨iw_31_8, List.forall_mem_cons.mpr ⟨iw_31_9, List.forall_mem_cons.mpr ⟨iw_0_2, fun _ h9 => absurd h9 List.not_mem_nil⟩⟩⟩⟩) (by decide +kernel)) ggL_law_X8_tell
set_option maxRecDepth 20000 in
theorem ggL_law_X9_tell : GoodIn lw_tbl wsX9_tell := goodIn_3 _ (List.forall_mem_cons.mpr ⟨iw_32_7, List.forall_mem_append.mpr ⟨List.forall_mem_cons.mpr ⟨iw_4_4, List.forall_mem_cons.mpr ⟨iw_4_3, List.forall_mem_cons.mpr ⟨iw_13_18, List.forall_mem_cons.mpr ⟨iw_13_19, List.forall_mem_cons.mpr ⟨iw_13_20, List.forall_mem_cons.mpr ⟨iw_0_5, List.forall_mem_cons.mpr ⟨iw_13_21, List.forall_mem_cons.mpr ⟨iw_11_5, List.forall_mem_cons.mpr ⟨iw_32_8, List.forall_mem_cons.mpr ⟨iw_32_9, List.forall_mem_cons.mpr ⟨iw_32_10, List.forall_mem_cons.mpr ⟨iw_32_11, List.forall_mem_cons.mpr ⟨iw_32_12, fun _ h9 => absurd h9 List.not_mem_nil⟩⟩⟩⟩⟩⟩⟩⟩⟩⟩⟩⟩⟩, inX9⟩⟩) (by decide +kernel)
theorem gL_law_X9_tell : GoodIn lw_tbl (wsV RL 129 RX9 yX9_tell wsX9_tell) := goodIn_app (goodIn_3 _ (List.forall_mem_cons.mpr ⟨iw_32_4, List.forall_mem_cons.mpr ⟨iw_32_5, List.forall_mem_cons.mpr ⟨iw_32_6, List.forall_mem_cons.mpr ⟨iw_0_5, fun _ h9 => absurd h9 List.not_mem_nil⟩⟩⟩⟩) (by decide +kernel)) ggL_law_X9_tell
theorem dL_law_1027 : decode cL_law 1027 = .ok (.aload_n 1, 1) := kop_2b (show kBy cL_law 1027 43 from kbyte (k := 1024) (j := 3) kbk_1024 rfl)
theorem dL_law_1028 : decode cL_law 1028 = .ok (.aload_n 0, 1) := kop_2a (show kBy cL_law 1028 42 from kbyte (k := 1024) (j := 4) kbk_1024 rfl)
theorem dL_law_1029 : decode cL_law 1029 = .ok (.iload_n 3, 1) := kop_1d (show kBy cL_law 1029 29 from kbyte (k := 1024) (j := 5) kbk_1024 rfl)
theorem dL_law_1030 : decode cL_law 1030 = .ok (.iconst 1, 1) := kop_04 (show kBy cL_law 1030 4 from kbyte (k := 1024) (j := 6) kbk_1024 rfl)
theorem dL_law_1031 : decode cL_law 1031 = .ok (.iadd, 1) := kop_60 (show kBy cL_law 1031 96 from kbyte (k := 1024) (j := 7) kbk_1024 rfl)
theorem dL_law_1032 : decode cL_law 1032 = .ok (.iaload, 1) := kop_2e (show kBy cL_law 1032 46 from kbyte (k := 1024) (j := 8) kbk_1024 rfl)
theorem dL_law_1033 : decode cL_law 1033 = .ok (.invokevirtual 130, 3) := kop_b6 (show kBy cL_law 1033 182 from kbyte (k := 1024) (j := 9) kbk_1024 rfl) (show kBy cL_law 1034 0 from kbyte (k := 1024) (j := 10) kbk_1024 rfl) (show kBy cL_law 1035 130 from kbyte (k := 1024) (j := 11) kbk_1024 rfl) (by decide)
theorem dL_law_1036 : decode cL_law 1036 = .ok (.pop, 1) := kop_57 (show kBy cL_law 1036 87 from kbyte (k := 1024) (j := 12) kbk_1024 rfl)
theorem dL_law_1037 : decode cL_law 1037 = .ok (.aload_n 2, 1) := kop_2c (show kBy cL_law 1037 44 from kbyte (k := 1024) (j := 13) kbk_1024 rfl)
theorem dL_law_1038 : decode cL_law 1038 = .ok (.aload_n 0, 1) := kop_2a (show kBy cL_law 1038 42 from kbyte (k := 1024) (j := 14) kbk_1024 rfl)
theorem dL_law_1039 : decode cL_law 1039 = .ok (.iload_n 3, 1) := kop_1d (show kBy cL_law 1039 29 from kbyte (k := 1024) (j := 15) kbk_1024 rfl)
theorem dL_law_1040 : decode cL_law 1040 = .ok (.iconst 1, 1) := kop_04 (show kBy cL_law 1040 4 from kbyte (k := 1024) (j := 16) kbk_1024 rfl)
theorem dL_law_1041 : decode cL_law 1041 = .ok (.iadd, 1) := kop_60 (show kBy cL_law 1041 96 from kbyte (k := 1024) (j := 17) kbk_1024 rfl)
theorem dL_law_1042 : decode cL_law 1042 = .ok (.iaload, 1) := kop_2e (show kBy cL_law 1042 46 from kbyte (k := 1024) (j := 18) kbk_1024 rfl)
theorem dL_law_1043 : decode cL_law 1043 = .ok (.invokevirtual 133, 3) := kop_b6 (show kBy cL_law 1043 182 from kbyte (k := 1024) (j := 19) kbk_1024 rfl) (show kBy cL_law 1044 0 from kbyte (k := 1024) (j := 20) kbk_1024 rfl) (show kBy cL_law 1045 133 from kbyte (k := 1024) (j := 21) kbk_1024 rfl) (by decide)
theorem dL_law_1046 : decode cL_law 1046 = .ok (.pop, 1) := kop_57 (show kBy cL_law 1046 87 from kbyte (k := 1024) (j := 22) kbk_1024 rfl)
theorem dL_law_1047 : decode cL_law 1047 = .ok (.goto 85, 3) := by decide +kernel
set_option maxRecDepth 20000 in
theorem ggL_law_X8_sample : GoodIn lw_tbl wsX8_sample := goodIn_3 _ (List.forall_mem_cons.mpr ⟨iw_32_16, List.forall_mem_append.mpr ⟨List.forall_mem_append.mpr ⟨List.forall_mem_cons.mpr ⟨iw_0_23, List.forall_mem_cons.mpr ⟨iw_12_23, List.forall_mem_cons.mpr ⟨iw_13_1, List.forall_mem_cons.mpr ⟨iw_13_2, List.forall_mem_cons.mpr ⟨iw_7_9, List.forall_mem_cons.mpr ⟨iw_7_10, List.forall_mem_cons.mpr ⟨iw_0_22, List.forall_mem_cons.mpr ⟨iw_7_11, List.forall_mem_cons.mpr ⟨iw_7_12, List.forall_mem_cons.mpr ⟨iw_5_4, List.forall_mem_cons.mpr ⟨iw_0_2, List.forall_mem_cons.mpr ⟨iw_5_5, List.forall_mem_cons.mpr ⟨iw_31_15, List.forall_mem_cons.mpr ⟨iw_31_16, List.forall_mem_cons.mpr ⟨iw_31_17, List.forall_mem_cons.mpr ⟨iw_31_18, List.forall_mem_cons.mpr ⟨iw_31_19, List.forall_mem_cons.mpr ⟨iw_25_17, List.forall_mem_cons.mpr ⟨iw_7_23, List.forall_mem_cons.mpr ⟨iw_8_0, List.forall_mem_cons.mpr ⟨iw_8_1, List.forall_mem_cons.mpr ⟨iw_8_2, List.forall_mem_cons.mpr ⟨iw_8_3, List.forall_mem_cons.mpr ⟨iw_8_4, fun _ h9 => absurd h9 List.not_mem_nil⟩⟩⟩⟩⟩⟩⟩⟩⟩⟩⟩⟩⟩⟩⟩⟩⟩⟩⟩⟩⟩⟩⟩⟩, inX8⟩, inX0⟩⟩) (by decide +kernel)
theorem gL_law_X8_sample : GoodIn lw_tbl (wsV RL 130 RX8 yX8_sample wsX8_sample) := goodIn_app (goodIn_3 _ (List.forall_mem_cons.mpr ⟨iw_32_13, List.forall_mem_cons.mpr ⟨iw_32_14, List.forall_mem_cons.mpr ⟨iw_32_15, List.forall_mem_cons.mpr ⟨iw_0_2, fun _ h9 => absurd h9 List.not_mem_nil⟩⟩⟩⟩) (by decide +kernel)) ggL_law_X8_sample
set_option maxRecDepth 20000 in
theorem ggL_law_X9_sample : GoodIn lw_tbl wsX9_sample := goodIn_3 _ (List.forall_mem_cons.mpr ⟨iw_32_20, List.forall_mem_append.mpr ⟨List.forall_mem_cons.mpr ⟨iw_4_3, List.forall_mem_cons.mpr ⟨iw_4_5, List.forall_mem_cons.mpr ⟨iw_13_18, List.forall_mem_cons.mpr ⟨iw_13_19, List.forall_mem_cons.mpr ⟨iw_13_20, List.forall_mem_cons.mpr ⟨iw_0_5, List.forall_mem_cons.mpr ⟨iw_13_21, List.forall_mem_cons.mpr ⟨iw_11_5, List.forall_mem_cons.mpr ⟨iw_32_8, List.forall_mem_cons.mpr ⟨iw_32_9, List.forall_mem_cons.mpr ⟨iw_32_10, List.forall_mem_cons.mpr ⟨iw_32_11, List.forall_mem_cons.mpr ⟨iw_32_12, List.forall_mem_cons.mpr ⟨iw_12_13, List.forall_mem_cons.mpr ⟨iw_12_14, List.forall_mem_cons.mpr ⟨iw_12_15, fun _ h9 => absurd h9 List.not_mem_nil⟩⟩⟩⟩⟩⟩⟩⟩⟩⟩⟩⟩⟩⟩⟩⟩, inX9⟩⟩) (by decide +kernel)
theorem gL_law_X9_sample : GoodIn lw_tbl (wsV RL 133 RX9 yX9_sample wsX9_sample) := goodIn_app (goodIn_3 _ (List.forall_mem_cons.mpr ⟨iw_32_17, List.forall_mem_cons.mpr ⟨iw_32_18, List.forall_mem_cons.mpr ⟨iw_32_19, List.forall_mem_cons.mpr ⟨iw_0_5, fun _ h9 => absurd h9 List.not_mem_nil⟩⟩⟩⟩) (by decide +kernel)) ggL_law_X9_sample
