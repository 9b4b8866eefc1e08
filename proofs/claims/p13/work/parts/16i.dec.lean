theorem dL_law_899 : decode cL_law 899 = .ok (.aload_n 1, 1) := kop_2b (show kBy cL_law 899 43 from kbyte (k := 896) (j := 3) kbk_896 rfl)
theorem dL_law_900 : decode cL_law 900 = .ok (.aload_n 0, 1) := kop_2a (show kBy cL_law 900 42 from kbyte (k := 896) (j := 4) kbk_896 rfl)
theorem dL_law_901 : decode cL_law 901 = .ok (.iload_n 3, 1) := kop_1d (show kBy cL_law 901 29 from kbyte (k := 896) (j := 5) kbk_896 rfl)
theorem dL_law_902 : decode cL_law 902 = .ok (.iconst 1, 1) := kop_04 (show kBy cL_law 902 4 from kbyte (k := 896) (j := 6) kbk_896 rfl)
theorem dL_law_903 : decode cL_law 903 = .ok (.iadd, 1) := kop_60 (show kBy cL_law 903 96 from kbyte (k := 896) (j := 7) kbk_896 rfl)
theorem dL_law_904 : decode cL_law 904 = .ok (.iaload, 1) := kop_2e (show kBy cL_law 904 46 from kbyte (k := 896) (j := 8) kbk_896 rfl)
theorem dL_law_905 : decode cL_law 905 = .ok (.aload_n 0, 1) := kop_2a (show kBy cL_law 905 42 from kbyte (k := 896) (j := 9) kbk_896 rfl)
theorem dL_law_906 : decode cL_law 906 = .ok (.iload_n 3, 1) := kop_1d (show kBy cL_law 906 29 from kbyte (k := 896) (j := 10) kbk_896 rfl)
theorem dL_law_907 : decode cL_law 907 = .ok (.iconst 2, 1) := kop_05 (show kBy cL_law 907 5 from kbyte (k := 896) (j := 11) kbk_896 rfl)
theorem dL_law_908 : decode cL_law 908 = .ok (.iadd, 1) := kop_60 (show kBy cL_law 908 96 from kbyte (k := 896) (j := 12) kbk_896 rfl)
theorem dL_law_909 : decode cL_law 909 = .ok (.iaload, 1) := kop_2e (show kBy cL_law 909 46 from kbyte (k := 896) (j := 13) kbk_896 rfl)
theorem dL_law_910 : decode cL_law 910 = .ok (.aload_n 0, 1) := kop_2a (show kBy cL_law 910 42 from kbyte (k := 896) (j := 14) kbk_896 rfl)
theorem dL_law_911 : decode cL_law 911 = .ok (.iload_n 3, 1) := kop_1d (show kBy cL_law 911 29 from kbyte (k := 896) (j := 15) kbk_896 rfl)
theorem dL_law_912 : decode cL_law 912 = .ok (.iconst 3, 1) := kop_06 (show kBy cL_law 912 6 from kbyte (k := 896) (j := 16) kbk_896 rfl)
theorem dL_law_913 : decode cL_law 913 = .ok (.iadd, 1) := kop_60 (show kBy cL_law 913 96 from kbyte (k := 896) (j := 17) kbk_896 rfl)
theorem dL_law_914 : decode cL_law 914 = .ok (.iaload, 1) := kop_2e (show kBy cL_law 914 46 from kbyte (k := 896) (j := 18) kbk_896 rfl)
theorem dL_law_915 : decode cL_law 915 = .ok (.invokevirtual 117, 3) := kop_b6 (show kBy cL_law 915 182 from kbyte (k := 896) (j := 19) kbk_896 rfl) (show kBy cL_law 916 0 from kbyte (k := 896) (j := 20) kbk_896 rfl) (show kBy cL_law 917 117 from kbyte (k := 896) (j := 21) kbk_896 rfl) (by decide)
theorem dL_law_918 : decode cL_law 918 = .ok (.pop2, 1) := kop_58 (show kBy cL_law 918 88 from kbyte (k := 896) (j := 22) kbk_896 rfl)
theorem dL_law_919 : decode cL_law 919 = .ok (.aload_n 2, 1) := kop_2c (show kBy cL_law 919 44 from kbyte (k := 896) (j := 23) kbk_896 rfl)
theorem dL_law_920 : decode cL_law 920 = .ok (.aload_n 0, 1) := kop_2a (show kBy cL_law 920 42 from kbyte (k := 896) (j := 24) kbk_896 rfl)
theorem dL_law_921 : decode cL_law 921 = .ok (.iload_n 3, 1) := kop_1d (show kBy cL_law 921 29 from kbyte (k := 896) (j := 25) kbk_896 rfl)
theorem dL_law_922 : decode cL_law 922 = .ok (.iconst 1, 1) := kop_04 (show kBy cL_law 922 4 from kbyte (k := 896) (j := 26) kbk_896 rfl)
theorem dL_law_923 : decode cL_law 923 = .ok (.iadd, 1) := kop_60 (show kBy cL_law 923 96 from kbyte (k := 896) (j := 27) kbk_896 rfl)
theorem dL_law_924 : decode cL_law 924 = .ok (.iaload, 1) := kop_2e (show kBy cL_law 924 46 from kbyte (k := 896) (j := 28) kbk_896 rfl)
theorem dL_law_925 : decode cL_law 925 = .ok (.aload_n 0, 1) := kop_2a (show kBy cL_law 925 42 from kbyte (k := 896) (j := 29) kbk_896 rfl)
theorem dL_law_926 : decode cL_law 926 = .ok (.iload_n 3, 1) := kop_1d (show kBy cL_law 926 29 from kbyte (k := 896) (j := 30) kbk_896 rfl)
theorem dL_law_927 : decode cL_law 927 = .ok (.iconst 2, 1) := kop_05 (show kBy cL_law 927 5 from kbyte (k := 896) (j := 31) kbk_896 rfl)
theorem dL_law_928 : decode cL_law 928 = .ok (.iadd, 1) := kop_60 (show kBy cL_law 928 96 from kbyte (k := 896) (j := 32) kbk_896 rfl)
theorem dL_law_929 : decode cL_law 929 = .ok (.iaload, 1) := kop_2e (show kBy cL_law 929 46 from kbyte (k := 896) (j := 33) kbk_896 rfl)
theorem dL_law_930 : decode cL_law 930 = .ok (.aload_n 0, 1) := kop_2a (show kBy cL_law 930 42 from kbyte (k := 896) (j := 34) kbk_896 rfl)
theorem dL_law_931 : decode cL_law 931 = .ok (.iload_n 3, 1) := kop_1d (show kBy cL_law 931 29 from kbyte (k := 896) (j := 35) kbk_896 rfl)
theorem dL_law_932 : decode cL_law 932 = .ok (.iconst 3, 1) := kop_06 (show kBy cL_law 932 6 from kbyte (k := 896) (j := 36) kbk_896 rfl)
theorem dL_law_933 : decode cL_law 933 = .ok (.iadd, 1) := kop_60 (show kBy cL_law 933 96 from kbyte (k := 896) (j := 37) kbk_896 rfl)
theorem dL_law_934 : decode cL_law 934 = .ok (.iaload, 1) := kop_2e (show kBy cL_law 934 46 from kbyte (k := 896) (j := 38) kbk_896 rfl)
theorem dL_law_935 : decode cL_law 935 = .ok (.invokevirtual 121, 3) := kop_b6 (show kBy cL_law 935 182 from kbyte (k := 896) (j := 39) kbk_896 rfl) (show kBy cL_law 936 0 from kbyte (k := 896) (j := 40) kbk_896 rfl) (show kBy cL_law 937 121 from kbyte (k := 896) (j := 41) kbk_896 rfl) (by decide)
theorem dL_law_938 : decode cL_law 938 = .ok (.pop2, 1) := kop_58 (show kBy cL_law 938 88 from kbyte (k := 896) (j := 42) kbk_896 rfl)
theorem dL_law_939 : decode cL_law 939 = .ok (.goto 194, 3) := by decide +kernel
set_option maxRecDepth 20000 in
theorem mr_wsX8_cell_r1 : ∀ w ∈ wsX8_cell_r1, w ∈ lw_tbl := List.forall_mem_cons.mpr ⟨iw_4_22, List.forall_mem_cons.mpr ⟨iw_28_6, List.forall_mem_cons.mpr ⟨iw_0_13, List.forall_mem_cons.mpr ⟨iw_5_0, List.forall_mem_cons.mpr ⟨iw_5_1, List.forall_mem_cons.mpr ⟨iw_0_2, List.forall_mem_cons.mpr ⟨iw_5_2, List.forall_mem_cons.mpr ⟨iw_5_3, List.forall_mem_cons.mpr ⟨iw_5_4, List.forall_mem_cons.mpr ⟨iw_5_5, List.forall_mem_cons.mpr ⟨iw_5_6, List.forall_mem_cons.mpr ⟨iw_5_7, List.forall_mem_cons.mpr ⟨iw_5_8, List.forall_mem_cons.mpr ⟨iw_5_9, List.forall_mem_cons.mpr ⟨iw_5_10, List.forall_mem_cons.mpr ⟨iw_5_11, List.forall_mem_cons.mpr ⟨iw_5_12, List.forall_mem_cons.mpr ⟨iw_5_13, List.forall_mem_cons.mpr ⟨iw_29_22, List.forall_mem_cons.mpr ⟨iw_6_11, List.forall_mem_cons.mpr ⟨iw_6_12, List.forall_mem_cons.mpr ⟨iw_0_15, List.forall_mem_cons.mpr ⟨iw_6_13, List.forall_mem_cons.mpr ⟨iw_5_18, fun _ h9 => absurd h9 List.not_mem_nil⟩⟩⟩⟩⟩⟩⟩⟩⟩⟩⟩⟩⟩⟩⟩⟩⟩⟩⟩⟩⟩⟩⟩⟩
set_option maxRecDepth 20000 in
theorem mr_wsX8_cell_r2 : ∀ w ∈ wsX8_cell_r2, w ∈ lw_tbl := List.forall_mem_cons.mpr ⟨iw_5_19, List.forall_mem_cons.mpr ⟨iw_15_0, List.forall_mem_cons.mpr ⟨iw_6_7, List.forall_mem_cons.mpr ⟨iw_6_8, List.forall_mem_cons.mpr ⟨iw_6_9, List.forall_mem_cons.mpr ⟨iw_2_3, List.forall_mem_cons.mpr ⟨iw_6_10, fun _ h9 => absurd h9 List.not_mem_nil⟩⟩⟩⟩⟩⟩⟩
set_option maxRecDepth 20000 in
theorem ggL_law_X8_cell : GoodIn lw_tbl wsX8_cell := goodIn_3 _ (List.forall_mem_cons.mpr ⟨iw_30_10, List.forall_mem_append.mpr ⟨List.forall_mem_append.mpr ⟨List.forall_mem_append.mpr ⟨mr_wsX8_cell_r1, mr_wsX8_cell_r2⟩, inX8⟩, inX5⟩⟩) (by decide +kernel)
theorem gL_law_X8_cell : GoodIn lw_tbl (wsV RL 117 RX8 yX8_cell wsX8_cell) := goodIn_app (goodIn_3 _ (List.forall_mem_cons.mpr ⟨iw_30_7, List.forall_mem_cons.mpr ⟨iw_30_8, List.forall_mem_cons.mpr ⟨iw_30_9, List.forall_mem_cons.mpr ⟨iw_0_2, fun _ h9 => absurd h9 List.not_mem_nil⟩⟩⟩⟩) (by decide +kernel)) ggL_law_X8_cell
set_option maxRecDepth 20000 in
theorem ggL_law_X9_cell : GoodIn lw_tbl wsX9_cell := goodIn_3 _ (List.forall_mem_cons.mpr ⟨iw_30_14, List.forall_mem_append.mpr ⟨List.forall_mem_cons.mpr ⟨iw_11_2, List.forall_mem_cons.mpr ⟨iw_28_15, List.forall_mem_cons.mpr ⟨iw_4_0, List.forall_mem_cons.mpr ⟨iw_4_1, List.forall_mem_cons.mpr ⟨iw_4_2, List.forall_mem_cons.mpr ⟨iw_11_8, List.forall_mem_cons.mpr ⟨iw_11_9, List.forall_mem_cons.mpr ⟨iw_0_5, List.forall_mem_cons.mpr ⟨iw_11_10, List.forall_mem_cons.mpr ⟨iw_11_11, List.forall_mem_cons.mpr ⟨iw_11_12, List.forall_mem_cons.mpr ⟨iw_11_13, List.forall_mem_cons.mpr ⟨iw_11_14, List.forall_mem_cons.mpr ⟨iw_11_15, List.forall_mem_cons.mpr ⟨iw_11_16, List.forall_mem_cons.mpr ⟨iw_30_15, List.forall_mem_cons.mpr ⟨iw_30_16, List.forall_mem_cons.mpr ⟨iw_30_17, List.forall_mem_cons.mpr ⟨iw_30_18, fun _ h9 => absurd h9 List.not_mem_nil⟩⟩⟩⟩⟩⟩⟩⟩⟩⟩⟩⟩⟩⟩⟩⟩⟩⟩⟩, inX9⟩⟩) (by decide +kernel)
theorem gL_law_X9_cell : GoodIn lw_tbl (wsV RL 121 RX9 yX9_cell wsX9_cell) := goodIn_app (goodIn_3 _ (List.forall_mem_cons.mpr ⟨iw_30_11, List.forall_mem_cons.mpr ⟨iw_30_12, List.forall_mem_cons.mpr ⟨iw_30_13, List.forall_mem_cons.mpr ⟨iw_0_5, fun _ h9 => absurd h9 List.not_mem_nil⟩⟩⟩⟩) (by decide +kernel)) ggL_law_X9_cell
theorem dL_law_942 : decode cL_law 942 = .ok (.aload_n 1, 1) := kop_2b (show kBy cL_law 942 43 from kbyte (k := 896) (j := 46) kbk_896 rfl)
theorem dL_law_943 : decode cL_law 943 = .ok (.aload_n 0, 1) := kop_2a (show kBy cL_law 943 42 from kbyte (k := 896) (j := 47) kbk_896 rfl)
theorem dL_law_944 : decode cL_law 944 = .ok (.iload_n 3, 1) := kop_1d (show kBy cL_law 944 29 from kbyte (k := 896) (j := 48) kbk_896 rfl)
theorem dL_law_945 : decode cL_law 945 = .ok (.iconst 1, 1) := kop_04 (show kBy cL_law 945 4 from kbyte (k := 896) (j := 49) kbk_896 rfl)
theorem dL_law_946 : decode cL_law 946 = .ok (.iadd, 1) := kop_60 (show kBy cL_law 946 96 from kbyte (k := 896) (j := 50) kbk_896 rfl)
theorem dL_law_947 : decode cL_law 947 = .ok (.iaload, 1) := kop_2e (show kBy cL_law 947 46 from kbyte (k := 896) (j := 51) kbk_896 rfl)
theorem dL_law_948 : decode cL_law 948 = .ok (.aload_n 0, 1) := kop_2a (show kBy cL_law 948 42 from kbyte (k := 896) (j := 52) kbk_896 rfl)
theorem dL_law_949 : decode cL_law 949 = .ok (.iload_n 3, 1) := kop_1d (show kBy cL_law 949 29 from kbyte (k := 896) (j := 53) kbk_896 rfl)
theorem dL_law_950 : decode cL_law 950 = .ok (.iconst 2, 1) := kop_05 (show kBy cL_law 950 5 from kbyte (k := 896) (j := 54) kbk_896 rfl)
theorem dL_law_951 : decode cL_law 951 = .ok (.iadd, 1) := kop_60 (show kBy cL_law 951 96 from kbyte (k := 896) (j := 55) kbk_896 rfl)
theorem dL_law_952 : decode cL_law 952 = .ok (.iaload, 1) := kop_2e (show kBy cL_law 952 46 from kbyte (k := 896) (j := 56) kbk_896 rfl)
theorem dL_law_953 : decode cL_law 953 = .ok (.aload_n 0, 1) := kop_2a (show kBy cL_law 953 42 from kbyte (k := 896) (j := 57) kbk_896 rfl)
theorem dL_law_954 : decode cL_law 954 = .ok (.iload_n 3, 1) := kop_1d (show kBy cL_law 954 29 from kbyte (k := 896) (j := 58) kbk_896 rfl)
theorem dL_law_955 : decode cL_law 955 = .ok (.iconst 3, 1) := kop_06 (show kBy cL_law 955 6 from kbyte (k := 896) (j := 59) kbk_896 rfl)
theorem dL_law_956 : decode cL_law 956 = .ok (.iadd, 1) := kop_60 (show kBy cL_law 956 96 from kbyte (k := 896) (j := 60) kbk_896 rfl)
theorem dL_law_957 : decode cL_law 957 = .ok (.iaload, 1) := kop_2e (show kBy cL_law 957 46 from kbyte (k := 896) (j := 61) kbk_896 rfl)
theorem dL_law_958 : decode cL_law 958 = .ok (.aload_n 0, 1) := kop_2a (show kBy cL_law 958 42 from kbyte (k := 896) (j := 62) kbk_896 rfl)
theorem dL_law_959 : decode cL_law 959 = .ok (.iload_n 3, 1) := kop_1d (show kBy cL_law 959 29 from kbyte (k := 896) (j := 63) kbk_896 rfl)
theorem dL_law_960 : decode cL_law 960 = .ok (.iconst 4, 1) := kop_07 (show kBy cL_law 960 7 from kbyte (k := 960) (j := 0) kbk_960 rfl)
theorem dL_law_961 : decode cL_law 961 = .ok (.iadd, 1) := kop_60 (show kBy cL_law 961 96 from kbyte (k := 960) (j := 1) kbk_960 rfl)
theorem dL_law_962 : decode cL_law 962 = .ok (.iaload, 1) := kop_2e (show kBy cL_law 962 46 from kbyte (k := 960) (j := 2) kbk_960 rfl)
theorem dL_law_963 : decode cL_law 963 = .ok (.aload_n 0, 1) := kop_2a (show kBy cL_law 963 42 from kbyte (k := 960) (j := 3) kbk_960 rfl)
theorem dL_law_964 : decode cL_law 964 = .ok (.iload_n 3, 1) := kop_1d (show kBy cL_law 964 29 from kbyte (k := 960) (j := 4) kbk_960 rfl)
theorem dL_law_965 : decode cL_law 965 = .ok (.iconst 5, 1) := kop_08 (show kBy cL_law 965 8 from kbyte (k := 960) (j := 5) kbk_960 rfl)
theorem dL_law_966 : decode cL_law 966 = .ok (.iadd, 1) := kop_60 (show kBy cL_law 966 96 from kbyte (k := 960) (j := 6) kbk_960 rfl)
theorem dL_law_967 : decode cL_law 967 = .ok (.iaload, 1) := kop_2e (show kBy cL_law 967 46 from kbyte (k := 960) (j := 7) kbk_960 rfl)
theorem dL_law_968 : decode cL_law 968 = .ok (.invokevirtual 122, 3) := kop_b6 (show kBy cL_law 968 182 from kbyte (k := 960) (j := 8) kbk_960 rfl) (show kBy cL_law 969 0 from kbyte (k := 960) (j := 9) kbk_960 rfl) (show kBy cL_law 970 122 from kbyte (k := 960) (j := 10) kbk_960 rfl) (by decide)
theorem dL_law_971 : decode cL_law 971 = .ok (.pop, 1) := kop_57 (show kBy cL_law 971 87 from kbyte (k := 960) (j := 11) kbk_960 rfl)
theorem dL_law_972 : decode cL_law 972 = .ok (.aload_n 2, 1) := kop_2c (show kBy cL_law 972 44 from kbyte (k := 960) (j := 12) kbk_960 rfl)
theorem dL_law_973 : decode cL_law 973 = .ok (.aload_n 0, 1) := kop_2a (show kBy cL_law 973 42 from kbyte (k := 960) (j := 13) kbk_960 rfl)
theorem dL_law_974 : decode cL_law 974 = .ok (.iload_n 3, 1) := kop_1d (show kBy cL_law 974 29 from kbyte (k := 960) (j := 14) kbk_960 rfl)
theorem dL_law_975 : decode cL_law 975 = .ok (.iconst 1, 1) := kop_04 (show kBy cL_law 975 4 from kbyte (k := 960) (j := 15) kbk_960 rfl)
theorem dL_law_976 : decode cL_law 976 = .ok (.iadd, 1) := kop_60 (show kBy cL_law 976 96 from kbyte (k := 960) (j := 16) kbk_960 rfl)
theorem dL_law_977 : decode cL_law 977 = .ok (.iaload, 1) := kop_2e (show kBy cL_law 977 46 from kbyte (k := 960) (j := 17) kbk_960 rfl)
theorem dL_law_978 : decode cL_law 978 = .ok (.aload_n 0, 1) := kop_2a (show kBy cL_law 978 42 from kbyte (k := 960) (j := 18) kbk_960 rfl)
theorem dL_law_979 : decode cL_law 979 = .ok (.iload_n 3, 1) := kop_1d (show kBy cL_law 979 29 from kbyte (k := 960) (j := 19) kbk_960 rfl)
theorem dL_law_980 : decode cL_law 980 = .ok (.iconst 2, 1) := kop_05 (show kBy cL_law 980 5 from kbyte (k := 960) (j := 20) kbk_960 rfl)
theorem dL_law_981 : decode cL_law 981 = .ok (.iadd, 1) := kop_60 (show kBy cL_law 981 96 from kbyte (k := 960) (j := 21) kbk_960 rfl)
theorem dL_law_982 : decode cL_law 982 = .ok (.iaload, 1) := kop_2e (show kBy cL_law 982 46 from kbyte (k := 960) (j := 22) kbk_960 rfl)
theorem dL_law_983 : decode cL_law 983 = .ok (.aload_n 0, 1) := kop_2a (show kBy cL_law 983 42 from kbyte (k := 960) (j := 23) kbk_960 rfl)
theorem dL_law_984 : decode cL_law 984 = .ok (.iload_n 3, 1) := kop_1d (show kBy cL_law 984 29 from kbyte (k := 960) (j := 24) kbk_960 rfl)
theorem dL_law_985 : decode cL_law 985 = .ok (.iconst 3, 1) := kop_06 (show kBy cL_law 985 6 from kbyte (k := 960) (j := 25) kbk_960 rfl)
theorem dL_law_986 : decode cL_law 986 = .ok (.iadd, 1) := kop_60 (show kBy cL_law 986 96 from kbyte (k := 960) (j := 26) kbk_960 rfl)
theorem dL_law_987 : decode cL_law 987 = .ok (.iaload, 1) := kop_2e (show kBy cL_law 987 46 from kbyte (k := 960) (j := 27) kbk_960 rfl)
theorem dL_law_988 : decode cL_law 988 = .ok (.aload_n 0, 1) := kop_2a (show kBy cL_law 988 42 from kbyte (k := 960) (j := 28) kbk_960 rfl)
theorem dL_law_989 : decode cL_law 989 = .ok (.iload_n 3, 1) := kop_1d (show kBy cL_law 989 29 from kbyte (k := 960) (j := 29) kbk_960 rfl)
theorem dL_law_990 : decode cL_law 990 = .ok (.iconst 4, 1) := kop_07 (show kBy cL_law 990 7 from kbyte (k := 960) (j := 30) kbk_960 rfl)
theorem dL_law_991 : decode cL_law 991 = .ok (.iadd, 1) := kop_60 (show kBy cL_law 991 96 from kbyte (k := 960) (j := 31) kbk_960 rfl)
theorem dL_law_992 : decode cL_law 992 = .ok (.iaload, 1) := kop_2e (show kBy cL_law 992 46 from kbyte (k := 960) (j := 32) kbk_960 rfl)
theorem dL_law_993 : decode cL_law 993 = .ok (.aload_n 0, 1) := kop_2a (show kBy cL_law 993 42 from kbyte (k := 960) (j := 33) kbk_960 rfl)
theorem dL_law_994 : decode cL_law 994 = .ok (.iload_n 3, 1) := kop_1d (show kBy cL_law 994 29 from kbyte (k := 960) (j := 34) kbk_960 rfl)
theorem dL_law_995 : decode cL_law 995 = .ok (.iconst 5, 1) := kop_08 (show kBy cL_law 995 8 from kbyte (k := 960) (j := 35) kbk_960 rfl)
theorem dL_law_996 : decode cL_law 996 = .ok (.iadd, 1) := kop_60 (show kBy cL_law 996 96 from kbyte (k := 960) (j := 36) kbk_960 rfl)
theorem dL_law_997 : decode cL_law 997 = .ok (.iaload, 1) := kop_2e (show kBy cL_law 997 46 from kbyte (k := 960) (j := 37) kbk_960 rfl)
theorem dL_law_998 : decode cL_law 998 = .ok (.invokevirtual 125, 3) := kop_b6 (show kBy cL_law 998 182 from kbyte (k := 960) (j := 38) kbk_960 rfl) (show kBy cL_law 999 0 from kbyte (k := 960) (j := 39) kbk_960 rfl) (show kBy cL_law 1000 125 from kbyte (k := 960) (j := 40) kbk_960 rfl) (by decide)
theorem dL_law_1001 : decode cL_law 1001 = .ok (.pop, 1) := kop_57 (show kBy cL_law 1001 87 from kbyte (k := 960) (j := 41) kbk_960 rfl)
theorem dL_law_1002 : decode cL_law 1002 = .ok (.goto 131, 3) := by decide +kernel
set_option maxRecDepth 20000 in
theorem mr_wsX8_copy_r1 : ∀ w ∈ wsX8_copy_r1, w ∈ lw_tbl := List.forall_mem_cons.mpr ⟨iw_4_22, List.forall_mem_cons.mpr ⟨iw_0_13, List.forall_mem_cons.mpr ⟨iw_5_12, List.forall_mem_cons.mpr ⟨iw_5_13, List.forall_mem_cons.mpr ⟨iw_29_21, List.forall_mem_cons.mpr ⟨iw_30_23, List.forall_mem_cons.mpr ⟨iw_31_0, List.forall_mem_cons.mpr ⟨iw_31_1, List.forall_mem_cons.mpr ⟨iw_31_2, List.forall_mem_cons.mpr ⟨iw_5_0, List.forall_mem_cons.mpr ⟨iw_5_1, List.forall_mem_cons.mpr ⟨iw_0_2, List.forall_mem_cons.mpr ⟨iw_5_2, List.forall_mem_cons.mpr ⟨iw_5_3, List.forall_mem_cons.mpr ⟨iw_5_4, List.forall_mem_cons.mpr ⟨iw_5_5, List.forall_mem_cons.mpr ⟨iw_5_20, List.forall_mem_cons.mpr ⟨iw_5_21, List.forall_mem_cons.mpr ⟨iw_5_22, List.forall_mem_cons.mpr ⟨iw_5_23, List.forall_mem_cons.mpr ⟨iw_5_14, List.forall_mem_cons.mpr ⟨iw_5_15, List.forall_mem_cons.mpr ⟨iw_5_16, List.forall_mem_cons.mpr ⟨iw_0_15, fun _ h9 => absurd h9 List.not_mem_nil⟩⟩⟩⟩⟩⟩⟩⟩⟩⟩⟩⟩⟩⟩⟩⟩⟩⟩⟩⟩⟩⟩⟩⟩
set_option maxRecDepth 20000 in
theorem mr_wsX8_copy_r2 : ∀ w ∈ wsX8_copy_r2, w ∈ lw_tbl := List.forall_mem_cons.mpr ⟨iw_5_17, List.forall_mem_cons.mpr ⟨iw_5_18, List.forall_mem_cons.mpr ⟨iw_5_19, fun _ h9 => absurd h9 List.not_mem_nil⟩⟩⟩
set_option maxRecDepth 20000 in
theorem ggL_law_X8_copy : GoodIn lw_tbl wsX8_copy := goodIn_3 _ (List.forall_mem_cons.mpr ⟨iw_30_22, List.forall_mem_append.mpr ⟨List.forall_mem_append.mpr ⟨List.forall_mem_append.mpr ⟨mr_wsX8_copy_r1, mr_wsX8_copy_r2⟩, inX8⟩, inX5⟩⟩) (by decide +kernel)
theorem gL_law_X8_copy : GoodIn lw_tbl (wsV RL 122 RX8 yX8_copy wsX8_copy) := goodIn_app (goodIn_3 _ (List.forall_mem_cons.mpr ⟨iw_30_19, List.forall_mem_cons.mpr ⟨iw_30_20, List.forall_mem_cons.mpr ⟨iw_30_21, List.forall_mem_cons.mpr ⟨iw_0_2, fun _ h9 => absurd h9 List.not_mem_nil⟩⟩⟩⟩) (by decide +kernel)) ggL_law_X8_copy
set_option maxRecDepth 20000 in
theorem ggL_law_X9_copy : GoodIn lw_tbl wsX9_copy := goodIn_3 _ (List.forall_mem_cons.mpr ⟨iw_31_6, List.forall_mem_append.mpr ⟨List.forall_mem_cons.mpr ⟨iw_11_2, List.forall_mem_cons.mpr ⟨iw_4_0, List.forall_mem_cons.mpr ⟨iw_4_1, List.forall_mem_cons.mpr ⟨iw_4_2, List.forall_mem_cons.mpr ⟨iw_11_8, List.forall_mem_cons.mpr ⟨iw_11_9, List.forall_mem_cons.mpr ⟨iw_0_5, List.forall_mem_cons.mpr ⟨iw_11_10, List.forall_mem_cons.mpr ⟨iw_11_11, List.forall_mem_cons.mpr ⟨iw_11_12, List.forall_mem_cons.mpr ⟨iw_11_13, List.forall_mem_cons.mpr ⟨iw_11_21, List.forall_mem_cons.mpr ⟨iw_11_22, List.forall_mem_cons.mpr ⟨iw_11_23, List.forall_mem_cons.mpr ⟨iw_12_0, fun _ h9 => absurd h9 List.not_mem_nil⟩⟩⟩⟩⟩⟩⟩⟩⟩⟩⟩⟩⟩⟩⟩, inX9⟩⟩) (by decide +kernel)
theorem gL_law_X9_copy : GoodIn lw_tbl (wsV RL 125 RX9 yX9_copy wsX9_copy) := goodIn_app (goodIn_3 _ (List.forall_mem_cons.mpr ⟨iw_31_3, List.forall_mem_cons.mpr ⟨iw_31_4, List.forall_mem_cons.mpr ⟨iw_31_5, List.forall_mem_cons.mpr ⟨iw_0_5, fun _ h9 => absurd h9 List.not_mem_nil⟩⟩⟩⟩) (by decide +kernel)) ggL_law_X9_copy
theorem dL_law_1005 : decode cL_law 1005 = .ok (.aload_n 1, 1) := kop_2b (show kBy cL_law 1005 43 from kbyte (k := 960) (j := 45) kbk_960 rfl)
theorem dL_law_1006 : decode cL_law 1006 = .ok (.aload_n 0, 1) := kop_2a (show kBy cL_law 1006 42 from kbyte (k := 960) (j := 46) kbk_960 rfl)
theorem dL_law_1007 : decode cL_law 1007 = .ok (.iload_n 3, 1) := kop_1d (show kBy cL_law 1007 29 from kbyte (k := 960) (j := 47) kbk_960 rfl)
theorem dL_law_1008 : decode cL_law 1008 = .ok (.iconst 1, 1) := kop_04 (show kBy cL_law 1008 4 from kbyte (k := 960) (j := 48) kbk_960 rfl)
theorem dL_law_1009 : decode cL_law 1009 = .ok (.iadd, 1) := kop_60 (show kBy cL_law 1009 96 from kbyte (k := 960) (j := 49) kbk_960 rfl)
theorem dL_law_1010 : decode cL_law 1010 = .ok (.iaload, 1) := kop_2e (show kBy cL_law 1010 46 from kbyte (k := 960) (j := 50) kbk_960 rfl)
theorem dL_law_1011 : decode cL_law 1011 = .ok (.invokevirtual 126, 3) := kop_b6 (show kBy cL_law 1011 182 from kbyte (k := 960) (j := 51) kbk_960 rfl) (show kBy cL_law 1012 0 from kbyte (k := 960) (j := 52) kbk_960 rfl) (show kBy cL_law 1013 126 from kbyte (k := 960) (j := 53) kbk_960 rfl) (by decide)
theorem dL_law_1014 : decode cL_law 1014 = .ok (.pop, 1) := kop_57 (show kBy cL_law 1014 87 from kbyte (k := 960) (j := 54) kbk_960 rfl)
theorem dL_law_1015 : decode cL_law 1015 = .ok (.aload_n 2, 1) := kop_2c (show kBy cL_law 1015 44 from kbyte (k := 960) (j := 55) kbk_960 rfl)
theorem dL_law_1016 : decode cL_law 1016 = .ok (.aload_n 0, 1) := kop_2a (show kBy cL_law 1016 42 from kbyte (k := 960) (j := 56) kbk_960 rfl)
theorem dL_law_1017 : decode cL_law 1017 = .ok (.iload_n 3, 1) := kop_1d (show kBy cL_law 1017 29 from kbyte (k := 960) (j := 57) kbk_960 rfl)
theorem dL_law_1018 : decode cL_law 1018 = .ok (.iconst 1, 1) := kop_04 (show kBy cL_law 1018 4 from kbyte (k := 960) (j := 58) kbk_960 rfl)
theorem dL_law_1019 : decode cL_law 1019 = .ok (.iadd, 1) := kop_60 (show kBy cL_law 1019 96 from kbyte (k := 960) (j := 59) kbk_960 rfl)
theorem dL_law_1020 : decode cL_law 1020 = .ok (.iaload, 1) := kop_2e (show kBy cL_law 1020 46 from kbyte (k := 960) (j := 60) kbk_960 rfl)
theorem dL_law_1021 : decode cL_law 1021 = .ok (.invokevirtual 129, 3) := kop_b6 (show kBy cL_law 1021 182 from kbyte (k := 960) (j := 61) kbk_960 rfl) (show kBy cL_law 1022 0 from kbyte (k := 960) (j := 62) kbk_960 rfl) (show kBy cL_law 1023 129 from kbyte (k := 960) (j := 63) kbk_960 rfl) (by decide)
theorem dL_law_1024 : decode cL_law 1024 = .ok (.pop, 1) := kop_57 (show kBy cL_law 1024 87 from kbyte (k := 1024) (j := 0) kbk_1024 rfl)
theorem dL_law_1025 : decode cL_law 1025 = .ok (.goto 108, 3) := by decide +kernel
set_option maxRecDepth 20000 in
theorem mr_wsX8_tell_r1 : ∀ w ∈ wsX8_tell_r1, w ∈ lw_tbl := List.forall_mem_cons.mpr ⟨iw_0_23, List.forall_mem_cons.mpr ⟨iw_13_0, List.forall_mem_cons.mpr ⟨iw_12_23, List.forall_mem_cons.mpr ⟨iw_13_2, List.forall_mem_cons.mpr ⟨iw_7_9, List.forall_mem_cons.mpr ⟨iw_7_10, List.forall_mem_cons.mpr ⟨iw_0_22, List.forall_mem_cons.mpr ⟨iw_7_11, List.forall_mem_cons.mpr ⟨iw_7_12, List.forall_mem_cons.mpr ⟨iw_5_4, List.forall_mem_cons.mpr ⟨iw_0_2, List.forall_mem_cons.mpr ⟨iw_5_5, List.forall_mem_cons.mpr ⟨iw_31_11, List.forall_mem_cons.mpr ⟨iw_31_12, List.forall_mem_cons.mpr ⟨iw_31_13, List.forall_mem_cons.mpr ⟨iw_31_14, List.forall_mem_cons.mpr ⟨iw_31_15, List.forall_mem_cons.mpr ⟨iw_31_16, List.forall_mem_cons.mpr ⟨iw_31_17, List.forall_mem_cons.mpr ⟨iw_31_18, List.forall_mem_cons.mpr ⟨iw_31_19, List.forall_mem_cons.mpr ⟨iw_31_20, List.forall_mem_cons.mpr ⟨iw_31_21, List.forall_mem_cons.mpr ⟨iw_31_22, fun _ h9 => absurd h9 List.not_mem_nil⟩⟩⟩⟩⟩⟩⟩⟩⟩⟩⟩⟩⟩⟩⟩⟩⟩⟩⟩⟩⟩⟩⟩⟩
set_option maxRecDepth 20000 in
theorem mr_wsX8_tell_r2 : ∀ w ∈ wsX8_tell_r2, w ∈ lw_tbl := List.forall_mem_cons.mpr ⟨iw_31_23, List.forall_mem_cons.mpr ⟨iw_32_0, List.forall_mem_cons.mpr ⟨iw_32_1, List.forall_mem_cons.mpr ⟨iw_32_2, List.forall_mem_cons.mpr ⟨iw_32_3, fun _ h9 => absurd h9 List.not_mem_nil⟩⟩⟩⟩⟩
set_option maxRecDepth 20000 in
theorem ggL_law_X8_tell : GoodIn lw_tbl wsX8_tell := goodIn_3 _ (List.forall_mem_cons.mpr ⟨iw_31_10, List.forall_mem_append.mpr ⟨List.forall_mem_append.mpr ⟨List.forall_mem_append.mpr ⟨mr_wsX8_tell_r1, mr_wsX8_tell_r2⟩, inX8⟩, inX0⟩⟩) (by decide +kernel)
theorem gL_law_X8_tell : GoodIn lw_tbl (wsV RL 126 RX8 yX8_tell wsX8_tell) := goodIn_app (goodIn_3 _ (List.forall_mem_cons.mpr ⟨iw_31_7, List.forall_mem_cons.mpr ⟨iw_31_8, List.forall_mem_cons.mpr ⟨iw_31_9, List.forall_mem_cons.mpr ⟨iw_0_2, fun _ h9 => absurd h9 List.not_mem_nil⟩⟩⟩⟩) (by decide +kernel)) ggL_law_X8_tell
set_option maxRecDepth 20000 in
theorem ggL_law_X9_tell : GoodIn lw_tbl wsX9_tell := goodIn_3 _ (List.forall_mem_cons.mpr ⟨iw_32_7, List.forall_mem_append.mpr ⟨List.forall_mem_cons.mpr ⟨iw_4_4, List.forall_mem_cons.mpr ⟨iw_4_3, List.forall_mem_cons.mpr ⟨iw_13_18, List.forall_mem_cons.mpr ⟨iw_13_19, List.forall_mem_cons.mpr ⟨iw_13_20, List.forall_mem_cons.mpr ⟨iw_0_5, List.forall_mem_cons.mpr ⟨iw_13_21, List.forall_mem_cons.mpr ⟨iw_11_5, List.forall_mem_cons.mpr ⟨iw_32_8, List.forall_mem_cons.mpr ⟨iw_32_9, List.forall_mem_cons.mpr ⟨iw_32_10, List.forall_mem_cons.mpr ⟨iw_32_11, List.forall_mem_cons.mpr ⟨iw_32_12, fun _ h9 => absurd h9 List.not_mem_nil⟩⟩⟩⟩⟩⟩⟩⟩⟩⟩⟩⟩⟩, inX9⟩⟩) (by decide +kernel)
theorem gL_law_X9_tell : GoodIn lw_tbl (wsV RL 129 RX9 yX9_tell wsX9_tell) := goodIn_app (goodIn_3 _ (List.forall_mem_cons.mpr ⟨iw_32_4, List.forall_mem_cons.mpr ⟨iw_32_5, List.forall_mem_cons.mpr ⟨iw_32_6, List.forall_mem_cons.mpr ⟨iw_0_5, fun _ h9 => absurd h9 List.not_mem_nil⟩⟩⟩⟩) (by decide +kernel)) ggL_law_X9_tell
theorem dL_law_1028 : decode cL_law 1028 = .ok (.aload_n 1, 1) := kop_2b (show kBy cL_law 1028 43 from kbyte (k := 1024) (j := 4) kbk_1024 rfl)
theorem dL_law_1029 : decode cL_law 1029 = .ok (.aload_n 0, 1) := kop_2a (show kBy cL_law 1029 42 from kbyte (k := 1024) (j := 5) kbk_1024 rfl)
theorem dL_law_1030 : decode cL_law 1030 = .ok (.iload_n 3, 1) := kop_1d (show kBy cL_law 1030 29 from kbyte (k := 1024) (j := 6) kbk_1024 rfl)
theorem dL_law_1031 : decode cL_law 1031 = .ok (.iconst 1, 1) := kop_04 (show kBy cL_law 1031 4 from kbyte (k := 1024) (j := 7) kbk_1024 rfl)
theorem dL_law_1032 : decode cL_law 1032 = .ok (.iadd, 1) := kop_60 (show kBy cL_law 1032 96 from kbyte (k := 1024) (j := 8) kbk_1024 rfl)
theorem dL_law_1033 : decode cL_law 1033 = .ok (.iaload, 1) := kop_2e (show kBy cL_law 1033 46 from kbyte (k := 1024) (j := 9) kbk_1024 rfl)
theorem dL_law_1034 : decode cL_law 1034 = .ok (.invokevirtual 130, 3) := kop_b6 (show kBy cL_law 1034 182 from kbyte (k := 1024) (j := 10) kbk_1024 rfl) (show kBy cL_law 1035 0 from kbyte (k := 1024) (j := 11) kbk_1024 rfl) (show kBy cL_law 1036 130 from kbyte (k := 1024) (j := 12) kbk_1024 rfl) (by decide)
theorem dL_law_1037 : decode cL_law 1037 = .ok (.pop, 1) := kop_57 (show kBy cL_law 1037 87 from kbyte (k := 1024) (j := 13) kbk_1024 rfl)
theorem dL_law_1038 : decode cL_law 1038 = .ok (.aload_n 2, 1) := kop_2c (show kBy cL_law 1038 44 from kbyte (k := 1024) (j := 14) kbk_1024 rfl)
theorem dL_law_1039 : decode cL_law 1039 = .ok (.aload_n 0, 1) := kop_2a (show kBy cL_law 1039 42 from kbyte (k := 1024) (j := 15) kbk_1024 rfl)
theorem dL_law_1040 : decode cL_law 1040 = .ok (.iload_n 3, 1) := kop_1d (show kBy cL_law 1040 29 from kbyte (k := 1024) (j := 16) kbk_1024 rfl)
theorem dL_law_1041 : decode cL_law 1041 = .ok (.iconst 1, 1) := kop_04 (show kBy cL_law 1041 4 from kbyte (k := 1024) (j := 17) kbk_1024 rfl)
theorem dL_law_1042 : decode cL_law 1042 = .ok (.iadd, 1) := kop_60 (show kBy cL_law 1042 96 from kbyte (k := 1024) (j := 18) kbk_1024 rfl)
theorem dL_law_1043 : decode cL_law 1043 = .ok (.iaload, 1) := kop_2e (show kBy cL_law 1043 46 from kbyte (k := 1024) (j := 19) kbk_1024 rfl)
theorem dL_law_1044 : decode cL_law 1044 = .ok (.invokevirtual 133, 3) := kop_b6 (show kBy cL_law 1044 182 from kbyte (k := 1024) (j := 20) kbk_1024 rfl) (show kBy cL_law 1045 0 from kbyte (k := 1024) (j := 21) kbk_1024 rfl) (show kBy cL_law 1046 133 from kbyte (k := 1024) (j := 22) kbk_1024 rfl) (by decide)
theorem dL_law_1047 : decode cL_law 1047 = .ok (.pop, 1) := kop_57 (show kBy cL_law 1047 87 from kbyte (k := 1024) (j := 23) kbk_1024 rfl)
theorem dL_law_1048 : decode cL_law 1048 = .ok (.goto 85, 3) := by decide +kernel
set_option maxRecDepth 20000 in
theorem ggL_law_X8_sample : GoodIn lw_tbl wsX8_sample := goodIn_3 _ (List.forall_mem_cons.mpr ⟨iw_32_16, List.forall_mem_append.mpr ⟨List.forall_mem_append.mpr ⟨List.forall_mem_cons.mpr ⟨iw_0_23, List.forall_mem_cons.mpr ⟨iw_12_23, List.forall_mem_cons.mpr ⟨iw_13_1, List.forall_mem_cons.mpr ⟨iw_13_2, List.forall_mem_cons.mpr ⟨iw_7_9, List.forall_mem_cons.mpr ⟨iw_7_10, List.forall_mem_cons.mpr ⟨iw_0_22, List.forall_mem_cons.mpr ⟨iw_7_11, List.forall_mem_cons.mpr ⟨iw_7_12, List.forall_mem_cons.mpr ⟨iw_5_4, List.forall_mem_cons.mpr ⟨iw_0_2, List.forall_mem_cons.mpr ⟨iw_5_5, List.forall_mem_cons.mpr ⟨iw_31_15, List.forall_mem_cons.mpr ⟨iw_31_16, List.forall_mem_cons.mpr ⟨iw_31_17, List.forall_mem_cons.mpr ⟨iw_31_18, List.forall_mem_cons.mpr ⟨iw_31_19, List.forall_mem_cons.mpr ⟨iw_25_17, List.forall_mem_cons.mpr ⟨iw_7_23, List.forall_mem_cons.mpr ⟨iw_8_0, List.forall_mem_cons.mpr ⟨iw_8_1, List.forall_mem_cons.mpr ⟨iw_8_2, List.forall_mem_cons.mpr ⟨iw_8_3, List.forall_mem_cons.mpr ⟨iw_8_4, fun _ h9 => absurd h9 List.not_mem_nil⟩⟩⟩⟩⟩⟩⟩⟩⟩⟩⟩⟩⟩⟩⟩⟩⟩⟩⟩⟩⟩⟩⟩⟩, inX8⟩, inX0⟩⟩) (by decide +kernel)
theorem gL_law_X8_sample : GoodIn lw_tbl (wsV RL 130 RX8 yX8_sample wsX8_sample) := goodIn_app (goodIn_3 _ (List.forall_mem_cons.mpr ⟨iw_32_13, List.forall_mem_cons.mpr ⟨iw_32_14, List.forall_mem_cons.mpr ⟨iw_32_15, List.forall_mem_cons.mpr ⟨iw_0_2, fun _ h9 => absurd h9 List.not_mem_nil⟩⟩⟩⟩) (by decide +kernel)) ggL_law_X8_sample
set_option maxRecDepth 20000 in
theorem ggL_law_X9_sample : GoodIn lw_tbl wsX9_sample := goodIn_3 _ (List.forall_mem_cons.mpr ⟨iw_32_20, List.forall_mem_append.mpr ⟨List.forall_mem_cons.mpr ⟨iw_4_3, List.forall_mem_cons.mpr ⟨iw_4_5, List.forall_mem_cons.mpr ⟨iw_13_18, List.forall_mem_cons.mpr ⟨iw_13_19, List.forall_mem_cons.mpr ⟨iw_13_20, List.forall_mem_cons.mpr ⟨iw_0_5, List.forall_mem_cons.mpr ⟨iw_13_21, List.forall_mem_cons.mpr ⟨iw_11_5, List.forall_mem_cons.mpr ⟨iw_32_8, List.forall_mem_cons.mpr ⟨iw_32_9, List.forall_mem_cons.mpr ⟨iw_32_10, List.forall_mem_cons.mpr ⟨iw_32_11, List.forall_mem_cons.mpr ⟨iw_32_12, List.forall_mem_cons.mpr ⟨iw_12_13, List.forall_mem_cons.mpr ⟨iw_12_14, List.forall_mem_cons.mpr ⟨iw_12_15, fun _ h9 => absurd h9 List.not_mem_nil⟩⟩⟩⟩⟩⟩⟩⟩⟩⟩⟩⟩⟩⟩⟩⟩, inX9⟩⟩) (by decide +kernel)
theorem gL_law_X9_sample : GoodIn lw_tbl (wsV RL 133 RX9 yX9_sample wsX9_sample) := goodIn_app (goodIn_3 _ (List.forall_mem_cons.mpr ⟨iw_32_17, List.forall_mem_cons.mpr ⟨iw_32_18, List.forall_mem_cons.mpr ⟨iw_32_19, List.forall_mem_cons.mpr ⟨iw_0_5, fun _ h9 => absurd h9 List.not_mem_nil⟩⟩⟩⟩) (by decide +kernel)) ggL_law_X9_sample
