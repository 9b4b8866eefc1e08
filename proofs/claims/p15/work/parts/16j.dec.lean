theorem dL_law_1050 : decode cL_law 1050 = .ok (.aload_n 1, 1) := kop_2b (show kBy cL_law 1050 43 from kbyte (k := 1024) (j := 26) kbk_1024 rfl)
theorem dL_law_1051 : decode cL_law 1051 = .ok (.aload_n 0, 1) := kop_2a (show kBy cL_law 1051 42 from kbyte (k := 1024) (j := 27) kbk_1024 rfl)
theorem dL_law_1052 : decode cL_law 1052 = .ok (.iload_n 3, 1) := kop_1d (show kBy cL_law 1052 29 from kbyte (k := 1024) (j := 28) kbk_1024 rfl)
theorem dL_law_1053 : decode cL_law 1053 = .ok (.iconst 1, 1) := kop_04 (show kBy cL_law 1053 4 from kbyte (k := 1024) (j := 29) kbk_1024 rfl)
theorem dL_law_1054 : decode cL_law 1054 = .ok (.iadd, 1) := kop_60 (show kBy cL_law 1054 96 from kbyte (k := 1024) (j := 30) kbk_1024 rfl)
theorem dL_law_1055 : decode cL_law 1055 = .ok (.iaload, 1) := kop_2e (show kBy cL_law 1055 46 from kbyte (k := 1024) (j := 31) kbk_1024 rfl)
theorem dL_law_1056 : decode cL_law 1056 = .ok (.aload_n 0, 1) := kop_2a (show kBy cL_law 1056 42 from kbyte (k := 1024) (j := 32) kbk_1024 rfl)
theorem dL_law_1057 : decode cL_law 1057 = .ok (.iload_n 3, 1) := kop_1d (show kBy cL_law 1057 29 from kbyte (k := 1024) (j := 33) kbk_1024 rfl)
theorem dL_law_1058 : decode cL_law 1058 = .ok (.iconst 2, 1) := kop_05 (show kBy cL_law 1058 5 from kbyte (k := 1024) (j := 34) kbk_1024 rfl)
theorem dL_law_1059 : decode cL_law 1059 = .ok (.iadd, 1) := kop_60 (show kBy cL_law 1059 96 from kbyte (k := 1024) (j := 35) kbk_1024 rfl)
theorem dL_law_1060 : decode cL_law 1060 = .ok (.iaload, 1) := kop_2e (show kBy cL_law 1060 46 from kbyte (k := 1024) (j := 36) kbk_1024 rfl)
theorem dL_law_1061 : decode cL_law 1061 = .ok (.invokevirtual 134, 3) := kop_b6 (show kBy cL_law 1061 182 from kbyte (k := 1024) (j := 37) kbk_1024 rfl) (show kBy cL_law 1062 0 from kbyte (k := 1024) (j := 38) kbk_1024 rfl) (show kBy cL_law 1063 134 from kbyte (k := 1024) (j := 39) kbk_1024 rfl) (by decide)
theorem dL_law_1064 : decode cL_law 1064 = .ok (.pop, 1) := kop_57 (show kBy cL_law 1064 87 from kbyte (k := 1024) (j := 40) kbk_1024 rfl)
theorem dL_law_1065 : decode cL_law 1065 = .ok (.aload_n 2, 1) := kop_2c (show kBy cL_law 1065 44 from kbyte (k := 1024) (j := 41) kbk_1024 rfl)
theorem dL_law_1066 : decode cL_law 1066 = .ok (.aload_n 0, 1) := kop_2a (show kBy cL_law 1066 42 from kbyte (k := 1024) (j := 42) kbk_1024 rfl)
theorem dL_law_1067 : decode cL_law 1067 = .ok (.iload_n 3, 1) := kop_1d (show kBy cL_law 1067 29 from kbyte (k := 1024) (j := 43) kbk_1024 rfl)
theorem dL_law_1068 : decode cL_law 1068 = .ok (.iconst 1, 1) := kop_04 (show kBy cL_law 1068 4 from kbyte (k := 1024) (j := 44) kbk_1024 rfl)
theorem dL_law_1069 : decode cL_law 1069 = .ok (.iadd, 1) := kop_60 (show kBy cL_law 1069 96 from kbyte (k := 1024) (j := 45) kbk_1024 rfl)
theorem dL_law_1070 : decode cL_law 1070 = .ok (.iaload, 1) := kop_2e (show kBy cL_law 1070 46 from kbyte (k := 1024) (j := 46) kbk_1024 rfl)
theorem dL_law_1071 : decode cL_law 1071 = .ok (.aload_n 0, 1) := kop_2a (show kBy cL_law 1071 42 from kbyte (k := 1024) (j := 47) kbk_1024 rfl)
theorem dL_law_1072 : decode cL_law 1072 = .ok (.iload_n 3, 1) := kop_1d (show kBy cL_law 1072 29 from kbyte (k := 1024) (j := 48) kbk_1024 rfl)
theorem dL_law_1073 : decode cL_law 1073 = .ok (.iconst 2, 1) := kop_05 (show kBy cL_law 1073 5 from kbyte (k := 1024) (j := 49) kbk_1024 rfl)
theorem dL_law_1074 : decode cL_law 1074 = .ok (.iadd, 1) := kop_60 (show kBy cL_law 1074 96 from kbyte (k := 1024) (j := 50) kbk_1024 rfl)
theorem dL_law_1075 : decode cL_law 1075 = .ok (.iaload, 1) := kop_2e (show kBy cL_law 1075 46 from kbyte (k := 1024) (j := 51) kbk_1024 rfl)
theorem dL_law_1076 : decode cL_law 1076 = .ok (.invokevirtual 137, 3) := kop_b6 (show kBy cL_law 1076 182 from kbyte (k := 1024) (j := 52) kbk_1024 rfl) (show kBy cL_law 1077 0 from kbyte (k := 1024) (j := 53) kbk_1024 rfl) (show kBy cL_law 1078 137 from kbyte (k := 1024) (j := 54) kbk_1024 rfl) (by decide)
theorem dL_law_1079 : decode cL_law 1079 = .ok (.pop, 1) := kop_57 (show kBy cL_law 1079 87 from kbyte (k := 1024) (j := 55) kbk_1024 rfl)
theorem dL_law_1080 : decode cL_law 1080 = .ok (.goto 52, 3) := by decide +kernel
set_option maxRecDepth 20000 in
theorem ggL_law_X8_as : GoodIn lw_tbl wsX8_as := goodIn_3 _ (List.forall_mem_cons.mpr ⟨iw_33_0, List.forall_mem_append.mpr ⟨List.forall_mem_append.mpr ⟨List.forall_mem_cons.mpr ⟨iw_4_22, List.forall_mem_cons.mpr ⟨iw_0_23, List.forall_mem_cons.mpr ⟨iw_12_23, List.forall_mem_cons.mpr ⟨iw_13_2, List.forall_mem_cons.mpr ⟨iw_7_9, List.forall_mem_cons.mpr ⟨iw_7_10, List.forall_mem_cons.mpr ⟨iw_0_22, List.forall_mem_cons.mpr ⟨iw_7_11, List.forall_mem_cons.mpr ⟨iw_7_12, List.forall_mem_cons.mpr ⟨iw_5_4, List.forall_mem_cons.mpr ⟨iw_0_2, List.forall_mem_cons.mpr ⟨iw_5_5, List.forall_mem_cons.mpr ⟨iw_5_3, List.forall_mem_cons.mpr ⟨iw_5_20, List.forall_mem_cons.mpr ⟨iw_5_21, List.forall_mem_cons.mpr ⟨iw_5_22, List.forall_mem_cons.mpr ⟨iw_5_23, fun _ h9 => absurd h9 List.not_mem_nil⟩⟩⟩⟩⟩⟩⟩⟩⟩⟩⟩⟩⟩⟩⟩⟩⟩, inX8⟩, inX0⟩⟩) (by decide +kernel)
theorem gL_law_X8_as : GoodIn lw_tbl (wsV RL 134 RX8 yX8_as wsX8_as) := goodIn_app (goodIn_3 _ (List.forall_mem_cons.mpr ⟨iw_32_21, List.forall_mem_cons.mpr ⟨iw_32_22, List.forall_mem_cons.mpr ⟨iw_32_23, List.forall_mem_cons.mpr ⟨iw_0_2, fun _ h9 => absurd h9 List.not_mem_nil⟩⟩⟩⟩) (by decide +kernel)) ggL_law_X8_as
set_option maxRecDepth 20000 in
theorem ggL_law_X9_as : GoodIn lw_tbl wsX9_as := goodIn_3 _ (List.forall_mem_cons.mpr ⟨iw_33_4, List.forall_mem_append.mpr ⟨List.forall_mem_cons.mpr ⟨iw_11_2, List.forall_mem_cons.mpr ⟨iw_4_3, List.forall_mem_cons.mpr ⟨iw_13_18, List.forall_mem_cons.mpr ⟨iw_13_19, List.forall_mem_cons.mpr ⟨iw_13_20, List.forall_mem_cons.mpr ⟨iw_0_5, List.forall_mem_cons.mpr ⟨iw_13_21, List.forall_mem_cons.mpr ⟨iw_11_5, List.forall_mem_cons.mpr ⟨iw_11_11, List.forall_mem_cons.mpr ⟨iw_11_12, List.forall_mem_cons.mpr ⟨iw_11_13, List.forall_mem_cons.mpr ⟨iw_11_21, List.forall_mem_cons.mpr ⟨iw_11_22, List.forall_mem_cons.mpr ⟨iw_11_23, List.forall_mem_cons.mpr ⟨iw_12_0, fun _ h9 => absurd h9 List.not_mem_nil⟩⟩⟩⟩⟩⟩⟩⟩⟩⟩⟩⟩⟩⟩⟩, inX9⟩⟩) (by decide +kernel)
theorem gL_law_X9_as : GoodIn lw_tbl (wsV RL 137 RX9 yX9_as wsX9_as) := goodIn_app (goodIn_3 _ (List.forall_mem_cons.mpr ⟨iw_33_1, List.forall_mem_cons.mpr ⟨iw_33_2, List.forall_mem_cons.mpr ⟨iw_33_3, List.forall_mem_cons.mpr ⟨iw_0_5, fun _ h9 => absurd h9 List.not_mem_nil⟩⟩⟩⟩) (by decide +kernel)) ggL_law_X9_as
theorem dL_law_1083 : decode cL_law 1083 = .ok (.aload_n 1, 1) := kop_2b (show kBy cL_law 1083 43 from kbyte (k := 1024) (j := 59) kbk_1024 rfl)
theorem dL_law_1084 : decode cL_law 1084 = .ok (.invokevirtual 138, 3) := kop_b6 (show kBy cL_law 1084 182 from kbyte (k := 1024) (j := 60) kbk_1024 rfl) (show kBy cL_law 1085 0 from kbyte (k := 1024) (j := 61) kbk_1024 rfl) (show kBy cL_law 1086 138 from kbyte (k := 1024) (j := 62) kbk_1024 rfl) (by decide)
theorem dL_law_1087 : decode cL_law 1087 = .ok (.pop, 1) := kop_57 (show kBy cL_law 1087 87 from kbyte (k := 1024) (j := 63) kbk_1024 rfl)
theorem dL_law_1088 : decode cL_law 1088 = .ok (.aload_n 2, 1) := kop_2c (show kBy cL_law 1088 44 from kbyte (k := 1088) (j := 0) kbk_1088 rfl)
theorem dL_law_1089 : decode cL_law 1089 = .ok (.invokevirtual 141, 3) := kop_b6 (show kBy cL_law 1089 182 from kbyte (k := 1088) (j := 1) kbk_1088 rfl) (show kBy cL_law 1090 0 from kbyte (k := 1088) (j := 2) kbk_1088 rfl) (show kBy cL_law 1091 141 from kbyte (k := 1088) (j := 3) kbk_1088 rfl) (by decide)
theorem dL_law_1092 : decode cL_law 1092 = .ok (.pop, 1) := kop_57 (show kBy cL_law 1092 87 from kbyte (k := 1088) (j := 4) kbk_1088 rfl)
theorem dL_law_1093 : decode cL_law 1093 = .ok (.goto 39, 3) := by decide +kernel
set_option maxRecDepth 20000 in
theorem ggL_law_X8_trace : GoodIn lw_tbl wsX8_trace := goodIn_3 _ (List.forall_mem_cons.mpr ⟨iw_33_8, List.forall_mem_append.mpr ⟨List.forall_mem_cons.mpr ⟨iw_31_19, fun _ h9 => absurd h9 List.not_mem_nil⟩, inX8⟩⟩) (by decide +kernel)
theorem gL_law_X8_trace : GoodIn lw_tbl (wsV RL 138 RX8 yX8_trace wsX8_trace) := goodIn_app (goodIn_3 _ (List.forall_mem_cons.mpr ⟨iw_33_5, List.forall_mem_cons.mpr ⟨iw_33_6, List.forall_mem_cons.mpr ⟨iw_33_7, List.forall_mem_cons.mpr ⟨iw_0_2, fun _ h9 => absurd h9 List.not_mem_nil⟩⟩⟩⟩) (by decide +kernel)) ggL_law_X8_trace
set_option maxRecDepth 20000 in
theorem ggL_law_X9_trace : GoodIn lw_tbl wsX9_trace := goodIn_3 _ (List.forall_mem_cons.mpr ⟨iw_33_12, List.forall_mem_append.mpr ⟨List.forall_mem_cons.mpr ⟨iw_32_12, fun _ h9 => absurd h9 List.not_mem_nil⟩, inX9⟩⟩) (by decide +kernel)
theorem gL_law_X9_trace : GoodIn lw_tbl (wsV RL 141 RX9 yX9_trace wsX9_trace) := goodIn_app (goodIn_3 _ (List.forall_mem_cons.mpr ⟨iw_33_9, List.forall_mem_cons.mpr ⟨iw_33_10, List.forall_mem_cons.mpr ⟨iw_33_11, List.forall_mem_cons.mpr ⟨iw_0_5, fun _ h9 => absurd h9 List.not_mem_nil⟩⟩⟩⟩) (by decide +kernel)) ggL_law_X9_trace
theorem dL_law_1096 : decode cL_law 1096 = .ok (.aload_n 1, 1) := kop_2b (show kBy cL_law 1096 43 from kbyte (k := 1088) (j := 8) kbk_1088 rfl)
theorem dL_law_1097 : decode cL_law 1097 = .ok (.invokevirtual 142, 3) := kop_b6 (show kBy cL_law 1097 182 from kbyte (k := 1088) (j := 9) kbk_1088 rfl) (show kBy cL_law 1098 0 from kbyte (k := 1088) (j := 10) kbk_1088 rfl) (show kBy cL_law 1099 142 from kbyte (k := 1088) (j := 11) kbk_1088 rfl) (by decide)
theorem dL_law_1100 : decode cL_law 1100 = .ok (.pop, 1) := kop_57 (show kBy cL_law 1100 87 from kbyte (k := 1088) (j := 12) kbk_1088 rfl)
theorem dL_law_1101 : decode cL_law 1101 = .ok (.aload_n 2, 1) := kop_2c (show kBy cL_law 1101 44 from kbyte (k := 1088) (j := 13) kbk_1088 rfl)
theorem dL_law_1102 : decode cL_law 1102 = .ok (.invokevirtual 145, 3) := kop_b6 (show kBy cL_law 1102 182 from kbyte (k := 1088) (j := 14) kbk_1088 rfl) (show kBy cL_law 1103 0 from kbyte (k := 1088) (j := 15) kbk_1088 rfl) (show kBy cL_law 1104 145 from kbyte (k := 1088) (j := 16) kbk_1088 rfl) (by decide)
theorem dL_law_1105 : decode cL_law 1105 = .ok (.pop, 1) := kop_57 (show kBy cL_law 1105 87 from kbyte (k := 1088) (j := 17) kbk_1088 rfl)
theorem dL_law_1106 : decode cL_law 1106 = .ok (.goto 26, 3) := by decide +kernel
set_option maxRecDepth 20000 in
theorem ggL_law_X8_fault : GoodIn lw_tbl wsX8_fault := goodIn_3 _ (List.forall_mem_cons.mpr ⟨iw_33_16, List.forall_mem_append.mpr ⟨List.forall_mem_cons.mpr ⟨iw_4_22, fun _ h9 => absurd h9 List.not_mem_nil⟩, inX8⟩⟩) (by decide +kernel)
theorem gL_law_X8_fault : GoodIn lw_tbl (wsV RL 142 RX8 yX8_fault wsX8_fault) := goodIn_app (goodIn_3 _ (List.forall_mem_cons.mpr ⟨iw_33_13, List.forall_mem_cons.mpr ⟨iw_33_14, List.forall_mem_cons.mpr ⟨iw_33_15, List.forall_mem_cons.mpr ⟨iw_0_2, fun _ h9 => absurd h9 List.not_mem_nil⟩⟩⟩⟩) (by decide +kernel)) ggL_law_X8_fault
set_option maxRecDepth 20000 in
theorem ggL_law_X9_fault : GoodIn lw_tbl wsX9_fault := goodIn_3 _ (List.forall_mem_cons.mpr ⟨iw_33_20, List.forall_mem_append.mpr ⟨List.forall_mem_cons.mpr ⟨iw_11_2, fun _ h9 => absurd h9 List.not_mem_nil⟩, inX9⟩⟩) (by decide +kernel)
theorem gL_law_X9_fault : GoodIn lw_tbl (wsV RL 145 RX9 yX9_fault wsX9_fault) := goodIn_app (goodIn_3 _ (List.forall_mem_cons.mpr ⟨iw_33_17, List.forall_mem_cons.mpr ⟨iw_33_18, List.forall_mem_cons.mpr ⟨iw_33_19, List.forall_mem_cons.mpr ⟨iw_0_5, fun _ h9 => absurd h9 List.not_mem_nil⟩⟩⟩⟩) (by decide +kernel)) ggL_law_X9_fault
theorem dL_law_1109 : decode cL_law 1109 = .ok (.aload_n 1, 1) := kop_2b (show kBy cL_law 1109 43 from kbyte (k := 1088) (j := 21) kbk_1088 rfl)
theorem dL_law_1110 : decode cL_law 1110 = .ok (.aload_n 0, 1) := kop_2a (show kBy cL_law 1110 42 from kbyte (k := 1088) (j := 22) kbk_1088 rfl)
theorem dL_law_1111 : decode cL_law 1111 = .ok (.iload_n 3, 1) := kop_1d (show kBy cL_law 1111 29 from kbyte (k := 1088) (j := 23) kbk_1088 rfl)
theorem dL_law_1112 : decode cL_law 1112 = .ok (.iconst 1, 1) := kop_04 (show kBy cL_law 1112 4 from kbyte (k := 1088) (j := 24) kbk_1088 rfl)
theorem dL_law_1113 : decode cL_law 1113 = .ok (.iadd, 1) := kop_60 (show kBy cL_law 1113 96 from kbyte (k := 1088) (j := 25) kbk_1088 rfl)
theorem dL_law_1114 : decode cL_law 1114 = .ok (.iaload, 1) := kop_2e (show kBy cL_law 1114 46 from kbyte (k := 1088) (j := 26) kbk_1088 rfl)
theorem dL_law_1115 : decode cL_law 1115 = .ok (.invokevirtual 146, 3) := kop_b6 (show kBy cL_law 1115 182 from kbyte (k := 1088) (j := 27) kbk_1088 rfl) (show kBy cL_law 1116 0 from kbyte (k := 1088) (j := 28) kbk_1088 rfl) (show kBy cL_law 1117 146 from kbyte (k := 1088) (j := 29) kbk_1088 rfl) (by decide)
theorem dL_law_1118 : decode cL_law 1118 = .ok (.pop, 1) := kop_57 (show kBy cL_law 1118 87 from kbyte (k := 1088) (j := 30) kbk_1088 rfl)
theorem dL_law_1119 : decode cL_law 1119 = .ok (.aload_n 2, 1) := kop_2c (show kBy cL_law 1119 44 from kbyte (k := 1088) (j := 31) kbk_1088 rfl)
theorem dL_law_1120 : decode cL_law 1120 = .ok (.aload_n 0, 1) := kop_2a (show kBy cL_law 1120 42 from kbyte (k := 1088) (j := 32) kbk_1088 rfl)
theorem dL_law_1121 : decode cL_law 1121 = .ok (.iload_n 3, 1) := kop_1d (show kBy cL_law 1121 29 from kbyte (k := 1088) (j := 33) kbk_1088 rfl)
theorem dL_law_1122 : decode cL_law 1122 = .ok (.iconst 1, 1) := kop_04 (show kBy cL_law 1122 4 from kbyte (k := 1088) (j := 34) kbk_1088 rfl)
theorem dL_law_1123 : decode cL_law 1123 = .ok (.iadd, 1) := kop_60 (show kBy cL_law 1123 96 from kbyte (k := 1088) (j := 35) kbk_1088 rfl)
theorem dL_law_1124 : decode cL_law 1124 = .ok (.iaload, 1) := kop_2e (show kBy cL_law 1124 46 from kbyte (k := 1088) (j := 36) kbk_1088 rfl)
theorem dL_law_1125 : decode cL_law 1125 = .ok (.invokevirtual 149, 3) := kop_b6 (show kBy cL_law 1125 182 from kbyte (k := 1088) (j := 37) kbk_1088 rfl) (show kBy cL_law 1126 0 from kbyte (k := 1088) (j := 38) kbk_1088 rfl) (show kBy cL_law 1127 149 from kbyte (k := 1088) (j := 39) kbk_1088 rfl) (by decide)
theorem dL_law_1128 : decode cL_law 1128 = .ok (.pop, 1) := kop_57 (show kBy cL_law 1128 87 from kbyte (k := 1088) (j := 40) kbk_1088 rfl)
theorem dL_law_1129 : decode cL_law 1129 = .ok (.goto 3, 3) := by decide +kernel
set_option maxRecDepth 20000 in
theorem ggL_law_X8_many : GoodIn lw_tbl wsX8_many := goodIn_3 _ (List.forall_mem_cons.mpr ⟨iw_34_0, List.forall_mem_append.mpr ⟨List.forall_mem_append.mpr ⟨List.forall_mem_append.mpr ⟨List.forall_mem_append.mpr ⟨List.forall_mem_append.mpr ⟨List.forall_mem_cons.mpr ⟨iw_0_23, List.forall_mem_cons.mpr ⟨iw_4_23, List.forall_mem_cons.mpr ⟨iw_1_3, List.forall_mem_cons.mpr ⟨iw_8_10, List.forall_mem_cons.mpr ⟨iw_1_15, List.forall_mem_cons.mpr ⟨iw_22_20, List.forall_mem_cons.mpr ⟨iw_1_19, List.forall_mem_cons.mpr ⟨iw_8_12, fun _ h9 => absurd h9 List.not_mem_nil⟩⟩⟩⟩⟩⟩⟩⟩, inX8⟩, inX0⟩, inX7⟩, inX4⟩, inX2⟩⟩) (by decide +kernel)
theorem gL_law_X8_many : GoodIn lw_tbl (wsV RL 146 RX8 yX8_many wsX8_many) := goodIn_app (goodIn_3 _ (List.forall_mem_cons.mpr ⟨iw_33_21, List.forall_mem_cons.mpr ⟨iw_33_22, List.forall_mem_cons.mpr ⟨iw_33_23, List.forall_mem_cons.mpr ⟨iw_0_2, fun _ h9 => absurd h9 List.not_mem_nil⟩⟩⟩⟩) (by decide +kernel)) ggL_law_X8_many
set_option maxRecDepth 20000 in
theorem ggL_law_X9_many : GoodIn lw_tbl wsX9_many := goodIn_3 _ (List.forall_mem_cons.mpr ⟨iw_34_4, List.forall_mem_append.mpr ⟨List.forall_mem_cons.mpr ⟨iw_11_5, List.forall_mem_cons.mpr ⟨iw_11_6, List.forall_mem_cons.mpr ⟨iw_17_10, List.forall_mem_cons.mpr ⟨iw_11_7, List.forall_mem_cons.mpr ⟨iw_17_21, List.forall_mem_cons.mpr ⟨iw_17_22, List.forall_mem_cons.mpr ⟨iw_17_23, List.forall_mem_cons.mpr ⟨iw_0_5, List.forall_mem_cons.mpr ⟨iw_18_0, List.forall_mem_cons.mpr ⟨iw_18_1, List.forall_mem_cons.mpr ⟨iw_4_8, List.forall_mem_cons.mpr ⟨iw_4_12, List.forall_mem_cons.mpr ⟨iw_4_13, List.forall_mem_cons.mpr ⟨iw_4_5, fun _ h9 => absurd h9 List.not_mem_nil⟩⟩⟩⟩⟩⟩⟩⟩⟩⟩⟩⟩⟩⟩, inX9⟩⟩) (by decide +kernel)
theorem gL_law_X9_many : GoodIn lw_tbl (wsV RL 149 RX9 yX9_many wsX9_many) := goodIn_app (goodIn_3 _ (List.forall_mem_cons.mpr ⟨iw_34_1, List.forall_mem_cons.mpr ⟨iw_34_2, List.forall_mem_cons.mpr ⟨iw_34_3, List.forall_mem_cons.mpr ⟨iw_0_5, fun _ h9 => absurd h9 List.not_mem_nil⟩⟩⟩⟩) (by decide +kernel)) ggL_law_X9_many
