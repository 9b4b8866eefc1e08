theorem dX9_findClusters_0 : decode cX9_findClusters 0 = .ok (.aload_n 0, 1) := kqo_2a kbl_X9_findClusters (pc := 0) rfl
theorem dX9_findClusters_1 : decode cX9_findClusters 1 = .ok (.iconst 0, 1) := kqo_03 kbl_X9_findClusters (pc := 1) rfl
theorem dX9_findClusters_2 : decode cX9_findClusters 2 = .ok (.putfield 138, 3) := kqo_b5 (x1 := 0) (x2 := 138) kbl_X9_findClusters (pc := 2) rfl rfl
theorem dX9_findClusters_5 : decode cX9_findClusters 5 = .ok (.aload_n 0, 1) := kqo_2a kbl_X9_findClusters (pc := 5) rfl
theorem dX9_findClusters_6 : decode cX9_findClusters 6 = .ok (.iconst 0, 1) := kqo_03 kbl_X9_findClusters (pc := 6) rfl
theorem dX9_findClusters_7 : decode cX9_findClusters 7 = .ok (.putfield 141, 3) := kqo_b5 (x1 := 0) (x2 := 141) kbl_X9_findClusters (pc := 7) rfl rfl
theorem dX9_findClusters_10 : decode cX9_findClusters 10 = .ok (.iconst 0, 1) := kqo_03 kbl_X9_findClusters (pc := 10) rfl
theorem dX9_findClusters_11 : decode cX9_findClusters 11 = .ok (.istore_n 2, 1) := kqo_3d kbl_X9_findClusters (pc := 11) rfl
theorem dX9_findClusters_12 : decode cX9_findClusters 12 = .ok (.iload_n 2, 1) := kqo_1c kbl_X9_findClusters (pc := 12) rfl
theorem dX9_findClusters_13 : decode cX9_findClusters 13 = .ok (.aload_n 0, 1) := kqo_2a kbl_X9_findClusters (pc := 13) rfl
theorem dX9_findClusters_14 : decode cX9_findClusters 14 = .ok (.getfield 101, 3) := kqo_b4 (x1 := 0) (x2 := 101) kbl_X9_findClusters (pc := 14) rfl rfl
theorem dX9_findClusters_17 : decode cX9_findClusters 17 = .ok (.if_icmp .ge 44, 3) := kqo_a2 (x1 := 0) (x2 := 44) kbl_X9_findClusters (pc := 17) rfl rfl
theorem dX9_findClusters_20 : decode cX9_findClusters 20 = .ok (.iload_n 2, 1) := kqo_1c kbl_X9_findClusters (pc := 20) rfl
theorem dX9_findClusters_21 : decode cX9_findClusters 21 = .ok (.ifCond .eq 14, 3) := kqo_99 (x1 := 0) (x2 := 14) kbl_X9_findClusters (pc := 21) rfl rfl
theorem dX9_findClusters_24 : decode cX9_findClusters 24 = .ok (.aload_n 0, 1) := kqo_2a kbl_X9_findClusters (pc := 24) rfl
theorem dX9_findClusters_25 : decode cX9_findClusters 25 = .ok (.getfield 34, 3) := kqo_b4 (x1 := 0) (x2 := 34) kbl_X9_findClusters (pc := 25) rfl rfl
theorem dX9_findClusters_28 : decode cX9_findClusters 28 = .ok (.iload_n 2, 1) := kqo_1c kbl_X9_findClusters (pc := 28) rfl
theorem dX9_findClusters_29 : decode cX9_findClusters 29 = .ok (.iaload, 1) := kqo_2e kbl_X9_findClusters (pc := 29) rfl
theorem dX9_findClusters_30 : decode cX9_findClusters 30 = .ok (.bipush 12, 2) := kqo_10 (x1 := 12) kbl_X9_findClusters (pc := 30) rfl rfl
theorem dX9_findClusters_32 : decode cX9_findClusters 32 = .ok (.if_icmp .ge 23, 3) := kqo_a2 (x1 := 0) (x2 := 23) kbl_X9_findClusters (pc := 32) rfl rfl
theorem dX9_findClusters_35 : decode cX9_findClusters 35 = .ok (.aload_n 0, 1) := kqo_2a kbl_X9_findClusters (pc := 35) rfl
theorem dX9_findClusters_36 : decode cX9_findClusters 36 = .ok (.getfield 46, 3) := kqo_b4 (x1 := 0) (x2 := 46) kbl_X9_findClusters (pc := 36) rfl rfl
theorem dX9_findClusters_39 : decode cX9_findClusters 39 = .ok (.aload_n 0, 1) := kqo_2a kbl_X9_findClusters (pc := 39) rfl
theorem dX9_findClusters_40 : decode cX9_findClusters 40 = .ok (.getfield 138, 3) := kqo_b4 (x1 := 0) (x2 := 138) kbl_X9_findClusters (pc := 40) rfl rfl
theorem dX9_findClusters_43 : decode cX9_findClusters 43 = .ok (.iload_n 2, 1) := kqo_1c kbl_X9_findClusters (pc := 43) rfl
theorem dX9_findClusters_44 : decode cX9_findClusters 44 = .ok (.iastore, 1) := kqo_4f kbl_X9_findClusters (pc := 44) rfl
theorem dX9_findClusters_45 : decode cX9_findClusters 45 = .ok (.aload_n 0, 1) := kqo_2a kbl_X9_findClusters (pc := 45) rfl
theorem dX9_findClusters_46 : decode cX9_findClusters 46 = .ok (.dup, 1) := kqo_59 kbl_X9_findClusters (pc := 46) rfl
theorem dX9_findClusters_47 : decode cX9_findClusters 47 = .ok (.getfield 138, 3) := kqo_b4 (x1 := 0) (x2 := 138) kbl_X9_findClusters (pc := 47) rfl rfl
theorem dX9_findClusters_50 : decode cX9_findClusters 50 = .ok (.iconst 1, 1) := kqo_04 kbl_X9_findClusters (pc := 50) rfl
theorem dX9_findClusters_51 : decode cX9_findClusters 51 = .ok (.iadd, 1) := kqo_60 kbl_X9_findClusters (pc := 51) rfl
theorem dX9_findClusters_52 : decode cX9_findClusters 52 = .ok (.putfield 138, 3) := kqo_b5 (x1 := 0) (x2 := 138) kbl_X9_findClusters (pc := 52) rfl rfl
theorem dX9_findClusters_55 : decode cX9_findClusters 55 = .ok (.iinc 2 1, 3) := kqo_84 (x1 := 2) (x2 := 1) kbl_X9_findClusters (pc := 55) rfl rfl
theorem dX9_findClusters_58 : decode cX9_findClusters 58 = .ok (.goto (-46), 3) := kqo_a7 (x1 := 255) (x2 := 210) kbl_X9_findClusters (pc := 58) rfl rfl
theorem dX9_findClusters_61 : decode cX9_findClusters 61 = .ok (.aload_n 0, 1) := kqo_2a kbl_X9_findClusters (pc := 61) rfl
theorem dX9_findClusters_62 : decode cX9_findClusters 62 = .ok (.getfield 46, 3) := kqo_b4 (x1 := 0) (x2 := 46) kbl_X9_findClusters (pc := 62) rfl rfl
theorem dX9_findClusters_65 : decode cX9_findClusters 65 = .ok (.aload_n 0, 1) := kqo_2a kbl_X9_findClusters (pc := 65) rfl
theorem dX9_findClusters_66 : decode cX9_findClusters 66 = .ok (.getfield 138, 3) := kqo_b4 (x1 := 0) (x2 := 138) kbl_X9_findClusters (pc := 66) rfl rfl
theorem dX9_findClusters_69 : decode cX9_findClusters 69 = .ok (.aload_n 0, 1) := kqo_2a kbl_X9_findClusters (pc := 69) rfl
theorem dX9_findClusters_70 : decode cX9_findClusters 70 = .ok (.getfield 101, 3) := kqo_b4 (x1 := 0) (x2 := 101) kbl_X9_findClusters (pc := 70) rfl rfl
theorem dX9_findClusters_73 : decode cX9_findClusters 73 = .ok (.iastore, 1) := kqo_4f kbl_X9_findClusters (pc := 73) rfl
theorem dX9_findClusters_74 : decode cX9_findClusters 74 = .ok (.iconst 0, 1) := kqo_03 kbl_X9_findClusters (pc := 74) rfl
theorem dX9_findClusters_75 : decode cX9_findClusters 75 = .ok (.istore_n 2, 1) := kqo_3d kbl_X9_findClusters (pc := 75) rfl
theorem dX9_findClusters_76 : decode cX9_findClusters 76 = .ok (.iload_n 2, 1) := kqo_1c kbl_X9_findClusters (pc := 76) rfl
theorem dX9_findClusters_77 : decode cX9_findClusters 77 = .ok (.aload_n 0, 1) := kqo_2a kbl_X9_findClusters (pc := 77) rfl
theorem dX9_findClusters_78 : decode cX9_findClusters 78 = .ok (.getfield 138, 3) := kqo_b4 (x1 := 0) (x2 := 138) kbl_X9_findClusters (pc := 78) rfl rfl
theorem dX9_findClusters_81 : decode cX9_findClusters 81 = .ok (.if_icmp .ge 135, 3) := kqo_a2 (x1 := 0) (x2 := 135) kbl_X9_findClusters (pc := 81) rfl rfl
theorem dX9_findClusters_84 : decode cX9_findClusters 84 = .ok (.iconst 0, 1) := kqo_03 kbl_X9_findClusters (pc := 84) rfl
theorem dX9_findClusters_85 : decode cX9_findClusters 85 = .ok (.istore_n 3, 1) := kqo_3e kbl_X9_findClusters (pc := 85) rfl
theorem dX9_findClusters_86 : decode cX9_findClusters 86 = .ok (.aload_n 0, 1) := kqo_2a kbl_X9_findClusters (pc := 86) rfl
theorem dX9_findClusters_87 : decode cX9_findClusters 87 = .ok (.getfield 46, 3) := kqo_b4 (x1 := 0) (x2 := 46) kbl_X9_findClusters (pc := 87) rfl rfl
theorem dX9_findClusters_90 : decode cX9_findClusters 90 = .ok (.iload_n 2, 1) := kqo_1c kbl_X9_findClusters (pc := 90) rfl
theorem dX9_findClusters_91 : decode cX9_findClusters 91 = .ok (.iaload, 1) := kqo_2e kbl_X9_findClusters (pc := 91) rfl
theorem dX9_findClusters_92 : decode cX9_findClusters 92 = .ok (.istore 4, 2) := kqo_36 (x1 := 4) kbl_X9_findClusters (pc := 92) rfl rfl
theorem dX9_findClusters_94 : decode cX9_findClusters 94 = .ok (.iload 4, 2) := kqo_15 (x1 := 4) kbl_X9_findClusters (pc := 94) rfl rfl
theorem dX9_findClusters_96 : decode cX9_findClusters 96 = .ok (.aload_n 0, 1) := kqo_2a kbl_X9_findClusters (pc := 96) rfl
theorem dX9_findClusters_97 : decode cX9_findClusters 97 = .ok (.getfield 46, 3) := kqo_b4 (x1 := 0) (x2 := 46) kbl_X9_findClusters (pc := 97) rfl rfl
theorem dX9_findClusters_100 : decode cX9_findClusters 100 = .ok (.iload_n 2, 1) := kqo_1c kbl_X9_findClusters (pc := 100) rfl
theorem dX9_findClusters_101 : decode cX9_findClusters 101 = .ok (.iconst 1, 1) := kqo_04 kbl_X9_findClusters (pc := 101) rfl
theorem dX9_findClusters_102 : decode cX9_findClusters 102 = .ok (.iadd, 1) := kqo_60 kbl_X9_findClusters (pc := 102) rfl
theorem dX9_findClusters_103 : decode cX9_findClusters 103 = .ok (.iaload, 1) := kqo_2e kbl_X9_findClusters (pc := 103) rfl
theorem dX9_findClusters_104 : decode cX9_findClusters 104 = .ok (.if_icmp .ge 21, 3) := kqo_a2 (x1 := 0) (x2 := 21) kbl_X9_findClusters (pc := 104) rfl rfl
theorem dX9_findClusters_107 : decode cX9_findClusters 107 = .ok (.iload_n 3, 1) := kqo_1d kbl_X9_findClusters (pc := 107) rfl
theorem dX9_findClusters_108 : decode cX9_findClusters 108 = .ok (.iconst 1, 1) := kqo_04 kbl_X9_findClusters (pc := 108) rfl
theorem dX9_findClusters_109 : decode cX9_findClusters 109 = .ok (.aload_n 0, 1) := kqo_2a kbl_X9_findClusters (pc := 109) rfl
theorem dX9_findClusters_110 : decode cX9_findClusters 110 = .ok (.getfield 34, 3) := kqo_b4 (x1 := 0) (x2 := 34) kbl_X9_findClusters (pc := 110) rfl rfl
theorem dX9_findClusters_113 : decode cX9_findClusters 113 = .ok (.iload 4, 2) := kqo_15 (x1 := 4) kbl_X9_findClusters (pc := 113) rfl rfl
theorem dX9_findClusters_115 : decode cX9_findClusters 115 = .ok (.iaload, 1) := kqo_2e kbl_X9_findClusters (pc := 115) rfl
theorem dX9_findClusters_116 : decode cX9_findClusters 116 = .ok (.ishl, 1) := kqo_78 kbl_X9_findClusters (pc := 116) rfl
theorem dX9_findClusters_117 : decode cX9_findClusters 117 = .ok (.ior, 1) := kqo_80 kbl_X9_findClusters (pc := 117) rfl
theorem dX9_findClusters_118 : decode cX9_findClusters 118 = .ok (.istore_n 3, 1) := kqo_3e kbl_X9_findClusters (pc := 118) rfl
theorem dX9_findClusters_119 : decode cX9_findClusters 119 = .ok (.iinc 4 1, 3) := kqo_84 (x1 := 4) (x2 := 1) kbl_X9_findClusters (pc := 119) rfl rfl
theorem dX9_findClusters_122 : decode cX9_findClusters 122 = .ok (.goto (-28), 3) := kqo_a7 (x1 := 255) (x2 := 228) kbl_X9_findClusters (pc := 122) rfl rfl
theorem dX9_findClusters_125 : decode cX9_findClusters 125 = .ok (.aload_n 0, 1) := kqo_2a kbl_X9_findClusters (pc := 125) rfl
theorem dX9_findClusters_126 : decode cX9_findClusters 126 = .ok (.getfield 49, 3) := kqo_b4 (x1 := 0) (x2 := 49) kbl_X9_findClusters (pc := 126) rfl rfl
theorem dX9_findClusters_129 : decode cX9_findClusters 129 = .ok (.iload_n 2, 1) := kqo_1c kbl_X9_findClusters (pc := 129) rfl
theorem dX9_findClusters_130 : decode cX9_findClusters 130 = .ok (.iconst 0, 1) := kqo_03 kbl_X9_findClusters (pc := 130) rfl
theorem dX9_findClusters_131 : decode cX9_findClusters 131 = .ok (.iastore, 1) := kqo_4f kbl_X9_findClusters (pc := 131) rfl
theorem dX9_findClusters_132 : decode cX9_findClusters 132 = .ok (.iconst 0, 1) := kqo_03 kbl_X9_findClusters (pc := 132) rfl
theorem dX9_findClusters_133 : decode cX9_findClusters 133 = .ok (.istore 4, 2) := kqo_36 (x1 := 4) kbl_X9_findClusters (pc := 133) rfl rfl
theorem dX9_findClusters_135 : decode cX9_findClusters 135 = .ok (.iload 4, 2) := kqo_15 (x1 := 4) kbl_X9_findClusters (pc := 135) rfl rfl
theorem dX9_findClusters_137 : decode cX9_findClusters 137 = .ok (.aload_n 0, 1) := kqo_2a kbl_X9_findClusters (pc := 137) rfl
theorem dX9_findClusters_138 : decode cX9_findClusters 138 = .ok (.getfield 74, 3) := kqo_b4 (x1 := 0) (x2 := 74) kbl_X9_findClusters (pc := 138) rfl rfl
theorem dX9_findClusters_141 : decode cX9_findClusters 141 = .ok (.if_icmp .ge 46, 3) := kqo_a2 (x1 := 0) (x2 := 46) kbl_X9_findClusters (pc := 141) rfl rfl
theorem dX9_findClusters_144 : decode cX9_findClusters 144 = .ok (.aload_n 0, 1) := kqo_2a kbl_X9_findClusters (pc := 144) rfl
theorem dX9_findClusters_145 : decode cX9_findClusters 145 = .ok (.getfield 49, 3) := kqo_b4 (x1 := 0) (x2 := 49) kbl_X9_findClusters (pc := 145) rfl rfl
theorem dX9_findClusters_148 : decode cX9_findClusters 148 = .ok (.iload_n 2, 1) := kqo_1c kbl_X9_findClusters (pc := 148) rfl
theorem dX9_findClusters_149 : decode cX9_findClusters 149 = .ok (.dup2, 1) := kqo_5c kbl_X9_findClusters (pc := 149) rfl
theorem dX9_findClusters_150 : decode cX9_findClusters 150 = .ok (.iaload, 1) := kqo_2e kbl_X9_findClusters (pc := 150) rfl
theorem dX9_findClusters_151 : decode cX9_findClusters 151 = .ok (.iload 4, 2) := kqo_15 (x1 := 4) kbl_X9_findClusters (pc := 151) rfl rfl
theorem dX9_findClusters_153 : decode cX9_findClusters 153 = .ok (.iload_n 1, 1) := kqo_1b kbl_X9_findClusters (pc := 153) rfl
theorem dX9_findClusters_154 : decode cX9_findClusters 154 = .ok (.if_icmp .eq 24, 3) := kqo_9f (x1 := 0) (x2 := 24) kbl_X9_findClusters (pc := 154) rfl rfl
theorem dX9_findClusters_157 : decode cX9_findClusters 157 = .ok (.iload_n 3, 1) := kqo_1d kbl_X9_findClusters (pc := 157) rfl
theorem dX9_findClusters_158 : decode cX9_findClusters 158 = .ok (.aload_n 0, 1) := kqo_2a kbl_X9_findClusters (pc := 158) rfl
theorem dX9_findClusters_159 : decode cX9_findClusters 159 = .ok (.getfield 25, 3) := kqo_b4 (x1 := 0) (x2 := 25) kbl_X9_findClusters (pc := 159) rfl rfl
theorem dX9_findClusters_162 : decode cX9_findClusters 162 = .ok (.iload 4, 2) := kqo_15 (x1 := 4) kbl_X9_findClusters (pc := 162) rfl rfl
theorem dX9_findClusters_164 : decode cX9_findClusters 164 = .ok (.iaload, 1) := kqo_2e kbl_X9_findClusters (pc := 164) rfl
theorem dX9_findClusters_165 : decode cX9_findClusters 165 = .ok (.iconst (-1), 1) := kqo_02 kbl_X9_findClusters (pc := 165) rfl
theorem dX9_findClusters_166 : decode cX9_findClusters 166 = .ok (.ixor, 1) := kqo_82 kbl_X9_findClusters (pc := 166) rfl
theorem dX9_findClusters_167 : decode cX9_findClusters 167 = .ok (.iand, 1) := kqo_7e kbl_X9_findClusters (pc := 167) rfl
theorem dX9_findClusters_168 : decode cX9_findClusters 168 = .ok (.ifCond .ne 10, 3) := kqo_9a (x1 := 0) (x2 := 10) kbl_X9_findClusters (pc := 168) rfl rfl
theorem dX9_findClusters_171 : decode cX9_findClusters 171 = .ok (.iconst 1, 1) := kqo_04 kbl_X9_findClusters (pc := 171) rfl
theorem dX9_findClusters_172 : decode cX9_findClusters 172 = .ok (.iload 4, 2) := kqo_15 (x1 := 4) kbl_X9_findClusters (pc := 172) rfl rfl
theorem dX9_findClusters_174 : decode cX9_findClusters 174 = .ok (.ishl, 1) := kqo_78 kbl_X9_findClusters (pc := 174) rfl
theorem dX9_findClusters_175 : decode cX9_findClusters 175 = .ok (.goto 4, 3) := kqo_a7 (x1 := 0) (x2 := 4) kbl_X9_findClusters (pc := 175) rfl rfl
theorem dX9_findClusters_178 : decode cX9_findClusters 178 = .ok (.iconst 0, 1) := kqo_03 kbl_X9_findClusters (pc := 178) rfl
theorem dX9_findClusters_179 : decode cX9_findClusters 179 = .ok (.ior, 1) := kqo_80 kbl_X9_findClusters (pc := 179) rfl
theorem dX9_findClusters_180 : decode cX9_findClusters 180 = .ok (.iastore, 1) := kqo_4f kbl_X9_findClusters (pc := 180) rfl
theorem dX9_findClusters_181 : decode cX9_findClusters 181 = .ok (.iinc 4 1, 3) := kqo_84 (x1 := 4) (x2 := 1) kbl_X9_findClusters (pc := 181) rfl rfl
theorem dX9_findClusters_184 : decode cX9_findClusters 184 = .ok (.goto (-49), 3) := kqo_a7 (x1 := 255) (x2 := 207) kbl_X9_findClusters (pc := 184) rfl rfl
theorem dX9_findClusters_187 : decode cX9_findClusters 187 = .ok (.aload_n 0, 1) := kqo_2a kbl_X9_findClusters (pc := 187) rfl
theorem dX9_findClusters_188 : decode cX9_findClusters 188 = .ok (.dup, 1) := kqo_59 kbl_X9_findClusters (pc := 188) rfl
theorem dX9_findClusters_189 : decode cX9_findClusters 189 = .ok (.getfield 141, 3) := kqo_b4 (x1 := 0) (x2 := 141) kbl_X9_findClusters (pc := 189) rfl rfl
theorem dX9_findClusters_192 : decode cX9_findClusters 192 = .ok (.aload_n 0, 1) := kqo_2a kbl_X9_findClusters (pc := 192) rfl
theorem dX9_findClusters_193 : decode cX9_findClusters 193 = .ok (.getfield 49, 3) := kqo_b4 (x1 := 0) (x2 := 49) kbl_X9_findClusters (pc := 193) rfl rfl
theorem dX9_findClusters_196 : decode cX9_findClusters 196 = .ok (.iload_n 2, 1) := kqo_1c kbl_X9_findClusters (pc := 196) rfl
theorem dX9_findClusters_197 : decode cX9_findClusters 197 = .ok (.iaload, 1) := kqo_2e kbl_X9_findClusters (pc := 197) rfl
theorem dX9_findClusters_198 : decode cX9_findClusters 198 = .ok (.ifCond .ne 7, 3) := kqo_9a (x1 := 0) (x2 := 7) kbl_X9_findClusters (pc := 198) rfl rfl
theorem dX9_findClusters_201 : decode cX9_findClusters 201 = .ok (.iconst 1, 1) := kqo_04 kbl_X9_findClusters (pc := 201) rfl
theorem dX9_findClusters_202 : decode cX9_findClusters 202 = .ok (.goto 4, 3) := kqo_a7 (x1 := 0) (x2 := 4) kbl_X9_findClusters (pc := 202) rfl rfl
theorem dX9_findClusters_205 : decode cX9_findClusters 205 = .ok (.iconst 0, 1) := kqo_03 kbl_X9_findClusters (pc := 205) rfl
theorem dX9_findClusters_206 : decode cX9_findClusters 206 = .ok (.iadd, 1) := kqo_60 kbl_X9_findClusters (pc := 206) rfl
theorem dX9_findClusters_207 : decode cX9_findClusters 207 = .ok (.putfield 141, 3) := kqo_b5 (x1 := 0) (x2 := 141) kbl_X9_findClusters (pc := 207) rfl rfl
theorem dX9_findClusters_210 : decode cX9_findClusters 210 = .ok (.iinc 2 1, 3) := kqo_84 (x1 := 2) (x2 := 1) kbl_X9_findClusters (pc := 210) rfl rfl
theorem dX9_findClusters_213 : decode cX9_findClusters 213 = .ok (.goto (-137), 3) := kqo_a7 (x1 := 255) (x2 := 119) kbl_X9_findClusters (pc := 213) rfl rfl
theorem dX9_findClusters_216 : decode cX9_findClusters 216 = .ok (.return_, 1) := kqo_b1 kbl_X9_findClusters (pc := 216) rfl
set_option maxRecDepth 20000 in
theorem mw_X9_findClusters_0 : (.fieldLink RX9 138 "FontRunsModel" "clusters" "I" : Cond) ∈ wsX9_findClusters := List.mem_cons_of_mem _ (List.mem_append_left _ (List.mem_of_getElem? (i := 0) rfl))
set_option maxRecDepth 20000 in
theorem mw_X9_findClusters_1 : (.fieldLink RX9 141 "FontRunsModel" "boxes" "I" : Cond) ∈ wsX9_findClusters := List.mem_cons_of_mem _ (List.mem_append_left _ (List.mem_of_getElem? (i := 1) rfl))
set_option maxRecDepth 20000 in
theorem mw_X9_findClusters_2 : (.fieldLink RX9 101 "FontRunsModel" "many" "I" : Cond) ∈ wsX9_findClusters := List.mem_cons_of_mem _ (List.mem_append_left _ (List.mem_of_getElem? (i := 2) rfl))
set_option maxRecDepth 20000 in
theorem mw_X9_findClusters_3 : (.fieldLink RX9 46 "FontRunsModel" "start" "[I" : Cond) ∈ wsX9_findClusters := List.mem_cons_of_mem _ (List.mem_append_left _ (List.mem_of_getElem? (i := 4) rfl))
set_option maxRecDepth 20000 in
theorem mw_X9_findClusters_4 : (.fieldLink RX9 49 "FontRunsModel" "fits" "[I" : Cond) ∈ wsX9_findClusters := List.mem_cons_of_mem _ (List.mem_append_left _ (List.mem_of_getElem? (i := 5) rfl))
set_option maxRecDepth 20000 in
theorem mw_X9_findClusters_5 : (.fieldLink RX9 74 "FontRunsModel" "fonts" "I" : Cond) ∈ wsX9_findClusters := List.mem_cons_of_mem _ (List.mem_append_left _ (List.mem_of_getElem? (i := 6) rfl))
set_option maxRecDepth 20000 in
theorem mw_X9_findClusters_6 : (.fieldLink RX9 25 "FontRunsModel" "has" "[I" : Cond) ∈ wsX9_findClusters := List.mem_cons_of_mem _ (List.mem_append_left _ (List.mem_of_getElem? (i := 7) rfl))
set_option maxRecDepth 20000 in
theorem mw_X9_findClusters_7 : (.fieldLink RX9 34 "FontRunsModel" "writing" "[I" : Cond) ∈ wsX9_findClusters := List.mem_cons_of_mem _ (List.mem_append_left _ (List.mem_of_getElem? (i := 3) rfl))
theorem ax_X9_findClusters_0 {e0 e1 e2 e3 e4 : Nat × va_E} : ([0, 1, 2, 3, 4] : List Nat).map (fun i => ([e0, e1, e2, e3, e4] : va_W)[i]?) = ([e0, e1, e2, e3, e4] : va_W).map some := rfl
set_option maxHeartbeats 4000000 in
set_option maxRecDepth 100000 in
theorem c_X9_findClusters (l : Launch) (D : va_G) (sz : Nat) (wo : Int) (h0 : Nat) (fa : Int) (tc : Int) (so : Nat) (sl : Nat) (ce : Nat) (fn : Int) (kd : Nat) (wd : Nat) (hs : Nat) (pf : Nat) (lt : Nat) (mn : Int) (wg : Nat) (ta : Int) (ck : Int64) (at9 : Int) (rfn : Int) (rk : Nat) (rw : Nat) (rh : Nat) (cl : Int) (sa : Nat) (fi : Nat) (bo : Int) (ch : Nat) (cn : Nat) (ad : Int) (ru : Int) (kp : Nat) (dn : Int) (rfa : Nat) (c_wg : ClassId) (f_wg : Nat → Int32) (c_sa : ClassId) (f_sa : Nat → Int32) (c_fi : ClassId) (f_fi : Nat → Int32) (c_hs : ClassId) (f_hs : Nat → Int32) (q0 : rg wo) (q1 : 0 ≤ mn ∧ mn ≤ 24) (q2 : 0 ≤ fn ∧ fn ≤ 4) : Met l yX9_findClusters wsX9_findClusters ({ frames := 0, cells := 0, slots := 0, locals := 0 }) (kPre [.ref h0, .int (zI wo)] D [(h0, .inr (9, [.int (zI fa), .int (zI tc), .ref so, .ref sl, .ref ce, .int (zI fn), .ref kd, .ref wd, .ref hs, .ref pf, .ref lt, .int (zI mn), .ref wg, .int (zI ta), .long ck, .int (zI at9), .int (zI rfn), .ref rk, .ref rw, .ref rh, .int (zI cl), .ref sa, .ref fi, .int (zI bo), .ref ch, .ref cn, .int (zI ad), .int (zI ru), .ref kp, .int (zI dn), .ref rfa])), (wg, .inl (c_wg, 24, .inl f_wg)), (sa, .inl (c_sa, 25, .inl f_sa)), (fi, .inl (c_fi, 24, .inl f_fi)), (hs, .inl (c_hs, 4, .inl f_hs))] [(c_wg, .int), (c_sa, .int), (c_fi, .int), (c_hs, .int)] sz) (kQV (fun t => ∃ (u_cl : Int) (u_bo : Int) (u_f_sa : Nat → Int32) (u_f_fi : Nat → Int32), (0 ≤ u_cl ∧ u_cl ≤ mn) ∧ (0 ≤ u_bo ∧ u_bo ≤ 24) ∧ (kFt u_f_fi fn u_cl wo) ∧ va_P D vwCl [(h0, .inr (9, [.int (zI fa), .int (zI tc), .ref so, .ref sl, .ref ce, .int (zI fn), .ref kd, .ref wd, .ref hs, .ref pf, .ref lt, .int (zI mn), .ref wg, .int (zI ta), .long ck, .int (zI at9), .int (zI rfn), .ref rk, .ref rw, .ref rh, .int (zI u_cl), .ref sa, .ref fi, .int (zI u_bo), .ref ch, .ref cn, .int (zI ad), .int (zI ru), .ref kp, .int (zI dn), .ref rfa])), (wg, .inl (c_wg, 24, .inl f_wg)), (sa, .inl (c_sa, 25, .inl u_f_sa)), (fi, .inl (c_fi, 24, .inl u_f_fi)), (hs, .inl (c_hs, 4, .inl f_hs))] t.heap ∧ va_D (va_A [(h0, .inr (9, [.int (zI fa), .int (zI tc), .ref so, .ref sl, .ref ce, .int (zI fn), .ref kd, .ref wd, .ref hs, .ref pf, .ref lt, .int (zI mn), .ref wg, .int (zI ta), .long ck, .int (zI at9), .int (zI rfn), .ref rk, .ref rw, .ref rh, .int (zI cl), .ref sa, .ref fi, .int (zI bo), .ref ch, .ref cn, .int (zI ad), .int (zI ru), .ref kp, .int (zI dn), .ref rfa])), (wg, .inl (c_wg, 24, .inl f_wg)), (sa, .inl (c_sa, 25, .inl f_sa)), (fi, .inl (c_fi, 24, .inl f_fi)), (hs, .inl (c_hs, 4, .inl f_hs))] sz) [(h0, .inr (9, [.int (zI fa), .int (zI tc), .ref so, .ref sl, .ref ce, .int (zI fn), .ref kd, .ref wd, .ref hs, .ref pf, .ref lt, .int (zI mn), .ref wg, .int (zI ta), .long ck, .int (zI at9), .int (zI rfn), .ref rk, .ref rw, .ref rh, .int (zI u_cl), .ref sa, .ref fi, .int (zI u_bo), .ref ch, .ref cn, .int (zI ad), .int (zI ru), .ref kp, .int (zI dn), .ref rfa])), (wg, .inl (c_wg, 24, .inl f_wg)), (sa, .inl (c_sa, 25, .inl u_f_sa)), (fi, .inl (c_fi, 24, .inl u_f_fi)), (hs, .inl (c_hs, 4, .inl f_hs))]) (va_A [(h0, .inr (9, [.int (zI fa), .int (zI tc), .ref so, .ref sl, .ref ce, .int (zI fn), .ref kd, .ref wd, .ref hs, .ref pf, .ref lt, .int (zI mn), .ref wg, .int (zI ta), .long ck, .int (zI at9), .int (zI rfn), .ref rk, .ref rw, .ref rh, .int (zI cl), .ref sa, .ref fi, .int (zI bo), .ref ch, .ref cn, .int (zI ad), .int (zI ru), .ref kp, .int (zI dn), .ref rfa])), (wg, .inl (c_wg, 24, .inl f_wg)), (sa, .inl (c_sa, 25, .inl f_sa)), (fi, .inl (c_fi, 24, .inl f_fi)), (hs, .inl (c_hs, 4, .inl f_hs))] sz)) 0 0 (va_A [(h0, .inr (9, [.int (zI fa), .int (zI tc), .ref so, .ref sl, .ref ce, .int (zI fn), .ref kd, .ref wd, .ref hs, .ref pf, .ref lt, .int (zI mn), .ref wg, .int (zI ta), .long ck, .int (zI at9), .int (zI rfn), .ref rk, .ref rw, .ref rh, .int (zI cl), .ref sa, .ref fi, .int (zI bo), .ref ch, .ref cn, .int (zI ad), .int (zI ru), .ref kp, .int (zI dn), .ref rfa])), (wg, .inl (c_wg, 24, .inl f_wg)), (sa, .inl (c_sa, 25, .inl f_sa)), (fi, .inl (c_fi, 24, .inl f_fi)), (hs, .inl (c_hs, 4, .inl f_hs))] sz) := by
  refine Met.ofW (cc := cX9_findClusters) (maxL := 5) (ret := none) (by decide) rfl ?_
  intro p e s m args below meth c s₁ B hml hv
  obtain ⟨rfl, hsz, hP, hK, hD0, hN⟩ := hv
  have hx := B.exec
  have hb := B.bytes
  have hr := B.returns
  have hts := atoms_spec (ws := wsX9_findClusters) B.pre
  have hown : s.vm.findClass RX9 = some m.cls := findClass_of_methodNamed B.named
  have hlocks := B.notSynchronized
  subst hsz
  have hD := hD0.self (sz := s.heap.size)
  generalize hAe : va_A [(h0, .inr (9, [.int (zI fa), .int (zI tc), .ref so, .ref sl, .ref ce, .int (zI fn), .ref kd, .ref wd, .ref hs, .ref pf, .ref lt, .int (zI mn), .ref wg, .int (zI ta), .long ck, .int (zI at9), .int (zI rfn), .ref rk, .ref rw, .ref rh, .int (zI cl), .ref sa, .ref fi, .int (zI bo), .ref ch, .ref cn, .int (zI ad), .int (zI ru), .ref kp, .int (zI dn), .ref rfa])), (wg, .inl (c_wg, 24, .inl f_wg)), (sa, .inl (c_sa, 25, .inl f_sa)), (fi, .inl (c_fi, 24, .inl f_fi)), (hs, .inl (c_hs, 4, .inl f_hs))] s.heap.size = A at hD ⊢
  have hA : ∀ q : Nat, s.heap.size ≤ q → A q := fun q h => by rw [← hAe]; exact Or.inr h
  have hS : va_S A s.heap s.heap [] := va_S.rf
  have hP : va_P D vwCl [(h0, .inr (9, [.int (zI fa), .int (zI tc), .ref so, .ref sl, .ref ce, .int (zI fn), .ref kd, .ref wd, .ref hs, .ref pf, .ref lt, .int (zI mn), .ref wg, .int (zI ta), .long ck, .int (zI at9), .int (zI rfn), .ref rk, .ref rw, .ref rh, .int (zI cl), .ref sa, .ref fi, .int (zI bo), .ref ch, .ref cn, .int (zI ad), .int (zI ru), .ref kp, .int (zI dn), .ref rfa])), (wg, .inl (c_wg, 24, .inl f_wg)), (sa, .inl (c_sa, 25, .inl f_sa)), (fi, .inl (c_fi, 24, .inl f_fi)), (hs, .inl (c_hs, 4, .inl f_hs))] s.heap := hP
  have hl := lv_entry ([.ref h0, .int (zI wo)]) (n := 5) (Nat.le_of_ble_eq_true rfl)
  rw [lg_entry_eq]
  generalize (lg_sl ([.ref h0, .int (zI wo)]) ++ List.replicate (5 - (lg_sl ([.ref h0, .int (zI wo)])).length) Slot.unset).toArray = ls at hl ⊢
  have hl : lv_has ls 5 [(0, .ref h0), (1, .int (zI wo))] := hl
  refine lv_aload_n hx hb dX9_findClusters_0 rfl (lv_at hl 0 rfl) ?_
  refine lv_iconst (v := zI 0) hx hb dX9_findClusters_1 rfl ?_
  refine va_put (D := D) (ci := 9) (v := .int (zI 0)) (ty := .int) (C := RX9) (T := TX9) (N := 31) hx hb hts (fun _ h9 => List.mem_cons_of_mem _ (List.mem_append_right _ h9)) tyX9 tyX9_ok nmX9 hown hK hP hD hS 0 rfl rfl 20 (by decide) (hts (.fieldLink RX9 138 "FontRunsModel" "clusters" "I") mw_X9_findClusters_0) (fun _ h9 => h9) rfl (by decide +kernel) rfl rfl (Nat.le_of_ble_eq_true rfl) dX9_findClusters_2 (fun H locs hP hD hS => ?_)
  have hP : va_P D vwCl [(h0, .inr (9, [.int (zI fa), .int (zI tc), .ref so, .ref sl, .ref ce, .int (zI fn), .ref kd, .ref wd, .ref hs, .ref pf, .ref lt, .int (zI mn), .ref wg, .int (zI ta), .long ck, .int (zI at9), .int (zI rfn), .ref rk, .ref rw, .ref rh, .int (zI 0), .ref sa, .ref fi, .int (zI bo), .ref ch, .ref cn, .int (zI ad), .int (zI ru), .ref kp, .int (zI dn), .ref rfa])), (wg, .inl (c_wg, 24, .inl f_wg)), (sa, .inl (c_sa, 25, .inl f_sa)), (fi, .inl (c_fi, 24, .inl f_fi)), (hs, .inl (c_hs, 4, .inl f_hs))] H := hP
  have hD : va_D A [(h0, .inr (9, [.int (zI fa), .int (zI tc), .ref so, .ref sl, .ref ce, .int (zI fn), .ref kd, .ref wd, .ref hs, .ref pf, .ref lt, .int (zI mn), .ref wg, .int (zI ta), .long ck, .int (zI at9), .int (zI rfn), .ref rk, .ref rw, .ref rh, .int (zI 0), .ref sa, .ref fi, .int (zI bo), .ref ch, .ref cn, .int (zI ad), .int (zI ru), .ref kp, .int (zI dn), .ref rfa])), (wg, .inl (c_wg, 24, .inl f_wg)), (sa, .inl (c_sa, 25, .inl f_sa)), (fi, .inl (c_fi, 24, .inl f_fi)), (hs, .inl (c_hs, 4, .inl f_hs))] := hD
  refine lv_aload_n hx hb dX9_findClusters_5 rfl (lv_at hl 0 rfl) ?_
  refine lv_iconst (v := zI 0) hx hb dX9_findClusters_6 rfl ?_
  refine va_put (D := D) (ci := 9) (v := .int (zI 0)) (ty := .int) (C := RX9) (T := TX9) (N := 31) hx hb hts (fun _ h9 => List.mem_cons_of_mem _ (List.mem_append_right _ h9)) tyX9 tyX9_ok nmX9 hown hK hP hD hS 0 rfl rfl 23 (by decide) (hts (.fieldLink RX9 141 "FontRunsModel" "boxes" "I") mw_X9_findClusters_1) (fun _ h9 => h9) rfl (by decide +kernel) rfl rfl (Nat.le_of_ble_eq_true rfl) dX9_findClusters_7 (fun H locs hP hD hS => ?_)
  have hP : va_P D vwCl [(h0, .inr (9, [.int (zI fa), .int (zI tc), .ref so, .ref sl, .ref ce, .int (zI fn), .ref kd, .ref wd, .ref hs, .ref pf, .ref lt, .int (zI mn), .ref wg, .int (zI ta), .long ck, .int (zI at9), .int (zI rfn), .ref rk, .ref rw, .ref rh, .int (zI 0), .ref sa, .ref fi, .int (zI 0), .ref ch, .ref cn, .int (zI ad), .int (zI ru), .ref kp, .int (zI dn), .ref rfa])), (wg, .inl (c_wg, 24, .inl f_wg)), (sa, .inl (c_sa, 25, .inl f_sa)), (fi, .inl (c_fi, 24, .inl f_fi)), (hs, .inl (c_hs, 4, .inl f_hs))] H := hP
  have hD : va_D A [(h0, .inr (9, [.int (zI fa), .int (zI tc), .ref so, .ref sl, .ref ce, .int (zI fn), .ref kd, .ref wd, .ref hs, .ref pf, .ref lt, .int (zI mn), .ref wg, .int (zI ta), .long ck, .int (zI at9), .int (zI rfn), .ref rk, .ref rw, .ref rh, .int (zI 0), .ref sa, .ref fi, .int (zI 0), .ref ch, .ref cn, .int (zI ad), .int (zI ru), .ref kp, .int (zI dn), .ref rfa])), (wg, .inl (c_wg, 24, .inl f_wg)), (sa, .inl (c_sa, 25, .inl f_sa)), (fi, .inl (c_fi, 24, .inl f_fi)), (hs, .inl (c_hs, 4, .inl f_hs))] := hD
  refine lv_iconst (v := zI 0) hx hb dX9_findClusters_10 rfl ?_
  refine lv_istore_n (lv' := [(2, .int (zI 0)), (0, .ref h0), (1, .int (zI wo))]) hx hb dX9_findClusters_11 rfl hl (by decide) rfl (fun ls hl => ?_)
  refine k_loopM (I := fun n9 H locs ls => ∃ (jk : Int) (jc : Int) (ja : Nat → Int32), n9 = (mn - jk).toNat ∧ (0 ≤ jk ∧ jk ≤ mn) ∧ (0 ≤ jc ∧ jc ≤ jk) ∧ (kSt ja jc mn) ∧ va_P D vwCl [(h0, .inr (9, [.int (zI fa), .int (zI tc), .ref so, .ref sl, .ref ce, .int (zI fn), .ref kd, .ref wd, .ref hs, .ref pf, .ref lt, .int (zI mn), .ref wg, .int (zI ta), .long ck, .int (zI at9), .int (zI rfn), .ref rk, .ref rw, .ref rh, .int (zI jc), .ref sa, .ref fi, .int (zI 0), .ref ch, .ref cn, .int (zI ad), .int (zI ru), .ref kp, .int (zI dn), .ref rfa])), (wg, .inl (c_wg, 24, .inl f_wg)), (sa, .inl (c_sa, 25, .inl ja)), (fi, .inl (c_fi, 24, .inl f_fi)), (hs, .inl (c_hs, 4, .inl f_hs))] H ∧ va_D A [(h0, .inr (9, [.int (zI fa), .int (zI tc), .ref so, .ref sl, .ref ce, .int (zI fn), .ref kd, .ref wd, .ref hs, .ref pf, .ref lt, .int (zI mn), .ref wg, .int (zI ta), .long ck, .int (zI at9), .int (zI rfn), .ref rk, .ref rw, .ref rh, .int (zI jc), .ref sa, .ref fi, .int (zI 0), .ref ch, .ref cn, .int (zI ad), .int (zI ru), .ref kp, .int (zI dn), .ref rfa])), (wg, .inl (c_wg, 24, .inl f_wg)), (sa, .inl (c_sa, 25, .inl ja)), (fi, .inl (c_fi, 24, .inl f_fi)), (hs, .inl (c_hs, 4, .inl f_hs))] ∧ va_S A s.heap H locs ∧ lv_has ls 5 [(2, .int (zI jk)), (0, .ref h0), (1, .int (zI wo))]) ?_ _ ⟨0, 0, f_sa, rfl, (by omega), (by omega), kSt_0, hP, hD, hS, hl⟩
  intro n12 ih12 H locs ls hI
  obtain ⟨jk, jc, ja, en12, v_120, v_121, v_122, hP, hD, hS, hl⟩ := hI
  refine lv_iload_n hx hb dX9_findClusters_12 rfl (lv_at hl 0 rfl) ?_
  refine lv_aload_n hx hb dX9_findClusters_13 rfl (lv_at hl 1 rfl) ?_
  refine va_get (D := D) (ci := 9) (v := .int (zI mn)) (C := RX9) (T := TX9) (N := 31) hx hb hts (fun _ h9 => List.mem_cons_of_mem _ (List.mem_append_right _ h9)) hown hK hP 0 rfl rfl 11 (by decide) (hts (.fieldLink RX9 101 "FontRunsModel" "many" "I") mw_X9_findClusters_2) (fun _ h9 => h9) rfl dX9_findClusters_14 ?_
  refine kz_icmp_ge (tgt := 61) hx hb dX9_findClusters_17 (by decide) (by omega) (by omega) (fun c_1 => ?_) (fun c_1 => ?_)
  · refine lv_aload_n hx hb dX9_findClusters_61 rfl (lv_at hl 1 rfl) ?_
    refine va_get (D := D) (ci := 9) (v := .ref sa) (C := RX9) (T := TX9) (N := 31) hx hb hts (fun _ h9 => List.mem_cons_of_mem _ (List.mem_append_right _ h9)) hown hK hP 0 rfl rfl 21 (by decide) (hts (.fieldLink RX9 46 "FontRunsModel" "start" "[I") mw_X9_findClusters_3) (fun _ h9 => h9) rfl dX9_findClusters_62 ?_
    refine lv_aload_n hx hb dX9_findClusters_65 rfl (lv_at hl 1 rfl) ?_
    refine va_get (D := D) (ci := 9) (v := .int (zI jc)) (C := RX9) (T := TX9) (N := 31) hx hb hts (fun _ h9 => List.mem_cons_of_mem _ (List.mem_append_right _ h9)) hown hK hP 0 rfl rfl 20 (by decide) (hts (.fieldLink RX9 138 "FontRunsModel" "clusters" "I") mw_X9_findClusters_0) (fun _ h9 => h9) rfl dX9_findClusters_66 ?_
    refine lv_aload_n hx hb dX9_findClusters_69 rfl (lv_at hl 1 rfl) ?_
    refine va_get (D := D) (ci := 9) (v := .int (zI mn)) (C := RX9) (T := TX9) (N := 31) hx hb hts (fun _ h9 => List.mem_cons_of_mem _ (List.mem_append_right _ h9)) hown hK hP 0 rfl rfl 11 (by decide) (hts (.fieldLink RX9 101 "FontRunsModel" "many" "I") mw_X9_findClusters_2) (fun _ h9 => h9) rfl dX9_findClusters_70 ?_
    refine kz_iast hx hb hK hP hD hS 2 1 rfl rfl (by omega) dX9_findClusters_73 (fun H locs hP hD hS => ?_)
    have hP : va_P D vwCl [(h0, .inr (9, [.int (zI fa), .int (zI tc), .ref so, .ref sl, .ref ce, .int (zI fn), .ref kd, .ref wd, .ref hs, .ref pf, .ref lt, .int (zI mn), .ref wg, .int (zI ta), .long ck, .int (zI at9), .int (zI rfn), .ref rk, .ref rw, .ref rh, .int (zI jc), .ref sa, .ref fi, .int (zI 0), .ref ch, .ref cn, .int (zI ad), .int (zI ru), .ref kp, .int (zI dn), .ref rfa])), (wg, .inl (c_wg, 24, .inl f_wg)), (sa, .inl (c_sa, 25, .inl (upd ja (jc).toNat (zI mn)))), (fi, .inl (c_fi, 24, .inl f_fi)), (hs, .inl (c_hs, 4, .inl f_hs))] H := hP
    have hD : va_D A [(h0, .inr (9, [.int (zI fa), .int (zI tc), .ref so, .ref sl, .ref ce, .int (zI fn), .ref kd, .ref wd, .ref hs, .ref pf, .ref lt, .int (zI mn), .ref wg, .int (zI ta), .long ck, .int (zI at9), .int (zI rfn), .ref rk, .ref rw, .ref rh, .int (zI jc), .ref sa, .ref fi, .int (zI 0), .ref ch, .ref cn, .int (zI ad), .int (zI ru), .ref kp, .int (zI dn), .ref rfa])), (wg, .inl (c_wg, 24, .inl f_wg)), (sa, .inl (c_sa, 25, .inl (upd ja (jc).toNat (zI mn)))), (fi, .inl (c_fi, 24, .inl f_fi)), (hs, .inl (c_hs, 4, .inl f_hs))] := hD
    generalize ef_2 : upd ja (jc).toNat (zI mn) = f_2 at hP hD
    have hst : kSt f_2 (jc + 1) mn := by rw [← ef_2]; exact kSt_upd v_122 (by omega) (by omega)
    refine lv_iconst (v := zI 0) hx hb dX9_findClusters_74 rfl ?_
    refine lv_istore_n (lv' := [(2, .int (zI 0)), (0, .ref h0), (1, .int (zI wo))]) hx hb dX9_findClusters_75 rfl hl (by decide) rfl (fun ls hl => ?_)
    refine k_loopM (I := fun n9 H locs ls => ∃ (jc2 : Int) (jb : Int) (jf : Nat → Int32), n9 = (jc - jc2).toNat ∧ (0 ≤ jc2 ∧ jc2 ≤ jc) ∧ (0 ≤ jb ∧ jb ≤ jc2) ∧ (kFt jf fn jc2 wo) ∧ va_P D vwCl [(h0, .inr (9, [.int (zI fa), .int (zI tc), .ref so, .ref sl, .ref ce, .int (zI fn), .ref kd, .ref wd, .ref hs, .ref pf, .ref lt, .int (zI mn), .ref wg, .int (zI ta), .long ck, .int (zI at9), .int (zI rfn), .ref rk, .ref rw, .ref rh, .int (zI jc), .ref sa, .ref fi, .int (zI jb), .ref ch, .ref cn, .int (zI ad), .int (zI ru), .ref kp, .int (zI dn), .ref rfa])), (wg, .inl (c_wg, 24, .inl f_wg)), (sa, .inl (c_sa, 25, .inl f_2)), (fi, .inl (c_fi, 24, .inl jf)), (hs, .inl (c_hs, 4, .inl f_hs))] H ∧ va_D A [(h0, .inr (9, [.int (zI fa), .int (zI tc), .ref so, .ref sl, .ref ce, .int (zI fn), .ref kd, .ref wd, .ref hs, .ref pf, .ref lt, .int (zI mn), .ref wg, .int (zI ta), .long ck, .int (zI at9), .int (zI rfn), .ref rk, .ref rw, .ref rh, .int (zI jc), .ref sa, .ref fi, .int (zI jb), .ref ch, .ref cn, .int (zI ad), .int (zI ru), .ref kp, .int (zI dn), .ref rfa])), (wg, .inl (c_wg, 24, .inl f_wg)), (sa, .inl (c_sa, 25, .inl f_2)), (fi, .inl (c_fi, 24, .inl jf)), (hs, .inl (c_hs, 4, .inl f_hs))] ∧ va_S A s.heap H locs ∧ lv_has ls 5 [(2, .int (zI jc2)), (0, .ref h0), (1, .int (zI wo))]) ?_ _ ⟨0, 0, f_fi, rfl, (by omega), (by omega), kFt_0, hP, hD, hS, hl⟩
    intro n76 ih76 H locs ls hI
    obtain ⟨jc2, jb, jf, en76, v_760, v_761, v_762, hP, hD, hS, hl⟩ := hI
    refine lv_iload_n hx hb dX9_findClusters_76 rfl (lv_at hl 0 rfl) ?_
    refine lv_aload_n hx hb dX9_findClusters_77 rfl (lv_at hl 1 rfl) ?_
    refine va_get (D := D) (ci := 9) (v := .int (zI jc)) (C := RX9) (T := TX9) (N := 31) hx hb hts (fun _ h9 => List.mem_cons_of_mem _ (List.mem_append_right _ h9)) hown hK hP 0 rfl rfl 20 (by decide) (hts (.fieldLink RX9 138 "FontRunsModel" "clusters" "I") mw_X9_findClusters_0) (fun _ h9 => h9) rfl dX9_findClusters_78 ?_
    refine kz_icmp_ge (tgt := 216) hx hb dX9_findClusters_81 (by decide) (by omega) (by omega) (fun c_3 => ?_) (fun c_3 => ?_)
    · have hP9 := hP.sub (ws' := [(h0, .inr (9, [.int (zI fa), .int (zI tc), .ref so, .ref sl, .ref ce, .int (zI fn), .ref kd, .ref wd, .ref hs, .ref pf, .ref lt, .int (zI mn), .ref wg, .int (zI ta), .long ck, .int (zI at9), .int (zI rfn), .ref rk, .ref rw, .ref rh, .int (zI jc), .ref sa, .ref fi, .int (zI jb), .ref ch, .ref cn, .int (zI ad), .int (zI ru), .ref kp, .int (zI dn), .ref rfa])), (wg, .inl (c_wg, 24, .inl f_wg)), (sa, .inl (c_sa, 25, .inl f_2)), (fi, .inl (c_fi, 24, .inl jf)), (hs, .inl (c_hs, 4, .inl f_hs))]) [0, 1, 2, 3, 4] rfl
      have hD9 := hD.sub (ws' := [(h0, .inr (9, [.int (zI fa), .int (zI tc), .ref so, .ref sl, .ref ce, .int (zI fn), .ref kd, .ref wd, .ref hs, .ref pf, .ref lt, .int (zI mn), .ref wg, .int (zI ta), .long ck, .int (zI at9), .int (zI rfn), .ref rk, .ref rw, .ref rh, .int (zI jc), .ref sa, .ref fi, .int (zI jb), .ref ch, .ref cn, .int (zI ad), .int (zI ru), .ref kp, .int (zI dn), .ref rfa])), (wg, .inl (c_wg, 24, .inl f_wg)), (sa, .inl (c_sa, 25, .inl f_2)), (fi, .inl (c_fi, 24, .inl jf)), (hs, .inl (c_hs, 4, .inl f_hs))]) [0, 1, 2, 3, 4] (by decide +kernel) rfl
      exact W.vret hx hb hr (fun t ht hW => kQV_of ⟨jc, jb, f_2, jf, (by omega), (by omega), ((show jc2 = jc by omega) ▸ v_762), by rw [ht]; exact hP9, hD9⟩ (hS.F ht)) hS.2.2 dX9_findClusters_216
    · refine lv_iconst (v := zI 0) hx hb dX9_findClusters_84 rfl ?_
      refine lv_istore_n (lv' := [(3, .int (zI 0)), (2, .int (zI jc2)), (0, .ref h0), (1, .int (zI wo))]) hx hb dX9_findClusters_85 rfl hl (by decide) rfl (fun ls hl => ?_)
      refine lv_aload_n hx hb dX9_findClusters_86 rfl (lv_at hl 2 rfl) ?_
      refine va_get (D := D) (ci := 9) (v := .ref sa) (C := RX9) (T := TX9) (N := 31) hx hb hts (fun _ h9 => List.mem_cons_of_mem _ (List.mem_append_right _ h9)) hown hK hP 0 rfl rfl 21 (by decide) (hts (.fieldLink RX9 46 "FontRunsModel" "start" "[I") mw_X9_findClusters_3) (fun _ h9 => h9) rfl dX9_findClusters_87 ?_
      refine lv_iload_n hx hb dX9_findClusters_90 rfl (lv_at hl 1 rfl) ?_
      refine kz_iald hx hb hK hP 2 1 rfl rfl (by omega) dX9_findClusters_91 (fun z_4 rz_4 ez_4 => ?_)
      have bz_4 := kSt_at hst (by omega) (by omega) rz_4 ez_4
      refine lv_istore (lv' := [(4, .int (zI z_4)), (3, .int (zI 0)), (2, .int (zI jc2)), (0, .ref h0), (1, .int (zI wo))]) hx hb dX9_findClusters_92 hl (by decide) rfl (fun ls hl => ?_)
      refine k_loopM (I := fun n9 H locs ls => ∃ (js : Int) (jk2 : Int), n9 = (24 - jk2).toNat ∧ (rg js) ∧ (0 ≤ jk2 ∧ jk2 ≤ 24) ∧ va_P D vwCl [(h0, .inr (9, [.int (zI fa), .int (zI tc), .ref so, .ref sl, .ref ce, .int (zI fn), .ref kd, .ref wd, .ref hs, .ref pf, .ref lt, .int (zI mn), .ref wg, .int (zI ta), .long ck, .int (zI at9), .int (zI rfn), .ref rk, .ref rw, .ref rh, .int (zI jc), .ref sa, .ref fi, .int (zI jb), .ref ch, .ref cn, .int (zI ad), .int (zI ru), .ref kp, .int (zI dn), .ref rfa])), (wg, .inl (c_wg, 24, .inl f_wg)), (sa, .inl (c_sa, 25, .inl f_2)), (fi, .inl (c_fi, 24, .inl jf)), (hs, .inl (c_hs, 4, .inl f_hs))] H ∧ va_D A [(h0, .inr (9, [.int (zI fa), .int (zI tc), .ref so, .ref sl, .ref ce, .int (zI fn), .ref kd, .ref wd, .ref hs, .ref pf, .ref lt, .int (zI mn), .ref wg, .int (zI ta), .long ck, .int (zI at9), .int (zI rfn), .ref rk, .ref rw, .ref rh, .int (zI jc), .ref sa, .ref fi, .int (zI jb), .ref ch, .ref cn, .int (zI ad), .int (zI ru), .ref kp, .int (zI dn), .ref rfa])), (wg, .inl (c_wg, 24, .inl f_wg)), (sa, .inl (c_sa, 25, .inl f_2)), (fi, .inl (c_fi, 24, .inl jf)), (hs, .inl (c_hs, 4, .inl f_hs))] ∧ va_S A s.heap H locs ∧ lv_has ls 5 [(4, .int (zI jk2)), (3, .int (zI js)), (2, .int (zI jc2)), (0, .ref h0), (1, .int (zI wo))]) ?_ _ ⟨0, z_4, rfl, (by omega), (by omega), hP, hD, hS, hl⟩
      intro n94 ih94 H locs ls hI
      obtain ⟨js, jk2, en94, v_940, v_941, hP, hD, hS, hl⟩ := hI
      refine lv_iload hx hb dX9_findClusters_94 (lv_at hl 0 rfl) ?_
      refine lv_aload_n hx hb dX9_findClusters_96 rfl (lv_at hl 3 rfl) ?_
      refine va_get (D := D) (ci := 9) (v := .ref sa) (C := RX9) (T := TX9) (N := 31) hx hb hts (fun _ h9 => List.mem_cons_of_mem _ (List.mem_append_right _ h9)) hown hK hP 0 rfl rfl 21 (by decide) (hts (.fieldLink RX9 46 "FontRunsModel" "start" "[I") mw_X9_findClusters_3) (fun _ h9 => h9) rfl dX9_findClusters_97 ?_
      refine lv_iload_n hx hb dX9_findClusters_100 rfl (lv_at hl 2 rfl) ?_
      refine lv_iconst (v := zI 1) hx hb dX9_findClusters_101 rfl ?_
      refine kz_iadd hx hb dX9_findClusters_102 ?_
      refine kz_iald hx hb hK hP 2 1 rfl rfl (by omega) dX9_findClusters_103 (fun z_5 rz_5 ez_5 => ?_)
      have bz_5 := kSt_at hst (by omega) (by omega) rz_5 ez_5
      refine kz_icmp_ge (tgt := 125) hx hb dX9_findClusters_104 (by decide) (by omega) (by omega) (fun c_6 => ?_) (fun c_6 => ?_)
      · refine lv_aload_n hx hb dX9_findClusters_125 rfl (lv_at hl 3 rfl) ?_
        refine va_get (D := D) (ci := 9) (v := .ref fi) (C := RX9) (T := TX9) (N := 31) hx hb hts (fun _ h9 => List.mem_cons_of_mem _ (List.mem_append_right _ h9)) hown hK hP 0 rfl rfl 22 (by decide) (hts (.fieldLink RX9 49 "FontRunsModel" "fits" "[I") mw_X9_findClusters_4) (fun _ h9 => h9) rfl dX9_findClusters_126 ?_
        refine lv_iload_n hx hb dX9_findClusters_129 rfl (lv_at hl 2 rfl) ?_
        refine lv_iconst (v := zI 0) hx hb dX9_findClusters_130 rfl ?_
        refine kz_iast hx hb hK hP hD hS 3 2 rfl rfl (by omega) dX9_findClusters_131 (fun H locs hP hD hS => ?_)
        have hP : va_P D vwCl [(h0, .inr (9, [.int (zI fa), .int (zI tc), .ref so, .ref sl, .ref ce, .int (zI fn), .ref kd, .ref wd, .ref hs, .ref pf, .ref lt, .int (zI mn), .ref wg, .int (zI ta), .long ck, .int (zI at9), .int (zI rfn), .ref rk, .ref rw, .ref rh, .int (zI jc), .ref sa, .ref fi, .int (zI jb), .ref ch, .ref cn, .int (zI ad), .int (zI ru), .ref kp, .int (zI dn), .ref rfa])), (wg, .inl (c_wg, 24, .inl f_wg)), (sa, .inl (c_sa, 25, .inl f_2)), (fi, .inl (c_fi, 24, .inl (upd jf (jc2).toNat (zI 0)))), (hs, .inl (c_hs, 4, .inl f_hs))] H := hP
        have hD : va_D A [(h0, .inr (9, [.int (zI fa), .int (zI tc), .ref so, .ref sl, .ref ce, .int (zI fn), .ref kd, .ref wd, .ref hs, .ref pf, .ref lt, .int (zI mn), .ref wg, .int (zI ta), .long ck, .int (zI at9), .int (zI rfn), .ref rk, .ref rw, .ref rh, .int (zI jc), .ref sa, .ref fi, .int (zI jb), .ref ch, .ref cn, .int (zI ad), .int (zI ru), .ref kp, .int (zI dn), .ref rfa])), (wg, .inl (c_wg, 24, .inl f_wg)), (sa, .inl (c_sa, 25, .inl f_2)), (fi, .inl (c_fi, 24, .inl (upd jf (jc2).toNat (zI 0)))), (hs, .inl (c_hs, 4, .inl f_hs))] := hD
        generalize ef_7 : upd jf (jc2).toNat (zI 0) = f_7 at hP hD
        refine lv_iconst (v := zI 0) hx hb dX9_findClusters_132 rfl ?_
        refine lv_istore (lv' := [(4, .int (zI 0)), (3, .int (zI js)), (2, .int (zI jc2)), (0, .ref h0), (1, .int (zI wo))]) hx hb dX9_findClusters_133 hl (by decide) rfl (fun ls hl => ?_)
        refine k_loopM (I := fun n9 H locs ls => ∃ (jg : Int) (jh : Nat → Int32), n9 = (fn - jg).toNat ∧ (0 ≤ jg ∧ jg ≤ fn) ∧ (kFt jh fn jc2 wo) ∧ (kFp (jh jc2.toNat) jg wo) ∧ va_P D vwCl [(h0, .inr (9, [.int (zI fa), .int (zI tc), .ref so, .ref sl, .ref ce, .int (zI fn), .ref kd, .ref wd, .ref hs, .ref pf, .ref lt, .int (zI mn), .ref wg, .int (zI ta), .long ck, .int (zI at9), .int (zI rfn), .ref rk, .ref rw, .ref rh, .int (zI jc), .ref sa, .ref fi, .int (zI jb), .ref ch, .ref cn, .int (zI ad), .int (zI ru), .ref kp, .int (zI dn), .ref rfa])), (wg, .inl (c_wg, 24, .inl f_wg)), (sa, .inl (c_sa, 25, .inl f_2)), (fi, .inl (c_fi, 24, .inl jh)), (hs, .inl (c_hs, 4, .inl f_hs))] H ∧ va_D A [(h0, .inr (9, [.int (zI fa), .int (zI tc), .ref so, .ref sl, .ref ce, .int (zI fn), .ref kd, .ref wd, .ref hs, .ref pf, .ref lt, .int (zI mn), .ref wg, .int (zI ta), .long ck, .int (zI at9), .int (zI rfn), .ref rk, .ref rw, .ref rh, .int (zI jc), .ref sa, .ref fi, .int (zI jb), .ref ch, .ref cn, .int (zI ad), .int (zI ru), .ref kp, .int (zI dn), .ref rfa])), (wg, .inl (c_wg, 24, .inl f_wg)), (sa, .inl (c_sa, 25, .inl f_2)), (fi, .inl (c_fi, 24, .inl jh)), (hs, .inl (c_hs, 4, .inl f_hs))] ∧ va_S A s.heap H locs ∧ lv_has ls 5 [(4, .int (zI jg)), (3, .int (zI js)), (2, .int (zI jc2)), (0, .ref h0), (1, .int (zI wo))]) ?_ _ ⟨0, f_7, rfl, (by omega), (by rw [← ef_7]; exact kFt_upd v_762 (by omega)), (Or.inl (by rw [← ef_7, pk_us]; rfl)), hP, hD, hS, hl⟩
        intro n135 ih135 H locs ls hI
        obtain ⟨jg, jh, en135, v_1350, v_1351, v_1352, hP, hD, hS, hl⟩ := hI
        refine lv_iload hx hb dX9_findClusters_135 (lv_at hl 0 rfl) ?_
        refine lv_aload_n hx hb dX9_findClusters_137 rfl (lv_at hl 3 rfl) ?_
        refine va_get (D := D) (ci := 9) (v := .int (zI fn)) (C := RX9) (T := TX9) (N := 31) hx hb hts (fun _ h9 => List.mem_cons_of_mem _ (List.mem_append_right _ h9)) hown hK hP 0 rfl rfl 5 (by decide) (hts (.fieldLink RX9 74 "FontRunsModel" "fonts" "I") mw_X9_findClusters_5) (fun _ h9 => h9) rfl dX9_findClusters_138 ?_
        refine kz_icmp_ge (tgt := 187) hx hb dX9_findClusters_141 (by decide) (by omega) (by omega) (fun c_8 => ?_) (fun c_8 => ?_)
        · refine lv_aload_n hx hb dX9_findClusters_187 rfl (lv_at hl 3 rfl) ?_
          refine lv_dup hx hb dX9_findClusters_188 rfl ?_
          refine va_get (D := D) (ci := 9) (v := .int (zI jb)) (C := RX9) (T := TX9) (N := 31) hx hb hts (fun _ h9 => List.mem_cons_of_mem _ (List.mem_append_right _ h9)) hown hK hP 0 rfl rfl 23 (by decide) (hts (.fieldLink RX9 141 "FontRunsModel" "boxes" "I") mw_X9_findClusters_1) (fun _ h9 => h9) rfl dX9_findClusters_189 ?_
          refine lv_aload_n hx hb dX9_findClusters_192 rfl (lv_at hl 3 rfl) ?_
          refine va_get (D := D) (ci := 9) (v := .ref fi) (C := RX9) (T := TX9) (N := 31) hx hb hts (fun _ h9 => List.mem_cons_of_mem _ (List.mem_append_right _ h9)) hown hK hP 0 rfl rfl 22 (by decide) (hts (.fieldLink RX9 49 "FontRunsModel" "fits" "[I") mw_X9_findClusters_4) (fun _ h9 => h9) rfl dX9_findClusters_193 ?_
          refine lv_iload_n hx hb dX9_findClusters_196 rfl (lv_at hl 2 rfl) ?_
          refine kz_iald hx hb hK hP 3 2 rfl rfl (by omega) dX9_findClusters_197 (fun z_9 rz_9 ez_9 => ?_)
          refine kz_if_ne (tgt := 205) hx hb dX9_findClusters_198 (by decide) (by omega) (fun c_10 => ?_) (fun c_10 => ?_)
          · refine lv_iconst (v := zI 0) hx hb dX9_findClusters_205 rfl ?_
            refine kz_iadd hx hb dX9_findClusters_206 ?_
            refine va_put (D := D) (ci := 9) (v := .int (zI (jb + 0))) (ty := .int) (C := RX9) (T := TX9) (N := 31) hx hb hts (fun _ h9 => List.mem_cons_of_mem _ (List.mem_append_right _ h9)) tyX9 tyX9_ok nmX9 hown hK hP hD hS 0 rfl rfl 23 (by decide) (hts (.fieldLink RX9 141 "FontRunsModel" "boxes" "I") mw_X9_findClusters_1) (fun _ h9 => h9) rfl (by decide +kernel) rfl rfl (Nat.le_of_ble_eq_true rfl) dX9_findClusters_207 (fun H locs hP hD hS => ?_)
            have hP : va_P D vwCl [(h0, .inr (9, [.int (zI fa), .int (zI tc), .ref so, .ref sl, .ref ce, .int (zI fn), .ref kd, .ref wd, .ref hs, .ref pf, .ref lt, .int (zI mn), .ref wg, .int (zI ta), .long ck, .int (zI at9), .int (zI rfn), .ref rk, .ref rw, .ref rh, .int (zI jc), .ref sa, .ref fi, .int (zI (jb + 0)), .ref ch, .ref cn, .int (zI ad), .int (zI ru), .ref kp, .int (zI dn), .ref rfa])), (wg, .inl (c_wg, 24, .inl f_wg)), (sa, .inl (c_sa, 25, .inl f_2)), (fi, .inl (c_fi, 24, .inl jh)), (hs, .inl (c_hs, 4, .inl f_hs))] H := hP
            have hD : va_D A [(h0, .inr (9, [.int (zI fa), .int (zI tc), .ref so, .ref sl, .ref ce, .int (zI fn), .ref kd, .ref wd, .ref hs, .ref pf, .ref lt, .int (zI mn), .ref wg, .int (zI ta), .long ck, .int (zI at9), .int (zI rfn), .ref rk, .ref rw, .ref rh, .int (zI jc), .ref sa, .ref fi, .int (zI (jb + 0)), .ref ch, .ref cn, .int (zI ad), .int (zI ru), .ref kp, .int (zI dn), .ref rfa])), (wg, .inl (c_wg, 24, .inl f_wg)), (sa, .inl (c_sa, 25, .inl f_2)), (fi, .inl (c_fi, 24, .inl jh)), (hs, .inl (c_hs, 4, .inl f_hs))] := hD
            refine lv_iinc (v := (zI (jc2 + 1))) (lv' := [(2, .int (zI (jc2 + 1))), (4, .int (zI jg)), (3, .int (zI js)), (0, .ref h0), (1, .int (zI wo))]) hx hb dX9_findClusters_210 hl (k := 2) rfl (kz_inc _ 1) (by decide) rfl (fun ls hl => ?_)
            refine lv_goto (tgt := 76) hx hb dX9_findClusters_213 (by decide) ?_
            exact ih76 _ (by omega) _ _ _ ⟨(jc2 + 1), (jb + 0), jh, rfl, (by omega), (by omega), (kFt_1 v_1351 ((show fn = jg by omega) ▸ v_1352)), hP, hD, hS, lv_sub hl [0, 3, 4] rfl⟩
          · refine lv_iconst (v := zI 1) hx hb dX9_findClusters_201 rfl ?_
            refine lv_goto (tgt := 206) hx hb dX9_findClusters_202 (by decide) ?_
            refine kz_iadd hx hb dX9_findClusters_206 ?_
            refine va_put (D := D) (ci := 9) (v := .int (zI (jb + 1))) (ty := .int) (C := RX9) (T := TX9) (N := 31) hx hb hts (fun _ h9 => List.mem_cons_of_mem _ (List.mem_append_right _ h9)) tyX9 tyX9_ok nmX9 hown hK hP hD hS 0 rfl rfl 23 (by decide) (hts (.fieldLink RX9 141 "FontRunsModel" "boxes" "I") mw_X9_findClusters_1) (fun _ h9 => h9) rfl (by decide +kernel) rfl rfl (Nat.le_of_ble_eq_true rfl) dX9_findClusters_207 (fun H locs hP hD hS => ?_)
            have hP : va_P D vwCl [(h0, .inr (9, [.int (zI fa), .int (zI tc), .ref so, .ref sl, .ref ce, .int (zI fn), .ref kd, .ref wd, .ref hs, .ref pf, .ref lt, .int (zI mn), .ref wg, .int (zI ta), .long ck, .int (zI at9), .int (zI rfn), .ref rk, .ref rw, .ref rh, .int (zI jc), .ref sa, .ref fi, .int (zI (jb + 1)), .ref ch, .ref cn, .int (zI ad), .int (zI ru), .ref kp, .int (zI dn), .ref rfa])), (wg, .inl (c_wg, 24, .inl f_wg)), (sa, .inl (c_sa, 25, .inl f_2)), (fi, .inl (c_fi, 24, .inl jh)), (hs, .inl (c_hs, 4, .inl f_hs))] H := hP
            have hD : va_D A [(h0, .inr (9, [.int (zI fa), .int (zI tc), .ref so, .ref sl, .ref ce, .int (zI fn), .ref kd, .ref wd, .ref hs, .ref pf, .ref lt, .int (zI mn), .ref wg, .int (zI ta), .long ck, .int (zI at9), .int (zI rfn), .ref rk, .ref rw, .ref rh, .int (zI jc), .ref sa, .ref fi, .int (zI (jb + 1)), .ref ch, .ref cn, .int (zI ad), .int (zI ru), .ref kp, .int (zI dn), .ref rfa])), (wg, .inl (c_wg, 24, .inl f_wg)), (sa, .inl (c_sa, 25, .inl f_2)), (fi, .inl (c_fi, 24, .inl jh)), (hs, .inl (c_hs, 4, .inl f_hs))] := hD
            refine lv_iinc (v := (zI (jc2 + 1))) (lv' := [(2, .int (zI (jc2 + 1))), (4, .int (zI jg)), (3, .int (zI js)), (0, .ref h0), (1, .int (zI wo))]) hx hb dX9_findClusters_210 hl (k := 2) rfl (kz_inc _ 1) (by decide) rfl (fun ls hl => ?_)
            refine lv_goto (tgt := 76) hx hb dX9_findClusters_213 (by decide) ?_
            exact ih76 _ (by omega) _ _ _ ⟨(jc2 + 1), (jb + 1), jh, rfl, (by omega), (by omega), (kFt_1 v_1351 ((show fn = jg by omega) ▸ v_1352)), hP, hD, hS, lv_sub hl [0, 3, 4] rfl⟩
        · refine lv_aload_n hx hb dX9_findClusters_144 rfl (lv_at hl 3 rfl) ?_
          refine va_get (D := D) (ci := 9) (v := .ref fi) (C := RX9) (T := TX9) (N := 31) hx hb hts (fun _ h9 => List.mem_cons_of_mem _ (List.mem_append_right _ h9)) hown hK hP 0 rfl rfl 22 (by decide) (hts (.fieldLink RX9 49 "FontRunsModel" "fits" "[I") mw_X9_findClusters_4) (fun _ h9 => h9) rfl dX9_findClusters_145 ?_
          refine lv_iload_n hx hb dX9_findClusters_148 rfl (lv_at hl 2 rfl) ?_
          refine lv_dup2_11 hx hb dX9_findClusters_149 rfl rfl ?_
          refine kz_iald hx hb hK hP 3 2 rfl rfl (by omega) dX9_findClusters_150 (fun z_11 rz_11 ez_11 => ?_)
          refine lv_iload hx hb dX9_findClusters_151 (lv_at hl 0 rfl) ?_
          refine lv_iload_n hx hb dX9_findClusters_153 rfl (lv_at hl 4 rfl) ?_
          refine kz_icmp_eq (tgt := 178) hx hb dX9_findClusters_154 (by decide) (by omega) (by omega) (fun c_12 => ?_) (fun c_12 => ?_)
          · refine lv_iconst (v := zI 0) hx hb dX9_findClusters_178 rfl ?_
            refine lv_ior hx hb dX9_findClusters_179 ?_
            refine kz_any (fun z_13 rz_13 ez_13 => ?_)
            refine kz_iast hx hb hK hP hD hS 3 2 rfl rfl (by omega) dX9_findClusters_180 (fun H locs hP hD hS => ?_)
            have hP : va_P D vwCl [(h0, .inr (9, [.int (zI fa), .int (zI tc), .ref so, .ref sl, .ref ce, .int (zI fn), .ref kd, .ref wd, .ref hs, .ref pf, .ref lt, .int (zI mn), .ref wg, .int (zI ta), .long ck, .int (zI at9), .int (zI rfn), .ref rk, .ref rw, .ref rh, .int (zI jc), .ref sa, .ref fi, .int (zI jb), .ref ch, .ref cn, .int (zI ad), .int (zI ru), .ref kp, .int (zI dn), .ref rfa])), (wg, .inl (c_wg, 24, .inl f_wg)), (sa, .inl (c_sa, 25, .inl f_2)), (fi, .inl (c_fi, 24, .inl (upd jh (jc2).toNat (zI z_13)))), (hs, .inl (c_hs, 4, .inl f_hs))] H := hP
            have hD : va_D A [(h0, .inr (9, [.int (zI fa), .int (zI tc), .ref so, .ref sl, .ref ce, .int (zI fn), .ref kd, .ref wd, .ref hs, .ref pf, .ref lt, .int (zI mn), .ref wg, .int (zI ta), .long ck, .int (zI at9), .int (zI rfn), .ref rk, .ref rw, .ref rh, .int (zI jc), .ref sa, .ref fi, .int (zI jb), .ref ch, .ref cn, .int (zI ad), .int (zI ru), .ref kp, .int (zI dn), .ref rfa])), (wg, .inl (c_wg, 24, .inl f_wg)), (sa, .inl (c_sa, 25, .inl f_2)), (fi, .inl (c_fi, 24, .inl (upd jh (jc2).toNat (zI z_13)))), (hs, .inl (c_hs, 4, .inl f_hs))] := hD
            generalize ef_14 : upd jh (jc2).toNat (zI z_13) = f_14 at hP hD
            refine lv_iinc (v := (zI (jg + 1))) (lv' := [(4, .int (zI (jg + 1))), (3, .int (zI js)), (2, .int (zI jc2)), (0, .ref h0), (1, .int (zI wo))]) hx hb dX9_findClusters_181 hl (k := 0) rfl (kz_inc _ 1) (by decide) rfl (fun ls hl => ?_)
            refine lv_goto (tgt := 135) hx hb dX9_findClusters_184 (by decide) ?_
            exact ih135 _ (by omega) _ _ _ ⟨(jg + 1), f_14, rfl, (by omega), (by rw [← ef_14]; exact kFt_upd v_1351 (by omega)), (kFp_same v_1352 (by rw [← ef_14, pk_us, ← ez_13, kb_o0, ← ez_11])), hP, hD, hS, lv_sub hl [0, 1, 2, 3, 4] rfl⟩
          · refine lv_iload_n hx hb dX9_findClusters_157 rfl (lv_at hl 1 rfl) ?_
            refine lv_aload_n hx hb dX9_findClusters_158 rfl (lv_at hl 3 rfl) ?_
            refine va_get (D := D) (ci := 9) (v := .ref hs) (C := RX9) (T := TX9) (N := 31) hx hb hts (fun _ h9 => List.mem_cons_of_mem _ (List.mem_append_right _ h9)) hown hK hP 0 rfl rfl 8 (by decide) (hts (.fieldLink RX9 25 "FontRunsModel" "has" "[I") mw_X9_findClusters_6) (fun _ h9 => h9) rfl dX9_findClusters_159 ?_
            refine lv_iload hx hb dX9_findClusters_162 (lv_at hl 0 rfl) ?_
            refine kz_iald hx hb hK hP 4 3 rfl rfl (by omega) dX9_findClusters_164 (fun z_15 rz_15 ez_15 => ?_)
            refine lv_iconst (v := zI (-1)) hx hb dX9_findClusters_165 rfl ?_
            refine lv_ixor hx hb dX9_findClusters_166 ?_
            refine kz_any (fun z_16 rz_16 ez_16 => ?_)
            refine lv_iand hx hb dX9_findClusters_167 ?_
            refine kz_any (fun z_17 rz_17 ez_17 => ?_)
            refine kz_if_ne (tgt := 178) hx hb dX9_findClusters_168 (by decide) (by omega) (fun c_18 => ?_) (fun c_18 => ?_)
            · refine lv_iconst (v := zI 0) hx hb dX9_findClusters_178 rfl ?_
              refine lv_ior hx hb dX9_findClusters_179 ?_
              refine kz_any (fun z_19 rz_19 ez_19 => ?_)
              refine kz_iast hx hb hK hP hD hS 3 2 rfl rfl (by omega) dX9_findClusters_180 (fun H locs hP hD hS => ?_)
              have hP : va_P D vwCl [(h0, .inr (9, [.int (zI fa), .int (zI tc), .ref so, .ref sl, .ref ce, .int (zI fn), .ref kd, .ref wd, .ref hs, .ref pf, .ref lt, .int (zI mn), .ref wg, .int (zI ta), .long ck, .int (zI at9), .int (zI rfn), .ref rk, .ref rw, .ref rh, .int (zI jc), .ref sa, .ref fi, .int (zI jb), .ref ch, .ref cn, .int (zI ad), .int (zI ru), .ref kp, .int (zI dn), .ref rfa])), (wg, .inl (c_wg, 24, .inl f_wg)), (sa, .inl (c_sa, 25, .inl f_2)), (fi, .inl (c_fi, 24, .inl (upd jh (jc2).toNat (zI z_19)))), (hs, .inl (c_hs, 4, .inl f_hs))] H := hP
              have hD : va_D A [(h0, .inr (9, [.int (zI fa), .int (zI tc), .ref so, .ref sl, .ref ce, .int (zI fn), .ref kd, .ref wd, .ref hs, .ref pf, .ref lt, .int (zI mn), .ref wg, .int (zI ta), .long ck, .int (zI at9), .int (zI rfn), .ref rk, .ref rw, .ref rh, .int (zI jc), .ref sa, .ref fi, .int (zI jb), .ref ch, .ref cn, .int (zI ad), .int (zI ru), .ref kp, .int (zI dn), .ref rfa])), (wg, .inl (c_wg, 24, .inl f_wg)), (sa, .inl (c_sa, 25, .inl f_2)), (fi, .inl (c_fi, 24, .inl (upd jh (jc2).toNat (zI z_19)))), (hs, .inl (c_hs, 4, .inl f_hs))] := hD
              generalize ef_20 : upd jh (jc2).toNat (zI z_19) = f_20 at hP hD
              refine lv_iinc (v := (zI (jg + 1))) (lv' := [(4, .int (zI (jg + 1))), (3, .int (zI js)), (2, .int (zI jc2)), (0, .ref h0), (1, .int (zI wo))]) hx hb dX9_findClusters_181 hl (k := 0) rfl (kz_inc _ 1) (by decide) rfl (fun ls hl => ?_)
              refine lv_goto (tgt := 135) hx hb dX9_findClusters_184 (by decide) ?_
              exact ih135 _ (by omega) _ _ _ ⟨(jg + 1), f_20, rfl, (by omega), (by rw [← ef_20]; exact kFt_upd v_1351 (by omega)), (kFp_same v_1352 (by rw [← ef_20, pk_us, ← ez_19, kb_o0, ← ez_11])), hP, hD, hS, lv_sub hl [0, 1, 2, 3, 4] rfl⟩
            · refine lv_iconst (v := zI 1) hx hb dX9_findClusters_171 rfl ?_
              refine lv_iload hx hb dX9_findClusters_172 (lv_at hl 0 rfl) ?_
              refine lv_ishl hx hb dX9_findClusters_174 ?_
              refine kz_any (fun z_21 rz_21 ez_21 => ?_)
              refine lv_goto (tgt := 179) hx hb dX9_findClusters_175 (by decide) ?_
              refine lv_ior hx hb dX9_findClusters_179 ?_
              refine kz_any (fun z_22 rz_22 ez_22 => ?_)
              refine kz_iast hx hb hK hP hD hS 3 2 rfl rfl (by omega) dX9_findClusters_180 (fun H locs hP hD hS => ?_)
              have hP : va_P D vwCl [(h0, .inr (9, [.int (zI fa), .int (zI tc), .ref so, .ref sl, .ref ce, .int (zI fn), .ref kd, .ref wd, .ref hs, .ref pf, .ref lt, .int (zI mn), .ref wg, .int (zI ta), .long ck, .int (zI at9), .int (zI rfn), .ref rk, .ref rw, .ref rh, .int (zI jc), .ref sa, .ref fi, .int (zI jb), .ref ch, .ref cn, .int (zI ad), .int (zI ru), .ref kp, .int (zI dn), .ref rfa])), (wg, .inl (c_wg, 24, .inl f_wg)), (sa, .inl (c_sa, 25, .inl f_2)), (fi, .inl (c_fi, 24, .inl (upd jh (jc2).toNat (zI z_22)))), (hs, .inl (c_hs, 4, .inl f_hs))] H := hP
              have hD : va_D A [(h0, .inr (9, [.int (zI fa), .int (zI tc), .ref so, .ref sl, .ref ce, .int (zI fn), .ref kd, .ref wd, .ref hs, .ref pf, .ref lt, .int (zI mn), .ref wg, .int (zI ta), .long ck, .int (zI at9), .int (zI rfn), .ref rk, .ref rw, .ref rh, .int (zI jc), .ref sa, .ref fi, .int (zI jb), .ref ch, .ref cn, .int (zI ad), .int (zI ru), .ref kp, .int (zI dn), .ref rfa])), (wg, .inl (c_wg, 24, .inl f_wg)), (sa, .inl (c_sa, 25, .inl f_2)), (fi, .inl (c_fi, 24, .inl (upd jh (jc2).toNat (zI z_22)))), (hs, .inl (c_hs, 4, .inl f_hs))] := hD
              generalize ef_23 : upd jh (jc2).toNat (zI z_22) = f_23 at hP hD
              refine lv_iinc (v := (zI (jg + 1))) (lv' := [(4, .int (zI (jg + 1))), (3, .int (zI js)), (2, .int (zI jc2)), (0, .ref h0), (1, .int (zI wo))]) hx hb dX9_findClusters_181 hl (k := 0) rfl (kz_inc _ 1) (by decide) rfl (fun ls hl => ?_)
              refine lv_goto (tgt := 135) hx hb dX9_findClusters_184 (by decide) ?_
              exact ih135 _ (by omega) _ _ _ ⟨(jg + 1), f_23, rfl, (by omega), (by rw [← ef_23]; exact kFt_upd v_1351 (by omega)), (kFp_set (x := zI z_11) (by omega) c_12 (by rw [← ef_23, pk_us, ← ez_22, ← ez_21])), hP, hD, hS, lv_sub hl [0, 1, 2, 3, 4] rfl⟩
      · refine lv_iload_n hx hb dX9_findClusters_107 rfl (lv_at hl 1 rfl) ?_
        refine lv_iconst (v := zI 1) hx hb dX9_findClusters_108 rfl ?_
        refine lv_aload_n hx hb dX9_findClusters_109 rfl (lv_at hl 3 rfl) ?_
        refine va_get (D := D) (ci := 9) (v := .ref wg) (C := RX9) (T := TX9) (N := 31) hx hb hts (fun _ h9 => List.mem_cons_of_mem _ (List.mem_append_right _ h9)) hown hK hP 0 rfl rfl 12 (by decide) (hts (.fieldLink RX9 34 "FontRunsModel" "writing" "[I") mw_X9_findClusters_7) (fun _ h9 => h9) rfl dX9_findClusters_110 ?_
        refine lv_iload hx hb dX9_findClusters_113 (lv_at hl 0 rfl) ?_
        refine kz_iald hx hb hK hP 1 0 rfl rfl (by omega) dX9_findClusters_115 (fun z_24 rz_24 ez_24 => ?_)
        refine lv_ishl hx hb dX9_findClusters_116 ?_
        refine kz_any (fun z_25 rz_25 ez_25 => ?_)
        refine lv_ior hx hb dX9_findClusters_117 ?_
        refine kz_any (fun z_26 rz_26 ez_26 => ?_)
        refine lv_istore_n (lv' := [(3, .int (zI z_26)), (4, .int (zI jk2)), (2, .int (zI jc2)), (0, .ref h0), (1, .int (zI wo))]) hx hb dX9_findClusters_118 rfl hl (by decide) rfl (fun ls hl => ?_)
        refine lv_iinc (v := (zI (jk2 + 1))) (lv' := [(4, .int (zI (jk2 + 1))), (3, .int (zI z_26)), (2, .int (zI jc2)), (0, .ref h0), (1, .int (zI wo))]) hx hb dX9_findClusters_119 hl (k := 1) rfl (kz_inc _ 1) (by decide) rfl (fun ls hl => ?_)
        refine lv_goto (tgt := 94) hx hb dX9_findClusters_122 (by decide) ?_
        exact ih94 _ (by omega) _ _ _ ⟨z_26, (jk2 + 1), rfl, (by omega), (by omega), hP, hD, hS, lv_sub hl [0, 1, 2, 3, 4] rfl⟩
  · refine lv_iload_n hx hb dX9_findClusters_20 rfl (lv_at hl 0 rfl) ?_
    refine kz_if_eq (tgt := 35) hx hb dX9_findClusters_21 (by decide) (by omega) (fun c_27 => ?_) (fun c_27 => ?_)
    · refine lv_aload_n hx hb dX9_findClusters_35 rfl (lv_at hl 1 rfl) ?_
      refine va_get (D := D) (ci := 9) (v := .ref sa) (C := RX9) (T := TX9) (N := 31) hx hb hts (fun _ h9 => List.mem_cons_of_mem _ (List.mem_append_right _ h9)) hown hK hP 0 rfl rfl 21 (by decide) (hts (.fieldLink RX9 46 "FontRunsModel" "start" "[I") mw_X9_findClusters_3) (fun _ h9 => h9) rfl dX9_findClusters_36 ?_
      refine lv_aload_n hx hb dX9_findClusters_39 rfl (lv_at hl 1 rfl) ?_
      refine va_get (D := D) (ci := 9) (v := .int (zI jc)) (C := RX9) (T := TX9) (N := 31) hx hb hts (fun _ h9 => List.mem_cons_of_mem _ (List.mem_append_right _ h9)) hown hK hP 0 rfl rfl 20 (by decide) (hts (.fieldLink RX9 138 "FontRunsModel" "clusters" "I") mw_X9_findClusters_0) (fun _ h9 => h9) rfl dX9_findClusters_40 ?_
      refine lv_iload_n hx hb dX9_findClusters_43 rfl (lv_at hl 0 rfl) ?_
      refine kz_iast hx hb hK hP hD hS 2 1 rfl rfl (by omega) dX9_findClusters_44 (fun H locs hP hD hS => ?_)
      have hP : va_P D vwCl [(h0, .inr (9, [.int (zI fa), .int (zI tc), .ref so, .ref sl, .ref ce, .int (zI fn), .ref kd, .ref wd, .ref hs, .ref pf, .ref lt, .int (zI mn), .ref wg, .int (zI ta), .long ck, .int (zI at9), .int (zI rfn), .ref rk, .ref rw, .ref rh, .int (zI jc), .ref sa, .ref fi, .int (zI 0), .ref ch, .ref cn, .int (zI ad), .int (zI ru), .ref kp, .int (zI dn), .ref rfa])), (wg, .inl (c_wg, 24, .inl f_wg)), (sa, .inl (c_sa, 25, .inl (upd ja (jc).toNat (zI jk)))), (fi, .inl (c_fi, 24, .inl f_fi)), (hs, .inl (c_hs, 4, .inl f_hs))] H := hP
      have hD : va_D A [(h0, .inr (9, [.int (zI fa), .int (zI tc), .ref so, .ref sl, .ref ce, .int (zI fn), .ref kd, .ref wd, .ref hs, .ref pf, .ref lt, .int (zI mn), .ref wg, .int (zI ta), .long ck, .int (zI at9), .int (zI rfn), .ref rk, .ref rw, .ref rh, .int (zI jc), .ref sa, .ref fi, .int (zI 0), .ref ch, .ref cn, .int (zI ad), .int (zI ru), .ref kp, .int (zI dn), .ref rfa])), (wg, .inl (c_wg, 24, .inl f_wg)), (sa, .inl (c_sa, 25, .inl (upd ja (jc).toNat (zI jk)))), (fi, .inl (c_fi, 24, .inl f_fi)), (hs, .inl (c_hs, 4, .inl f_hs))] := hD
      generalize ef_28 : upd ja (jc).toNat (zI jk) = f_28 at hP hD
      refine lv_aload_n hx hb dX9_findClusters_45 rfl (lv_at hl 1 rfl) ?_
      refine lv_dup hx hb dX9_findClusters_46 rfl ?_
      refine va_get (D := D) (ci := 9) (v := .int (zI jc)) (C := RX9) (T := TX9) (N := 31) hx hb hts (fun _ h9 => List.mem_cons_of_mem _ (List.mem_append_right _ h9)) hown hK hP 0 rfl rfl 20 (by decide) (hts (.fieldLink RX9 138 "FontRunsModel" "clusters" "I") mw_X9_findClusters_0) (fun _ h9 => h9) rfl dX9_findClusters_47 ?_
      refine lv_iconst (v := zI 1) hx hb dX9_findClusters_50 rfl ?_
      refine kz_iadd hx hb dX9_findClusters_51 ?_
      refine va_put (D := D) (ci := 9) (v := .int (zI (jc + 1))) (ty := .int) (C := RX9) (T := TX9) (N := 31) hx hb hts (fun _ h9 => List.mem_cons_of_mem _ (List.mem_append_right _ h9)) tyX9 tyX9_ok nmX9 hown hK hP hD hS 0 rfl rfl 20 (by decide) (hts (.fieldLink RX9 138 "FontRunsModel" "clusters" "I") mw_X9_findClusters_0) (fun _ h9 => h9) rfl (by decide +kernel) rfl rfl (Nat.le_of_ble_eq_true rfl) dX9_findClusters_52 (fun H locs hP hD hS => ?_)
      have hP : va_P D vwCl [(h0, .inr (9, [.int (zI fa), .int (zI tc), .ref so, .ref sl, .ref ce, .int (zI fn), .ref kd, .ref wd, .ref hs, .ref pf, .ref lt, .int (zI mn), .ref wg, .int (zI ta), .long ck, .int (zI at9), .int (zI rfn), .ref rk, .ref rw, .ref rh, .int (zI (jc + 1)), .ref sa, .ref fi, .int (zI 0), .ref ch, .ref cn, .int (zI ad), .int (zI ru), .ref kp, .int (zI dn), .ref rfa])), (wg, .inl (c_wg, 24, .inl f_wg)), (sa, .inl (c_sa, 25, .inl f_28)), (fi, .inl (c_fi, 24, .inl f_fi)), (hs, .inl (c_hs, 4, .inl f_hs))] H := hP
      have hD : va_D A [(h0, .inr (9, [.int (zI fa), .int (zI tc), .ref so, .ref sl, .ref ce, .int (zI fn), .ref kd, .ref wd, .ref hs, .ref pf, .ref lt, .int (zI mn), .ref wg, .int (zI ta), .long ck, .int (zI at9), .int (zI rfn), .ref rk, .ref rw, .ref rh, .int (zI (jc + 1)), .ref sa, .ref fi, .int (zI 0), .ref ch, .ref cn, .int (zI ad), .int (zI ru), .ref kp, .int (zI dn), .ref rfa])), (wg, .inl (c_wg, 24, .inl f_wg)), (sa, .inl (c_sa, 25, .inl f_28)), (fi, .inl (c_fi, 24, .inl f_fi)), (hs, .inl (c_hs, 4, .inl f_hs))] := hD
      refine lv_iinc (v := (zI (jk + 1))) (lv' := [(2, .int (zI (jk + 1))), (0, .ref h0), (1, .int (zI wo))]) hx hb dX9_findClusters_55 hl (k := 0) rfl (kz_inc _ 1) (by decide) rfl (fun ls hl => ?_)
      refine lv_goto (tgt := 12) hx hb dX9_findClusters_58 (by decide) ?_
      exact ih12 _ (by omega) _ _ _ ⟨(jk + 1), (jc + 1), f_28, rfl, (by omega), (by omega), (by rw [← ef_28]; exact kSt_upd v_122 (by omega) (by omega)), hP, hD, hS, lv_sub hl [0, 1, 2] rfl⟩
    · refine lv_aload_n hx hb dX9_findClusters_24 rfl (lv_at hl 1 rfl) ?_
      refine va_get (D := D) (ci := 9) (v := .ref wg) (C := RX9) (T := TX9) (N := 31) hx hb hts (fun _ h9 => List.mem_cons_of_mem _ (List.mem_append_right _ h9)) hown hK hP 0 rfl rfl 12 (by decide) (hts (.fieldLink RX9 34 "FontRunsModel" "writing" "[I") mw_X9_findClusters_7) (fun _ h9 => h9) rfl dX9_findClusters_25 ?_
      refine lv_iload_n hx hb dX9_findClusters_28 rfl (lv_at hl 0 rfl) ?_
      refine kz_iald hx hb hK hP 1 0 rfl rfl (by omega) dX9_findClusters_29 (fun z_29 rz_29 ez_29 => ?_)
      refine lv_bipush (v := zI 12) hx hb dX9_findClusters_30 (by decide) ?_
      refine kz_icmp_ge (tgt := 55) hx hb dX9_findClusters_32 (by decide) (by omega) (by omega) (fun c_30 => ?_) (fun c_30 => ?_)
      · refine lv_iinc (v := (zI (jk + 1))) (lv' := [(2, .int (zI (jk + 1))), (0, .ref h0), (1, .int (zI wo))]) hx hb dX9_findClusters_55 hl (k := 0) rfl (kz_inc _ 1) (by decide) rfl (fun ls hl => ?_)
        refine lv_goto (tgt := 12) hx hb dX9_findClusters_58 (by decide) ?_
        exact ih12 _ (by omega) _ _ _ ⟨(jk + 1), jc, ja, rfl, (by omega), (by omega), v_122, hP, hD, hS, lv_sub hl [0, 1, 2] rfl⟩
      · refine lv_aload_n hx hb dX9_findClusters_35 rfl (lv_at hl 1 rfl) ?_
        refine va_get (D := D) (ci := 9) (v := .ref sa) (C := RX9) (T := TX9) (N := 31) hx hb hts (fun _ h9 => List.mem_cons_of_mem _ (List.mem_append_right _ h9)) hown hK hP 0 rfl rfl 21 (by decide) (hts (.fieldLink RX9 46 "FontRunsModel" "start" "[I") mw_X9_findClusters_3) (fun _ h9 => h9) rfl dX9_findClusters_36 ?_
        refine lv_aload_n hx hb dX9_findClusters_39 rfl (lv_at hl 1 rfl) ?_
        refine va_get (D := D) (ci := 9) (v := .int (zI jc)) (C := RX9) (T := TX9) (N := 31) hx hb hts (fun _ h9 => List.mem_cons_of_mem _ (List.mem_append_right _ h9)) hown hK hP 0 rfl rfl 20 (by decide) (hts (.fieldLink RX9 138 "FontRunsModel" "clusters" "I") mw_X9_findClusters_0) (fun _ h9 => h9) rfl dX9_findClusters_40 ?_
        refine lv_iload_n hx hb dX9_findClusters_43 rfl (lv_at hl 0 rfl) ?_
        refine kz_iast hx hb hK hP hD hS 2 1 rfl rfl (by omega) dX9_findClusters_44 (fun H locs hP hD hS => ?_)
        have hP : va_P D vwCl [(h0, .inr (9, [.int (zI fa), .int (zI tc), .ref so, .ref sl, .ref ce, .int (zI fn), .ref kd, .ref wd, .ref hs, .ref pf, .ref lt, .int (zI mn), .ref wg, .int (zI ta), .long ck, .int (zI at9), .int (zI rfn), .ref rk, .ref rw, .ref rh, .int (zI jc), .ref sa, .ref fi, .int (zI 0), .ref ch, .ref cn, .int (zI ad), .int (zI ru), .ref kp, .int (zI dn), .ref rfa])), (wg, .inl (c_wg, 24, .inl f_wg)), (sa, .inl (c_sa, 25, .inl (upd ja (jc).toNat (zI jk)))), (fi, .inl (c_fi, 24, .inl f_fi)), (hs, .inl (c_hs, 4, .inl f_hs))] H := hP
        have hD : va_D A [(h0, .inr (9, [.int (zI fa), .int (zI tc), .ref so, .ref sl, .ref ce, .int (zI fn), .ref kd, .ref wd, .ref hs, .ref pf, .ref lt, .int (zI mn), .ref wg, .int (zI ta), .long ck, .int (zI at9), .int (zI rfn), .ref rk, .ref rw, .ref rh, .int (zI jc), .ref sa, .ref fi, .int (zI 0), .ref ch, .ref cn, .int (zI ad), .int (zI ru), .ref kp, .int (zI dn), .ref rfa])), (wg, .inl (c_wg, 24, .inl f_wg)), (sa, .inl (c_sa, 25, .inl (upd ja (jc).toNat (zI jk)))), (fi, .inl (c_fi, 24, .inl f_fi)), (hs, .inl (c_hs, 4, .inl f_hs))] := hD
        generalize ef_31 : upd ja (jc).toNat (zI jk) = f_31 at hP hD
        refine lv_aload_n hx hb dX9_findClusters_45 rfl (lv_at hl 1 rfl) ?_
        refine lv_dup hx hb dX9_findClusters_46 rfl ?_
        refine va_get (D := D) (ci := 9) (v := .int (zI jc)) (C := RX9) (T := TX9) (N := 31) hx hb hts (fun _ h9 => List.mem_cons_of_mem _ (List.mem_append_right _ h9)) hown hK hP 0 rfl rfl 20 (by decide) (hts (.fieldLink RX9 138 "FontRunsModel" "clusters" "I") mw_X9_findClusters_0) (fun _ h9 => h9) rfl dX9_findClusters_47 ?_
        refine lv_iconst (v := zI 1) hx hb dX9_findClusters_50 rfl ?_
        refine kz_iadd hx hb dX9_findClusters_51 ?_
        refine va_put (D := D) (ci := 9) (v := .int (zI (jc + 1))) (ty := .int) (C := RX9) (T := TX9) (N := 31) hx hb hts (fun _ h9 => List.mem_cons_of_mem _ (List.mem_append_right _ h9)) tyX9 tyX9_ok nmX9 hown hK hP hD hS 0 rfl rfl 20 (by decide) (hts (.fieldLink RX9 138 "FontRunsModel" "clusters" "I") mw_X9_findClusters_0) (fun _ h9 => h9) rfl (by decide +kernel) rfl rfl (Nat.le_of_ble_eq_true rfl) dX9_findClusters_52 (fun H locs hP hD hS => ?_)
        have hP : va_P D vwCl [(h0, .inr (9, [.int (zI fa), .int (zI tc), .ref so, .ref sl, .ref ce, .int (zI fn), .ref kd, .ref wd, .ref hs, .ref pf, .ref lt, .int (zI mn), .ref wg, .int (zI ta), .long ck, .int (zI at9), .int (zI rfn), .ref rk, .ref rw, .ref rh, .int (zI (jc + 1)), .ref sa, .ref fi, .int (zI 0), .ref ch, .ref cn, .int (zI ad), .int (zI ru), .ref kp, .int (zI dn), .ref rfa])), (wg, .inl (c_wg, 24, .inl f_wg)), (sa, .inl (c_sa, 25, .inl f_31)), (fi, .inl (c_fi, 24, .inl f_fi)), (hs, .inl (c_hs, 4, .inl f_hs))] H := hP
        have hD : va_D A [(h0, .inr (9, [.int (zI fa), .int (zI tc), .ref so, .ref sl, .ref ce, .int (zI fn), .ref kd, .ref wd, .ref hs, .ref pf, .ref lt, .int (zI mn), .ref wg, .int (zI ta), .long ck, .int (zI at9), .int (zI rfn), .ref rk, .ref rw, .ref rh, .int (zI (jc + 1)), .ref sa, .ref fi, .int (zI 0), .ref ch, .ref cn, .int (zI ad), .int (zI ru), .ref kp, .int (zI dn), .ref rfa])), (wg, .inl (c_wg, 24, .inl f_wg)), (sa, .inl (c_sa, 25, .inl f_31)), (fi, .inl (c_fi, 24, .inl f_fi)), (hs, .inl (c_hs, 4, .inl f_hs))] := hD
        refine lv_iinc (v := (zI (jk + 1))) (lv' := [(2, .int (zI (jk + 1))), (0, .ref h0), (1, .int (zI wo))]) hx hb dX9_findClusters_55 hl (k := 0) rfl (kz_inc _ 1) (by decide) rfl (fun ls hl => ?_)
        refine lv_goto (tgt := 12) hx hb dX9_findClusters_58 (by decide) ?_
        exact ih12 _ (by omega) _ _ _ ⟨(jk + 1), (jc + 1), f_31, rfl, (by omega), (by omega), (by rw [← ef_31]; exact kSt_upd v_122 (by omega) (by omega)), hP, hD, hS, lv_sub hl [0, 1, 2] rfl⟩
theorem kRw_le {ch fi : Nat → Int32} {fn cl wo c j : Int} (h : kRw ch fi fn cl wo c j) (hj : fn ≤ j) : kRw ch fi fn cl wo c fn := fun f a b => h f a (by omega)
theorem kBe_le {ch fi : Nat → Int32} {wo j fn b : Int} (h : kBe ch fi wo j b) (e : j = fn) : kBe ch fi wo fn b := e ▸ h
theorem kDp_eq {ch fi : Nat → Int32} {fn cl wo c c2 : Int} (h : kDp ch fi fn cl wo c) (e : c = c2) : kDp ch fi fn cl wo c2 := e ▸ h
theorem kch_at0 {ch : Nat → Int32} {f z : Int} (hz : rg z) (e : ch f.toNat = zI z) : kch ch 0 f = z := by
  unfold kch
  rw [show 4 * 0 + f = f by omega, e, zI_toInt hz]
theorem dX9_findChanges_0 : decode cX9_findChanges 0 = .ok (.aload_n 0, 1) := kqo_2a kbl_X9_findChanges (pc := 0) rfl
theorem dX9_findChanges_1 : decode cX9_findChanges 1 = .ok (.iload_n 1, 1) := kqo_1b kbl_X9_findChanges (pc := 1) rfl
theorem dX9_findChanges_2 : decode cX9_findChanges 2 = .ok (.invokevirtual 147, 3) := kqo_b6 (x1 := 0) (x2 := 147) kbl_X9_findChanges (pc := 2) rfl rfl
theorem dX9_findChanges_5 : decode cX9_findChanges 5 = .ok (.aload_n 0, 1) := kqo_2a kbl_X9_findChanges (pc := 5) rfl
theorem dX9_findChanges_6 : decode cX9_findChanges 6 = .ok (.getfield 138, 3) := kqo_b4 (x1 := 0) (x2 := 138) kbl_X9_findChanges (pc := 6) rfl rfl
theorem dX9_findChanges_9 : decode cX9_findChanges 9 = .ok (.iconst 1, 1) := kqo_04 kbl_X9_findChanges (pc := 9) rfl
theorem dX9_findChanges_10 : decode cX9_findChanges 10 = .ok (.isub, 1) := kqo_64 kbl_X9_findChanges (pc := 10) rfl
theorem dX9_findChanges_11 : decode cX9_findChanges 11 = .ok (.istore_n 2, 1) := kqo_3d kbl_X9_findChanges (pc := 11) rfl
theorem dX9_findChanges_12 : decode cX9_findChanges 12 = .ok (.iload_n 2, 1) := kqo_1c kbl_X9_findChanges (pc := 12) rfl
theorem dX9_findChanges_13 : decode cX9_findChanges 13 = .ok (.ifCond .lt 42, 3) := kqo_9b (x1 := 0) (x2 := 42) kbl_X9_findChanges (pc := 13) rfl rfl
theorem dX9_findChanges_16 : decode cX9_findChanges 16 = .ok (.iconst 0, 1) := kqo_03 kbl_X9_findChanges (pc := 16) rfl
theorem dX9_findChanges_17 : decode cX9_findChanges 17 = .ok (.istore_n 3, 1) := kqo_3e kbl_X9_findChanges (pc := 17) rfl
theorem dX9_findChanges_18 : decode cX9_findChanges 18 = .ok (.iload_n 3, 1) := kqo_1d kbl_X9_findChanges (pc := 18) rfl
theorem dX9_findChanges_19 : decode cX9_findChanges 19 = .ok (.aload_n 0, 1) := kqo_2a kbl_X9_findChanges (pc := 19) rfl
theorem dX9_findChanges_20 : decode cX9_findChanges 20 = .ok (.getfield 74, 3) := kqo_b4 (x1 := 0) (x2 := 74) kbl_X9_findChanges (pc := 20) rfl rfl
theorem dX9_findChanges_23 : decode cX9_findChanges 23 = .ok (.if_icmp .ge 26, 3) := kqo_a2 (x1 := 0) (x2 := 26) kbl_X9_findChanges (pc := 23) rfl rfl
theorem dX9_findChanges_26 : decode cX9_findChanges 26 = .ok (.aload_n 0, 1) := kqo_2a kbl_X9_findChanges (pc := 26) rfl
theorem dX9_findChanges_27 : decode cX9_findChanges 27 = .ok (.getfield 52, 3) := kqo_b4 (x1 := 0) (x2 := 52) kbl_X9_findChanges (pc := 27) rfl rfl
theorem dX9_findChanges_30 : decode cX9_findChanges 30 = .ok (.iconst 4, 1) := kqo_07 kbl_X9_findChanges (pc := 30) rfl
theorem dX9_findChanges_31 : decode cX9_findChanges 31 = .ok (.iload_n 2, 1) := kqo_1c kbl_X9_findChanges (pc := 31) rfl
theorem dX9_findChanges_32 : decode cX9_findChanges 32 = .ok (.imul, 1) := kqo_68 kbl_X9_findChanges (pc := 32) rfl
theorem dX9_findChanges_33 : decode cX9_findChanges 33 = .ok (.iload_n 3, 1) := kqo_1d kbl_X9_findChanges (pc := 33) rfl
theorem dX9_findChanges_34 : decode cX9_findChanges 34 = .ok (.iadd, 1) := kqo_60 kbl_X9_findChanges (pc := 34) rfl
theorem dX9_findChanges_35 : decode cX9_findChanges 35 = .ok (.aload_n 0, 1) := kqo_2a kbl_X9_findChanges (pc := 35) rfl
theorem dX9_findChanges_36 : decode cX9_findChanges 36 = .ok (.iload_n 2, 1) := kqo_1c kbl_X9_findChanges (pc := 36) rfl
theorem dX9_findChanges_37 : decode cX9_findChanges 37 = .ok (.iload_n 3, 1) := kqo_1d kbl_X9_findChanges (pc := 37) rfl
theorem dX9_findChanges_38 : decode cX9_findChanges 38 = .ok (.iload_n 1, 1) := kqo_1b kbl_X9_findChanges (pc := 38) rfl
theorem dX9_findChanges_39 : decode cX9_findChanges 39 = .ok (.invokevirtual 151, 3) := kqo_b6 (x1 := 0) (x2 := 151) kbl_X9_findChanges (pc := 39) rfl rfl
theorem dX9_findChanges_42 : decode cX9_findChanges 42 = .ok (.iastore, 1) := kqo_4f kbl_X9_findChanges (pc := 42) rfl
theorem dX9_findChanges_43 : decode cX9_findChanges 43 = .ok (.iinc 3 1, 3) := kqo_84 (x1 := 3) (x2 := 1) kbl_X9_findChanges (pc := 43) rfl rfl
theorem dX9_findChanges_46 : decode cX9_findChanges 46 = .ok (.goto (-28), 3) := kqo_a7 (x1 := 255) (x2 := 228) kbl_X9_findChanges (pc := 46) rfl rfl
theorem dX9_findChanges_49 : decode cX9_findChanges 49 = .ok (.iinc 2 (-1), 3) := kqo_84 (x1 := 2) (x2 := 255) kbl_X9_findChanges (pc := 49) rfl rfl
theorem dX9_findChanges_52 : decode cX9_findChanges 52 = .ok (.goto (-40), 3) := kqo_a7 (x1 := 255) (x2 := 216) kbl_X9_findChanges (pc := 52) rfl rfl
theorem dX9_findChanges_55 : decode cX9_findChanges 55 = .ok (.aload_n 0, 1) := kqo_2a kbl_X9_findChanges (pc := 55) rfl
theorem dX9_findChanges_56 : decode cX9_findChanges 56 = .ok (.getfield 138, 3) := kqo_b4 (x1 := 0) (x2 := 138) kbl_X9_findChanges (pc := 56) rfl rfl
theorem dX9_findChanges_59 : decode cX9_findChanges 59 = .ok (.ifCond .ne 7, 3) := kqo_9a (x1 := 0) (x2 := 7) kbl_X9_findChanges (pc := 59) rfl rfl
theorem dX9_findChanges_62 : decode cX9_findChanges 62 = .ok (.iconst 0, 1) := kqo_03 kbl_X9_findChanges (pc := 62) rfl
theorem dX9_findChanges_63 : decode cX9_findChanges 63 = .ok (.goto 5, 3) := kqo_a7 (x1 := 0) (x2 := 5) kbl_X9_findChanges (pc := 63) rfl rfl
theorem dX9_findChanges_66 : decode cX9_findChanges 66 = .ok (.bipush 24, 2) := kqo_10 (x1 := 24) kbl_X9_findChanges (pc := 66) rfl rfl
theorem dX9_findChanges_68 : decode cX9_findChanges 68 = .ok (.istore_n 2, 1) := kqo_3d kbl_X9_findChanges (pc := 68) rfl
theorem dX9_findChanges_69 : decode cX9_findChanges 69 = .ok (.iconst 0, 1) := kqo_03 kbl_X9_findChanges (pc := 69) rfl
theorem dX9_findChanges_70 : decode cX9_findChanges 70 = .ok (.istore_n 3, 1) := kqo_3e kbl_X9_findChanges (pc := 70) rfl
theorem dX9_findChanges_71 : decode cX9_findChanges 71 = .ok (.iload_n 3, 1) := kqo_1d kbl_X9_findChanges (pc := 71) rfl
theorem dX9_findChanges_72 : decode cX9_findChanges 72 = .ok (.aload_n 0, 1) := kqo_2a kbl_X9_findChanges (pc := 72) rfl
theorem dX9_findChanges_73 : decode cX9_findChanges 73 = .ok (.getfield 74, 3) := kqo_b4 (x1 := 0) (x2 := 74) kbl_X9_findChanges (pc := 73) rfl rfl
theorem dX9_findChanges_76 : decode cX9_findChanges 76 = .ok (.if_icmp .ge 47, 3) := kqo_a2 (x1 := 0) (x2 := 47) kbl_X9_findChanges (pc := 76) rfl rfl
theorem dX9_findChanges_79 : decode cX9_findChanges 79 = .ok (.aload_n 0, 1) := kqo_2a kbl_X9_findChanges (pc := 79) rfl
theorem dX9_findChanges_80 : decode cX9_findChanges 80 = .ok (.getfield 138, 3) := kqo_b4 (x1 := 0) (x2 := 138) kbl_X9_findChanges (pc := 80) rfl rfl
theorem dX9_findChanges_83 : decode cX9_findChanges 83 = .ok (.ifCond .le 40, 3) := kqo_9e (x1 := 0) (x2 := 40) kbl_X9_findChanges (pc := 83) rfl rfl
theorem dX9_findChanges_86 : decode cX9_findChanges 86 = .ok (.aload_n 0, 1) := kqo_2a kbl_X9_findChanges (pc := 86) rfl
theorem dX9_findChanges_87 : decode cX9_findChanges 87 = .ok (.iconst 0, 1) := kqo_03 kbl_X9_findChanges (pc := 87) rfl
theorem dX9_findChanges_88 : decode cX9_findChanges 88 = .ok (.iload_n 3, 1) := kqo_1d kbl_X9_findChanges (pc := 88) rfl
theorem dX9_findChanges_89 : decode cX9_findChanges 89 = .ok (.iload_n 1, 1) := kqo_1b kbl_X9_findChanges (pc := 89) rfl
theorem dX9_findChanges_90 : decode cX9_findChanges 90 = .ok (.invokevirtual 144, 3) := kqo_b6 (x1 := 0) (x2 := 144) kbl_X9_findChanges (pc := 90) rfl rfl
theorem dX9_findChanges_93 : decode cX9_findChanges 93 = .ok (.ifCond .eq 22, 3) := kqo_99 (x1 := 0) (x2 := 22) kbl_X9_findChanges (pc := 93) rfl rfl
theorem dX9_findChanges_96 : decode cX9_findChanges 96 = .ok (.aload_n 0, 1) := kqo_2a kbl_X9_findChanges (pc := 96) rfl
theorem dX9_findChanges_97 : decode cX9_findChanges 97 = .ok (.getfield 52, 3) := kqo_b4 (x1 := 0) (x2 := 52) kbl_X9_findChanges (pc := 97) rfl rfl
theorem dX9_findChanges_100 : decode cX9_findChanges 100 = .ok (.iload_n 3, 1) := kqo_1d kbl_X9_findChanges (pc := 100) rfl
theorem dX9_findChanges_101 : decode cX9_findChanges 101 = .ok (.iaload, 1) := kqo_2e kbl_X9_findChanges (pc := 101) rfl
theorem dX9_findChanges_102 : decode cX9_findChanges 102 = .ok (.iload_n 2, 1) := kqo_1c kbl_X9_findChanges (pc := 102) rfl
theorem dX9_findChanges_103 : decode cX9_findChanges 103 = .ok (.if_icmp .ge 12, 3) := kqo_a2 (x1 := 0) (x2 := 12) kbl_X9_findChanges (pc := 103) rfl rfl
theorem dX9_findChanges_106 : decode cX9_findChanges 106 = .ok (.aload_n 0, 1) := kqo_2a kbl_X9_findChanges (pc := 106) rfl
theorem dX9_findChanges_107 : decode cX9_findChanges 107 = .ok (.getfield 52, 3) := kqo_b4 (x1 := 0) (x2 := 52) kbl_X9_findChanges (pc := 107) rfl rfl
theorem dX9_findChanges_110 : decode cX9_findChanges 110 = .ok (.iload_n 3, 1) := kqo_1d kbl_X9_findChanges (pc := 110) rfl
theorem dX9_findChanges_111 : decode cX9_findChanges 111 = .ok (.iaload, 1) := kqo_2e kbl_X9_findChanges (pc := 111) rfl
theorem dX9_findChanges_112 : decode cX9_findChanges 112 = .ok (.goto 4, 3) := kqo_a7 (x1 := 0) (x2 := 4) kbl_X9_findChanges (pc := 112) rfl rfl
theorem dX9_findChanges_115 : decode cX9_findChanges 115 = .ok (.iload_n 2, 1) := kqo_1c kbl_X9_findChanges (pc := 115) rfl
theorem dX9_findChanges_116 : decode cX9_findChanges 116 = .ok (.istore_n 2, 1) := kqo_3d kbl_X9_findChanges (pc := 116) rfl
theorem dX9_findChanges_117 : decode cX9_findChanges 117 = .ok (.iinc 3 1, 3) := kqo_84 (x1 := 3) (x2 := 1) kbl_X9_findChanges (pc := 117) rfl rfl
theorem dX9_findChanges_120 : decode cX9_findChanges 120 = .ok (.goto (-49), 3) := kqo_a7 (x1 := 255) (x2 := 207) kbl_X9_findChanges (pc := 120) rfl rfl
theorem dX9_findChanges_123 : decode cX9_findChanges 123 = .ok (.iload_n 2, 1) := kqo_1c kbl_X9_findChanges (pc := 123) rfl
theorem dX9_findChanges_124 : decode cX9_findChanges 124 = .ok (.ireturn, 1) := kqo_ac kbl_X9_findChanges (pc := 124) rfl
set_option maxRecDepth 20000 in
theorem ggX9_findChanges_X9_canSet : GoodIn wsX9_findChanges wsX9_canSet := goodIn_4 _ (List.forall_mem_cons.mpr ⟨List.mem_cons_of_mem _ (List.mem_append_left _ (List.mem_append_left _ (List.mem_of_getElem? (i := 21) rfl))), List.forall_mem_append.mpr ⟨List.forall_mem_cons.mpr ⟨List.mem_cons_of_mem _ (List.mem_append_left _ (List.mem_append_left _ (List.mem_of_getElem? (i := 12) rfl))), List.forall_mem_cons.mpr ⟨List.mem_cons_of_mem _ (List.mem_append_left _ (List.mem_append_left _ (List.mem_of_getElem? (i := 22) rfl))), List.forall_mem_cons.mpr ⟨List.mem_cons_of_mem _ (List.mem_append_left _ (List.mem_append_left _ (List.mem_of_getElem? (i := 23) rfl))), List.forall_mem_cons.mpr ⟨List.mem_cons_of_mem _ (List.mem_append_left _ (List.mem_append_left _ (List.mem_of_getElem? (i := 6) rfl))), List.forall_mem_cons.mpr ⟨List.mem_cons_of_mem _ (List.mem_append_left _ (List.mem_append_right _ (List.mem_of_getElem? (i := 0) rfl))), fun _ h9 => absurd h9 List.not_mem_nil⟩⟩⟩⟩⟩, fun w h9 => List.mem_cons_of_mem _ (List.mem_append_right _ (h9))⟩⟩) (by decide +kernel)
set_option maxRecDepth 20000 in
theorem gX9_findChanges_X9_canSet : GoodIn wsX9_findChanges (wsV RX9 144 RX9 yX9_canSet wsX9_canSet) := goodIn_app (goodIn_4 _ (List.forall_mem_cons.mpr ⟨List.mem_cons_of_mem _ (List.mem_append_left _ (List.mem_append_left _ (List.mem_of_getElem? (i := 18) rfl))), List.forall_mem_cons.mpr ⟨List.mem_cons_of_mem _ (List.mem_append_left _ (List.mem_append_left _ (List.mem_of_getElem? (i := 19) rfl))), List.forall_mem_cons.mpr ⟨List.mem_cons_of_mem _ (List.mem_append_left _ (List.mem_append_left _ (List.mem_of_getElem? (i := 20) rfl))), List.forall_mem_cons.mpr ⟨List.mem_cons_of_mem _ (List.mem_append_left _ (List.mem_append_left _ (List.mem_of_getElem? (i := 6) rfl))), fun _ h9 => absurd h9 List.not_mem_nil⟩⟩⟩⟩) (by decide +kernel)) ggX9_findChanges_X9_canSet
set_option maxRecDepth 20000 in
theorem ggX9_findChanges_X9_fewestBehind : GoodIn wsX9_findChanges wsX9_fewestBehind := goodIn_4 _ (List.forall_mem_cons.mpr ⟨List.mem_cons_of_mem _ (List.mem_append_left _ (List.mem_append_left _ (List.mem_of_getElem? (i := 17) rfl))), List.forall_mem_append.mpr ⟨List.forall_mem_cons.mpr ⟨List.mem_cons_of_mem _ (List.mem_append_left _ (List.mem_append_left _ (List.mem_of_getElem? (i := 0) rfl))), List.forall_mem_cons.mpr ⟨List.mem_cons_of_mem _ (List.mem_append_left _ (List.mem_append_left _ (List.mem_of_getElem? (i := 1) rfl))), List.forall_mem_cons.mpr ⟨List.mem_cons_of_mem _ (List.mem_append_left _ (List.mem_append_left _ (List.mem_of_getElem? (i := 2) rfl))), List.forall_mem_cons.mpr ⟨List.mem_cons_of_mem _ (List.mem_append_left _ (List.mem_append_left _ (List.mem_of_getElem? (i := 18) rfl))), List.forall_mem_cons.mpr ⟨List.mem_cons_of_mem _ (List.mem_append_left _ (List.mem_append_left _ (List.mem_of_getElem? (i := 19) rfl))), List.forall_mem_cons.mpr ⟨List.mem_cons_of_mem _ (List.mem_append_left _ (List.mem_append_left _ (List.mem_of_getElem? (i := 20) rfl))), List.forall_mem_cons.mpr ⟨List.mem_cons_of_mem _ (List.mem_append_left _ (List.mem_append_left _ (List.mem_of_getElem? (i := 6) rfl))), List.forall_mem_cons.mpr ⟨List.mem_cons_of_mem _ (List.mem_append_left _ (List.mem_append_left _ (List.mem_of_getElem? (i := 21) rfl))), List.forall_mem_cons.mpr ⟨List.mem_cons_of_mem _ (List.mem_append_left _ (List.mem_append_left _ (List.mem_of_getElem? (i := 12) rfl))), List.forall_mem_cons.mpr ⟨List.mem_cons_of_mem _ (List.mem_append_left _ (List.mem_append_left _ (List.mem_of_getElem? (i := 22) rfl))), List.forall_mem_cons.mpr ⟨List.mem_cons_of_mem _ (List.mem_append_left _ (List.mem_append_left _ (List.mem_of_getElem? (i := 23) rfl))), List.forall_mem_cons.mpr ⟨List.mem_cons_of_mem _ (List.mem_append_left _ (List.mem_append_right _ (List.mem_of_getElem? (i := 0) rfl))), fun _ h9 => absurd h9 List.not_mem_nil⟩⟩⟩⟩⟩⟩⟩⟩⟩⟩⟩⟩, fun w h9 => List.mem_cons_of_mem _ (List.mem_append_right _ (h9))⟩⟩) (by decide +kernel)
set_option maxRecDepth 20000 in
theorem gX9_findChanges_X9_fewestBehind : GoodIn wsX9_findChanges (wsV RX9 151 RX9 yX9_fewestBehind wsX9_fewestBehind) := goodIn_app (goodIn_4 _ (List.forall_mem_cons.mpr ⟨List.mem_cons_of_mem _ (List.mem_append_left _ (List.mem_append_left _ (List.mem_of_getElem? (i := 14) rfl))), List.forall_mem_cons.mpr ⟨List.mem_cons_of_mem _ (List.mem_append_left _ (List.mem_append_left _ (List.mem_of_getElem? (i := 15) rfl))), List.forall_mem_cons.mpr ⟨List.mem_cons_of_mem _ (List.mem_append_left _ (List.mem_append_left _ (List.mem_of_getElem? (i := 16) rfl))), List.forall_mem_cons.mpr ⟨List.mem_cons_of_mem _ (List.mem_append_left _ (List.mem_append_left _ (List.mem_of_getElem? (i := 6) rfl))), fun _ h9 => absurd h9 List.not_mem_nil⟩⟩⟩⟩) (by decide +kernel)) ggX9_findChanges_X9_fewestBehind
set_option maxRecDepth 20000 in
theorem ggX9_findChanges_X9_findClusters : GoodIn wsX9_findChanges wsX9_findClusters := goodIn_4 _ (List.forall_mem_cons.mpr ⟨List.mem_cons_of_mem _ (List.mem_append_left _ (List.mem_append_left _ (List.mem_of_getElem? (i := 7) rfl))), List.forall_mem_append.mpr ⟨List.forall_mem_cons.mpr ⟨List.mem_cons_of_mem _ (List.mem_append_left _ (List.mem_append_left _ (List.mem_of_getElem? (i := 0) rfl))), List.forall_mem_cons.mpr ⟨List.mem_cons_of_mem _ (List.mem_append_left _ (List.mem_append_left _ (List.mem_of_getElem? (i := 8) rfl))), List.forall_mem_cons.mpr ⟨List.mem_cons_of_mem _ (List.mem_append_left _ (List.mem_append_left _ (List.mem_of_getElem? (i := 9) rfl))), List.forall_mem_cons.mpr ⟨List.mem_cons_of_mem _ (List.mem_append_left _ (List.mem_append_left _ (List.mem_of_getElem? (i := 10) rfl))), List.forall_mem_cons.mpr ⟨List.mem_cons_of_mem _ (List.mem_append_left _ (List.mem_append_left _ (List.mem_of_getElem? (i := 11) rfl))), List.forall_mem_cons.mpr ⟨List.mem_cons_of_mem _ (List.mem_append_left _ (List.mem_append_left _ (List.mem_of_getElem? (i := 12) rfl))), List.forall_mem_cons.mpr ⟨List.mem_cons_of_mem _ (List.mem_append_left _ (List.mem_append_left _ (List.mem_of_getElem? (i := 1) rfl))), List.forall_mem_cons.mpr ⟨List.mem_cons_of_mem _ (List.mem_append_left _ (List.mem_append_left _ (List.mem_of_getElem? (i := 13) rfl))), fun _ h9 => absurd h9 List.not_mem_nil⟩⟩⟩⟩⟩⟩⟩⟩, fun w h9 => List.mem_cons_of_mem _ (List.mem_append_right _ (h9))⟩⟩) (by decide +kernel)
set_option maxRecDepth 20000 in
theorem gX9_findChanges_X9_findClusters : GoodIn wsX9_findChanges (wsV RX9 147 RX9 yX9_findClusters wsX9_findClusters) := goodIn_app (goodIn_4 _ (List.forall_mem_cons.mpr ⟨List.mem_cons_of_mem _ (List.mem_append_left _ (List.mem_append_left _ (List.mem_of_getElem? (i := 3) rfl))), List.forall_mem_cons.mpr ⟨List.mem_cons_of_mem _ (List.mem_append_left _ (List.mem_append_left _ (List.mem_of_getElem? (i := 4) rfl))), List.forall_mem_cons.mpr ⟨List.mem_cons_of_mem _ (List.mem_append_left _ (List.mem_append_left _ (List.mem_of_getElem? (i := 5) rfl))), List.forall_mem_cons.mpr ⟨List.mem_cons_of_mem _ (List.mem_append_left _ (List.mem_append_left _ (List.mem_of_getElem? (i := 6) rfl))), fun _ h9 => absurd h9 List.not_mem_nil⟩⟩⟩⟩) (by decide +kernel)) ggX9_findChanges_X9_findClusters
set_option maxRecDepth 20000 in
theorem mw_X9_findChanges_0 : (.fieldLink RX9 138 "FontRunsModel" "clusters" "I" : Cond) ∈ wsX9_findChanges := List.mem_cons_of_mem _ (List.mem_append_left _ (List.mem_append_left _ (List.mem_of_getElem? (i := 0) rfl)))
set_option maxRecDepth 20000 in
theorem mw_X9_findChanges_1 : (.fieldLink RX9 74 "FontRunsModel" "fonts" "I" : Cond) ∈ wsX9_findChanges := List.mem_cons_of_mem _ (List.mem_append_left _ (List.mem_append_left _ (List.mem_of_getElem? (i := 1) rfl)))
set_option maxRecDepth 20000 in
theorem mw_X9_findChanges_2 : (.fieldLink RX9 52 "FontRunsModel" "changes" "[I" : Cond) ∈ wsX9_findChanges := List.mem_cons_of_mem _ (List.mem_append_left _ (List.mem_append_left _ (List.mem_of_getElem? (i := 2) rfl)))
theorem ax_X9_findChanges_0 {e0 e1 e2 e3 e4 e5 : Nat × va_E} : ([0, 1, 2, 3, 4] : List Nat).map (fun i => ([e0, e1, e2, e3, e4, e5] : va_W)[i]?) = ([e0, e1, e2, e3, e4] : va_W).map some := rfl
theorem ax_X9_findChanges_1 {e0 e1 e2 e3 e4 e5 : Nat × va_E} : ([5] : List Nat).map (fun i => ([e0, e1, e2, e3, e4, e5] : va_W)[i]?) = ([e5] : va_W).map some := rfl
theorem ax_X9_findChanges_2 {D : va_G} {cl : List vw_C} {H : Heap} {e0 f0 f1 f2 f3 f4 : Nat × va_E} (h : va_P D cl ((([e0] : va_W) ++ ([f0, f1, f2, f3, f4] : va_W))) H) : va_P D cl (([e0, f0, f1, f2, f3, f4] : va_W)) H := h
theorem ax_X9_findChanges_3 {A : Nat → Prop} {e0 f0 f1 f2 f3 f4 : Nat × va_E} (h : va_D A ((([e0] : va_W) ++ ([f0, f1, f2, f3, f4] : va_W)))) : va_D A (([e0, f0, f1, f2, f3, f4] : va_W)) := h
theorem ax_X9_findChanges_4 {e0 e1 e2 e3 e4 e5 : Nat × va_E} : ([1, 2, 3, 4, 5, 0] : List Nat).map (fun i => ([e0, e1, e2, e3, e4, e5] : va_W)[i]?) = ([e1, e2, e3, e4, e5, e0] : va_W).map some := rfl
theorem ax_X9_findChanges_5 {e0 e1 e2 e3 e4 e5 : Nat × va_E} : ([1, 4] : List Nat).map (fun i => ([e0, e1, e2, e3, e4, e5] : va_W)[i]?) = ([e1, e4] : va_W).map some := rfl
theorem ax_X9_findChanges_6 {e0 e1 e2 e3 e4 e5 : Nat × va_E} : ([1, 4, 0] : List Nat).map (fun i => ([e0, e1, e2, e3, e4, e5] : va_W)[i]?) = ([e1, e4, e0] : va_W).map some := rfl
set_option maxHeartbeats 4000000 in
set_option maxRecDepth 100000 in
theorem c_X9_findChanges (l : Launch) (D : va_G) (sz : Nat) (wo : Int) (h0 : Nat) (fa : Int) (tc : Int) (so : Nat) (sl : Nat) (ce : Nat) (fn : Int) (kd : Nat) (wd : Nat) (hs : Nat) (pf : Nat) (lt : Nat) (mn : Int) (wg : Nat) (ta : Int) (ck : Int64) (at9 : Int) (rfn : Int) (rk : Nat) (rw : Nat) (rh : Nat) (cl : Int) (sa : Nat) (fi : Nat) (bo : Int) (ch : Nat) (cn : Nat) (ad : Int) (ru : Int) (kp : Nat) (dn : Int) (rfa : Nat) (c_wg : ClassId) (f_wg : Nat → Int32) (c_sa : ClassId) (f_sa : Nat → Int32) (c_fi : ClassId) (f_fi : Nat → Int32) (c_hs : ClassId) (f_hs : Nat → Int32) (c_ch : ClassId) (f_ch : Nat → Int32) (q0 : rg wo) (q1 : 0 ≤ mn ∧ mn ≤ 24) (q2 : 0 ≤ fn ∧ fn ≤ 4) : Met l yX9_findChanges wsX9_findChanges ({ frames := 3, cells := 0, slots := 0, locals := 70 }) (kPre [.ref h0, .int (zI wo)] D [(h0, .inr (9, [.int (zI fa), .int (zI tc), .ref so, .ref sl, .ref ce, .int (zI fn), .ref kd, .ref wd, .ref hs, .ref pf, .ref lt, .int (zI mn), .ref wg, .int (zI ta), .long ck, .int (zI at9), .int (zI rfn), .ref rk, .ref rw, .ref rh, .int (zI cl), .ref sa, .ref fi, .int (zI bo), .ref ch, .ref cn, .int (zI ad), .int (zI ru), .ref kp, .int (zI dn), .ref rfa])), (wg, .inl (c_wg, 24, .inl f_wg)), (sa, .inl (c_sa, 25, .inl f_sa)), (fi, .inl (c_fi, 24, .inl f_fi)), (hs, .inl (c_hs, 4, .inl f_hs)), (ch, .inl (c_ch, 96, .inl f_ch))] [(c_wg, .int), (c_sa, .int), (c_fi, .int), (c_hs, .int), (c_ch, .int)] sz) (kQS (fun rz t => ∃ (u_cl : Int) (u_bo : Int) (u_f_sa : Nat → Int32) (u_f_fi : Nat → Int32) (u_f_ch : Nat → Int32), (0 ≤ u_cl ∧ u_cl ≤ mn) ∧ (0 ≤ u_bo ∧ u_bo ≤ 24) ∧ (kFt u_f_fi fn u_cl wo) ∧ (kDp u_f_ch u_f_fi fn u_cl wo 0) ∧ (0 ≤ rz ∧ rz ≤ 24) ∧ (u_cl = 0 ∨ kBe u_f_ch u_f_fi wo fn rz) ∧ va_P D vwCl [(h0, .inr (9, [.int (zI fa), .int (zI tc), .ref so, .ref sl, .ref ce, .int (zI fn), .ref kd, .ref wd, .ref hs, .ref pf, .ref lt, .int (zI mn), .ref wg, .int (zI ta), .long ck, .int (zI at9), .int (zI rfn), .ref rk, .ref rw, .ref rh, .int (zI u_cl), .ref sa, .ref fi, .int (zI u_bo), .ref ch, .ref cn, .int (zI ad), .int (zI ru), .ref kp, .int (zI dn), .ref rfa])), (wg, .inl (c_wg, 24, .inl f_wg)), (sa, .inl (c_sa, 25, .inl u_f_sa)), (fi, .inl (c_fi, 24, .inl u_f_fi)), (hs, .inl (c_hs, 4, .inl f_hs)), (ch, .inl (c_ch, 96, .inl u_f_ch))] t.heap ∧ va_D (va_A [(h0, .inr (9, [.int (zI fa), .int (zI tc), .ref so, .ref sl, .ref ce, .int (zI fn), .ref kd, .ref wd, .ref hs, .ref pf, .ref lt, .int (zI mn), .ref wg, .int (zI ta), .long ck, .int (zI at9), .int (zI rfn), .ref rk, .ref rw, .ref rh, .int (zI cl), .ref sa, .ref fi, .int (zI bo), .ref ch, .ref cn, .int (zI ad), .int (zI ru), .ref kp, .int (zI dn), .ref rfa])), (wg, .inl (c_wg, 24, .inl f_wg)), (sa, .inl (c_sa, 25, .inl f_sa)), (fi, .inl (c_fi, 24, .inl f_fi)), (hs, .inl (c_hs, 4, .inl f_hs)), (ch, .inl (c_ch, 96, .inl f_ch))] sz) [(h0, .inr (9, [.int (zI fa), .int (zI tc), .ref so, .ref sl, .ref ce, .int (zI fn), .ref kd, .ref wd, .ref hs, .ref pf, .ref lt, .int (zI mn), .ref wg, .int (zI ta), .long ck, .int (zI at9), .int (zI rfn), .ref rk, .ref rw, .ref rh, .int (zI u_cl), .ref sa, .ref fi, .int (zI u_bo), .ref ch, .ref cn, .int (zI ad), .int (zI ru), .ref kp, .int (zI dn), .ref rfa])), (wg, .inl (c_wg, 24, .inl f_wg)), (sa, .inl (c_sa, 25, .inl u_f_sa)), (fi, .inl (c_fi, 24, .inl u_f_fi)), (hs, .inl (c_hs, 4, .inl f_hs)), (ch, .inl (c_ch, 96, .inl u_f_ch))]) (va_A [(h0, .inr (9, [.int (zI fa), .int (zI tc), .ref so, .ref sl, .ref ce, .int (zI fn), .ref kd, .ref wd, .ref hs, .ref pf, .ref lt, .int (zI mn), .ref wg, .int (zI ta), .long ck, .int (zI at9), .int (zI rfn), .ref rk, .ref rw, .ref rh, .int (zI cl), .ref sa, .ref fi, .int (zI bo), .ref ch, .ref cn, .int (zI ad), .int (zI ru), .ref kp, .int (zI dn), .ref rfa])), (wg, .inl (c_wg, 24, .inl f_wg)), (sa, .inl (c_sa, 25, .inl f_sa)), (fi, .inl (c_fi, 24, .inl f_fi)), (hs, .inl (c_hs, 4, .inl f_hs)), (ch, .inl (c_ch, 96, .inl f_ch))] sz)) 0 0 (va_A [(h0, .inr (9, [.int (zI fa), .int (zI tc), .ref so, .ref sl, .ref ce, .int (zI fn), .ref kd, .ref wd, .ref hs, .ref pf, .ref lt, .int (zI mn), .ref wg, .int (zI ta), .long ck, .int (zI at9), .int (zI rfn), .ref rk, .ref rw, .ref rh, .int (zI cl), .ref sa, .ref fi, .int (zI bo), .ref ch, .ref cn, .int (zI ad), .int (zI ru), .ref kp, .int (zI dn), .ref rfa])), (wg, .inl (c_wg, 24, .inl f_wg)), (sa, .inl (c_sa, 25, .inl f_sa)), (fi, .inl (c_fi, 24, .inl f_fi)), (hs, .inl (c_hs, 4, .inl f_hs)), (ch, .inl (c_ch, 96, .inl f_ch))] sz) := by
  refine Met.ofW (cc := cX9_findChanges) (maxL := 4) (ret := (some .int)) (by decide) rfl ?_
  intro p e s m args below meth c s₁ B hml hv
  obtain ⟨rfl, hsz, hP, hK, hD0, hN⟩ := hv
  have hx := B.exec
  have hb := B.bytes
  have hr := B.returns
  have hts := atoms_spec (ws := wsX9_findChanges) B.pre
  have hown : s.vm.findClass RX9 = some m.cls := findClass_of_methodNamed B.named
  have hlocks := B.notSynchronized
  subst hsz
  have hD := hD0.self (sz := s.heap.size)
  generalize hAe : va_A [(h0, .inr (9, [.int (zI fa), .int (zI tc), .ref so, .ref sl, .ref ce, .int (zI fn), .ref kd, .ref wd, .ref hs, .ref pf, .ref lt, .int (zI mn), .ref wg, .int (zI ta), .long ck, .int (zI at9), .int (zI rfn), .ref rk, .ref rw, .ref rh, .int (zI cl), .ref sa, .ref fi, .int (zI bo), .ref ch, .ref cn, .int (zI ad), .int (zI ru), .ref kp, .int (zI dn), .ref rfa])), (wg, .inl (c_wg, 24, .inl f_wg)), (sa, .inl (c_sa, 25, .inl f_sa)), (fi, .inl (c_fi, 24, .inl f_fi)), (hs, .inl (c_hs, 4, .inl f_hs)), (ch, .inl (c_ch, 96, .inl f_ch))] s.heap.size = A at hD ⊢
  have hA : ∀ q : Nat, s.heap.size ≤ q → A q := fun q h => by rw [← hAe]; exact Or.inr h
  have hS : va_S A s.heap s.heap [] := va_S.rf
  have hP : va_P D vwCl [(h0, .inr (9, [.int (zI fa), .int (zI tc), .ref so, .ref sl, .ref ce, .int (zI fn), .ref kd, .ref wd, .ref hs, .ref pf, .ref lt, .int (zI mn), .ref wg, .int (zI ta), .long ck, .int (zI at9), .int (zI rfn), .ref rk, .ref rw, .ref rh, .int (zI cl), .ref sa, .ref fi, .int (zI bo), .ref ch, .ref cn, .int (zI ad), .int (zI ru), .ref kp, .int (zI dn), .ref rfa])), (wg, .inl (c_wg, 24, .inl f_wg)), (sa, .inl (c_sa, 25, .inl f_sa)), (fi, .inl (c_fi, 24, .inl f_fi)), (hs, .inl (c_hs, 4, .inl f_hs)), (ch, .inl (c_ch, 96, .inl f_ch))] s.heap := hP
  have hl := lv_entry ([.ref h0, .int (zI wo)]) (n := 4) (Nat.le_of_ble_eq_true rfl)
  rw [lg_entry_eq]
  generalize (lg_sl ([.ref h0, .int (zI wo)]) ++ List.replicate (4 - (lg_sl ([.ref h0, .int (zI wo)])).length) Slot.unset).toArray = ls at hl ⊢
  have hl : lv_has ls 4 [(0, .ref h0), (1, .int (zI wo))] := hl
  refine lv_aload_n hx hb dX9_findChanges_0 rfl (lv_at hl 0 rfl) ?_
  refine lv_iload_n hx hb dX9_findChanges_1 rfl (lv_at hl 1 rfl) ?_
  have hFc := va_free (wc := [(h0, .inr (9, [.int (zI fa), .int (zI tc), .ref so, .ref sl, .ref ce, .int (zI fn), .ref kd, .ref wd, .ref hs, .ref pf, .ref lt, .int (zI mn), .ref wg, .int (zI ta), .long ck, .int (zI at9), .int (zI rfn), .ref rk, .ref rw, .ref rh, .int (zI cl), .ref sa, .ref fi, .int (zI bo), .ref ch, .ref cn, .int (zI ad), .int (zI ru), .ref kp, .int (zI dn), .ref rfa])), (wg, .inl (c_wg, 24, .inl f_wg)), (sa, .inl (c_sa, 25, .inl f_sa)), (fi, .inl (c_fi, 24, .inl f_fi)), (hs, .inl (c_hs, 4, .inl f_hs))]) hD hS hA [0, 1, 2, 3, 4] ax_X9_findChanges_0
  refine va_callv (va_runV (As := [.int (zI wo)]) (rest := []) ⟨hx, hb, hml, hown, hts⟩ (c_X9_findClusters l D s.heap.size (wo := wo) (h0 := h0) (fa := fa) (tc := tc) (so := so) (sl := sl) (ce := ce) (fn := fn) (kd := kd) (wd := wd) (hs := hs) (pf := pf) (lt := lt) (mn := mn) (wg := wg) (ta := ta) (ck := ck) (at9 := at9) (rfn := rfn) (rk := rk) (rw := rw) (rh := rh) (cl := cl) (sa := sa) (fi := fi) (bo := bo) (ch := ch) (cn := cn) (ad := ad) (ru := ru) (kp := kp) (dn := dn) (rfa := rfa) (c_wg := c_wg) (f_wg := f_wg) (c_sa := c_sa) (f_sa := f_sa) (c_fi := c_fi) (f_fi := f_fi) (c_hs := c_hs) (f_hs := f_hs) q0 q1 q2) (cwV 1 hts gX9_findChanges_X9_findClusters rfl rfl rfl (by decide +kernel) ⟨Nat.le_of_ble_eq_true rfl, Nat.le_of_ble_eq_true rfl⟩) (kPreV hP (kD0 hD) hK hN [0, 1, 2, 3, 4] [0, 1, 2, 3] ax_X9_findChanges_0 rfl (by decide +kernel) 0 9 rfl rfl) rfl rfl hl.1 rfl (lv_room (Nat.le_of_ble_eq_true rfl)) dX9_findChanges_2 ⟨Nat.le_of_ble_eq_true rfl, Nat.le_of_ble_eq_true rfl⟩) hS (fun q _ h => hFc q h) hFc (fun u t H1 locs ht hvm hw hB hz1 hk1 hS => ?_)
  refine Exists.elim hB (fun u_cl_1 hB1 => Exists.elim hB1 (fun u_bo_2 hB2 => Exists.elim hB2 (fun u_f_sa_3 hB3 => Exists.elim hB3 (fun u_f_fi_4 hB4 => ?_))))
  have h_5 := hB4.1
  have h_6 := hB4.2.1
  have h_7 := hB4.2.2.1
  have hP1 := hB4.2.2.2.1
  have hD1 := hB4.2.2.2.2
  clear hB hB1 hB2 hB3 hB4
  rw [ht] at hP1
  obtain ⟨hP, hD⟩ := va_join (wr := [(ch, .inl (c_ch, 96, .inl f_ch))]) (w1 := [(h0, .inr (9, [.int (zI fa), .int (zI tc), .ref so, .ref sl, .ref ce, .int (zI fn), .ref kd, .ref wd, .ref hs, .ref pf, .ref lt, .int (zI mn), .ref wg, .int (zI ta), .long ck, .int (zI at9), .int (zI rfn), .ref rk, .ref rw, .ref rh, .int (zI u_cl_1), .ref sa, .ref fi, .int (zI u_bo_2), .ref ch, .ref cn, .int (zI ad), .int (zI ru), .ref kp, .int (zI dn), .ref rfa])), (wg, .inl (c_wg, 24, .inl f_wg)), (sa, .inl (c_sa, 25, .inl u_f_sa_3)), (fi, .inl (c_fi, 24, .inl u_f_fi_4)), (hs, .inl (c_hs, 4, .inl f_hs))]) hP hD [0, 1, 2, 3, 4] [5] ax_X9_findChanges_0 ax_X9_findChanges_1 (by decide +kernel) (by decide +kernel) hk1 hFc hP1 hD1
  have hP := ax_X9_findChanges_2 hP
  have hD := ax_X9_findChanges_3 hD
  generalize H1 = H at hP hS ⊢
  have hP : va_P D vwCl [(ch, .inl (c_ch, 96, .inl f_ch)), (h0, .inr (9, [.int (zI fa), .int (zI tc), .ref so, .ref sl, .ref ce, .int (zI fn), .ref kd, .ref wd, .ref hs, .ref pf, .ref lt, .int (zI mn), .ref wg, .int (zI ta), .long ck, .int (zI at9), .int (zI rfn), .ref rk, .ref rw, .ref rh, .int (zI u_cl_1), .ref sa, .ref fi, .int (zI u_bo_2), .ref ch, .ref cn, .int (zI ad), .int (zI ru), .ref kp, .int (zI dn), .ref rfa])), (wg, .inl (c_wg, 24, .inl f_wg)), (sa, .inl (c_sa, 25, .inl u_f_sa_3)), (fi, .inl (c_fi, 24, .inl u_f_fi_4)), (hs, .inl (c_hs, 4, .inl f_hs))] H := hP
  have hD : va_D A [(ch, .inl (c_ch, 96, .inl f_ch)), (h0, .inr (9, [.int (zI fa), .int (zI tc), .ref so, .ref sl, .ref ce, .int (zI fn), .ref kd, .ref wd, .ref hs, .ref pf, .ref lt, .int (zI mn), .ref wg, .int (zI ta), .long ck, .int (zI at9), .int (zI rfn), .ref rk, .ref rw, .ref rh, .int (zI u_cl_1), .ref sa, .ref fi, .int (zI u_bo_2), .ref ch, .ref cn, .int (zI ad), .int (zI ru), .ref kp, .int (zI dn), .ref rfa])), (wg, .inl (c_wg, 24, .inl f_wg)), (sa, .inl (c_sa, 25, .inl u_f_sa_3)), (fi, .inl (c_fi, 24, .inl u_f_fi_4)), (hs, .inl (c_hs, 4, .inl f_hs))] := hD
  refine lv_aload_n hx hb dX9_findChanges_5 rfl (lv_at hl 0 rfl) ?_
  refine va_get (D := D) (ci := 9) (v := .int (zI u_cl_1)) (C := RX9) (T := TX9) (N := 31) hx hb hts (fun _ h9 => List.mem_cons_of_mem _ (List.mem_append_right _ h9)) hown hK hP 1 rfl rfl 20 (by decide) (hts (.fieldLink RX9 138 "FontRunsModel" "clusters" "I") mw_X9_findChanges_0) (fun _ h9 => h9) rfl dX9_findChanges_6 ?_
  refine lv_iconst (v := zI 1) hx hb dX9_findChanges_9 rfl ?_
  refine kz_isub hx hb dX9_findChanges_10 ?_
  refine lv_istore_n (lv' := [(2, .int (zI (u_cl_1 - 1))), (0, .ref h0), (1, .int (zI wo))]) hx hb dX9_findChanges_11 rfl hl (by decide) rfl (fun ls hl => ?_)
  refine k_loopM (I := fun n9 H locs ls => ∃ (jc : Int) (ja : Nat → Int32), n9 = (jc + 1).toNat ∧ (-1 ≤ jc ∧ jc ≤ u_cl_1 - 1) ∧ (kDp ja u_f_fi_4 fn u_cl_1 wo (jc + 1)) ∧ va_P D vwCl [(ch, .inl (c_ch, 96, .inl ja)), (h0, .inr (9, [.int (zI fa), .int (zI tc), .ref so, .ref sl, .ref ce, .int (zI fn), .ref kd, .ref wd, .ref hs, .ref pf, .ref lt, .int (zI mn), .ref wg, .int (zI ta), .long ck, .int (zI at9), .int (zI rfn), .ref rk, .ref rw, .ref rh, .int (zI u_cl_1), .ref sa, .ref fi, .int (zI u_bo_2), .ref ch, .ref cn, .int (zI ad), .int (zI ru), .ref kp, .int (zI dn), .ref rfa])), (wg, .inl (c_wg, 24, .inl f_wg)), (sa, .inl (c_sa, 25, .inl u_f_sa_3)), (fi, .inl (c_fi, 24, .inl u_f_fi_4)), (hs, .inl (c_hs, 4, .inl f_hs))] H ∧ va_D A [(ch, .inl (c_ch, 96, .inl ja)), (h0, .inr (9, [.int (zI fa), .int (zI tc), .ref so, .ref sl, .ref ce, .int (zI fn), .ref kd, .ref wd, .ref hs, .ref pf, .ref lt, .int (zI mn), .ref wg, .int (zI ta), .long ck, .int (zI at9), .int (zI rfn), .ref rk, .ref rw, .ref rh, .int (zI u_cl_1), .ref sa, .ref fi, .int (zI u_bo_2), .ref ch, .ref cn, .int (zI ad), .int (zI ru), .ref kp, .int (zI dn), .ref rfa])), (wg, .inl (c_wg, 24, .inl f_wg)), (sa, .inl (c_sa, 25, .inl u_f_sa_3)), (fi, .inl (c_fi, 24, .inl u_f_fi_4)), (hs, .inl (c_hs, 4, .inl f_hs))] ∧ va_S A s.heap H locs ∧ lv_has ls 4 [(2, .int (zI jc)), (0, .ref h0), (1, .int (zI wo))]) ?_ _ ⟨(u_cl_1 - 1), f_ch, rfl, (by omega), (kDp_top (by omega)), hP, hD, hS, hl⟩
  intro n12 ih12 H locs ls hI
  obtain ⟨jc, ja, en12, v_120, v_121, hP, hD, hS, hl⟩ := hI
  refine lv_iload_n hx hb dX9_findChanges_12 rfl (lv_at hl 0 rfl) ?_
  refine kz_if_lt (tgt := 55) hx hb dX9_findChanges_13 (by decide) (by omega) (fun c_8 => ?_) (fun c_8 => ?_)
  · refine lv_aload_n hx hb dX9_findChanges_55 rfl (lv_at hl 1 rfl) ?_
    refine va_get (D := D) (ci := 9) (v := .int (zI u_cl_1)) (C := RX9) (T := TX9) (N := 31) hx hb hts (fun _ h9 => List.mem_cons_of_mem _ (List.mem_append_right _ h9)) hown hK hP 1 rfl rfl 20 (by decide) (hts (.fieldLink RX9 138 "FontRunsModel" "clusters" "I") mw_X9_findChanges_0) (fun _ h9 => h9) rfl dX9_findChanges_56 ?_
    refine kz_if_ne (tgt := 66) hx hb dX9_findChanges_59 (by decide) (by omega) (fun c_9 => ?_) (fun c_9 => ?_)
    · refine lv_bipush (v := zI 24) hx hb dX9_findChanges_66 (by decide) ?_
      refine lv_istore_n (lv' := [(2, .int (zI 24)), (0, .ref h0), (1, .int (zI wo))]) hx hb dX9_findChanges_68 rfl hl (by decide) rfl (fun ls hl => ?_)
      refine lv_iconst (v := zI 0) hx hb dX9_findChanges_69 rfl ?_
      refine lv_istore_n (lv' := [(3, .int (zI 0)), (2, .int (zI 24)), (0, .ref h0), (1, .int (zI wo))]) hx hb dX9_findChanges_70 rfl hl (by decide) rfl (fun ls hl => ?_)
      refine k_loopM (I := fun n9 H locs ls => ∃ (jb : Int) (jg2 : Int), n9 = (fn - jg2).toNat ∧ (0 ≤ jg2 ∧ jg2 ≤ fn) ∧ (0 ≤ jb ∧ jb ≤ 24) ∧ (u_cl_1 = 0 ∨ kBe ja u_f_fi_4 wo jg2 jb) ∧ va_P D vwCl [(ch, .inl (c_ch, 96, .inl ja)), (h0, .inr (9, [.int (zI fa), .int (zI tc), .ref so, .ref sl, .ref ce, .int (zI fn), .ref kd, .ref wd, .ref hs, .ref pf, .ref lt, .int (zI mn), .ref wg, .int (zI ta), .long ck, .int (zI at9), .int (zI rfn), .ref rk, .ref rw, .ref rh, .int (zI u_cl_1), .ref sa, .ref fi, .int (zI u_bo_2), .ref ch, .ref cn, .int (zI ad), .int (zI ru), .ref kp, .int (zI dn), .ref rfa])), (wg, .inl (c_wg, 24, .inl f_wg)), (sa, .inl (c_sa, 25, .inl u_f_sa_3)), (fi, .inl (c_fi, 24, .inl u_f_fi_4)), (hs, .inl (c_hs, 4, .inl f_hs))] H ∧ va_D A [(ch, .inl (c_ch, 96, .inl ja)), (h0, .inr (9, [.int (zI fa), .int (zI tc), .ref so, .ref sl, .ref ce, .int (zI fn), .ref kd, .ref wd, .ref hs, .ref pf, .ref lt, .int (zI mn), .ref wg, .int (zI ta), .long ck, .int (zI at9), .int (zI rfn), .ref rk, .ref rw, .ref rh, .int (zI u_cl_1), .ref sa, .ref fi, .int (zI u_bo_2), .ref ch, .ref cn, .int (zI ad), .int (zI ru), .ref kp, .int (zI dn), .ref rfa])), (wg, .inl (c_wg, 24, .inl f_wg)), (sa, .inl (c_sa, 25, .inl u_f_sa_3)), (fi, .inl (c_fi, 24, .inl u_f_fi_4)), (hs, .inl (c_hs, 4, .inl f_hs))] ∧ va_S A s.heap H locs ∧ lv_has ls 4 [(3, .int (zI jg2)), (2, .int (zI jb)), (0, .ref h0), (1, .int (zI wo))]) ?_ _ ⟨24, 0, rfl, (by omega), (by omega), (Or.inr kBe_0), hP, hD, hS, hl⟩
      intro n71 ih71 H locs ls hI
      obtain ⟨jb, jg2, en71, v_710, v_711, v_712, hP, hD, hS, hl⟩ := hI
      refine lv_iload_n hx hb dX9_findChanges_71 rfl (lv_at hl 0 rfl) ?_
      refine lv_aload_n hx hb dX9_findChanges_72 rfl (lv_at hl 2 rfl) ?_
      refine va_get (D := D) (ci := 9) (v := .int (zI fn)) (C := RX9) (T := TX9) (N := 31) hx hb hts (fun _ h9 => List.mem_cons_of_mem _ (List.mem_append_right _ h9)) hown hK hP 1 rfl rfl 5 (by decide) (hts (.fieldLink RX9 74 "FontRunsModel" "fonts" "I") mw_X9_findChanges_1) (fun _ h9 => h9) rfl dX9_findChanges_73 ?_
      refine kz_icmp_ge (tgt := 123) hx hb dX9_findChanges_76 (by decide) (by omega) (by omega) (fun c_10 => ?_) (fun c_10 => ?_)
      · refine lv_iload_n hx hb dX9_findChanges_123 rfl (lv_at hl 1 rfl) ?_
        have hP9 := hP.sub (ws' := [(h0, .inr (9, [.int (zI fa), .int (zI tc), .ref so, .ref sl, .ref ce, .int (zI fn), .ref kd, .ref wd, .ref hs, .ref pf, .ref lt, .int (zI mn), .ref wg, .int (zI ta), .long ck, .int (zI at9), .int (zI rfn), .ref rk, .ref rw, .ref rh, .int (zI u_cl_1), .ref sa, .ref fi, .int (zI u_bo_2), .ref ch, .ref cn, .int (zI ad), .int (zI ru), .ref kp, .int (zI dn), .ref rfa])), (wg, .inl (c_wg, 24, .inl f_wg)), (sa, .inl (c_sa, 25, .inl u_f_sa_3)), (fi, .inl (c_fi, 24, .inl u_f_fi_4)), (hs, .inl (c_hs, 4, .inl f_hs)), (ch, .inl (c_ch, 96, .inl ja))]) [1, 2, 3, 4, 5, 0] rfl
        have hD9 := hD.sub (ws' := [(h0, .inr (9, [.int (zI fa), .int (zI tc), .ref so, .ref sl, .ref ce, .int (zI fn), .ref kd, .ref wd, .ref hs, .ref pf, .ref lt, .int (zI mn), .ref wg, .int (zI ta), .long ck, .int (zI at9), .int (zI rfn), .ref rk, .ref rw, .ref rh, .int (zI u_cl_1), .ref sa, .ref fi, .int (zI u_bo_2), .ref ch, .ref cn, .int (zI ad), .int (zI ru), .ref kp, .int (zI dn), .ref rfa])), (wg, .inl (c_wg, 24, .inl f_wg)), (sa, .inl (c_sa, 25, .inl u_f_sa_3)), (fi, .inl (c_fi, 24, .inl u_f_fi_4)), (hs, .inl (c_hs, 4, .inl f_hs)), (ch, .inl (c_ch, 96, .inl ja))]) [1, 2, 3, 4, 5, 0] (by decide +kernel) rfl
        exact W.iret (v := (zI jb)) hx hb hr (fun t ht hW => kQS_of (by omega) ⟨u_cl_1, u_bo_2, u_f_sa_3, u_f_fi_4, ja, h_5, h_6, h_7, (kDp_eq v_121 (by omega)), v_711, (Or.imp_right (fun q => kBe_le q (by omega)) v_712), by rw [ht]; exact hP9, hD9⟩ (hS.F ht)) hS.2.2 dX9_findChanges_124
      · refine lv_aload_n hx hb dX9_findChanges_79 rfl (lv_at hl 2 rfl) ?_
        refine va_get (D := D) (ci := 9) (v := .int (zI u_cl_1)) (C := RX9) (T := TX9) (N := 31) hx hb hts (fun _ h9 => List.mem_cons_of_mem _ (List.mem_append_right _ h9)) hown hK hP 1 rfl rfl 20 (by decide) (hts (.fieldLink RX9 138 "FontRunsModel" "clusters" "I") mw_X9_findChanges_0) (fun _ h9 => h9) rfl dX9_findChanges_80 ?_
        refine kz_if_le (tgt := 123) hx hb dX9_findChanges_83 (by decide) (by omega) (fun c_11 => ?_) (fun c_11 => ?_)
        · refine lv_iload_n hx hb dX9_findChanges_123 rfl (lv_at hl 1 rfl) ?_
          have hP9 := hP.sub (ws' := [(h0, .inr (9, [.int (zI fa), .int (zI tc), .ref so, .ref sl, .ref ce, .int (zI fn), .ref kd, .ref wd, .ref hs, .ref pf, .ref lt, .int (zI mn), .ref wg, .int (zI ta), .long ck, .int (zI at9), .int (zI rfn), .ref rk, .ref rw, .ref rh, .int (zI u_cl_1), .ref sa, .ref fi, .int (zI u_bo_2), .ref ch, .ref cn, .int (zI ad), .int (zI ru), .ref kp, .int (zI dn), .ref rfa])), (wg, .inl (c_wg, 24, .inl f_wg)), (sa, .inl (c_sa, 25, .inl u_f_sa_3)), (fi, .inl (c_fi, 24, .inl u_f_fi_4)), (hs, .inl (c_hs, 4, .inl f_hs)), (ch, .inl (c_ch, 96, .inl ja))]) [1, 2, 3, 4, 5, 0] rfl
          have hD9 := hD.sub (ws' := [(h0, .inr (9, [.int (zI fa), .int (zI tc), .ref so, .ref sl, .ref ce, .int (zI fn), .ref kd, .ref wd, .ref hs, .ref pf, .ref lt, .int (zI mn), .ref wg, .int (zI ta), .long ck, .int (zI at9), .int (zI rfn), .ref rk, .ref rw, .ref rh, .int (zI u_cl_1), .ref sa, .ref fi, .int (zI u_bo_2), .ref ch, .ref cn, .int (zI ad), .int (zI ru), .ref kp, .int (zI dn), .ref rfa])), (wg, .inl (c_wg, 24, .inl f_wg)), (sa, .inl (c_sa, 25, .inl u_f_sa_3)), (fi, .inl (c_fi, 24, .inl u_f_fi_4)), (hs, .inl (c_hs, 4, .inl f_hs)), (ch, .inl (c_ch, 96, .inl ja))]) [1, 2, 3, 4, 5, 0] (by decide +kernel) rfl
          exact W.iret (v := (zI jb)) hx hb hr (fun t ht hW => kQS_of (by omega) ⟨u_cl_1, u_bo_2, u_f_sa_3, u_f_fi_4, ja, h_5, h_6, h_7, (kDp_eq v_121 (by omega)), v_711, (Or.inl (by omega)), by rw [ht]; exact hP9, hD9⟩ (hS.F ht)) hS.2.2 dX9_findChanges_124
        · refine lv_aload_n hx hb dX9_findChanges_86 rfl (lv_at hl 2 rfl) ?_
          refine lv_iconst (v := zI 0) hx hb dX9_findChanges_87 rfl ?_
          refine lv_iload_n hx hb dX9_findChanges_88 rfl (lv_at hl 0 rfl) ?_
          refine lv_iload_n hx hb dX9_findChanges_89 rfl (lv_at hl 3 rfl) ?_
          refine k_callR (va_runV (As := [.int (zI 0), .int (zI jg2), .int (zI wo)]) (rest := []) ⟨hx, hb, hml, hown, hts⟩ (c_X9_canSet l D H.size (kc := (0 : Int)) (f := jg2) (wo := wo) (h0 := h0) (fa := fa) (tc := tc) (so := so) (sl := sl) (ce := ce) (fn := fn) (kd := kd) (wd := wd) (hs := hs) (pf := pf) (lt := lt) (mn := mn) (wg := wg) (ta := ta) (ck := ck) (at9 := at9) (rfn := rfn) (rk := rk) (rw := rw) (rh := rh) (cl := u_cl_1) (sa := sa) (fi := fi) (bo := u_bo_2) (ch := ch) (cn := cn) (ad := ad) (ru := ru) (kp := kp) (dn := dn) (rfa := rfa) (c_fi := c_fi) (f_fi := u_f_fi_4) (by omega) (by omega) q0) (cwV 3 hts gX9_findChanges_X9_canSet rfl rfl rfl (by decide +kernel) ⟨Nat.le_of_ble_eq_true rfl, Nat.le_of_ble_eq_true rfl⟩) (kPreV hP (kD0 hD) hK hN [1, 4] [2] ax_X9_findChanges_5 rfl (by decide +kernel) 1 9 rfl rfl) rfl rfl hl.1 rfl (lv_room (Nat.le_of_ble_eq_true rfl)) dX9_findChanges_90 ⟨Nat.le_of_ble_eq_true rfl, Nat.le_of_ble_eq_true rfl⟩) ?_
          refine lv_if_eq (tgt := 115) hx hb dX9_findChanges_93 (by decide) (fun c_12 => ?_) (fun c_12 => ?_)
          · have c_12 : ¬ (kCan (u_f_fi_4 (0 : Int).toNat) jg2 wo) := b01f c_12
            refine lv_iload_n hx hb dX9_findChanges_115 rfl (lv_at hl 1 rfl) ?_
            refine lv_istore_n (lv' := [(2, .int (zI jb)), (3, .int (zI jg2)), (0, .ref h0), (1, .int (zI wo))]) hx hb dX9_findChanges_116 rfl hl (by decide) rfl (fun ls hl => ?_)
            refine lv_iinc (v := (zI (jg2 + 1))) (lv' := [(3, .int (zI (jg2 + 1))), (2, .int (zI jb)), (0, .ref h0), (1, .int (zI wo))]) hx hb dX9_findChanges_117 hl (k := 1) rfl (kz_inc _ 1) (by decide) rfl (fun ls hl => ?_)
            refine lv_goto (tgt := 71) hx hb dX9_findChanges_120 (by decide) ?_
            exact ih71 _ (by omega) _ _ _ ⟨jb, (jg2 + 1), rfl, (by omega), v_711, (Or.inr (kBe_no (Or.resolve_left v_712 (by omega)) c_12)), hP, hD, hS, lv_sub hl [0, 1, 2, 3] rfl⟩
          · have c_12 : kCan (u_f_fi_4 (0 : Int).toNat) jg2 wo := b01t c_12
            refine lv_aload_n hx hb dX9_findChanges_96 rfl (lv_at hl 2 rfl) ?_
            refine va_get (D := D) (ci := 9) (v := .ref ch) (C := RX9) (T := TX9) (N := 31) hx hb hts (fun _ h9 => List.mem_cons_of_mem _ (List.mem_append_right _ h9)) hown hK hP 1 rfl rfl 24 (by decide) (hts (.fieldLink RX9 52 "FontRunsModel" "changes" "[I") mw_X9_findChanges_2) (fun _ h9 => h9) rfl dX9_findChanges_97 ?_
            refine lv_iload_n hx hb dX9_findChanges_100 rfl (lv_at hl 0 rfl) ?_
            refine kz_iald hx hb hK hP 0 4 rfl rfl (by omega) dX9_findChanges_101 (fun z_13 rz_13 ez_13 => ?_)
            have gz_13 := v_121 0 jg2 (by omega) (by omega) (by omega) (by omega)
            have az_13 := kch_at0 rz_13 ez_13
            have bz_13 : 0 ≤ z_13 ∧ z_13 ≤ 24 := by have u1 := gz_13.1; have u2 := gz_13.2.1; rw [az_13] at u1 u2; exact ⟨u1, u2⟩
            refine lv_iload_n hx hb dX9_findChanges_102 rfl (lv_at hl 1 rfl) ?_
            refine kz_icmp_ge (tgt := 115) hx hb dX9_findChanges_103 (by decide) (by omega) (by omega) (fun c_14 => ?_) (fun c_14 => ?_)
            · refine lv_iload_n hx hb dX9_findChanges_115 rfl (lv_at hl 1 rfl) ?_
              refine lv_istore_n (lv' := [(2, .int (zI jb)), (3, .int (zI jg2)), (0, .ref h0), (1, .int (zI wo))]) hx hb dX9_findChanges_116 rfl hl (by decide) rfl (fun ls hl => ?_)
              refine lv_iinc (v := (zI (jg2 + 1))) (lv' := [(3, .int (zI (jg2 + 1))), (2, .int (zI jb)), (0, .ref h0), (1, .int (zI wo))]) hx hb dX9_findChanges_117 hl (k := 1) rfl (kz_inc _ 1) (by decide) rfl (fun ls hl => ?_)
              refine lv_goto (tgt := 71) hx hb dX9_findChanges_120 (by decide) ?_
              exact ih71 _ (by omega) _ _ _ ⟨jb, (jg2 + 1), rfl, (by omega), v_711, (Or.inr (kBe_ge (v := z_13) (Or.resolve_left v_712 (by omega)) az_13.symm (by omega))), hP, hD, hS, lv_sub hl [0, 1, 2, 3] rfl⟩
            · refine lv_aload_n hx hb dX9_findChanges_106 rfl (lv_at hl 2 rfl) ?_
              refine va_get (D := D) (ci := 9) (v := .ref ch) (C := RX9) (T := TX9) (N := 31) hx hb hts (fun _ h9 => List.mem_cons_of_mem _ (List.mem_append_right _ h9)) hown hK hP 1 rfl rfl 24 (by decide) (hts (.fieldLink RX9 52 "FontRunsModel" "changes" "[I") mw_X9_findChanges_2) (fun _ h9 => h9) rfl dX9_findChanges_107 ?_
              refine lv_iload_n hx hb dX9_findChanges_110 rfl (lv_at hl 0 rfl) ?_
              refine kz_iald hx hb hK hP 0 4 rfl rfl (by omega) dX9_findChanges_111 (fun z_15 rz_15 ez_15 => ?_)
              have q9 : z_13 = z_15 := (zI_eq rz_13 rz_15).mp (ez_13.symm.trans ez_15)
              subst q9
              refine lv_goto (tgt := 116) hx hb dX9_findChanges_112 (by decide) ?_
              refine lv_istore_n (lv' := [(2, .int (zI z_13)), (3, .int (zI jg2)), (0, .ref h0), (1, .int (zI wo))]) hx hb dX9_findChanges_116 rfl hl (by decide) rfl (fun ls hl => ?_)
              refine lv_iinc (v := (zI (jg2 + 1))) (lv' := [(3, .int (zI (jg2 + 1))), (2, .int (zI z_13)), (0, .ref h0), (1, .int (zI wo))]) hx hb dX9_findChanges_117 hl (k := 1) rfl (kz_inc _ 1) (by decide) rfl (fun ls hl => ?_)
              refine lv_goto (tgt := 71) hx hb dX9_findChanges_120 (by decide) ?_
              exact ih71 _ (by omega) _ _ _ ⟨z_13, (jg2 + 1), rfl, (by omega), (by omega), (Or.inr (kBe_lt (Or.resolve_left v_712 (by omega)) (by omega) c_12 (by omega) az_13.symm (by omega))), hP, hD, hS, lv_sub hl [0, 1, 2, 3] rfl⟩
    · refine lv_iconst (v := zI 0) hx hb dX9_findChanges_62 rfl ?_
      refine lv_goto (tgt := 68) hx hb dX9_findChanges_63 (by decide) ?_
      refine lv_istore_n (lv' := [(2, .int (zI 0)), (0, .ref h0), (1, .int (zI wo))]) hx hb dX9_findChanges_68 rfl hl (by decide) rfl (fun ls hl => ?_)
      refine lv_iconst (v := zI 0) hx hb dX9_findChanges_69 rfl ?_
      refine lv_istore_n (lv' := [(3, .int (zI 0)), (2, .int (zI 0)), (0, .ref h0), (1, .int (zI wo))]) hx hb dX9_findChanges_70 rfl hl (by decide) rfl (fun ls hl => ?_)
      refine k_loopM (I := fun n9 H locs ls => ∃ (jb : Int) (jg2 : Int), n9 = (fn - jg2).toNat ∧ (0 ≤ jg2 ∧ jg2 ≤ fn) ∧ (0 ≤ jb ∧ jb ≤ 24) ∧ (u_cl_1 = 0 ∨ kBe ja u_f_fi_4 wo jg2 jb) ∧ va_P D vwCl [(ch, .inl (c_ch, 96, .inl ja)), (h0, .inr (9, [.int (zI fa), .int (zI tc), .ref so, .ref sl, .ref ce, .int (zI fn), .ref kd, .ref wd, .ref hs, .ref pf, .ref lt, .int (zI mn), .ref wg, .int (zI ta), .long ck, .int (zI at9), .int (zI rfn), .ref rk, .ref rw, .ref rh, .int (zI u_cl_1), .ref sa, .ref fi, .int (zI u_bo_2), .ref ch, .ref cn, .int (zI ad), .int (zI ru), .ref kp, .int (zI dn), .ref rfa])), (wg, .inl (c_wg, 24, .inl f_wg)), (sa, .inl (c_sa, 25, .inl u_f_sa_3)), (fi, .inl (c_fi, 24, .inl u_f_fi_4)), (hs, .inl (c_hs, 4, .inl f_hs))] H ∧ va_D A [(ch, .inl (c_ch, 96, .inl ja)), (h0, .inr (9, [.int (zI fa), .int (zI tc), .ref so, .ref sl, .ref ce, .int (zI fn), .ref kd, .ref wd, .ref hs, .ref pf, .ref lt, .int (zI mn), .ref wg, .int (zI ta), .long ck, .int (zI at9), .int (zI rfn), .ref rk, .ref rw, .ref rh, .int (zI u_cl_1), .ref sa, .ref fi, .int (zI u_bo_2), .ref ch, .ref cn, .int (zI ad), .int (zI ru), .ref kp, .int (zI dn), .ref rfa])), (wg, .inl (c_wg, 24, .inl f_wg)), (sa, .inl (c_sa, 25, .inl u_f_sa_3)), (fi, .inl (c_fi, 24, .inl u_f_fi_4)), (hs, .inl (c_hs, 4, .inl f_hs))] ∧ va_S A s.heap H locs ∧ lv_has ls 4 [(3, .int (zI jg2)), (2, .int (zI jb)), (0, .ref h0), (1, .int (zI wo))]) ?_ _ ⟨0, 0, rfl, (by omega), (by omega), (Or.inl c_9), hP, hD, hS, hl⟩
      intro n71 ih71 H locs ls hI
      obtain ⟨jb, jg2, en71, v_710, v_711, v_712, hP, hD, hS, hl⟩ := hI
      refine lv_iload_n hx hb dX9_findChanges_71 rfl (lv_at hl 0 rfl) ?_
      refine lv_aload_n hx hb dX9_findChanges_72 rfl (lv_at hl 2 rfl) ?_
      refine va_get (D := D) (ci := 9) (v := .int (zI fn)) (C := RX9) (T := TX9) (N := 31) hx hb hts (fun _ h9 => List.mem_cons_of_mem _ (List.mem_append_right _ h9)) hown hK hP 1 rfl rfl 5 (by decide) (hts (.fieldLink RX9 74 "FontRunsModel" "fonts" "I") mw_X9_findChanges_1) (fun _ h9 => h9) rfl dX9_findChanges_73 ?_
      refine kz_icmp_ge (tgt := 123) hx hb dX9_findChanges_76 (by decide) (by omega) (by omega) (fun c_16 => ?_) (fun c_16 => ?_)
      · refine lv_iload_n hx hb dX9_findChanges_123 rfl (lv_at hl 1 rfl) ?_
        have hP9 := hP.sub (ws' := [(h0, .inr (9, [.int (zI fa), .int (zI tc), .ref so, .ref sl, .ref ce, .int (zI fn), .ref kd, .ref wd, .ref hs, .ref pf, .ref lt, .int (zI mn), .ref wg, .int (zI ta), .long ck, .int (zI at9), .int (zI rfn), .ref rk, .ref rw, .ref rh, .int (zI u_cl_1), .ref sa, .ref fi, .int (zI u_bo_2), .ref ch, .ref cn, .int (zI ad), .int (zI ru), .ref kp, .int (zI dn), .ref rfa])), (wg, .inl (c_wg, 24, .inl f_wg)), (sa, .inl (c_sa, 25, .inl u_f_sa_3)), (fi, .inl (c_fi, 24, .inl u_f_fi_4)), (hs, .inl (c_hs, 4, .inl f_hs)), (ch, .inl (c_ch, 96, .inl ja))]) [1, 2, 3, 4, 5, 0] rfl
        have hD9 := hD.sub (ws' := [(h0, .inr (9, [.int (zI fa), .int (zI tc), .ref so, .ref sl, .ref ce, .int (zI fn), .ref kd, .ref wd, .ref hs, .ref pf, .ref lt, .int (zI mn), .ref wg, .int (zI ta), .long ck, .int (zI at9), .int (zI rfn), .ref rk, .ref rw, .ref rh, .int (zI u_cl_1), .ref sa, .ref fi, .int (zI u_bo_2), .ref ch, .ref cn, .int (zI ad), .int (zI ru), .ref kp, .int (zI dn), .ref rfa])), (wg, .inl (c_wg, 24, .inl f_wg)), (sa, .inl (c_sa, 25, .inl u_f_sa_3)), (fi, .inl (c_fi, 24, .inl u_f_fi_4)), (hs, .inl (c_hs, 4, .inl f_hs)), (ch, .inl (c_ch, 96, .inl ja))]) [1, 2, 3, 4, 5, 0] (by decide +kernel) rfl
        exact W.iret (v := (zI jb)) hx hb hr (fun t ht hW => kQS_of (by omega) ⟨u_cl_1, u_bo_2, u_f_sa_3, u_f_fi_4, ja, h_5, h_6, h_7, (kDp_eq v_121 (by omega)), v_711, (Or.inl c_9), by rw [ht]; exact hP9, hD9⟩ (hS.F ht)) hS.2.2 dX9_findChanges_124
      · refine lv_aload_n hx hb dX9_findChanges_79 rfl (lv_at hl 2 rfl) ?_
        refine va_get (D := D) (ci := 9) (v := .int (zI u_cl_1)) (C := RX9) (T := TX9) (N := 31) hx hb hts (fun _ h9 => List.mem_cons_of_mem _ (List.mem_append_right _ h9)) hown hK hP 1 rfl rfl 20 (by decide) (hts (.fieldLink RX9 138 "FontRunsModel" "clusters" "I") mw_X9_findChanges_0) (fun _ h9 => h9) rfl dX9_findChanges_80 ?_
        refine kz_if_le (tgt := 123) hx hb dX9_findChanges_83 (by decide) (by omega) (fun c_17 => ?_) (fun c_17 => ?_)
        · refine lv_iload_n hx hb dX9_findChanges_123 rfl (lv_at hl 1 rfl) ?_
          have hP9 := hP.sub (ws' := [(h0, .inr (9, [.int (zI fa), .int (zI tc), .ref so, .ref sl, .ref ce, .int (zI fn), .ref kd, .ref wd, .ref hs, .ref pf, .ref lt, .int (zI mn), .ref wg, .int (zI ta), .long ck, .int (zI at9), .int (zI rfn), .ref rk, .ref rw, .ref rh, .int (zI u_cl_1), .ref sa, .ref fi, .int (zI u_bo_2), .ref ch, .ref cn, .int (zI ad), .int (zI ru), .ref kp, .int (zI dn), .ref rfa])), (wg, .inl (c_wg, 24, .inl f_wg)), (sa, .inl (c_sa, 25, .inl u_f_sa_3)), (fi, .inl (c_fi, 24, .inl u_f_fi_4)), (hs, .inl (c_hs, 4, .inl f_hs)), (ch, .inl (c_ch, 96, .inl ja))]) [1, 2, 3, 4, 5, 0] rfl
          have hD9 := hD.sub (ws' := [(h0, .inr (9, [.int (zI fa), .int (zI tc), .ref so, .ref sl, .ref ce, .int (zI fn), .ref kd, .ref wd, .ref hs, .ref pf, .ref lt, .int (zI mn), .ref wg, .int (zI ta), .long ck, .int (zI at9), .int (zI rfn), .ref rk, .ref rw, .ref rh, .int (zI u_cl_1), .ref sa, .ref fi, .int (zI u_bo_2), .ref ch, .ref cn, .int (zI ad), .int (zI ru), .ref kp, .int (zI dn), .ref rfa])), (wg, .inl (c_wg, 24, .inl f_wg)), (sa, .inl (c_sa, 25, .inl u_f_sa_3)), (fi, .inl (c_fi, 24, .inl u_f_fi_4)), (hs, .inl (c_hs, 4, .inl f_hs)), (ch, .inl (c_ch, 96, .inl ja))]) [1, 2, 3, 4, 5, 0] (by decide +kernel) rfl
          exact W.iret (v := (zI jb)) hx hb hr (fun t ht hW => kQS_of (by omega) ⟨u_cl_1, u_bo_2, u_f_sa_3, u_f_fi_4, ja, h_5, h_6, h_7, (kDp_eq v_121 (by omega)), v_711, (Or.inl c_9), by rw [ht]; exact hP9, hD9⟩ (hS.F ht)) hS.2.2 dX9_findChanges_124
        · refine lv_aload_n hx hb dX9_findChanges_86 rfl (lv_at hl 2 rfl) ?_
          refine lv_iconst (v := zI 0) hx hb dX9_findChanges_87 rfl ?_
          refine lv_iload_n hx hb dX9_findChanges_88 rfl (lv_at hl 0 rfl) ?_
          refine lv_iload_n hx hb dX9_findChanges_89 rfl (lv_at hl 3 rfl) ?_
          refine k_callR (va_runV (As := [.int (zI 0), .int (zI jg2), .int (zI wo)]) (rest := []) ⟨hx, hb, hml, hown, hts⟩ (c_X9_canSet l D H.size (kc := (0 : Int)) (f := jg2) (wo := wo) (h0 := h0) (fa := fa) (tc := tc) (so := so) (sl := sl) (ce := ce) (fn := fn) (kd := kd) (wd := wd) (hs := hs) (pf := pf) (lt := lt) (mn := mn) (wg := wg) (ta := ta) (ck := ck) (at9 := at9) (rfn := rfn) (rk := rk) (rw := rw) (rh := rh) (cl := u_cl_1) (sa := sa) (fi := fi) (bo := u_bo_2) (ch := ch) (cn := cn) (ad := ad) (ru := ru) (kp := kp) (dn := dn) (rfa := rfa) (c_fi := c_fi) (f_fi := u_f_fi_4) (by omega) (by omega) q0) (cwV 3 hts gX9_findChanges_X9_canSet rfl rfl rfl (by decide +kernel) ⟨Nat.le_of_ble_eq_true rfl, Nat.le_of_ble_eq_true rfl⟩) (kPreV hP (kD0 hD) hK hN [1, 4] [2] ax_X9_findChanges_5 rfl (by decide +kernel) 1 9 rfl rfl) rfl rfl hl.1 rfl (lv_room (Nat.le_of_ble_eq_true rfl)) dX9_findChanges_90 ⟨Nat.le_of_ble_eq_true rfl, Nat.le_of_ble_eq_true rfl⟩) ?_
          refine lv_if_eq (tgt := 115) hx hb dX9_findChanges_93 (by decide) (fun c_18 => ?_) (fun c_18 => ?_)
          · have c_18 : ¬ (kCan (u_f_fi_4 (0 : Int).toNat) jg2 wo) := b01f c_18
            refine lv_iload_n hx hb dX9_findChanges_115 rfl (lv_at hl 1 rfl) ?_
            refine lv_istore_n (lv' := [(2, .int (zI jb)), (3, .int (zI jg2)), (0, .ref h0), (1, .int (zI wo))]) hx hb dX9_findChanges_116 rfl hl (by decide) rfl (fun ls hl => ?_)
            refine lv_iinc (v := (zI (jg2 + 1))) (lv' := [(3, .int (zI (jg2 + 1))), (2, .int (zI jb)), (0, .ref h0), (1, .int (zI wo))]) hx hb dX9_findChanges_117 hl (k := 1) rfl (kz_inc _ 1) (by decide) rfl (fun ls hl => ?_)
            refine lv_goto (tgt := 71) hx hb dX9_findChanges_120 (by decide) ?_
            exact ih71 _ (by omega) _ _ _ ⟨jb, (jg2 + 1), rfl, (by omega), v_711, (Or.inl c_9), hP, hD, hS, lv_sub hl [0, 1, 2, 3] rfl⟩
          · have c_18 : kCan (u_f_fi_4 (0 : Int).toNat) jg2 wo := b01t c_18
            refine lv_aload_n hx hb dX9_findChanges_96 rfl (lv_at hl 2 rfl) ?_
            refine va_get (D := D) (ci := 9) (v := .ref ch) (C := RX9) (T := TX9) (N := 31) hx hb hts (fun _ h9 => List.mem_cons_of_mem _ (List.mem_append_right _ h9)) hown hK hP 1 rfl rfl 24 (by decide) (hts (.fieldLink RX9 52 "FontRunsModel" "changes" "[I") mw_X9_findChanges_2) (fun _ h9 => h9) rfl dX9_findChanges_97 ?_
            refine lv_iload_n hx hb dX9_findChanges_100 rfl (lv_at hl 0 rfl) ?_
            refine kz_iald hx hb hK hP 0 4 rfl rfl (by omega) dX9_findChanges_101 (fun z_19 rz_19 ez_19 => ?_)
            have gz_19 := v_121 0 jg2 (by omega) (by omega) (by omega) (by omega)
            have az_19 := kch_at0 rz_19 ez_19
            have bz_19 : 0 ≤ z_19 ∧ z_19 ≤ 24 := by have u1 := gz_19.1; have u2 := gz_19.2.1; rw [az_19] at u1 u2; exact ⟨u1, u2⟩
            refine lv_iload_n hx hb dX9_findChanges_102 rfl (lv_at hl 1 rfl) ?_
            refine kz_icmp_ge (tgt := 115) hx hb dX9_findChanges_103 (by decide) (by omega) (by omega) (fun c_20 => ?_) (fun c_20 => ?_)
            · refine lv_iload_n hx hb dX9_findChanges_115 rfl (lv_at hl 1 rfl) ?_
              refine lv_istore_n (lv' := [(2, .int (zI jb)), (3, .int (zI jg2)), (0, .ref h0), (1, .int (zI wo))]) hx hb dX9_findChanges_116 rfl hl (by decide) rfl (fun ls hl => ?_)
              refine lv_iinc (v := (zI (jg2 + 1))) (lv' := [(3, .int (zI (jg2 + 1))), (2, .int (zI jb)), (0, .ref h0), (1, .int (zI wo))]) hx hb dX9_findChanges_117 hl (k := 1) rfl (kz_inc _ 1) (by decide) rfl (fun ls hl => ?_)
              refine lv_goto (tgt := 71) hx hb dX9_findChanges_120 (by decide) ?_
              exact ih71 _ (by omega) _ _ _ ⟨jb, (jg2 + 1), rfl, (by omega), v_711, (Or.inl c_9), hP, hD, hS, lv_sub hl [0, 1, 2, 3] rfl⟩
            · refine lv_aload_n hx hb dX9_findChanges_106 rfl (lv_at hl 2 rfl) ?_
              refine va_get (D := D) (ci := 9) (v := .ref ch) (C := RX9) (T := TX9) (N := 31) hx hb hts (fun _ h9 => List.mem_cons_of_mem _ (List.mem_append_right _ h9)) hown hK hP 1 rfl rfl 24 (by decide) (hts (.fieldLink RX9 52 "FontRunsModel" "changes" "[I") mw_X9_findChanges_2) (fun _ h9 => h9) rfl dX9_findChanges_107 ?_
              refine lv_iload_n hx hb dX9_findChanges_110 rfl (lv_at hl 0 rfl) ?_
              refine kz_iald hx hb hK hP 0 4 rfl rfl (by omega) dX9_findChanges_111 (fun z_21 rz_21 ez_21 => ?_)
              have q9 : z_19 = z_21 := (zI_eq rz_19 rz_21).mp (ez_19.symm.trans ez_21)
              subst q9
              refine lv_goto (tgt := 116) hx hb dX9_findChanges_112 (by decide) ?_
              refine lv_istore_n (lv' := [(2, .int (zI z_19)), (3, .int (zI jg2)), (0, .ref h0), (1, .int (zI wo))]) hx hb dX9_findChanges_116 rfl hl (by decide) rfl (fun ls hl => ?_)
              refine lv_iinc (v := (zI (jg2 + 1))) (lv' := [(3, .int (zI (jg2 + 1))), (2, .int (zI z_19)), (0, .ref h0), (1, .int (zI wo))]) hx hb dX9_findChanges_117 hl (k := 1) rfl (kz_inc _ 1) (by decide) rfl (fun ls hl => ?_)
              refine lv_goto (tgt := 71) hx hb dX9_findChanges_120 (by decide) ?_
              exact ih71 _ (by omega) _ _ _ ⟨z_19, (jg2 + 1), rfl, (by omega), (by omega), (Or.inl c_9), hP, hD, hS, lv_sub hl [0, 1, 2, 3] rfl⟩
  · refine lv_iconst (v := zI 0) hx hb dX9_findChanges_16 rfl ?_
    refine lv_istore_n (lv' := [(3, .int (zI 0)), (2, .int (zI jc)), (0, .ref h0), (1, .int (zI wo))]) hx hb dX9_findChanges_17 rfl hl (by decide) rfl (fun ls hl => ?_)
    refine k_loopM (I := fun n9 H locs ls => ∃ (jg : Int) (jh : Nat → Int32), n9 = (fn - jg).toNat ∧ (0 ≤ jg ∧ jg ≤ fn) ∧ (kDp jh u_f_fi_4 fn u_cl_1 wo (jc + 1)) ∧ (kRw jh u_f_fi_4 fn u_cl_1 wo jc jg) ∧ va_P D vwCl [(ch, .inl (c_ch, 96, .inl jh)), (h0, .inr (9, [.int (zI fa), .int (zI tc), .ref so, .ref sl, .ref ce, .int (zI fn), .ref kd, .ref wd, .ref hs, .ref pf, .ref lt, .int (zI mn), .ref wg, .int (zI ta), .long ck, .int (zI at9), .int (zI rfn), .ref rk, .ref rw, .ref rh, .int (zI u_cl_1), .ref sa, .ref fi, .int (zI u_bo_2), .ref ch, .ref cn, .int (zI ad), .int (zI ru), .ref kp, .int (zI dn), .ref rfa])), (wg, .inl (c_wg, 24, .inl f_wg)), (sa, .inl (c_sa, 25, .inl u_f_sa_3)), (fi, .inl (c_fi, 24, .inl u_f_fi_4)), (hs, .inl (c_hs, 4, .inl f_hs))] H ∧ va_D A [(ch, .inl (c_ch, 96, .inl jh)), (h0, .inr (9, [.int (zI fa), .int (zI tc), .ref so, .ref sl, .ref ce, .int (zI fn), .ref kd, .ref wd, .ref hs, .ref pf, .ref lt, .int (zI mn), .ref wg, .int (zI ta), .long ck, .int (zI at9), .int (zI rfn), .ref rk, .ref rw, .ref rh, .int (zI u_cl_1), .ref sa, .ref fi, .int (zI u_bo_2), .ref ch, .ref cn, .int (zI ad), .int (zI ru), .ref kp, .int (zI dn), .ref rfa])), (wg, .inl (c_wg, 24, .inl f_wg)), (sa, .inl (c_sa, 25, .inl u_f_sa_3)), (fi, .inl (c_fi, 24, .inl u_f_fi_4)), (hs, .inl (c_hs, 4, .inl f_hs))] ∧ va_S A s.heap H locs ∧ lv_has ls 4 [(3, .int (zI jg)), (2, .int (zI jc)), (0, .ref h0), (1, .int (zI wo))]) ?_ _ ⟨0, ja, rfl, (by omega), v_121, kRw_0, hP, hD, hS, hl⟩
    intro n18 ih18 H locs ls hI
    obtain ⟨jg, jh, en18, v_180, v_181, v_182, hP, hD, hS, hl⟩ := hI
    refine lv_iload_n hx hb dX9_findChanges_18 rfl (lv_at hl 0 rfl) ?_
    refine lv_aload_n hx hb dX9_findChanges_19 rfl (lv_at hl 2 rfl) ?_
    refine va_get (D := D) (ci := 9) (v := .int (zI fn)) (C := RX9) (T := TX9) (N := 31) hx hb hts (fun _ h9 => List.mem_cons_of_mem _ (List.mem_append_right _ h9)) hown hK hP 1 rfl rfl 5 (by decide) (hts (.fieldLink RX9 74 "FontRunsModel" "fonts" "I") mw_X9_findChanges_1) (fun _ h9 => h9) rfl dX9_findChanges_20 ?_
    refine kz_icmp_ge (tgt := 49) hx hb dX9_findChanges_23 (by decide) (by omega) (by omega) (fun c_22 => ?_) (fun c_22 => ?_)
    · refine lv_iinc (v := (zI (jc - 1))) (lv' := [(2, .int (zI (jc - 1))), (3, .int (zI jg)), (0, .ref h0), (1, .int (zI wo))]) hx hb dX9_findChanges_49 hl (k := 1) rfl (kz_dec _ 1) (by decide) rfl (fun ls hl => ?_)
      refine lv_goto (tgt := 12) hx hb dX9_findChanges_52 (by decide) ?_
      exact ih12 _ (by omega) _ _ _ ⟨(jc - 1), jh, rfl, (by omega), (kDp_eq (kDp_dn v_181 (kRw_le v_182 (by omega))) (by omega)), hP, hD, hS, lv_sub hl [0, 2, 3] rfl⟩
    · refine lv_aload_n hx hb dX9_findChanges_26 rfl (lv_at hl 2 rfl) ?_
      refine va_get (D := D) (ci := 9) (v := .ref ch) (C := RX9) (T := TX9) (N := 31) hx hb hts (fun _ h9 => List.mem_cons_of_mem _ (List.mem_append_right _ h9)) hown hK hP 1 rfl rfl 24 (by decide) (hts (.fieldLink RX9 52 "FontRunsModel" "changes" "[I") mw_X9_findChanges_2) (fun _ h9 => h9) rfl dX9_findChanges_27 ?_
      refine lv_iconst (v := zI 4) hx hb dX9_findChanges_30 rfl ?_
      refine lv_iload_n hx hb dX9_findChanges_31 rfl (lv_at hl 1 rfl) ?_
      refine kz_imul hx hb dX9_findChanges_32 ?_
      refine lv_iload_n hx hb dX9_findChanges_33 rfl (lv_at hl 0 rfl) ?_
      refine kz_iadd hx hb dX9_findChanges_34 ?_
      refine lv_aload_n hx hb dX9_findChanges_35 rfl (lv_at hl 2 rfl) ?_
      refine lv_iload_n hx hb dX9_findChanges_36 rfl (lv_at hl 1 rfl) ?_
      refine lv_iload_n hx hb dX9_findChanges_37 rfl (lv_at hl 0 rfl) ?_
      refine lv_iload_n hx hb dX9_findChanges_38 rfl (lv_at hl 3 rfl) ?_
      refine k_callP (va_runV (As := [.int (zI jc), .int (zI jg), .int (zI wo)]) (rest := [.int (zI ((4 * jc) + jg)), .ref ch]) ⟨hx, hb, hml, hown, hts⟩ (c_X9_fewestBehind l D H.size (kc := jc) (kf := jg) (wo := wo) (h0 := h0) (fa := fa) (tc := tc) (so := so) (sl := sl) (ce := ce) (fn := fn) (kd := kd) (wd := wd) (hs := hs) (pf := pf) (lt := lt) (mn := mn) (wg := wg) (ta := ta) (ck := ck) (at9 := at9) (rfn := rfn) (rk := rk) (rw := rw) (rh := rh) (cl := u_cl_1) (sa := sa) (fi := fi) (bo := u_bo_2) (ch := ch) (cn := cn) (ad := ad) (ru := ru) (kp := kp) (dn := dn) (rfa := rfa) (c_fi := c_fi) (f_fi := u_f_fi_4) (c_ch := c_ch) (f_ch := jh) (by omega) (by omega) q0 (by omega) q2 v_181) (cwV 3 hts gX9_findChanges_X9_fewestBehind rfl rfl rfl (by decide +kernel) ⟨Nat.le_of_ble_eq_true rfl, Nat.le_of_ble_eq_true rfl⟩) (kPreV hP (kD0 hD) hK hN [1, 4, 0] [2, 4] ax_X9_findChanges_6 rfl (by decide +kernel) 1 9 rfl rfl) rfl rfl hl.1 rfl (lv_room (Nat.le_of_ble_eq_true rfl)) dX9_findChanges_39 ⟨Nat.le_of_ble_eq_true rfl, Nat.le_of_ble_eq_true rfl⟩) (fun z_23 rz_23 h_24 => ?_)
      refine kz_iast hx hb hK hP hD hS 0 4 rfl rfl (by omega) dX9_findChanges_42 (fun H locs hP hD hS => ?_)
      have hP : va_P D vwCl [(ch, .inl (c_ch, 96, .inl (upd jh ((4 * jc) + jg).toNat (zI z_23)))), (h0, .inr (9, [.int (zI fa), .int (zI tc), .ref so, .ref sl, .ref ce, .int (zI fn), .ref kd, .ref wd, .ref hs, .ref pf, .ref lt, .int (zI mn), .ref wg, .int (zI ta), .long ck, .int (zI at9), .int (zI rfn), .ref rk, .ref rw, .ref rh, .int (zI u_cl_1), .ref sa, .ref fi, .int (zI u_bo_2), .ref ch, .ref cn, .int (zI ad), .int (zI ru), .ref kp, .int (zI dn), .ref rfa])), (wg, .inl (c_wg, 24, .inl f_wg)), (sa, .inl (c_sa, 25, .inl u_f_sa_3)), (fi, .inl (c_fi, 24, .inl u_f_fi_4)), (hs, .inl (c_hs, 4, .inl f_hs))] H := hP
      have hD : va_D A [(ch, .inl (c_ch, 96, .inl (upd jh ((4 * jc) + jg).toNat (zI z_23)))), (h0, .inr (9, [.int (zI fa), .int (zI tc), .ref so, .ref sl, .ref ce, .int (zI fn), .ref kd, .ref wd, .ref hs, .ref pf, .ref lt, .int (zI mn), .ref wg, .int (zI ta), .long ck, .int (zI at9), .int (zI rfn), .ref rk, .ref rw, .ref rh, .int (zI u_cl_1), .ref sa, .ref fi, .int (zI u_bo_2), .ref ch, .ref cn, .int (zI ad), .int (zI ru), .ref kp, .int (zI dn), .ref rfa])), (wg, .inl (c_wg, 24, .inl f_wg)), (sa, .inl (c_sa, 25, .inl u_f_sa_3)), (fi, .inl (c_fi, 24, .inl u_f_fi_4)), (hs, .inl (c_hs, 4, .inl f_hs))] := hD
      generalize ef_25 : upd jh ((4 * jc) + jg).toNat (zI z_23) = f_25 at hP hD
      refine lv_iinc (v := (zI (jg + 1))) (lv' := [(3, .int (zI (jg + 1))), (2, .int (zI jc)), (0, .ref h0), (1, .int (zI wo))]) hx hb dX9_findChanges_43 hl (k := 0) rfl (kz_inc _ 1) (by decide) rfl (fun ls hl => ?_)
      refine lv_goto (tgt := 18) hx hb dX9_findChanges_46 (by decide) ?_
      exact ih18 _ (by omega) _ _ _ ⟨(jg + 1), f_25, rfl, (by omega), (by rw [← ef_25]; exact kDp_upd (by omega) v_181), (by rw [← ef_25]; exact kRw_upd (by omega) v_182 (by omega) h_24.1 h_24.2.1), hP, hD, hS, lv_sub hl [0, 1, 2, 3] rfl⟩
theorem kIts_0 {cn : Nat → Int32} {c f : Int} (h : c ≤ 0) : kIts cn c f = 0 := if_neg (by omega)
theorem kIts_eq {cn : Nat → Int32} {c f z : Int} (hz : rg z) (e : cn (c - 1).toNat = zI z) (h : z = f) : kIts cn c f = 0 := if_neg (by rw [e, zI_toInt hz]; omega)
theorem kIts_ne {cn : Nat → Int32} {c f z : Int} (h0 : 0 < c) (hz : rg z) (e : cn (c - 1).toNat = zI z) (h : ¬ z = f) : kIts cn c f = 1 := if_pos (by rw [e, zI_toInt hz]; exact ⟨h0, h⟩)
theorem dX9_isBestFor_0 : decode cX9_isBestFor 0 = .ok (.iload_n 1, 1) := kqo_1b kbl_X9_isBestFor (pc := 0) rfl
theorem dX9_isBestFor_1 : decode cX9_isBestFor 1 = .ok (.ifCond .le 19, 3) := kqo_9e (x1 := 0) (x2 := 19) kbl_X9_isBestFor (pc := 1) rfl rfl
theorem dX9_isBestFor_4 : decode cX9_isBestFor 4 = .ok (.aload_n 0, 1) := kqo_2a kbl_X9_isBestFor (pc := 4) rfl
theorem dX9_isBestFor_5 : decode cX9_isBestFor 5 = .ok (.getfield 55, 3) := kqo_b4 (x1 := 0) (x2 := 55) kbl_X9_isBestFor (pc := 5) rfl rfl
theorem dX9_isBestFor_8 : decode cX9_isBestFor 8 = .ok (.iload_n 1, 1) := kqo_1b kbl_X9_isBestFor (pc := 8) rfl
theorem dX9_isBestFor_9 : decode cX9_isBestFor 9 = .ok (.iconst 1, 1) := kqo_04 kbl_X9_isBestFor (pc := 9) rfl
theorem dX9_isBestFor_10 : decode cX9_isBestFor 10 = .ok (.isub, 1) := kqo_64 kbl_X9_isBestFor (pc := 10) rfl
theorem dX9_isBestFor_11 : decode cX9_isBestFor 11 = .ok (.iaload, 1) := kqo_2e kbl_X9_isBestFor (pc := 11) rfl
theorem dX9_isBestFor_12 : decode cX9_isBestFor 12 = .ok (.iload_n 2, 1) := kqo_1c kbl_X9_isBestFor (pc := 12) rfl
theorem dX9_isBestFor_13 : decode cX9_isBestFor 13 = .ok (.if_icmp .eq 7, 3) := kqo_9f (x1 := 0) (x2 := 7) kbl_X9_isBestFor (pc := 13) rfl rfl
theorem dX9_isBestFor_16 : decode cX9_isBestFor 16 = .ok (.iconst 1, 1) := kqo_04 kbl_X9_isBestFor (pc := 16) rfl
theorem dX9_isBestFor_17 : decode cX9_isBestFor 17 = .ok (.goto 4, 3) := kqo_a7 (x1 := 0) (x2 := 4) kbl_X9_isBestFor (pc := 17) rfl rfl
theorem dX9_isBestFor_20 : decode cX9_isBestFor 20 = .ok (.iconst 0, 1) := kqo_03 kbl_X9_isBestFor (pc := 20) rfl
theorem dX9_isBestFor_21 : decode cX9_isBestFor 21 = .ok (.istore 4, 2) := kqo_36 (x1 := 4) kbl_X9_isBestFor (pc := 21) rfl rfl
theorem dX9_isBestFor_23 : decode cX9_isBestFor 23 = .ok (.aload_n 0, 1) := kqo_2a kbl_X9_isBestFor (pc := 23) rfl
theorem dX9_isBestFor_24 : decode cX9_isBestFor 24 = .ok (.iload_n 1, 1) := kqo_1b kbl_X9_isBestFor (pc := 24) rfl
theorem dX9_isBestFor_25 : decode cX9_isBestFor 25 = .ok (.iload_n 2, 1) := kqo_1c kbl_X9_isBestFor (pc := 25) rfl
theorem dX9_isBestFor_26 : decode cX9_isBestFor 26 = .ok (.bipush (-9), 2) := kqo_10 (x1 := 247) kbl_X9_isBestFor (pc := 26) rfl rfl
theorem dX9_isBestFor_28 : decode cX9_isBestFor 28 = .ok (.invokevirtual 144, 3) := kqo_b6 (x1 := 0) (x2 := 144) kbl_X9_isBestFor (pc := 28) rfl rfl
theorem dX9_isBestFor_31 : decode cX9_isBestFor 31 = .ok (.ifCond .eq 24, 3) := kqo_99 (x1 := 0) (x2 := 24) kbl_X9_isBestFor (pc := 31) rfl rfl
theorem dX9_isBestFor_34 : decode cX9_isBestFor 34 = .ok (.aload_n 0, 1) := kqo_2a kbl_X9_isBestFor (pc := 34) rfl
theorem dX9_isBestFor_35 : decode cX9_isBestFor 35 = .ok (.getfield 52, 3) := kqo_b4 (x1 := 0) (x2 := 52) kbl_X9_isBestFor (pc := 35) rfl rfl
theorem dX9_isBestFor_38 : decode cX9_isBestFor 38 = .ok (.iconst 4, 1) := kqo_07 kbl_X9_isBestFor (pc := 38) rfl
theorem dX9_isBestFor_39 : decode cX9_isBestFor 39 = .ok (.iload_n 1, 1) := kqo_1b kbl_X9_isBestFor (pc := 39) rfl
theorem dX9_isBestFor_40 : decode cX9_isBestFor 40 = .ok (.imul, 1) := kqo_68 kbl_X9_isBestFor (pc := 40) rfl
theorem dX9_isBestFor_41 : decode cX9_isBestFor 41 = .ok (.iload_n 2, 1) := kqo_1c kbl_X9_isBestFor (pc := 41) rfl
theorem dX9_isBestFor_42 : decode cX9_isBestFor 42 = .ok (.iadd, 1) := kqo_60 kbl_X9_isBestFor (pc := 42) rfl
theorem dX9_isBestFor_43 : decode cX9_isBestFor 43 = .ok (.iaload, 1) := kqo_2e kbl_X9_isBestFor (pc := 43) rfl
theorem dX9_isBestFor_44 : decode cX9_isBestFor 44 = .ok (.iload 4, 2) := kqo_15 (x1 := 4) kbl_X9_isBestFor (pc := 44) rfl rfl
theorem dX9_isBestFor_46 : decode cX9_isBestFor 46 = .ok (.iadd, 1) := kqo_60 kbl_X9_isBestFor (pc := 46) rfl
theorem dX9_isBestFor_47 : decode cX9_isBestFor 47 = .ok (.iload_n 3, 1) := kqo_1d kbl_X9_isBestFor (pc := 47) rfl
theorem dX9_isBestFor_48 : decode cX9_isBestFor 48 = .ok (.if_icmp .ne 7, 3) := kqo_a0 (x1 := 0) (x2 := 7) kbl_X9_isBestFor (pc := 48) rfl rfl
theorem dX9_isBestFor_51 : decode cX9_isBestFor 51 = .ok (.iconst 1, 1) := kqo_04 kbl_X9_isBestFor (pc := 51) rfl
theorem dX9_isBestFor_52 : decode cX9_isBestFor 52 = .ok (.goto 4, 3) := kqo_a7 (x1 := 0) (x2 := 4) kbl_X9_isBestFor (pc := 52) rfl rfl
theorem dX9_isBestFor_55 : decode cX9_isBestFor 55 = .ok (.iconst 0, 1) := kqo_03 kbl_X9_isBestFor (pc := 55) rfl
theorem dX9_isBestFor_56 : decode cX9_isBestFor 56 = .ok (.ireturn, 1) := kqo_ac kbl_X9_isBestFor (pc := 56) rfl
set_option maxRecDepth 20000 in
theorem ggX9_isBestFor_X9_canSet : GoodIn wsX9_isBestFor wsX9_canSet := goodIn_4 _ (List.forall_mem_cons.mpr ⟨List.mem_cons_of_mem _ (List.mem_append_left _ (List.mem_of_getElem? (i := 6) rfl)), List.forall_mem_append.mpr ⟨List.forall_mem_cons.mpr ⟨List.mem_cons_of_mem _ (List.mem_append_left _ (List.mem_of_getElem? (i := 7) rfl)), List.forall_mem_cons.mpr ⟨List.mem_cons_of_mem _ (List.mem_append_left _ (List.mem_of_getElem? (i := 8) rfl)), List.forall_mem_cons.mpr ⟨List.mem_cons_of_mem _ (List.mem_append_left _ (List.mem_of_getElem? (i := 9) rfl)), List.forall_mem_cons.mpr ⟨List.mem_cons_of_mem _ (List.mem_append_left _ (List.mem_of_getElem? (i := 5) rfl)), List.forall_mem_cons.mpr ⟨List.mem_cons_of_mem _ (List.mem_append_left _ (List.mem_of_getElem? (i := 10) rfl)), fun _ h9 => absurd h9 List.not_mem_nil⟩⟩⟩⟩⟩, fun w h9 => List.mem_cons_of_mem _ (List.mem_append_right _ (h9))⟩⟩) (by decide +kernel)
set_option maxRecDepth 20000 in
theorem gX9_isBestFor_X9_canSet : GoodIn wsX9_isBestFor (wsV RX9 144 RX9 yX9_canSet wsX9_canSet) := goodIn_app (goodIn_4 _ (List.forall_mem_cons.mpr ⟨List.mem_cons_of_mem _ (List.mem_append_left _ (List.mem_of_getElem? (i := 2) rfl)), List.forall_mem_cons.mpr ⟨List.mem_cons_of_mem _ (List.mem_append_left _ (List.mem_of_getElem? (i := 3) rfl)), List.forall_mem_cons.mpr ⟨List.mem_cons_of_mem _ (List.mem_append_left _ (List.mem_of_getElem? (i := 4) rfl)), List.forall_mem_cons.mpr ⟨List.mem_cons_of_mem _ (List.mem_append_left _ (List.mem_of_getElem? (i := 5) rfl)), fun _ h9 => absurd h9 List.not_mem_nil⟩⟩⟩⟩) (by decide +kernel)) ggX9_isBestFor_X9_canSet
set_option maxRecDepth 20000 in
theorem mw_X9_isBestFor_0 : (.fieldLink RX9 52 "FontRunsModel" "changes" "[I" : Cond) ∈ wsX9_isBestFor := List.mem_cons_of_mem _ (List.mem_append_left _ (List.mem_of_getElem? (i := 1) rfl))
set_option maxRecDepth 20000 in
theorem mw_X9_isBestFor_1 : (.fieldLink RX9 55 "FontRunsModel" "chosen" "[I" : Cond) ∈ wsX9_isBestFor := List.mem_cons_of_mem _ (List.mem_append_left _ (List.mem_of_getElem? (i := 0) rfl))
theorem ax_X9_isBestFor_0 {e0 e1 e2 e3 : Nat × va_E} : ([0, 1] : List Nat).map (fun i => ([e0, e1, e2, e3] : va_W)[i]?) = ([e0, e1] : va_W).map some := rfl
set_option maxHeartbeats 4000000 in
set_option maxRecDepth 100000 in
theorem c_X9_isBestFor (l : Launch) (D : va_G) (sz : Nat) (kc : Int) (f : Int) (lf : Int) (h0 : Nat) (fa : Int) (tc : Int) (so : Nat) (sl : Nat) (ce : Nat) (fn : Int) (kd : Nat) (wd : Nat) (hs : Nat) (pf : Nat) (lt : Nat) (mn : Int) (wg : Nat) (ta : Int) (ck : Int64) (at9 : Int) (rfn : Int) (rk : Nat) (rw : Nat) (rh : Nat) (cl : Int) (sa : Nat) (fi : Nat) (bo : Int) (ch : Nat) (cn : Nat) (ad : Int) (ru : Int) (kp : Nat) (dn : Int) (rfa : Nat) (c_fi : ClassId) (f_fi : Nat → Int32) (c_ch : ClassId) (f_ch : Nat → Int32) (c_cn : ClassId) (f_cn : Nat → Int32) (q0 : 0 ≤ kc ∧ kc < cl) (q1 : 0 ≤ f ∧ f < fn) (q2 : rg lf) (q3 : 0 ≤ cl ∧ cl ≤ 24) (q4 : 0 ≤ fn ∧ fn ≤ 4) (q5 : kDp f_ch f_fi fn cl (-9) 0) : Met l yX9_isBestFor wsX9_isBestFor ({ frames := 2, cells := 0, slots := 0, locals := 44 }) (kPre [.ref h0, .int (zI kc), .int (zI f), .int (zI lf)] D [(h0, .inr (9, [.int (zI fa), .int (zI tc), .ref so, .ref sl, .ref ce, .int (zI fn), .ref kd, .ref wd, .ref hs, .ref pf, .ref lt, .int (zI mn), .ref wg, .int (zI ta), .long ck, .int (zI at9), .int (zI rfn), .ref rk, .ref rw, .ref rh, .int (zI cl), .ref sa, .ref fi, .int (zI bo), .ref ch, .ref cn, .int (zI ad), .int (zI ru), .ref kp, .int (zI dn), .ref rfa])), (fi, .inl (c_fi, 24, .inl f_fi)), (ch, .inl (c_ch, 96, .inl f_ch)), (cn, .inl (c_cn, 24, .inl f_cn))] [(c_fi, .int), (c_ch, .int), (c_cn, .int)] sz) (QcRead (if kIsB f_ch f_fi f_cn kc f lf then 1 else 0)) 0 0 (fun _ => False) := by
  refine Met.ofW (cc := cX9_isBestFor) (maxL := 5) (ret := (some .boolean)) (by decide) rfl ?_
  intro p e s m args below meth c s₁ B hml hv
  obtain ⟨rfl, hsz, hP, hK, hD0, hN⟩ := hv
  have hx := B.exec
  have hb := B.bytes
  have hr := B.returns
  have hts := atoms_spec (ws := wsX9_isBestFor) B.pre
  have hown : s.vm.findClass RX9 = some m.cls := findClass_of_methodNamed B.named
  have hlocks := B.notSynchronized
  subst hsz
  have hD := hD0
  have hP : va_P D vwCl [(h0, .inr (9, [.int (zI fa), .int (zI tc), .ref so, .ref sl, .ref ce, .int (zI fn), .ref kd, .ref wd, .ref hs, .ref pf, .ref lt, .int (zI mn), .ref wg, .int (zI ta), .long ck, .int (zI at9), .int (zI rfn), .ref rk, .ref rw, .ref rh, .int (zI cl), .ref sa, .ref fi, .int (zI bo), .ref ch, .ref cn, .int (zI ad), .int (zI ru), .ref kp, .int (zI dn), .ref rfa])), (fi, .inl (c_fi, 24, .inl f_fi)), (ch, .inl (c_ch, 96, .inl f_ch)), (cn, .inl (c_cn, 24, .inl f_cn))] s.heap := hP
  have hl := lv_entry ([.ref h0, .int (zI kc), .int (zI f), .int (zI lf)]) (n := 5) (Nat.le_of_ble_eq_true rfl)
  rw [lg_entry_eq]
  generalize (lg_sl ([.ref h0, .int (zI kc), .int (zI f), .int (zI lf)]) ++ List.replicate (5 - (lg_sl ([.ref h0, .int (zI kc), .int (zI f), .int (zI lf)])).length) Slot.unset).toArray = ls at hl ⊢
  have hl : lv_has ls 5 [(0, .ref h0), (1, .int (zI kc)), (2, .int (zI f)), (3, .int (zI lf))] := hl
  refine lv_iload_n hx hb dX9_isBestFor_0 rfl (lv_at hl 1 rfl) ?_
  refine kz_if_le (tgt := 20) hx hb dX9_isBestFor_1 (by decide) (by omega) (fun c_1 => ?_) (fun c_1 => ?_)
  · refine lv_iconst (v := zI 0) hx hb dX9_isBestFor_20 rfl ?_
    refine lv_istore (lv' := [(4, .int (zI 0)), (0, .ref h0), (1, .int (zI kc)), (2, .int (zI f)), (3, .int (zI lf))]) hx hb dX9_isBestFor_21 hl (by decide) rfl (fun ls hl => ?_)
    refine lv_aload_n hx hb dX9_isBestFor_23 rfl (lv_at hl 1 rfl) ?_
    refine lv_iload_n hx hb dX9_isBestFor_24 rfl (lv_at hl 2 rfl) ?_
    refine lv_iload_n hx hb dX9_isBestFor_25 rfl (lv_at hl 3 rfl) ?_
    refine lv_bipush (v := zI (-9)) hx hb dX9_isBestFor_26 (by decide) ?_
    refine k_callR (va_runV (As := [.int (zI kc), .int (zI f), .int (zI (-9))]) (rest := []) ⟨hx, hb, hml, hown, hts⟩ (c_X9_canSet l D s.heap.size (kc := kc) (f := f) (wo := (-9)) (h0 := h0) (fa := fa) (tc := tc) (so := so) (sl := sl) (ce := ce) (fn := fn) (kd := kd) (wd := wd) (hs := hs) (pf := pf) (lt := lt) (mn := mn) (wg := wg) (ta := ta) (ck := ck) (at9 := at9) (rfn := rfn) (rk := rk) (rw := rw) (rh := rh) (cl := cl) (sa := sa) (fi := fi) (bo := bo) (ch := ch) (cn := cn) (ad := ad) (ru := ru) (kp := kp) (dn := dn) (rfa := rfa) (c_fi := c_fi) (f_fi := f_fi) (by omega) (by omega) (by omega)) (cwV 3 hts gX9_isBestFor_X9_canSet rfl rfl rfl (by decide +kernel) ⟨Nat.le_of_ble_eq_true rfl, Nat.le_of_ble_eq_true rfl⟩) (kPreV hP (kD0 hD) hK hN [0, 1] [0] ax_X9_isBestFor_0 rfl (by decide +kernel) 0 9 rfl rfl) rfl rfl hl.1 rfl (lv_room (Nat.le_of_ble_eq_true rfl)) dX9_isBestFor_28 ⟨Nat.le_of_ble_eq_true rfl, Nat.le_of_ble_eq_true rfl⟩) ?_
    refine lv_if_eq (tgt := 55) hx hb dX9_isBestFor_31 (by decide) (fun c_2 => ?_) (fun c_2 => ?_)
    · have c_2 : ¬ (kCan (f_fi kc.toNat) f (-9)) := b01f c_2
      refine lv_iconst (v := zI 0) hx hb dX9_isBestFor_55 rfl ?_
      exact W.zret (v := (zI 0)) hx hb hr rfl (fun t ht hW => kRd (kb0 (fun h9 => c_2 h9.1)) ht) (fun _ h9 => by cases h9) dX9_isBestFor_56
    · have c_2 : kCan (f_fi kc.toNat) f (-9) := b01t c_2
      refine lv_aload_n hx hb dX9_isBestFor_34 rfl (lv_at hl 1 rfl) ?_
      refine va_get (D := D) (ci := 9) (v := .ref ch) (C := RX9) (T := TX9) (N := 31) hx hb hts (fun _ h9 => List.mem_cons_of_mem _ (List.mem_append_right _ h9)) hown hK hP 0 rfl rfl 24 (by decide) (hts (.fieldLink RX9 52 "FontRunsModel" "changes" "[I") mw_X9_isBestFor_0) (fun _ h9 => h9) rfl dX9_isBestFor_35 ?_
      refine lv_iconst (v := zI 4) hx hb dX9_isBestFor_38 rfl ?_
      refine lv_iload_n hx hb dX9_isBestFor_39 rfl (lv_at hl 2 rfl) ?_
      refine kz_imul hx hb dX9_isBestFor_40 ?_
      refine lv_iload_n hx hb dX9_isBestFor_41 rfl (lv_at hl 3 rfl) ?_
      refine kz_iadd hx hb dX9_isBestFor_42 ?_
      refine kz_iald hx hb hK hP 2 1 rfl rfl (by omega) dX9_isBestFor_43 (fun z_3 rz_3 ez_3 => ?_)
      have gz_3 := q5 kc f (by omega) (by omega) (by omega) (by omega)
      have az_3 := kch_at (c := kc) (f := f) rz_3 ez_3
      have bz_3 : 0 ≤ z_3 ∧ z_3 ≤ 24 := by have u1 := gz_3.1; have u2 := gz_3.2.1; rw [az_3] at u1 u2; exact ⟨u1, u2⟩
      refine lv_iload hx hb dX9_isBestFor_44 (lv_at hl 0 rfl) ?_
      refine kz_iadd hx hb dX9_isBestFor_46 ?_
      refine lv_iload_n hx hb dX9_isBestFor_47 rfl (lv_at hl 4 rfl) ?_
      refine kz_icmp_ne (tgt := 55) hx hb dX9_isBestFor_48 (by decide) (by omega) (by omega) (fun c_4 => ?_) (fun c_4 => ?_)
      · refine lv_iconst (v := zI 0) hx hb dX9_isBestFor_55 rfl ?_
        exact W.zret (v := (zI 0)) hx hb hr rfl (fun t ht hW => kRd (kb0 (fun h9 => by have q9 := h9.2; rw [az_3, kIts_0 c_1] at q9; omega)) ht) (fun _ h9 => by cases h9) dX9_isBestFor_56
      · refine lv_iconst (v := zI 1) hx hb dX9_isBestFor_51 rfl ?_
        refine lv_goto (tgt := 56) hx hb dX9_isBestFor_52 (by decide) ?_
        exact W.zret (v := (zI 1)) hx hb hr rfl (fun t ht hW => kRd (kb1 (⟨c_2, by rw [az_3, kIts_0 c_1]; omega⟩)) ht) (fun _ h9 => by cases h9) dX9_isBestFor_56
  · refine lv_aload_n hx hb dX9_isBestFor_4 rfl (lv_at hl 0 rfl) ?_
    refine va_get (D := D) (ci := 9) (v := .ref cn) (C := RX9) (T := TX9) (N := 31) hx hb hts (fun _ h9 => List.mem_cons_of_mem _ (List.mem_append_right _ h9)) hown hK hP 0 rfl rfl 25 (by decide) (hts (.fieldLink RX9 55 "FontRunsModel" "chosen" "[I") mw_X9_isBestFor_1) (fun _ h9 => h9) rfl dX9_isBestFor_5 ?_
    refine lv_iload_n hx hb dX9_isBestFor_8 rfl (lv_at hl 1 rfl) ?_
    refine lv_iconst (v := zI 1) hx hb dX9_isBestFor_9 rfl ?_
    refine kz_isub hx hb dX9_isBestFor_10 ?_
    refine kz_iald hx hb hK hP 3 2 rfl rfl (by omega) dX9_isBestFor_11 (fun z_5 rz_5 ez_5 => ?_)
    refine lv_iload_n hx hb dX9_isBestFor_12 rfl (lv_at hl 2 rfl) ?_
    refine kz_icmp_eq (tgt := 20) hx hb dX9_isBestFor_13 (by decide) (by omega) (by omega) (fun c_6 => ?_) (fun c_6 => ?_)
    · refine lv_iconst (v := zI 0) hx hb dX9_isBestFor_20 rfl ?_
      refine lv_istore (lv' := [(4, .int (zI 0)), (0, .ref h0), (1, .int (zI kc)), (2, .int (zI f)), (3, .int (zI lf))]) hx hb dX9_isBestFor_21 hl (by decide) rfl (fun ls hl => ?_)
      refine lv_aload_n hx hb dX9_isBestFor_23 rfl (lv_at hl 1 rfl) ?_
      refine lv_iload_n hx hb dX9_isBestFor_24 rfl (lv_at hl 2 rfl) ?_
      refine lv_iload_n hx hb dX9_isBestFor_25 rfl (lv_at hl 3 rfl) ?_
      refine lv_bipush (v := zI (-9)) hx hb dX9_isBestFor_26 (by decide) ?_
      refine k_callR (va_runV (As := [.int (zI kc), .int (zI f), .int (zI (-9))]) (rest := []) ⟨hx, hb, hml, hown, hts⟩ (c_X9_canSet l D s.heap.size (kc := kc) (f := f) (wo := (-9)) (h0 := h0) (fa := fa) (tc := tc) (so := so) (sl := sl) (ce := ce) (fn := fn) (kd := kd) (wd := wd) (hs := hs) (pf := pf) (lt := lt) (mn := mn) (wg := wg) (ta := ta) (ck := ck) (at9 := at9) (rfn := rfn) (rk := rk) (rw := rw) (rh := rh) (cl := cl) (sa := sa) (fi := fi) (bo := bo) (ch := ch) (cn := cn) (ad := ad) (ru := ru) (kp := kp) (dn := dn) (rfa := rfa) (c_fi := c_fi) (f_fi := f_fi) (by omega) (by omega) (by omega)) (cwV 3 hts gX9_isBestFor_X9_canSet rfl rfl rfl (by decide +kernel) ⟨Nat.le_of_ble_eq_true rfl, Nat.le_of_ble_eq_true rfl⟩) (kPreV hP (kD0 hD) hK hN [0, 1] [0] ax_X9_isBestFor_0 rfl (by decide +kernel) 0 9 rfl rfl) rfl rfl hl.1 rfl (lv_room (Nat.le_of_ble_eq_true rfl)) dX9_isBestFor_28 ⟨Nat.le_of_ble_eq_true rfl, Nat.le_of_ble_eq_true rfl⟩) ?_
      refine lv_if_eq (tgt := 55) hx hb dX9_isBestFor_31 (by decide) (fun c_7 => ?_) (fun c_7 => ?_)
      · have c_7 : ¬ (kCan (f_fi kc.toNat) f (-9)) := b01f c_7
        refine lv_iconst (v := zI 0) hx hb dX9_isBestFor_55 rfl ?_
        exact W.zret (v := (zI 0)) hx hb hr rfl (fun t ht hW => kRd (kb0 (fun h9 => c_7 h9.1)) ht) (fun _ h9 => by cases h9) dX9_isBestFor_56
      · have c_7 : kCan (f_fi kc.toNat) f (-9) := b01t c_7
        refine lv_aload_n hx hb dX9_isBestFor_34 rfl (lv_at hl 1 rfl) ?_
        refine va_get (D := D) (ci := 9) (v := .ref ch) (C := RX9) (T := TX9) (N := 31) hx hb hts (fun _ h9 => List.mem_cons_of_mem _ (List.mem_append_right _ h9)) hown hK hP 0 rfl rfl 24 (by decide) (hts (.fieldLink RX9 52 "FontRunsModel" "changes" "[I") mw_X9_isBestFor_0) (fun _ h9 => h9) rfl dX9_isBestFor_35 ?_
        refine lv_iconst (v := zI 4) hx hb dX9_isBestFor_38 rfl ?_
        refine lv_iload_n hx hb dX9_isBestFor_39 rfl (lv_at hl 2 rfl) ?_
        refine kz_imul hx hb dX9_isBestFor_40 ?_
        refine lv_iload_n hx hb dX9_isBestFor_41 rfl (lv_at hl 3 rfl) ?_
        refine kz_iadd hx hb dX9_isBestFor_42 ?_
        refine kz_iald hx hb hK hP 2 1 rfl rfl (by omega) dX9_isBestFor_43 (fun z_8 rz_8 ez_8 => ?_)
        have gz_8 := q5 kc f (by omega) (by omega) (by omega) (by omega)
        have az_8 := kch_at (c := kc) (f := f) rz_8 ez_8
        have bz_8 : 0 ≤ z_8 ∧ z_8 ≤ 24 := by have u1 := gz_8.1; have u2 := gz_8.2.1; rw [az_8] at u1 u2; exact ⟨u1, u2⟩
        refine lv_iload hx hb dX9_isBestFor_44 (lv_at hl 0 rfl) ?_
        refine kz_iadd hx hb dX9_isBestFor_46 ?_
        refine lv_iload_n hx hb dX9_isBestFor_47 rfl (lv_at hl 4 rfl) ?_
        refine kz_icmp_ne (tgt := 55) hx hb dX9_isBestFor_48 (by decide) (by omega) (by omega) (fun c_9 => ?_) (fun c_9 => ?_)
        · refine lv_iconst (v := zI 0) hx hb dX9_isBestFor_55 rfl ?_
          exact W.zret (v := (zI 0)) hx hb hr rfl (fun t ht hW => kRd (kb0 (fun h9 => by have q9 := h9.2; rw [az_8, kIts_eq rz_5 ez_5 c_6] at q9; omega)) ht) (fun _ h9 => by cases h9) dX9_isBestFor_56
        · refine lv_iconst (v := zI 1) hx hb dX9_isBestFor_51 rfl ?_
          refine lv_goto (tgt := 56) hx hb dX9_isBestFor_52 (by decide) ?_
          exact W.zret (v := (zI 1)) hx hb hr rfl (fun t ht hW => kRd (kb1 (⟨c_7, by rw [az_8, kIts_eq rz_5 ez_5 c_6]; omega⟩)) ht) (fun _ h9 => by cases h9) dX9_isBestFor_56
    · refine lv_iconst (v := zI 1) hx hb dX9_isBestFor_16 rfl ?_
      refine lv_goto (tgt := 21) hx hb dX9_isBestFor_17 (by decide) ?_
      refine lv_istore (lv' := [(4, .int (zI 1)), (0, .ref h0), (1, .int (zI kc)), (2, .int (zI f)), (3, .int (zI lf))]) hx hb dX9_isBestFor_21 hl (by decide) rfl (fun ls hl => ?_)
      refine lv_aload_n hx hb dX9_isBestFor_23 rfl (lv_at hl 1 rfl) ?_
      refine lv_iload_n hx hb dX9_isBestFor_24 rfl (lv_at hl 2 rfl) ?_
      refine lv_iload_n hx hb dX9_isBestFor_25 rfl (lv_at hl 3 rfl) ?_
      refine lv_bipush (v := zI (-9)) hx hb dX9_isBestFor_26 (by decide) ?_
      refine k_callR (va_runV (As := [.int (zI kc), .int (zI f), .int (zI (-9))]) (rest := []) ⟨hx, hb, hml, hown, hts⟩ (c_X9_canSet l D s.heap.size (kc := kc) (f := f) (wo := (-9)) (h0 := h0) (fa := fa) (tc := tc) (so := so) (sl := sl) (ce := ce) (fn := fn) (kd := kd) (wd := wd) (hs := hs) (pf := pf) (lt := lt) (mn := mn) (wg := wg) (ta := ta) (ck := ck) (at9 := at9) (rfn := rfn) (rk := rk) (rw := rw) (rh := rh) (cl := cl) (sa := sa) (fi := fi) (bo := bo) (ch := ch) (cn := cn) (ad := ad) (ru := ru) (kp := kp) (dn := dn) (rfa := rfa) (c_fi := c_fi) (f_fi := f_fi) (by omega) (by omega) (by omega)) (cwV 3 hts gX9_isBestFor_X9_canSet rfl rfl rfl (by decide +kernel) ⟨Nat.le_of_ble_eq_true rfl, Nat.le_of_ble_eq_true rfl⟩) (kPreV hP (kD0 hD) hK hN [0, 1] [0] ax_X9_isBestFor_0 rfl (by decide +kernel) 0 9 rfl rfl) rfl rfl hl.1 rfl (lv_room (Nat.le_of_ble_eq_true rfl)) dX9_isBestFor_28 ⟨Nat.le_of_ble_eq_true rfl, Nat.le_of_ble_eq_true rfl⟩) ?_
      refine lv_if_eq (tgt := 55) hx hb dX9_isBestFor_31 (by decide) (fun c_10 => ?_) (fun c_10 => ?_)
      · have c_10 : ¬ (kCan (f_fi kc.toNat) f (-9)) := b01f c_10
        refine lv_iconst (v := zI 0) hx hb dX9_isBestFor_55 rfl ?_
        exact W.zret (v := (zI 0)) hx hb hr rfl (fun t ht hW => kRd (kb0 (fun h9 => c_10 h9.1)) ht) (fun _ h9 => by cases h9) dX9_isBestFor_56
      · have c_10 : kCan (f_fi kc.toNat) f (-9) := b01t c_10
        refine lv_aload_n hx hb dX9_isBestFor_34 rfl (lv_at hl 1 rfl) ?_
        refine va_get (D := D) (ci := 9) (v := .ref ch) (C := RX9) (T := TX9) (N := 31) hx hb hts (fun _ h9 => List.mem_cons_of_mem _ (List.mem_append_right _ h9)) hown hK hP 0 rfl rfl 24 (by decide) (hts (.fieldLink RX9 52 "FontRunsModel" "changes" "[I") mw_X9_isBestFor_0) (fun _ h9 => h9) rfl dX9_isBestFor_35 ?_
        refine lv_iconst (v := zI 4) hx hb dX9_isBestFor_38 rfl ?_
        refine lv_iload_n hx hb dX9_isBestFor_39 rfl (lv_at hl 2 rfl) ?_
        refine kz_imul hx hb dX9_isBestFor_40 ?_
        refine lv_iload_n hx hb dX9_isBestFor_41 rfl (lv_at hl 3 rfl) ?_
        refine kz_iadd hx hb dX9_isBestFor_42 ?_
        refine kz_iald hx hb hK hP 2 1 rfl rfl (by omega) dX9_isBestFor_43 (fun z_11 rz_11 ez_11 => ?_)
        have gz_11 := q5 kc f (by omega) (by omega) (by omega) (by omega)
        have az_11 := kch_at (c := kc) (f := f) rz_11 ez_11
        have bz_11 : 0 ≤ z_11 ∧ z_11 ≤ 24 := by have u1 := gz_11.1; have u2 := gz_11.2.1; rw [az_11] at u1 u2; exact ⟨u1, u2⟩
        refine lv_iload hx hb dX9_isBestFor_44 (lv_at hl 0 rfl) ?_
        refine kz_iadd hx hb dX9_isBestFor_46 ?_
        refine lv_iload_n hx hb dX9_isBestFor_47 rfl (lv_at hl 4 rfl) ?_
        refine kz_icmp_ne (tgt := 55) hx hb dX9_isBestFor_48 (by decide) (by omega) (by omega) (fun c_12 => ?_) (fun c_12 => ?_)
        · refine lv_iconst (v := zI 0) hx hb dX9_isBestFor_55 rfl ?_
          exact W.zret (v := (zI 0)) hx hb hr rfl (fun t ht hW => kRd (kb0 (fun h9 => by have q9 := h9.2; rw [az_11, kIts_ne (by omega) rz_5 ez_5 c_6] at q9; omega)) ht) (fun _ h9 => by cases h9) dX9_isBestFor_56
        · refine lv_iconst (v := zI 1) hx hb dX9_isBestFor_51 rfl ?_
          refine lv_goto (tgt := 56) hx hb dX9_isBestFor_52 (by decide) ?_
          exact W.zret (v := (zI 1)) hx hb hr rfl (fun t ht hW => kRd (kb1 (⟨c_10, by rw [az_11, kIts_ne (by omega) rz_5 ez_5 c_6]; omega⟩)) ht) (fun _ h9 => by cases h9) dX9_isBestFor_56
/-! how many runs; the search of a FONT by PREFERENCE; what is left behind a choice -/
def kRn (f : Nat → Int32) : Nat → Int
  | 0 => 0
  | 1 => 1
  | n + 2 => kRn f (n + 1) + (if f (n + 1) = f n then 0 else 1)
theorem kRn_cong {f g : Nat → Int32} : ∀ (n : Nat), (∀ i, i < n → f i = g i) → kRn f n = kRn g n
  | 0, _ => rfl
  | 1, _ => rfl
  | n + 2, h => by
    unfold kRn
    rw [kRn_cong (n + 1) (fun i hi => h i (by omega)), h (n + 1) (by omega), h n (by omega)]
theorem kRn_first {ja F : Nat → Int32} {c r : Int} (h0 : c = 0) (hr : r = kRn ja c.toNat) : r + 1 = kRn F (c + 1).toNat := by
  subst h0
  rw [hr]
  rfl
theorem kRn_next {ja F : Nat → Int32} {c r : Int} {x : Int32} (h0 : 0 ≤ c) (h1 : ¬ c = 0) (e : upd ja c.toNat x = F) (hr : r = kRn ja c.toNat) : kRn F (c + 1).toNat = r + (if F c.toNat = F (c - 1).toNat then 0 else 1) := by
  obtain ⟨n, hn⟩ : ∃ n : Nat, c = n + 1 := ⟨(c - 1).toNat, by omega⟩
  subst hn
  rw [show ((n : Int) + 1 + 1).toNat = n + 2 by omega, show ((n : Int) + 1).toNat = n + 1 by omega, show ((n : Int) + 1 - 1).toNat = n by omega] at *
  rw [hr]
  show kRn F (n + 1) + _ = _
  rw [kRn_cong (f := F) (g := ja) (n + 1) (fun i hi => by rw [← e, pk_un (by omega)])]
def kBp (pf ch fi cn : Nat → Int32) (fn c lf j : Int) : Prop := 0 ≤ j ∧ ∃ q : Nat, j ≤ q ∧ (q : Int) < fn ∧ ∃ z : Int, 0 ≤ z ∧ z < fn ∧ pf q = zI z ∧ kIsB ch fi cn c z lf
theorem kBp_0 {pf ch fi cn : Nat → Int32} {fn cl c lf : Int} (hp : kPm pf fn) (h : kLeft ch fi cn fn cl c lf) (hc : c < cl) : kBp pf ch fi cn fn c lf 0 := by
  obtain ⟨g, g1, g2, g3⟩ := h hc
  obtain ⟨p, p1, p2⟩ := hp.2 g g1 g2
  exact ⟨by omega, p, by omega, p1, g, g1, g2, p2, g3⟩
theorem kBp_lt {pf ch fi cn : Nat → Int32} {fn c lf j : Int} (h : kBp pf ch fi cn fn c lf j) : 0 ≤ j ∧ j < fn := by
  obtain ⟨h0, q, h1, h2, -⟩ := h
  omega
theorem kBp_1 {pf ch fi cn : Nat → Int32} {fn c lf j z : Int} (h : kBp pf ch fi cn fn c lf j) (hn : fn ≤ 4) (hz : rg z) (e : pf j.toNat = zI z) (ne : ¬ kIsB ch fi cn c z lf) : kBp pf ch fi cn fn c lf (j + 1) := by
  obtain ⟨h0, q, h1, h2, w, w1, w2, w3, w4⟩ := h
  refine ⟨by omega, q, ?_, h2, w, w1, w2, w3, w4⟩
  by_cases k : (q : Int) = j
  · exfalso
    have k2 : j.toNat = q := by omega
    rw [k2, w3] at e
    have := (zI_eq (by omega) hz).mp e
    subst this
    exact ne w4
  · omega
theorem kLeft_s {ch fi ja F : Nat → Int32} {fn cl c z v : Int} (h : kDp ch fi fn cl (-9) 0) (hf : kFit fi fn cl (-9)) (hcl : cl ≤ 24) (hc : 0 ≤ c) (hz : 0 ≤ z ∧ z < fn ∧ fn ≤ 4) (e : upd ja c.toNat (zI z) = F) (ev : kch ch c z = v) : kLeft ch fi F fn cl (c + 1) v := by
  subst ev
  exact kLeft_1 h hf hcl hc ⟨hz.1, hz.2.1⟩ (by rw [← e, pk_us, zI_toInt (by omega)])
theorem kLeft_00 {ch fi cn : Nat → Int32} {fn cl b : Int} (h : kDp ch fi fn cl (-9) 0) (hf : 0 < cl → kFit fi fn cl (-9)) (hcl : cl ≤ 24) (hb : 0 < cl → kBe ch fi (-9) fn b) : kLeft ch fi cn fn cl 0 b := fun hc => kLeft_0 h (hf hc) hcl hb hc
def kCn (f : Nat → Int32) (n : Int) : Prop := ∀ i : Nat, (i : Int) < n → 0 ≤ (f i).toInt ∧ (f i).toInt ≤ 3
theorem kCn_0 {f : Nat → Int32} : kCn f 0 := fun i h => by omega
theorem kCn_le {f : Nat → Int32} {n k : Int} (h : kCn f n) (e : k ≤ n) : kCn f k := fun i q => h i (by omega)
theorem kCn_at {f : Nat → Int32} {n i z : Int} (h : kCn f n) (h0 : 0 ≤ i) (hi : i < n) (hz : rg z) (e : f i.toNat = zI z) : 0 ≤ z ∧ z ≤ 3 := by
  have := h i.toNat (by omega)
  rw [e, zI_toInt hz] at this
  exact this
theorem kCn_s {f g : Nat → Int32} {c z : Int} (h : kCn f c) (h0 : 0 ≤ c) (hz : 0 ≤ z ∧ z ≤ 3) (e : upd f c.toNat (zI z) = g) : kCn g (c + 1) := by
  intro i hi
  rw [← e]
  by_cases q : i = c.toNat
  · subst q
    rw [pk_us, zI_toInt (by omega)]
    exact hz
  · rw [pk_un q]
    exact h i (by omega)
theorem dX9_findBest_0 : decode cX9_findBest 0 = .ok (.aload_n 0, 1) := kqo_2a kbl_X9_findBest (pc := 0) rfl
theorem dX9_findBest_1 : decode cX9_findBest 1 = .ok (.bipush (-9), 2) := kqo_10 (x1 := 247) kbl_X9_findBest (pc := 1) rfl rfl
theorem dX9_findBest_3 : decode cX9_findBest 3 = .ok (.invokevirtual 155, 3) := kqo_b6 (x1 := 0) (x2 := 155) kbl_X9_findBest (pc := 3) rfl rfl
theorem dX9_findBest_6 : decode cX9_findBest 6 = .ok (.istore_n 1, 1) := kqo_3c kbl_X9_findBest (pc := 6) rfl
theorem dX9_findBest_7 : decode cX9_findBest 7 = .ok (.iload_n 1, 1) := kqo_1b kbl_X9_findBest (pc := 7) rfl
theorem dX9_findBest_8 : decode cX9_findBest 8 = .ok (.istore_n 2, 1) := kqo_3d kbl_X9_findBest (pc := 8) rfl
theorem dX9_findBest_9 : decode cX9_findBest 9 = .ok (.aload_n 0, 1) := kqo_2a kbl_X9_findBest (pc := 9) rfl
theorem dX9_findBest_10 : decode cX9_findBest 10 = .ok (.iconst 0, 1) := kqo_03 kbl_X9_findBest (pc := 10) rfl
theorem dX9_findBest_11 : decode cX9_findBest 11 = .ok (.putfield 158, 3) := kqo_b5 (x1 := 0) (x2 := 158) kbl_X9_findBest (pc := 11) rfl rfl
theorem dX9_findBest_14 : decode cX9_findBest 14 = .ok (.aload_n 0, 1) := kqo_2a kbl_X9_findBest (pc := 14) rfl
theorem dX9_findBest_15 : decode cX9_findBest 15 = .ok (.iconst 0, 1) := kqo_03 kbl_X9_findBest (pc := 15) rfl
theorem dX9_findBest_16 : decode cX9_findBest 16 = .ok (.putfield 161, 3) := kqo_b5 (x1 := 0) (x2 := 161) kbl_X9_findBest (pc := 16) rfl rfl
theorem dX9_findBest_19 : decode cX9_findBest 19 = .ok (.iconst 0, 1) := kqo_03 kbl_X9_findBest (pc := 19) rfl
theorem dX9_findBest_20 : decode cX9_findBest 20 = .ok (.istore_n 3, 1) := kqo_3e kbl_X9_findBest (pc := 20) rfl
theorem dX9_findBest_21 : decode cX9_findBest 21 = .ok (.iload_n 3, 1) := kqo_1d kbl_X9_findBest (pc := 21) rfl
theorem dX9_findBest_22 : decode cX9_findBest 22 = .ok (.aload_n 0, 1) := kqo_2a kbl_X9_findBest (pc := 22) rfl
theorem dX9_findBest_23 : decode cX9_findBest 23 = .ok (.getfield 138, 3) := kqo_b4 (x1 := 0) (x2 := 138) kbl_X9_findBest (pc := 23) rfl rfl
theorem dX9_findBest_26 : decode cX9_findBest 26 = .ok (.if_icmp .ge 130, 3) := kqo_a2 (x1 := 0) (x2 := 130) kbl_X9_findBest (pc := 26) rfl rfl
theorem dX9_findBest_29 : decode cX9_findBest 29 = .ok (.iconst 0, 1) := kqo_03 kbl_X9_findBest (pc := 29) rfl
theorem dX9_findBest_30 : decode cX9_findBest 30 = .ok (.istore 4, 2) := kqo_36 (x1 := 4) kbl_X9_findBest (pc := 30) rfl rfl
theorem dX9_findBest_32 : decode cX9_findBest 32 = .ok (.aload_n 0, 1) := kqo_2a kbl_X9_findBest (pc := 32) rfl
theorem dX9_findBest_33 : decode cX9_findBest 33 = .ok (.iload_n 3, 1) := kqo_1d kbl_X9_findBest (pc := 33) rfl
theorem dX9_findBest_34 : decode cX9_findBest 34 = .ok (.aload_n 0, 1) := kqo_2a kbl_X9_findBest (pc := 34) rfl
theorem dX9_findBest_35 : decode cX9_findBest 35 = .ok (.getfield 28, 3) := kqo_b4 (x1 := 0) (x2 := 28) kbl_X9_findBest (pc := 35) rfl rfl
theorem dX9_findBest_38 : decode cX9_findBest 38 = .ok (.iload 4, 2) := kqo_15 (x1 := 4) kbl_X9_findBest (pc := 38) rfl rfl
theorem dX9_findBest_40 : decode cX9_findBest 40 = .ok (.iaload, 1) := kqo_2e kbl_X9_findBest (pc := 40) rfl
theorem dX9_findBest_41 : decode cX9_findBest 41 = .ok (.iload_n 2, 1) := kqo_1c kbl_X9_findBest (pc := 41) rfl
theorem dX9_findBest_42 : decode cX9_findBest 42 = .ok (.invokevirtual 164, 3) := kqo_b6 (x1 := 0) (x2 := 164) kbl_X9_findBest (pc := 42) rfl rfl
theorem dX9_findBest_45 : decode cX9_findBest 45 = .ok (.ifCond .ne 9, 3) := kqo_9a (x1 := 0) (x2 := 9) kbl_X9_findBest (pc := 45) rfl rfl
theorem dX9_findBest_48 : decode cX9_findBest 48 = .ok (.iinc 4 1, 3) := kqo_84 (x1 := 4) (x2 := 1) kbl_X9_findBest (pc := 48) rfl rfl
theorem dX9_findBest_51 : decode cX9_findBest 51 = .ok (.goto (-19), 3) := kqo_a7 (x1 := 255) (x2 := 237) kbl_X9_findBest (pc := 51) rfl rfl
theorem dX9_findBest_54 : decode cX9_findBest 54 = .ok (.aload_n 0, 1) := kqo_2a kbl_X9_findBest (pc := 54) rfl
theorem dX9_findBest_55 : decode cX9_findBest 55 = .ok (.getfield 55, 3) := kqo_b4 (x1 := 0) (x2 := 55) kbl_X9_findBest (pc := 55) rfl rfl
theorem dX9_findBest_58 : decode cX9_findBest 58 = .ok (.iload_n 3, 1) := kqo_1d kbl_X9_findBest (pc := 58) rfl
theorem dX9_findBest_59 : decode cX9_findBest 59 = .ok (.aload_n 0, 1) := kqo_2a kbl_X9_findBest (pc := 59) rfl
theorem dX9_findBest_60 : decode cX9_findBest 60 = .ok (.getfield 28, 3) := kqo_b4 (x1 := 0) (x2 := 28) kbl_X9_findBest (pc := 60) rfl rfl
theorem dX9_findBest_63 : decode cX9_findBest 63 = .ok (.iload 4, 2) := kqo_15 (x1 := 4) kbl_X9_findBest (pc := 63) rfl rfl
theorem dX9_findBest_65 : decode cX9_findBest 65 = .ok (.iaload, 1) := kqo_2e kbl_X9_findBest (pc := 65) rfl
theorem dX9_findBest_66 : decode cX9_findBest 66 = .ok (.iastore, 1) := kqo_4f kbl_X9_findBest (pc := 66) rfl
theorem dX9_findBest_67 : decode cX9_findBest 67 = .ok (.iload_n 3, 1) := kqo_1d kbl_X9_findBest (pc := 67) rfl
theorem dX9_findBest_68 : decode cX9_findBest 68 = .ok (.ifCond .eq 20, 3) := kqo_99 (x1 := 0) (x2 := 20) kbl_X9_findBest (pc := 68) rfl rfl
theorem dX9_findBest_71 : decode cX9_findBest 71 = .ok (.aload_n 0, 1) := kqo_2a kbl_X9_findBest (pc := 71) rfl
theorem dX9_findBest_72 : decode cX9_findBest 72 = .ok (.getfield 55, 3) := kqo_b4 (x1 := 0) (x2 := 55) kbl_X9_findBest (pc := 72) rfl rfl
theorem dX9_findBest_75 : decode cX9_findBest 75 = .ok (.iload_n 3, 1) := kqo_1d kbl_X9_findBest (pc := 75) rfl
theorem dX9_findBest_76 : decode cX9_findBest 76 = .ok (.iaload, 1) := kqo_2e kbl_X9_findBest (pc := 76) rfl
theorem dX9_findBest_77 : decode cX9_findBest 77 = .ok (.aload_n 0, 1) := kqo_2a kbl_X9_findBest (pc := 77) rfl
theorem dX9_findBest_78 : decode cX9_findBest 78 = .ok (.getfield 55, 3) := kqo_b4 (x1 := 0) (x2 := 55) kbl_X9_findBest (pc := 78) rfl rfl
theorem dX9_findBest_81 : decode cX9_findBest 81 = .ok (.iload_n 3, 1) := kqo_1d kbl_X9_findBest (pc := 81) rfl
theorem dX9_findBest_82 : decode cX9_findBest 82 = .ok (.iconst 1, 1) := kqo_04 kbl_X9_findBest (pc := 82) rfl
theorem dX9_findBest_83 : decode cX9_findBest 83 = .ok (.isub, 1) := kqo_64 kbl_X9_findBest (pc := 83) rfl
theorem dX9_findBest_84 : decode cX9_findBest 84 = .ok (.iaload, 1) := kqo_2e kbl_X9_findBest (pc := 84) rfl
theorem dX9_findBest_85 : decode cX9_findBest 85 = .ok (.if_icmp .eq 7, 3) := kqo_9f (x1 := 0) (x2 := 7) kbl_X9_findBest (pc := 85) rfl rfl
theorem dX9_findBest_88 : decode cX9_findBest 88 = .ok (.iconst 1, 1) := kqo_04 kbl_X9_findBest (pc := 88) rfl
theorem dX9_findBest_89 : decode cX9_findBest 89 = .ok (.goto 4, 3) := kqo_a7 (x1 := 0) (x2 := 4) kbl_X9_findBest (pc := 89) rfl rfl
theorem dX9_findBest_92 : decode cX9_findBest 92 = .ok (.iconst 0, 1) := kqo_03 kbl_X9_findBest (pc := 92) rfl
theorem dX9_findBest_93 : decode cX9_findBest 93 = .ok (.istore 5, 2) := kqo_36 (x1 := 5) kbl_X9_findBest (pc := 93) rfl rfl
theorem dX9_findBest_95 : decode cX9_findBest 95 = .ok (.iload_n 2, 1) := kqo_1c kbl_X9_findBest (pc := 95) rfl
theorem dX9_findBest_96 : decode cX9_findBest 96 = .ok (.iload_n 3, 1) := kqo_1d kbl_X9_findBest (pc := 96) rfl
theorem dX9_findBest_97 : decode cX9_findBest 97 = .ok (.ifCond .le 12, 3) := kqo_9e (x1 := 0) (x2 := 12) kbl_X9_findBest (pc := 97) rfl rfl
theorem dX9_findBest_100 : decode cX9_findBest 100 = .ok (.iload 5, 2) := kqo_15 (x1 := 5) kbl_X9_findBest (pc := 100) rfl rfl
theorem dX9_findBest_102 : decode cX9_findBest 102 = .ok (.ifCond .eq 7, 3) := kqo_99 (x1 := 0) (x2 := 7) kbl_X9_findBest (pc := 102) rfl rfl
theorem dX9_findBest_105 : decode cX9_findBest 105 = .ok (.iconst 1, 1) := kqo_04 kbl_X9_findBest (pc := 105) rfl
theorem dX9_findBest_106 : decode cX9_findBest 106 = .ok (.goto 4, 3) := kqo_a7 (x1 := 0) (x2 := 4) kbl_X9_findBest (pc := 106) rfl rfl
theorem dX9_findBest_109 : decode cX9_findBest 109 = .ok (.iconst 0, 1) := kqo_03 kbl_X9_findBest (pc := 109) rfl
theorem dX9_findBest_110 : decode cX9_findBest 110 = .ok (.isub, 1) := kqo_64 kbl_X9_findBest (pc := 110) rfl
theorem dX9_findBest_111 : decode cX9_findBest 111 = .ok (.istore_n 2, 1) := kqo_3d kbl_X9_findBest (pc := 111) rfl
theorem dX9_findBest_112 : decode cX9_findBest 112 = .ok (.aload_n 0, 1) := kqo_2a kbl_X9_findBest (pc := 112) rfl
theorem dX9_findBest_113 : decode cX9_findBest 113 = .ok (.dup, 1) := kqo_59 kbl_X9_findBest (pc := 113) rfl
theorem dX9_findBest_114 : decode cX9_findBest 114 = .ok (.getfield 161, 3) := kqo_b4 (x1 := 0) (x2 := 161) kbl_X9_findBest (pc := 114) rfl rfl
theorem dX9_findBest_117 : decode cX9_findBest 117 = .ok (.iload 5, 2) := kqo_15 (x1 := 5) kbl_X9_findBest (pc := 117) rfl rfl
theorem dX9_findBest_119 : decode cX9_findBest 119 = .ok (.ifCond .eq 7, 3) := kqo_99 (x1 := 0) (x2 := 7) kbl_X9_findBest (pc := 119) rfl rfl
theorem dX9_findBest_122 : decode cX9_findBest 122 = .ok (.iconst 1, 1) := kqo_04 kbl_X9_findBest (pc := 122) rfl
theorem dX9_findBest_123 : decode cX9_findBest 123 = .ok (.goto 4, 3) := kqo_a7 (x1 := 0) (x2 := 4) kbl_X9_findBest (pc := 123) rfl rfl
theorem dX9_findBest_126 : decode cX9_findBest 126 = .ok (.iconst 0, 1) := kqo_03 kbl_X9_findBest (pc := 126) rfl
theorem dX9_findBest_127 : decode cX9_findBest 127 = .ok (.iadd, 1) := kqo_60 kbl_X9_findBest (pc := 127) rfl
theorem dX9_findBest_128 : decode cX9_findBest 128 = .ok (.putfield 161, 3) := kqo_b5 (x1 := 0) (x2 := 161) kbl_X9_findBest (pc := 128) rfl rfl
theorem dX9_findBest_131 : decode cX9_findBest 131 = .ok (.aload_n 0, 1) := kqo_2a kbl_X9_findBest (pc := 131) rfl
theorem dX9_findBest_132 : decode cX9_findBest 132 = .ok (.dup, 1) := kqo_59 kbl_X9_findBest (pc := 132) rfl
theorem dX9_findBest_133 : decode cX9_findBest 133 = .ok (.getfield 158, 3) := kqo_b4 (x1 := 0) (x2 := 158) kbl_X9_findBest (pc := 133) rfl rfl
theorem dX9_findBest_136 : decode cX9_findBest 136 = .ok (.aload_n 0, 1) := kqo_2a kbl_X9_findBest (pc := 136) rfl
theorem dX9_findBest_137 : decode cX9_findBest 137 = .ok (.aload_n 0, 1) := kqo_2a kbl_X9_findBest (pc := 137) rfl
theorem dX9_findBest_138 : decode cX9_findBest 138 = .ok (.getfield 55, 3) := kqo_b4 (x1 := 0) (x2 := 55) kbl_X9_findBest (pc := 138) rfl rfl
theorem dX9_findBest_141 : decode cX9_findBest 141 = .ok (.iload_n 3, 1) := kqo_1d kbl_X9_findBest (pc := 141) rfl
theorem dX9_findBest_142 : decode cX9_findBest 142 = .ok (.iaload, 1) := kqo_2e kbl_X9_findBest (pc := 142) rfl
theorem dX9_findBest_143 : decode cX9_findBest 143 = .ok (.invokevirtual 123, 3) := kqo_b6 (x1 := 0) (x2 := 123) kbl_X9_findBest (pc := 143) rfl rfl
theorem dX9_findBest_146 : decode cX9_findBest 146 = .ok (.iadd, 1) := kqo_60 kbl_X9_findBest (pc := 146) rfl
theorem dX9_findBest_147 : decode cX9_findBest 147 = .ok (.putfield 158, 3) := kqo_b5 (x1 := 0) (x2 := 158) kbl_X9_findBest (pc := 147) rfl rfl
theorem dX9_findBest_150 : decode cX9_findBest 150 = .ok (.iinc 3 1, 3) := kqo_84 (x1 := 3) (x2 := 1) kbl_X9_findBest (pc := 150) rfl rfl
theorem dX9_findBest_153 : decode cX9_findBest 153 = .ok (.goto (-132), 3) := kqo_a7 (x1 := 255) (x2 := 124) kbl_X9_findBest (pc := 153) rfl rfl
theorem dX9_findBest_156 : decode cX9_findBest 156 = .ok (.iload_n 1, 1) := kqo_1b kbl_X9_findBest (pc := 156) rfl
theorem dX9_findBest_157 : decode cX9_findBest 157 = .ok (.ireturn, 1) := kqo_ac kbl_X9_findBest (pc := 157) rfl
set_option maxRecDepth 20000 in
theorem ggX9_findBest_X9_findChanges : GoodIn wsX9_findBest wsX9_findChanges := goodIn_4 _ (List.forall_mem_cons.mpr ⟨List.mem_cons_of_mem _ (List.mem_append_left _ (List.mem_append_left _ (List.mem_of_getElem? (i := 9) rfl))), List.forall_mem_append.mpr ⟨List.forall_mem_append.mpr ⟨List.forall_mem_cons.mpr ⟨List.mem_cons_of_mem _ (List.mem_append_left _ (List.mem_append_left _ (List.mem_of_getElem? (i := 2) rfl))), List.forall_mem_cons.mpr ⟨List.mem_cons_of_mem _ (List.mem_append_left _ (List.mem_append_left _ (List.mem_of_getElem? (i := 10) rfl))), List.forall_mem_cons.mpr ⟨List.mem_cons_of_mem _ (List.mem_append_left _ (List.mem_append_left _ (List.mem_of_getElem? (i := 11) rfl))), List.forall_mem_cons.mpr ⟨List.mem_cons_of_mem _ (List.mem_append_left _ (List.mem_append_left _ (List.mem_of_getElem? (i := 12) rfl))), List.forall_mem_cons.mpr ⟨List.mem_cons_of_mem _ (List.mem_append_left _ (List.mem_append_left _ (List.mem_of_getElem? (i := 13) rfl))), List.forall_mem_cons.mpr ⟨List.mem_cons_of_mem _ (List.mem_append_left _ (List.mem_append_left _ (List.mem_of_getElem? (i := 14) rfl))), List.forall_mem_cons.mpr ⟨List.mem_cons_of_mem _ (List.mem_append_left _ (List.mem_append_left _ (List.mem_of_getElem? (i := 8) rfl))), List.forall_mem_cons.mpr ⟨List.mem_cons_of_mem _ (List.mem_append_left _ (List.mem_append_left _ (List.mem_of_getElem? (i := 15) rfl))), List.forall_mem_cons.mpr ⟨List.mem_cons_of_mem _ (List.mem_append_left _ (List.mem_append_left _ (List.mem_of_getElem? (i := 16) rfl))), List.forall_mem_cons.mpr ⟨List.mem_cons_of_mem _ (List.mem_append_left _ (List.mem_append_left _ (List.mem_of_getElem? (i := 17) rfl))), List.forall_mem_cons.mpr ⟨List.mem_cons_of_mem _ (List.mem_append_left _ (List.mem_append_left _ (List.mem_of_getElem? (i := 18) rfl))), List.forall_mem_cons.mpr ⟨List.mem_cons_of_mem _ (List.mem_append_left _ (List.mem_append_left _ (List.mem_of_getElem? (i := 19) rfl))), List.forall_mem_cons.mpr ⟨List.mem_cons_of_mem _ (List.mem_append_left _ (List.mem_append_left _ (List.mem_of_getElem? (i := 20) rfl))), List.forall_mem_cons.mpr ⟨List.mem_cons_of_mem _ (List.mem_append_left _ (List.mem_append_left _ (List.mem_of_getElem? (i := 21) rfl))), List.forall_mem_cons.mpr ⟨List.mem_cons_of_mem _ (List.mem_append_left _ (List.mem_append_left _ (List.mem_of_getElem? (i := 22) rfl))), List.forall_mem_cons.mpr ⟨List.mem_cons_of_mem _ (List.mem_append_left _ (List.mem_append_left _ (List.mem_of_getElem? (i := 23) rfl))), List.forall_mem_cons.mpr ⟨List.mem_cons_of_mem _ (List.mem_append_left _ (List.mem_append_right _ (List.mem_of_getElem? (i := 0) rfl))), List.forall_mem_cons.mpr ⟨List.mem_cons_of_mem _ (List.mem_append_left _ (List.mem_append_right _ (List.mem_of_getElem? (i := 1) rfl))), List.forall_mem_cons.mpr ⟨List.mem_cons_of_mem _ (List.mem_append_left _ (List.mem_append_right _ (List.mem_of_getElem? (i := 2) rfl))), List.forall_mem_cons.mpr ⟨List.mem_cons_of_mem _ (List.mem_append_left _ (List.mem_append_right _ (List.mem_of_getElem? (i := 3) rfl))), List.forall_mem_cons.mpr ⟨List.mem_cons_of_mem _ (List.mem_append_left _ (List.mem_append_right _ (List.mem_of_getElem? (i := 4) rfl))), List.forall_mem_cons.mpr ⟨List.mem_cons_of_mem _ (List.mem_append_left _ (List.mem_append_right _ (List.mem_of_getElem? (i := 5) rfl))), List.forall_mem_cons.mpr ⟨List.mem_cons_of_mem _ (List.mem_append_left _ (List.mem_append_right _ (List.mem_of_getElem? (i := 6) rfl))), List.forall_mem_cons.mpr ⟨List.mem_cons_of_mem _ (List.mem_append_left _ (List.mem_append_right _ (List.mem_of_getElem? (i := 7) rfl))), fun _ h9 => absurd h9 List.not_mem_nil⟩⟩⟩⟩⟩⟩⟩⟩⟩⟩⟩⟩⟩⟩⟩⟩⟩⟩⟩⟩⟩⟩⟩⟩, List.forall_mem_cons.mpr ⟨List.mem_cons_of_mem _ (List.mem_append_left _ (List.mem_append_right _ (List.mem_of_getElem? (i := 8) rfl))), fun _ h9 => absurd h9 List.not_mem_nil⟩⟩, fun w h9 => List.mem_cons_of_mem _ (List.mem_append_right _ (h9))⟩⟩) (by decide +kernel)
set_option maxRecDepth 20000 in
theorem gX9_findBest_X9_findChanges : GoodIn wsX9_findBest (wsV RX9 155 RX9 yX9_findChanges wsX9_findChanges) := goodIn_app (goodIn_4 _ (List.forall_mem_cons.mpr ⟨List.mem_cons_of_mem _ (List.mem_append_left _ (List.mem_append_left _ (List.mem_of_getElem? (i := 5) rfl))), List.forall_mem_cons.mpr ⟨List.mem_cons_of_mem _ (List.mem_append_left _ (List.mem_append_left _ (List.mem_of_getElem? (i := 6) rfl))), List.forall_mem_cons.mpr ⟨List.mem_cons_of_mem _ (List.mem_append_left _ (List.mem_append_left _ (List.mem_of_getElem? (i := 7) rfl))), List.forall_mem_cons.mpr ⟨List.mem_cons_of_mem _ (List.mem_append_left _ (List.mem_append_left _ (List.mem_of_getElem? (i := 8) rfl))), fun _ h9 => absurd h9 List.not_mem_nil⟩⟩⟩⟩) (by decide +kernel)) ggX9_findBest_X9_findChanges
set_option maxRecDepth 20000 in
theorem ggX9_findBest_X9_isBestFor : GoodIn wsX9_findBest wsX9_isBestFor := goodIn_4 _ (List.forall_mem_cons.mpr ⟨List.mem_cons_of_mem _ (List.mem_append_left _ (List.mem_append_right _ (List.mem_of_getElem? (i := 12) rfl))), List.forall_mem_append.mpr ⟨List.forall_mem_cons.mpr ⟨List.mem_cons_of_mem _ (List.mem_append_left _ (List.mem_append_left _ (List.mem_of_getElem? (i := 4) rfl))), List.forall_mem_cons.mpr ⟨List.mem_cons_of_mem _ (List.mem_append_left _ (List.mem_append_left _ (List.mem_of_getElem? (i := 11) rfl))), List.forall_mem_cons.mpr ⟨List.mem_cons_of_mem _ (List.mem_append_left _ (List.mem_append_right _ (List.mem_of_getElem? (i := 2) rfl))), List.forall_mem_cons.mpr ⟨List.mem_cons_of_mem _ (List.mem_append_left _ (List.mem_append_right _ (List.mem_of_getElem? (i := 3) rfl))), List.forall_mem_cons.mpr ⟨List.mem_cons_of_mem _ (List.mem_append_left _ (List.mem_append_right _ (List.mem_of_getElem? (i := 4) rfl))), List.forall_mem_cons.mpr ⟨List.mem_cons_of_mem _ (List.mem_append_left _ (List.mem_append_left _ (List.mem_of_getElem? (i := 8) rfl))), List.forall_mem_cons.mpr ⟨List.mem_cons_of_mem _ (List.mem_append_left _ (List.mem_append_right _ (List.mem_of_getElem? (i := 5) rfl))), List.forall_mem_cons.mpr ⟨List.mem_cons_of_mem _ (List.mem_append_left _ (List.mem_append_left _ (List.mem_of_getElem? (i := 20) rfl))), List.forall_mem_cons.mpr ⟨List.mem_cons_of_mem _ (List.mem_append_left _ (List.mem_append_right _ (List.mem_of_getElem? (i := 6) rfl))), List.forall_mem_cons.mpr ⟨List.mem_cons_of_mem _ (List.mem_append_left _ (List.mem_append_right _ (List.mem_of_getElem? (i := 7) rfl))), List.forall_mem_cons.mpr ⟨List.mem_cons_of_mem _ (List.mem_append_left _ (List.mem_append_right _ (List.mem_of_getElem? (i := 8) rfl))), fun _ h9 => absurd h9 List.not_mem_nil⟩⟩⟩⟩⟩⟩⟩⟩⟩⟩⟩, fun w h9 => List.mem_cons_of_mem _ (List.mem_append_right _ (h9))⟩⟩) (by decide +kernel)
set_option maxRecDepth 20000 in
theorem gX9_findBest_X9_isBestFor : GoodIn wsX9_findBest (wsV RX9 164 RX9 yX9_isBestFor wsX9_isBestFor) := goodIn_app (goodIn_4 _ (List.forall_mem_cons.mpr ⟨List.mem_cons_of_mem _ (List.mem_append_left _ (List.mem_append_right _ (List.mem_of_getElem? (i := 9) rfl))), List.forall_mem_cons.mpr ⟨List.mem_cons_of_mem _ (List.mem_append_left _ (List.mem_append_right _ (List.mem_of_getElem? (i := 10) rfl))), List.forall_mem_cons.mpr ⟨List.mem_cons_of_mem _ (List.mem_append_left _ (List.mem_append_right _ (List.mem_of_getElem? (i := 11) rfl))), List.forall_mem_cons.mpr ⟨List.mem_cons_of_mem _ (List.mem_append_left _ (List.mem_append_left _ (List.mem_of_getElem? (i := 8) rfl))), fun _ h9 => absurd h9 List.not_mem_nil⟩⟩⟩⟩) (by decide +kernel)) ggX9_findBest_X9_isBestFor
set_option maxRecDepth 20000 in
theorem ggX9_findBest_X9_stepOf : GoodIn wsX9_findBest wsX9_stepOf := goodIn_4 _ (List.forall_mem_cons.mpr ⟨List.mem_cons_of_mem _ (List.mem_append_left _ (List.mem_append_right _ (List.mem_of_getElem? (i := 16) rfl))), List.forall_mem_append.mpr ⟨List.forall_mem_cons.mpr ⟨List.mem_cons_of_mem _ (List.mem_append_left _ (List.mem_append_right _ (List.mem_of_getElem? (i := 17) rfl))), List.forall_mem_cons.mpr ⟨List.mem_cons_of_mem _ (List.mem_append_left _ (List.mem_append_right _ (List.mem_of_getElem? (i := 18) rfl))), fun _ h9 => absurd h9 List.not_mem_nil⟩⟩, fun w h9 => List.mem_cons_of_mem _ (List.mem_append_right _ (h9))⟩⟩) (by decide +kernel)
set_option maxRecDepth 20000 in
theorem gX9_findBest_X9_stepOf : GoodIn wsX9_findBest (wsV RX9 123 RX9 yX9_stepOf wsX9_stepOf) := goodIn_app (goodIn_4 _ (List.forall_mem_cons.mpr ⟨List.mem_cons_of_mem _ (List.mem_append_left _ (List.mem_append_right _ (List.mem_of_getElem? (i := 13) rfl))), List.forall_mem_cons.mpr ⟨List.mem_cons_of_mem _ (List.mem_append_left _ (List.mem_append_right _ (List.mem_of_getElem? (i := 14) rfl))), List.forall_mem_cons.mpr ⟨List.mem_cons_of_mem _ (List.mem_append_left _ (List.mem_append_right _ (List.mem_of_getElem? (i := 15) rfl))), List.forall_mem_cons.mpr ⟨List.mem_cons_of_mem _ (List.mem_append_left _ (List.mem_append_left _ (List.mem_of_getElem? (i := 8) rfl))), fun _ h9 => absurd h9 List.not_mem_nil⟩⟩⟩⟩) (by decide +kernel)) ggX9_findBest_X9_stepOf
set_option maxRecDepth 20000 in
theorem mw_X9_findBest_0 : (.fieldLink RX9 158 "FontRunsModel" "advance" "I" : Cond) ∈ wsX9_findBest := List.mem_cons_of_mem _ (List.mem_append_left _ (List.mem_append_left _ (List.mem_of_getElem? (i := 0) rfl)))
set_option maxRecDepth 20000 in
theorem mw_X9_findBest_1 : (.fieldLink RX9 161 "FontRunsModel" "runs" "I" : Cond) ∈ wsX9_findBest := List.mem_cons_of_mem _ (List.mem_append_left _ (List.mem_append_left _ (List.mem_of_getElem? (i := 1) rfl)))
set_option maxRecDepth 20000 in
theorem mw_X9_findBest_2 : (.fieldLink RX9 138 "FontRunsModel" "clusters" "I" : Cond) ∈ wsX9_findBest := List.mem_cons_of_mem _ (List.mem_append_left _ (List.mem_append_left _ (List.mem_of_getElem? (i := 2) rfl)))
set_option maxRecDepth 20000 in
theorem mw_X9_findBest_3 : (.fieldLink RX9 28 "FontRunsModel" "preference" "[I" : Cond) ∈ wsX9_findBest := List.mem_cons_of_mem _ (List.mem_append_left _ (List.mem_append_left _ (List.mem_of_getElem? (i := 3) rfl)))
set_option maxRecDepth 20000 in
theorem mw_X9_findBest_4 : (.fieldLink RX9 55 "FontRunsModel" "chosen" "[I" : Cond) ∈ wsX9_findBest := List.mem_cons_of_mem _ (List.mem_append_left _ (List.mem_append_left _ (List.mem_of_getElem? (i := 4) rfl)))
theorem ax_X9_findBest_0 {e0 e1 e2 e3 e4 e5 e6 e7 e8 e9 : Nat × va_E} : ([0, 1, 2, 3, 4, 5] : List Nat).map (fun i => ([e0, e1, e2, e3, e4, e5, e6, e7, e8, e9] : va_W)[i]?) = ([e0, e1, e2, e3, e4, e5] : va_W).map some := rfl
theorem ax_X9_findBest_1 {e0 e1 e2 e3 e4 e5 e6 e7 e8 e9 : Nat × va_E} : ([6, 7, 8, 9] : List Nat).map (fun i => ([e0, e1, e2, e3, e4, e5, e6, e7, e8, e9] : va_W)[i]?) = ([e6, e7, e8, e9] : va_W).map some := rfl
theorem ax_X9_findBest_2 {D : va_G} {cl : List vw_C} {H : Heap} {e0 e1 e2 e3 f0 f1 f2 f3 f4 f5 : Nat × va_E} (h : va_P D cl ((([e0, e1, e2, e3] : va_W) ++ ([f0, f1, f2, f3, f4, f5] : va_W))) H) : va_P D cl (([e0, e1, e2, e3, f0, f1, f2, f3, f4, f5] : va_W)) H := h
theorem ax_X9_findBest_3 {A : Nat → Prop} {e0 e1 e2 e3 f0 f1 f2 f3 f4 f5 : Nat × va_E} (h : va_D A ((([e0, e1, e2, e3] : va_W) ++ ([f0, f1, f2, f3, f4, f5] : va_W)))) : va_D A (([e0, e1, e2, e3, f0, f1, f2, f3, f4, f5] : va_W)) := h
theorem ax_X9_findBest_4 {e0 e1 e2 e3 e4 e5 e6 e7 e8 e9 : Nat × va_E} : ([4, 5, 6, 7, 8, 9, 0, 1, 2, 3] : List Nat).map (fun i => ([e0, e1, e2, e3, e4, e5, e6, e7, e8, e9] : va_W)[i]?) = ([e4, e5, e6, e7, e8, e9, e0, e1, e2, e3] : va_W).map some := rfl
theorem ax_X9_findBest_5 {e0 e1 e2 e3 e4 e5 e6 e7 e8 e9 : Nat × va_E} : ([4, 7, 9, 0] : List Nat).map (fun i => ([e0, e1, e2, e3, e4, e5, e6, e7, e8, e9] : va_W)[i]?) = ([e4, e7, e9, e0] : va_W).map some := rfl
theorem ax_X9_findBest_6 {e0 e1 e2 e3 e4 e5 e6 e7 e8 e9 : Nat × va_E} : ([4, 2, 3] : List Nat).map (fun i => ([e0, e1, e2, e3, e4, e5, e6, e7, e8, e9] : va_W)[i]?) = ([e4, e2, e3] : va_W).map some := rfl
set_option maxHeartbeats 4000000 in
set_option maxRecDepth 100000 in
theorem c_X9_findBest (l : Launch) (D : va_G) (sz : Nat) (h0 : Nat) (fa : Int) (tc : Int) (so : Nat) (sl : Nat) (ce : Nat) (fn : Int) (kd : Nat) (wd : Nat) (hs : Nat) (pf : Nat) (lt : Nat) (mn : Int) (wg : Nat) (ta : Int) (ck : Int64) (at9 : Int) (rfn : Int) (rk : Nat) (rw : Nat) (rh : Nat) (cl : Int) (sa : Nat) (fi : Nat) (bo : Int) (ch : Nat) (cn : Nat) (ad : Int) (ru : Int) (kp : Nat) (dn : Int) (rfa : Nat) (c_wg : ClassId) (f_wg : Nat → Int32) (c_sa : ClassId) (f_sa : Nat → Int32) (c_fi : ClassId) (f_fi : Nat → Int32) (c_hs : ClassId) (f_hs : Nat → Int32) (c_ch : ClassId) (f_ch : Nat → Int32) (c_cn : ClassId) (f_cn : Nat → Int32) (c_pf : ClassId) (f_pf : Nat → Int32) (c_kd : ClassId) (f_kd : Nat → Int32) (c_wd : ClassId) (f_wd : Nat → Int32) (q0 : 0 ≤ mn ∧ mn ≤ 24) (q1 : 0 ≤ fn ∧ fn ≤ 4) (q2 : kPm f_pf fn) (q3 : ¬ (fn = 0 ∧ 1 ≤ mn)) : Met l yX9_findBest wsX9_findBest ({ frames := 4, cells := 0, slots := 0, locals := 93 }) (kPre [.ref h0] D [(h0, .inr (9, [.int (zI fa), .int (zI tc), .ref so, .ref sl, .ref ce, .int (zI fn), .ref kd, .ref wd, .ref hs, .ref pf, .ref lt, .int (zI mn), .ref wg, .int (zI ta), .long ck, .int (zI at9), .int (zI rfn), .ref rk, .ref rw, .ref rh, .int (zI cl), .ref sa, .ref fi, .int (zI bo), .ref ch, .ref cn, .int (zI ad), .int (zI ru), .ref kp, .int (zI dn), .ref rfa])), (wg, .inl (c_wg, 24, .inl f_wg)), (sa, .inl (c_sa, 25, .inl f_sa)), (fi, .inl (c_fi, 24, .inl f_fi)), (hs, .inl (c_hs, 4, .inl f_hs)), (ch, .inl (c_ch, 96, .inl f_ch)), (cn, .inl (c_cn, 24, .inl f_cn)), (pf, .inl (c_pf, 4, .inl f_pf)), (kd, .inl (c_kd, 4, .inl f_kd)), (wd, .inl (c_wd, 4, .inl f_wd))] [(c_wg, .int), (c_sa, .int), (c_fi, .int), (c_hs, .int), (c_ch, .int), (c_cn, .int), (c_pf, .int), (c_kd, .int), (c_wd, .int)] sz) (kQS (fun rz t => ∃ (u_cl : Int) (u_bo : Int) (u_ad : Int) (u_ru : Int) (u_f_sa : Nat → Int32) (u_f_fi : Nat → Int32) (u_f_ch : Nat → Int32) (u_f_cn : Nat → Int32), (0 ≤ u_cl ∧ u_cl ≤ mn) ∧ (0 ≤ u_bo ∧ u_bo ≤ 24) ∧ (kFt u_f_fi fn u_cl (-9)) ∧ (rg u_ad) ∧ (0 ≤ u_ru ∧ u_ru ≤ u_cl) ∧ (u_ru = kRn u_f_cn u_cl.toNat) ∧ (0 ≤ rz ∧ rz ≤ 24) ∧ (kCn u_f_cn u_cl) ∧ va_P D vwCl [(h0, .inr (9, [.int (zI fa), .int (zI tc), .ref so, .ref sl, .ref ce, .int (zI fn), .ref kd, .ref wd, .ref hs, .ref pf, .ref lt, .int (zI mn), .ref wg, .int (zI ta), .long ck, .int (zI at9), .int (zI rfn), .ref rk, .ref rw, .ref rh, .int (zI u_cl), .ref sa, .ref fi, .int (zI u_bo), .ref ch, .ref cn, .int (zI u_ad), .int (zI u_ru), .ref kp, .int (zI dn), .ref rfa])), (wg, .inl (c_wg, 24, .inl f_wg)), (sa, .inl (c_sa, 25, .inl u_f_sa)), (fi, .inl (c_fi, 24, .inl u_f_fi)), (hs, .inl (c_hs, 4, .inl f_hs)), (ch, .inl (c_ch, 96, .inl u_f_ch)), (cn, .inl (c_cn, 24, .inl u_f_cn)), (pf, .inl (c_pf, 4, .inl f_pf)), (kd, .inl (c_kd, 4, .inl f_kd)), (wd, .inl (c_wd, 4, .inl f_wd))] t.heap ∧ va_D (va_A [(h0, .inr (9, [.int (zI fa), .int (zI tc), .ref so, .ref sl, .ref ce, .int (zI fn), .ref kd, .ref wd, .ref hs, .ref pf, .ref lt, .int (zI mn), .ref wg, .int (zI ta), .long ck, .int (zI at9), .int (zI rfn), .ref rk, .ref rw, .ref rh, .int (zI cl), .ref sa, .ref fi, .int (zI bo), .ref ch, .ref cn, .int (zI ad), .int (zI ru), .ref kp, .int (zI dn), .ref rfa])), (wg, .inl (c_wg, 24, .inl f_wg)), (sa, .inl (c_sa, 25, .inl f_sa)), (fi, .inl (c_fi, 24, .inl f_fi)), (hs, .inl (c_hs, 4, .inl f_hs)), (ch, .inl (c_ch, 96, .inl f_ch)), (cn, .inl (c_cn, 24, .inl f_cn)), (pf, .inl (c_pf, 4, .inl f_pf)), (kd, .inl (c_kd, 4, .inl f_kd)), (wd, .inl (c_wd, 4, .inl f_wd))] sz) [(h0, .inr (9, [.int (zI fa), .int (zI tc), .ref so, .ref sl, .ref ce, .int (zI fn), .ref kd, .ref wd, .ref hs, .ref pf, .ref lt, .int (zI mn), .ref wg, .int (zI ta), .long ck, .int (zI at9), .int (zI rfn), .ref rk, .ref rw, .ref rh, .int (zI u_cl), .ref sa, .ref fi, .int (zI u_bo), .ref ch, .ref cn, .int (zI u_ad), .int (zI u_ru), .ref kp, .int (zI dn), .ref rfa])), (wg, .inl (c_wg, 24, .inl f_wg)), (sa, .inl (c_sa, 25, .inl u_f_sa)), (fi, .inl (c_fi, 24, .inl u_f_fi)), (hs, .inl (c_hs, 4, .inl f_hs)), (ch, .inl (c_ch, 96, .inl u_f_ch)), (cn, .inl (c_cn, 24, .inl u_f_cn)), (pf, .inl (c_pf, 4, .inl f_pf)), (kd, .inl (c_kd, 4, .inl f_kd)), (wd, .inl (c_wd, 4, .inl f_wd))]) (va_A [(h0, .inr (9, [.int (zI fa), .int (zI tc), .ref so, .ref sl, .ref ce, .int (zI fn), .ref kd, .ref wd, .ref hs, .ref pf, .ref lt, .int (zI mn), .ref wg, .int (zI ta), .long ck, .int (zI at9), .int (zI rfn), .ref rk, .ref rw, .ref rh, .int (zI cl), .ref sa, .ref fi, .int (zI bo), .ref ch, .ref cn, .int (zI ad), .int (zI ru), .ref kp, .int (zI dn), .ref rfa])), (wg, .inl (c_wg, 24, .inl f_wg)), (sa, .inl (c_sa, 25, .inl f_sa)), (fi, .inl (c_fi, 24, .inl f_fi)), (hs, .inl (c_hs, 4, .inl f_hs)), (ch, .inl (c_ch, 96, .inl f_ch)), (cn, .inl (c_cn, 24, .inl f_cn)), (pf, .inl (c_pf, 4, .inl f_pf)), (kd, .inl (c_kd, 4, .inl f_kd)), (wd, .inl (c_wd, 4, .inl f_wd))] sz)) 0 0 (va_A [(h0, .inr (9, [.int (zI fa), .int (zI tc), .ref so, .ref sl, .ref ce, .int (zI fn), .ref kd, .ref wd, .ref hs, .ref pf, .ref lt, .int (zI mn), .ref wg, .int (zI ta), .long ck, .int (zI at9), .int (zI rfn), .ref rk, .ref rw, .ref rh, .int (zI cl), .ref sa, .ref fi, .int (zI bo), .ref ch, .ref cn, .int (zI ad), .int (zI ru), .ref kp, .int (zI dn), .ref rfa])), (wg, .inl (c_wg, 24, .inl f_wg)), (sa, .inl (c_sa, 25, .inl f_sa)), (fi, .inl (c_fi, 24, .inl f_fi)), (hs, .inl (c_hs, 4, .inl f_hs)), (ch, .inl (c_ch, 96, .inl f_ch)), (cn, .inl (c_cn, 24, .inl f_cn)), (pf, .inl (c_pf, 4, .inl f_pf)), (kd, .inl (c_kd, 4, .inl f_kd)), (wd, .inl (c_wd, 4, .inl f_wd))] sz) := by
  refine Met.ofW (cc := cX9_findBest) (maxL := 6) (ret := (some .int)) (by decide) rfl ?_
  intro p e s m args below meth c s₁ B hml hv
  obtain ⟨rfl, hsz, hP, hK, hD0, hN⟩ := hv
  have hx := B.exec
  have hb := B.bytes
  have hr := B.returns
  have hts := atoms_spec (ws := wsX9_findBest) B.pre
  have hown : s.vm.findClass RX9 = some m.cls := findClass_of_methodNamed B.named
  have hlocks := B.notSynchronized
  subst hsz
  have hD := hD0.self (sz := s.heap.size)
  generalize hAe : va_A [(h0, .inr (9, [.int (zI fa), .int (zI tc), .ref so, .ref sl, .ref ce, .int (zI fn), .ref kd, .ref wd, .ref hs, .ref pf, .ref lt, .int (zI mn), .ref wg, .int (zI ta), .long ck, .int (zI at9), .int (zI rfn), .ref rk, .ref rw, .ref rh, .int (zI cl), .ref sa, .ref fi, .int (zI bo), .ref ch, .ref cn, .int (zI ad), .int (zI ru), .ref kp, .int (zI dn), .ref rfa])), (wg, .inl (c_wg, 24, .inl f_wg)), (sa, .inl (c_sa, 25, .inl f_sa)), (fi, .inl (c_fi, 24, .inl f_fi)), (hs, .inl (c_hs, 4, .inl f_hs)), (ch, .inl (c_ch, 96, .inl f_ch)), (cn, .inl (c_cn, 24, .inl f_cn)), (pf, .inl (c_pf, 4, .inl f_pf)), (kd, .inl (c_kd, 4, .inl f_kd)), (wd, .inl (c_wd, 4, .inl f_wd))] s.heap.size = A at hD ⊢
  have hA : ∀ q : Nat, s.heap.size ≤ q → A q := fun q h => by rw [← hAe]; exact Or.inr h
  have hS : va_S A s.heap s.heap [] := va_S.rf
  have hP : va_P D vwCl [(h0, .inr (9, [.int (zI fa), .int (zI tc), .ref so, .ref sl, .ref ce, .int (zI fn), .ref kd, .ref wd, .ref hs, .ref pf, .ref lt, .int (zI mn), .ref wg, .int (zI ta), .long ck, .int (zI at9), .int (zI rfn), .ref rk, .ref rw, .ref rh, .int (zI cl), .ref sa, .ref fi, .int (zI bo), .ref ch, .ref cn, .int (zI ad), .int (zI ru), .ref kp, .int (zI dn), .ref rfa])), (wg, .inl (c_wg, 24, .inl f_wg)), (sa, .inl (c_sa, 25, .inl f_sa)), (fi, .inl (c_fi, 24, .inl f_fi)), (hs, .inl (c_hs, 4, .inl f_hs)), (ch, .inl (c_ch, 96, .inl f_ch)), (cn, .inl (c_cn, 24, .inl f_cn)), (pf, .inl (c_pf, 4, .inl f_pf)), (kd, .inl (c_kd, 4, .inl f_kd)), (wd, .inl (c_wd, 4, .inl f_wd))] s.heap := hP
  have hl := lv_entry ([.ref h0]) (n := 6) (Nat.le_of_ble_eq_true rfl)
  rw [lg_entry_eq]
  generalize (lg_sl ([.ref h0]) ++ List.replicate (6 - (lg_sl ([.ref h0])).length) Slot.unset).toArray = ls at hl ⊢
  have hl : lv_has ls 6 [(0, .ref h0)] := hl
  refine lv_aload_n hx hb dX9_findBest_0 rfl (lv_at hl 0 rfl) ?_
  refine lv_bipush (v := zI (-9)) hx hb dX9_findBest_1 (by decide) ?_
  have hFc := va_free (wc := [(h0, .inr (9, [.int (zI fa), .int (zI tc), .ref so, .ref sl, .ref ce, .int (zI fn), .ref kd, .ref wd, .ref hs, .ref pf, .ref lt, .int (zI mn), .ref wg, .int (zI ta), .long ck, .int (zI at9), .int (zI rfn), .ref rk, .ref rw, .ref rh, .int (zI cl), .ref sa, .ref fi, .int (zI bo), .ref ch, .ref cn, .int (zI ad), .int (zI ru), .ref kp, .int (zI dn), .ref rfa])), (wg, .inl (c_wg, 24, .inl f_wg)), (sa, .inl (c_sa, 25, .inl f_sa)), (fi, .inl (c_fi, 24, .inl f_fi)), (hs, .inl (c_hs, 4, .inl f_hs)), (ch, .inl (c_ch, 96, .inl f_ch))]) hD hS hA [0, 1, 2, 3, 4, 5] ax_X9_findBest_0
  refine va_calli (va_runV (As := [.int (zI (-9))]) (rest := []) ⟨hx, hb, hml, hown, hts⟩ (c_X9_findChanges l D s.heap.size (wo := (-9)) (h0 := h0) (fa := fa) (tc := tc) (so := so) (sl := sl) (ce := ce) (fn := fn) (kd := kd) (wd := wd) (hs := hs) (pf := pf) (lt := lt) (mn := mn) (wg := wg) (ta := ta) (ck := ck) (at9 := at9) (rfn := rfn) (rk := rk) (rw := rw) (rh := rh) (cl := cl) (sa := sa) (fi := fi) (bo := bo) (ch := ch) (cn := cn) (ad := ad) (ru := ru) (kp := kp) (dn := dn) (rfa := rfa) (c_wg := c_wg) (f_wg := f_wg) (c_sa := c_sa) (f_sa := f_sa) (c_fi := c_fi) (f_fi := f_fi) (c_hs := c_hs) (f_hs := f_hs) (c_ch := c_ch) (f_ch := f_ch) (by omega) q0 q1) (cwV 1 hts gX9_findBest_X9_findChanges rfl rfl rfl (by decide +kernel) ⟨Nat.le_of_ble_eq_true rfl, Nat.le_of_ble_eq_true rfl⟩) (kPreV hP (kD0 hD) hK hN [0, 1, 2, 3, 4, 5] [0, 1, 2, 3, 4] ax_X9_findBest_0 rfl (by decide +kernel) 0 9 rfl rfl) rfl rfl hl.1 rfl (lv_room (Nat.le_of_ble_eq_true rfl)) dX9_findBest_3 ⟨Nat.le_of_ble_eq_true rfl, Nat.le_of_ble_eq_true rfl⟩) hS (fun q _ h => hFc q h) hFc (fun r u t H1 locs ht hvm hw hB hz1 hk1 hS => ?_)
  obtain ⟨z_6, e9⟩ : ∃ z, z = u := ⟨_, rfl⟩
  subst e9
  obtain ⟨rfl, rz_6⟩ := hw
  refine Exists.elim hB (fun u_cl_1 hB1 => Exists.elim hB1 (fun u_bo_2 hB2 => Exists.elim hB2 (fun u_f_sa_3 hB3 => Exists.elim hB3 (fun u_f_fi_4 hB4 => Exists.elim hB4 (fun u_f_ch_5 hB5 => ?_)))))
  have h_7 := hB5.1
  have h_8 := hB5.2.1
  have h_9 := hB5.2.2.1
  have h_10 := hB5.2.2.2.1
  have h_11 := hB5.2.2.2.2.1
  have h_12 := hB5.2.2.2.2.2.1
  have hP1 := hB5.2.2.2.2.2.2.1
  have hD1 := hB5.2.2.2.2.2.2.2
  clear hB hB1 hB2 hB3 hB4 hB5
  rw [ht] at hP1
  obtain ⟨hP, hD⟩ := va_join (wr := [(cn, .inl (c_cn, 24, .inl f_cn)), (pf, .inl (c_pf, 4, .inl f_pf)), (kd, .inl (c_kd, 4, .inl f_kd)), (wd, .inl (c_wd, 4, .inl f_wd))]) (w1 := [(h0, .inr (9, [.int (zI fa), .int (zI tc), .ref so, .ref sl, .ref ce, .int (zI fn), .ref kd, .ref wd, .ref hs, .ref pf, .ref lt, .int (zI mn), .ref wg, .int (zI ta), .long ck, .int (zI at9), .int (zI rfn), .ref rk, .ref rw, .ref rh, .int (zI u_cl_1), .ref sa, .ref fi, .int (zI u_bo_2), .ref ch, .ref cn, .int (zI ad), .int (zI ru), .ref kp, .int (zI dn), .ref rfa])), (wg, .inl (c_wg, 24, .inl f_wg)), (sa, .inl (c_sa, 25, .inl u_f_sa_3)), (fi, .inl (c_fi, 24, .inl u_f_fi_4)), (hs, .inl (c_hs, 4, .inl f_hs)), (ch, .inl (c_ch, 96, .inl u_f_ch_5))]) hP hD [0, 1, 2, 3, 4, 5] [6, 7, 8, 9] ax_X9_findBest_0 ax_X9_findBest_1 (by decide +kernel) (by decide +kernel) hk1 hFc hP1 hD1
  have hP := ax_X9_findBest_2 hP
  have hD := ax_X9_findBest_3 hD
  generalize H1 = H at hP hS ⊢
  have hP : va_P D vwCl [(cn, .inl (c_cn, 24, .inl f_cn)), (pf, .inl (c_pf, 4, .inl f_pf)), (kd, .inl (c_kd, 4, .inl f_kd)), (wd, .inl (c_wd, 4, .inl f_wd)), (h0, .inr (9, [.int (zI fa), .int (zI tc), .ref so, .ref sl, .ref ce, .int (zI fn), .ref kd, .ref wd, .ref hs, .ref pf, .ref lt, .int (zI mn), .ref wg, .int (zI ta), .long ck, .int (zI at9), .int (zI rfn), .ref rk, .ref rw, .ref rh, .int (zI u_cl_1), .ref sa, .ref fi, .int (zI u_bo_2), .ref ch, .ref cn, .int (zI ad), .int (zI ru), .ref kp, .int (zI dn), .ref rfa])), (wg, .inl (c_wg, 24, .inl f_wg)), (sa, .inl (c_sa, 25, .inl u_f_sa_3)), (fi, .inl (c_fi, 24, .inl u_f_fi_4)), (hs, .inl (c_hs, 4, .inl f_hs)), (ch, .inl (c_ch, 96, .inl u_f_ch_5))] H := hP
  have hD : va_D A [(cn, .inl (c_cn, 24, .inl f_cn)), (pf, .inl (c_pf, 4, .inl f_pf)), (kd, .inl (c_kd, 4, .inl f_kd)), (wd, .inl (c_wd, 4, .inl f_wd)), (h0, .inr (9, [.int (zI fa), .int (zI tc), .ref so, .ref sl, .ref ce, .int (zI fn), .ref kd, .ref wd, .ref hs, .ref pf, .ref lt, .int (zI mn), .ref wg, .int (zI ta), .long ck, .int (zI at9), .int (zI rfn), .ref rk, .ref rw, .ref rh, .int (zI u_cl_1), .ref sa, .ref fi, .int (zI u_bo_2), .ref ch, .ref cn, .int (zI ad), .int (zI ru), .ref kp, .int (zI dn), .ref rfa])), (wg, .inl (c_wg, 24, .inl f_wg)), (sa, .inl (c_sa, 25, .inl u_f_sa_3)), (fi, .inl (c_fi, 24, .inl u_f_fi_4)), (hs, .inl (c_hs, 4, .inl f_hs)), (ch, .inl (c_ch, 96, .inl u_f_ch_5))] := hD
  refine lv_istore_n (lv' := [(1, .int (zI z_6)), (0, .ref h0)]) hx hb dX9_findBest_6 rfl hl (by decide) rfl (fun ls hl => ?_)
  refine lv_iload_n hx hb dX9_findBest_7 rfl (lv_at hl 0 rfl) ?_
  refine lv_istore_n (lv' := [(2, .int (zI z_6)), (1, .int (zI z_6)), (0, .ref h0)]) hx hb dX9_findBest_8 rfl hl (by decide) rfl (fun ls hl => ?_)
  refine lv_aload_n hx hb dX9_findBest_9 rfl (lv_at hl 2 rfl) ?_
  refine lv_iconst (v := zI 0) hx hb dX9_findBest_10 rfl ?_
  refine va_put (D := D) (ci := 9) (v := .int (zI 0)) (ty := .int) (C := RX9) (T := TX9) (N := 31) hx hb hts (fun _ h9 => List.mem_cons_of_mem _ (List.mem_append_right _ h9)) tyX9 tyX9_ok nmX9 hown hK hP hD hS 4 rfl rfl 26 (by decide) (hts (.fieldLink RX9 158 "FontRunsModel" "advance" "I") mw_X9_findBest_0) (fun _ h9 => h9) rfl (by decide +kernel) rfl rfl (Nat.le_of_ble_eq_true rfl) dX9_findBest_11 (fun H locs hP hD hS => ?_)
  have hP : va_P D vwCl [(cn, .inl (c_cn, 24, .inl f_cn)), (pf, .inl (c_pf, 4, .inl f_pf)), (kd, .inl (c_kd, 4, .inl f_kd)), (wd, .inl (c_wd, 4, .inl f_wd)), (h0, .inr (9, [.int (zI fa), .int (zI tc), .ref so, .ref sl, .ref ce, .int (zI fn), .ref kd, .ref wd, .ref hs, .ref pf, .ref lt, .int (zI mn), .ref wg, .int (zI ta), .long ck, .int (zI at9), .int (zI rfn), .ref rk, .ref rw, .ref rh, .int (zI u_cl_1), .ref sa, .ref fi, .int (zI u_bo_2), .ref ch, .ref cn, .int (zI 0), .int (zI ru), .ref kp, .int (zI dn), .ref rfa])), (wg, .inl (c_wg, 24, .inl f_wg)), (sa, .inl (c_sa, 25, .inl u_f_sa_3)), (fi, .inl (c_fi, 24, .inl u_f_fi_4)), (hs, .inl (c_hs, 4, .inl f_hs)), (ch, .inl (c_ch, 96, .inl u_f_ch_5))] H := hP
  have hD : va_D A [(cn, .inl (c_cn, 24, .inl f_cn)), (pf, .inl (c_pf, 4, .inl f_pf)), (kd, .inl (c_kd, 4, .inl f_kd)), (wd, .inl (c_wd, 4, .inl f_wd)), (h0, .inr (9, [.int (zI fa), .int (zI tc), .ref so, .ref sl, .ref ce, .int (zI fn), .ref kd, .ref wd, .ref hs, .ref pf, .ref lt, .int (zI mn), .ref wg, .int (zI ta), .long ck, .int (zI at9), .int (zI rfn), .ref rk, .ref rw, .ref rh, .int (zI u_cl_1), .ref sa, .ref fi, .int (zI u_bo_2), .ref ch, .ref cn, .int (zI 0), .int (zI ru), .ref kp, .int (zI dn), .ref rfa])), (wg, .inl (c_wg, 24, .inl f_wg)), (sa, .inl (c_sa, 25, .inl u_f_sa_3)), (fi, .inl (c_fi, 24, .inl u_f_fi_4)), (hs, .inl (c_hs, 4, .inl f_hs)), (ch, .inl (c_ch, 96, .inl u_f_ch_5))] := hD
  refine lv_aload_n hx hb dX9_findBest_14 rfl (lv_at hl 2 rfl) ?_
  refine lv_iconst (v := zI 0) hx hb dX9_findBest_15 rfl ?_
  refine va_put (D := D) (ci := 9) (v := .int (zI 0)) (ty := .int) (C := RX9) (T := TX9) (N := 31) hx hb hts (fun _ h9 => List.mem_cons_of_mem _ (List.mem_append_right _ h9)) tyX9 tyX9_ok nmX9 hown hK hP hD hS 4 rfl rfl 27 (by decide) (hts (.fieldLink RX9 161 "FontRunsModel" "runs" "I") mw_X9_findBest_1) (fun _ h9 => h9) rfl (by decide +kernel) rfl rfl (Nat.le_of_ble_eq_true rfl) dX9_findBest_16 (fun H locs hP hD hS => ?_)
  have hP : va_P D vwCl [(cn, .inl (c_cn, 24, .inl f_cn)), (pf, .inl (c_pf, 4, .inl f_pf)), (kd, .inl (c_kd, 4, .inl f_kd)), (wd, .inl (c_wd, 4, .inl f_wd)), (h0, .inr (9, [.int (zI fa), .int (zI tc), .ref so, .ref sl, .ref ce, .int (zI fn), .ref kd, .ref wd, .ref hs, .ref pf, .ref lt, .int (zI mn), .ref wg, .int (zI ta), .long ck, .int (zI at9), .int (zI rfn), .ref rk, .ref rw, .ref rh, .int (zI u_cl_1), .ref sa, .ref fi, .int (zI u_bo_2), .ref ch, .ref cn, .int (zI 0), .int (zI 0), .ref kp, .int (zI dn), .ref rfa])), (wg, .inl (c_wg, 24, .inl f_wg)), (sa, .inl (c_sa, 25, .inl u_f_sa_3)), (fi, .inl (c_fi, 24, .inl u_f_fi_4)), (hs, .inl (c_hs, 4, .inl f_hs)), (ch, .inl (c_ch, 96, .inl u_f_ch_5))] H := hP
  have hD : va_D A [(cn, .inl (c_cn, 24, .inl f_cn)), (pf, .inl (c_pf, 4, .inl f_pf)), (kd, .inl (c_kd, 4, .inl f_kd)), (wd, .inl (c_wd, 4, .inl f_wd)), (h0, .inr (9, [.int (zI fa), .int (zI tc), .ref so, .ref sl, .ref ce, .int (zI fn), .ref kd, .ref wd, .ref hs, .ref pf, .ref lt, .int (zI mn), .ref wg, .int (zI ta), .long ck, .int (zI at9), .int (zI rfn), .ref rk, .ref rw, .ref rh, .int (zI u_cl_1), .ref sa, .ref fi, .int (zI u_bo_2), .ref ch, .ref cn, .int (zI 0), .int (zI 0), .ref kp, .int (zI dn), .ref rfa])), (wg, .inl (c_wg, 24, .inl f_wg)), (sa, .inl (c_sa, 25, .inl u_f_sa_3)), (fi, .inl (c_fi, 24, .inl u_f_fi_4)), (hs, .inl (c_hs, 4, .inl f_hs)), (ch, .inl (c_ch, 96, .inl u_f_ch_5))] := hD
  refine lv_iconst (v := zI 0) hx hb dX9_findBest_19 rfl ?_
  refine lv_istore_n (lv' := [(3, .int (zI 0)), (2, .int (zI z_6)), (1, .int (zI z_6)), (0, .ref h0)]) hx hb dX9_findBest_20 rfl hl (by decide) rfl (fun ls hl => ?_)
  refine k_loopM (I := fun n9 H locs ls => ∃ (jl : Int) (jc : Int) (jd : Int) (jr : Int) (ja : Nat → Int32), n9 = (u_cl_1 - jc).toNat ∧ (0 ≤ jc ∧ jc ≤ u_cl_1) ∧ (rg jd) ∧ (jr = kRn ja jc.toNat) ∧ (0 ≤ jr ∧ jr ≤ jc) ∧ (0 ≤ jl ∧ jl ≤ 25) ∧ (kLeft u_f_ch_5 u_f_fi_4 ja fn u_cl_1 jc jl) ∧ (kCn ja jc) ∧ va_P D vwCl [(cn, .inl (c_cn, 24, .inl ja)), (pf, .inl (c_pf, 4, .inl f_pf)), (kd, .inl (c_kd, 4, .inl f_kd)), (wd, .inl (c_wd, 4, .inl f_wd)), (h0, .inr (9, [.int (zI fa), .int (zI tc), .ref so, .ref sl, .ref ce, .int (zI fn), .ref kd, .ref wd, .ref hs, .ref pf, .ref lt, .int (zI mn), .ref wg, .int (zI ta), .long ck, .int (zI at9), .int (zI rfn), .ref rk, .ref rw, .ref rh, .int (zI u_cl_1), .ref sa, .ref fi, .int (zI u_bo_2), .ref ch, .ref cn, .int (zI jd), .int (zI jr), .ref kp, .int (zI dn), .ref rfa])), (wg, .inl (c_wg, 24, .inl f_wg)), (sa, .inl (c_sa, 25, .inl u_f_sa_3)), (fi, .inl (c_fi, 24, .inl u_f_fi_4)), (hs, .inl (c_hs, 4, .inl f_hs)), (ch, .inl (c_ch, 96, .inl u_f_ch_5))] H ∧ va_D A [(cn, .inl (c_cn, 24, .inl ja)), (pf, .inl (c_pf, 4, .inl f_pf)), (kd, .inl (c_kd, 4, .inl f_kd)), (wd, .inl (c_wd, 4, .inl f_wd)), (h0, .inr (9, [.int (zI fa), .int (zI tc), .ref so, .ref sl, .ref ce, .int (zI fn), .ref kd, .ref wd, .ref hs, .ref pf, .ref lt, .int (zI mn), .ref wg, .int (zI ta), .long ck, .int (zI at9), .int (zI rfn), .ref rk, .ref rw, .ref rh, .int (zI u_cl_1), .ref sa, .ref fi, .int (zI u_bo_2), .ref ch, .ref cn, .int (zI jd), .int (zI jr), .ref kp, .int (zI dn), .ref rfa])), (wg, .inl (c_wg, 24, .inl f_wg)), (sa, .inl (c_sa, 25, .inl u_f_sa_3)), (fi, .inl (c_fi, 24, .inl u_f_fi_4)), (hs, .inl (c_hs, 4, .inl f_hs)), (ch, .inl (c_ch, 96, .inl u_f_ch_5))] ∧ va_S A s.heap H locs ∧ lv_has ls 6 [(3, .int (zI jc)), (2, .int (zI jl)), (1, .int (zI z_6)), (0, .ref h0)]) ?_ _ ⟨z_6, 0, 0, 0, f_cn, rfl, (by omega), (by omega), rfl, (by omega), (by omega), (kLeft_00 h_10 (fun q9 => (kFt_fit h_9 (by omega))) (by omega) (fun q9 => Or.resolve_left h_12 (by omega))), kCn_0, hP, hD, hS, hl⟩
  intro n21 ih21 H locs ls hI
  obtain ⟨jl, jc, jd, jr, ja, en21, v_210, v_211, v_212, v_213, v_214, v_215, v_216, hP, hD, hS, hl⟩ := hI
  refine lv_iload_n hx hb dX9_findBest_21 rfl (lv_at hl 0 rfl) ?_
  refine lv_aload_n hx hb dX9_findBest_22 rfl (lv_at hl 3 rfl) ?_
  refine va_get (D := D) (ci := 9) (v := .int (zI u_cl_1)) (C := RX9) (T := TX9) (N := 31) hx hb hts (fun _ h9 => List.mem_cons_of_mem _ (List.mem_append_right _ h9)) hown hK hP 4 rfl rfl 20 (by decide) (hts (.fieldLink RX9 138 "FontRunsModel" "clusters" "I") mw_X9_findBest_2) (fun _ h9 => h9) rfl dX9_findBest_23 ?_
  refine kz_icmp_ge (tgt := 156) hx hb dX9_findBest_26 (by decide) (by omega) (by omega) (fun c_13 => ?_) (fun c_13 => ?_)
  · refine lv_iload_n hx hb dX9_findBest_156 rfl (lv_at hl 2 rfl) ?_
    have hP9 := hP.sub (ws' := [(h0, .inr (9, [.int (zI fa), .int (zI tc), .ref so, .ref sl, .ref ce, .int (zI fn), .ref kd, .ref wd, .ref hs, .ref pf, .ref lt, .int (zI mn), .ref wg, .int (zI ta), .long ck, .int (zI at9), .int (zI rfn), .ref rk, .ref rw, .ref rh, .int (zI u_cl_1), .ref sa, .ref fi, .int (zI u_bo_2), .ref ch, .ref cn, .int (zI jd), .int (zI jr), .ref kp, .int (zI dn), .ref rfa])), (wg, .inl (c_wg, 24, .inl f_wg)), (sa, .inl (c_sa, 25, .inl u_f_sa_3)), (fi, .inl (c_fi, 24, .inl u_f_fi_4)), (hs, .inl (c_hs, 4, .inl f_hs)), (ch, .inl (c_ch, 96, .inl u_f_ch_5)), (cn, .inl (c_cn, 24, .inl ja)), (pf, .inl (c_pf, 4, .inl f_pf)), (kd, .inl (c_kd, 4, .inl f_kd)), (wd, .inl (c_wd, 4, .inl f_wd))]) [4, 5, 6, 7, 8, 9, 0, 1, 2, 3] rfl
    have hD9 := hD.sub (ws' := [(h0, .inr (9, [.int (zI fa), .int (zI tc), .ref so, .ref sl, .ref ce, .int (zI fn), .ref kd, .ref wd, .ref hs, .ref pf, .ref lt, .int (zI mn), .ref wg, .int (zI ta), .long ck, .int (zI at9), .int (zI rfn), .ref rk, .ref rw, .ref rh, .int (zI u_cl_1), .ref sa, .ref fi, .int (zI u_bo_2), .ref ch, .ref cn, .int (zI jd), .int (zI jr), .ref kp, .int (zI dn), .ref rfa])), (wg, .inl (c_wg, 24, .inl f_wg)), (sa, .inl (c_sa, 25, .inl u_f_sa_3)), (fi, .inl (c_fi, 24, .inl u_f_fi_4)), (hs, .inl (c_hs, 4, .inl f_hs)), (ch, .inl (c_ch, 96, .inl u_f_ch_5)), (cn, .inl (c_cn, 24, .inl ja)), (pf, .inl (c_pf, 4, .inl f_pf)), (kd, .inl (c_kd, 4, .inl f_kd)), (wd, .inl (c_wd, 4, .inl f_wd))]) [4, 5, 6, 7, 8, 9, 0, 1, 2, 3] (by decide +kernel) rfl
    exact W.iret (v := (zI z_6)) hx hb hr (fun t ht hW => kQS_of (by omega) ⟨u_cl_1, u_bo_2, jd, jr, u_f_sa_3, u_f_fi_4, u_f_ch_5, ja, h_7, h_8, h_9, v_211, (by omega), ((show jc = u_cl_1 by omega) ▸ v_212), h_11, (kCn_le v_216 (by omega)), by rw [ht]; exact hP9, hD9⟩ (hS.F ht)) hS.2.2 dX9_findBest_157
  · refine lv_iconst (v := zI 0) hx hb dX9_findBest_29 rfl ?_
    refine lv_istore (lv' := [(4, .int (zI 0)), (3, .int (zI jc)), (2, .int (zI jl)), (1, .int (zI z_6)), (0, .ref h0)]) hx hb dX9_findBest_30 hl (by decide) rfl (fun ls hl => ?_)
    refine k_loopM (I := fun n9 H locs ls => ∃ (jp : Int), n9 = (fn - jp).toNat ∧ (kBp f_pf u_f_ch_5 u_f_fi_4 ja fn jc jl jp) ∧ va_P D vwCl [(cn, .inl (c_cn, 24, .inl ja)), (pf, .inl (c_pf, 4, .inl f_pf)), (kd, .inl (c_kd, 4, .inl f_kd)), (wd, .inl (c_wd, 4, .inl f_wd)), (h0, .inr (9, [.int (zI fa), .int (zI tc), .ref so, .ref sl, .ref ce, .int (zI fn), .ref kd, .ref wd, .ref hs, .ref pf, .ref lt, .int (zI mn), .ref wg, .int (zI ta), .long ck, .int (zI at9), .int (zI rfn), .ref rk, .ref rw, .ref rh, .int (zI u_cl_1), .ref sa, .ref fi, .int (zI u_bo_2), .ref ch, .ref cn, .int (zI jd), .int (zI jr), .ref kp, .int (zI dn), .ref rfa])), (wg, .inl (c_wg, 24, .inl f_wg)), (sa, .inl (c_sa, 25, .inl u_f_sa_3)), (fi, .inl (c_fi, 24, .inl u_f_fi_4)), (hs, .inl (c_hs, 4, .inl f_hs)), (ch, .inl (c_ch, 96, .inl u_f_ch_5))] H ∧ va_D A [(cn, .inl (c_cn, 24, .inl ja)), (pf, .inl (c_pf, 4, .inl f_pf)), (kd, .inl (c_kd, 4, .inl f_kd)), (wd, .inl (c_wd, 4, .inl f_wd)), (h0, .inr (9, [.int (zI fa), .int (zI tc), .ref so, .ref sl, .ref ce, .int (zI fn), .ref kd, .ref wd, .ref hs, .ref pf, .ref lt, .int (zI mn), .ref wg, .int (zI ta), .long ck, .int (zI at9), .int (zI rfn), .ref rk, .ref rw, .ref rh, .int (zI u_cl_1), .ref sa, .ref fi, .int (zI u_bo_2), .ref ch, .ref cn, .int (zI jd), .int (zI jr), .ref kp, .int (zI dn), .ref rfa])), (wg, .inl (c_wg, 24, .inl f_wg)), (sa, .inl (c_sa, 25, .inl u_f_sa_3)), (fi, .inl (c_fi, 24, .inl u_f_fi_4)), (hs, .inl (c_hs, 4, .inl f_hs)), (ch, .inl (c_ch, 96, .inl u_f_ch_5))] ∧ va_S A s.heap H locs ∧ lv_has ls 6 [(4, .int (zI jp)), (3, .int (zI jc)), (2, .int (zI jl)), (1, .int (zI z_6)), (0, .ref h0)]) ?_ _ ⟨0, rfl, (kBp_0 q2 v_215 (by omega)), hP, hD, hS, hl⟩
    intro n32 ih32 H locs ls hI
    obtain ⟨jp, en32, v_320, hP, hD, hS, hl⟩ := hI
    have b32 := kBp_lt v_320
    refine lv_aload_n hx hb dX9_findBest_32 rfl (lv_at hl 4 rfl) ?_
    refine lv_iload_n hx hb dX9_findBest_33 rfl (lv_at hl 1 rfl) ?_
    refine lv_aload_n hx hb dX9_findBest_34 rfl (lv_at hl 4 rfl) ?_
    refine va_get (D := D) (ci := 9) (v := .ref pf) (C := RX9) (T := TX9) (N := 31) hx hb hts (fun _ h9 => List.mem_cons_of_mem _ (List.mem_append_right _ h9)) hown hK hP 4 rfl rfl 9 (by decide) (hts (.fieldLink RX9 28 "FontRunsModel" "preference" "[I") mw_X9_findBest_3) (fun _ h9 => h9) rfl dX9_findBest_35 ?_
    refine lv_iload hx hb dX9_findBest_38 (lv_at hl 0 rfl) ?_
    refine kz_iald hx hb hK hP 1 6 rfl rfl (by omega) dX9_findBest_40 (fun z_14 rz_14 ez_14 => ?_)
    have bz_14 := kPm_at q2 (by omega) (by omega) rz_14 ez_14
    refine lv_iload_n hx hb dX9_findBest_41 rfl (lv_at hl 2 rfl) ?_
    refine k_callR (va_runV (As := [.int (zI jc), .int (zI z_14), .int (zI jl)]) (rest := []) ⟨hx, hb, hml, hown, hts⟩ (c_X9_isBestFor l D H.size (kc := jc) (f := z_14) (lf := jl) (h0 := h0) (fa := fa) (tc := tc) (so := so) (sl := sl) (ce := ce) (fn := fn) (kd := kd) (wd := wd) (hs := hs) (pf := pf) (lt := lt) (mn := mn) (wg := wg) (ta := ta) (ck := ck) (at9 := at9) (rfn := rfn) (rk := rk) (rw := rw) (rh := rh) (cl := u_cl_1) (sa := sa) (fi := fi) (bo := u_bo_2) (ch := ch) (cn := cn) (ad := jd) (ru := jr) (kp := kp) (dn := dn) (rfa := rfa) (c_fi := c_fi) (f_fi := u_f_fi_4) (c_ch := c_ch) (f_ch := u_f_ch_5) (c_cn := c_cn) (f_cn := ja) (by omega) (by omega) (by omega) (by omega) q1 h_10) (cwV 3 hts gX9_findBest_X9_isBestFor rfl rfl rfl (by decide +kernel) ⟨Nat.le_of_ble_eq_true rfl, Nat.le_of_ble_eq_true rfl⟩) (kPreV hP (kD0 hD) hK hN [4, 7, 9, 0] [2, 4, 5] ax_X9_findBest_5 rfl (by decide +kernel) 4 9 rfl rfl) rfl rfl hl.1 rfl (lv_room (Nat.le_of_ble_eq_true rfl)) dX9_findBest_42 ⟨Nat.le_of_ble_eq_true rfl, Nat.le_of_ble_eq_true rfl⟩) ?_
    refine lv_if_ne (tgt := 54) hx hb dX9_findBest_45 (by decide) (fun c_15 => ?_) (fun c_15 => ?_)
    · have c_15 : kIsB u_f_ch_5 u_f_fi_4 ja jc z_14 jl := b01t c_15
      refine lv_aload_n hx hb dX9_findBest_54 rfl (lv_at hl 4 rfl) ?_
      refine va_get (D := D) (ci := 9) (v := .ref cn) (C := RX9) (T := TX9) (N := 31) hx hb hts (fun _ h9 => List.mem_cons_of_mem _ (List.mem_append_right _ h9)) hown hK hP 4 rfl rfl 25 (by decide) (hts (.fieldLink RX9 55 "FontRunsModel" "chosen" "[I") mw_X9_findBest_4) (fun _ h9 => h9) rfl dX9_findBest_55 ?_
      refine lv_iload_n hx hb dX9_findBest_58 rfl (lv_at hl 1 rfl) ?_
      refine lv_aload_n hx hb dX9_findBest_59 rfl (lv_at hl 4 rfl) ?_
      refine va_get (D := D) (ci := 9) (v := .ref pf) (C := RX9) (T := TX9) (N := 31) hx hb hts (fun _ h9 => List.mem_cons_of_mem _ (List.mem_append_right _ h9)) hown hK hP 4 rfl rfl 9 (by decide) (hts (.fieldLink RX9 28 "FontRunsModel" "preference" "[I") mw_X9_findBest_3) (fun _ h9 => h9) rfl dX9_findBest_60 ?_
      refine lv_iload hx hb dX9_findBest_63 (lv_at hl 0 rfl) ?_
      refine kz_iald hx hb hK hP 1 6 rfl rfl (by omega) dX9_findBest_65 (fun z_16 rz_16 ez_16 => ?_)
      have q9 : z_14 = z_16 := (zI_eq rz_14 rz_16).mp (ez_14.symm.trans ez_16)
      subst q9
      refine kz_iast hx hb hK hP hD hS 0 5 rfl rfl (by omega) dX9_findBest_66 (fun H locs hP hD hS => ?_)
      have hP : va_P D vwCl [(cn, .inl (c_cn, 24, .inl (upd ja (jc).toNat (zI z_14)))), (pf, .inl (c_pf, 4, .inl f_pf)), (kd, .inl (c_kd, 4, .inl f_kd)), (wd, .inl (c_wd, 4, .inl f_wd)), (h0, .inr (9, [.int (zI fa), .int (zI tc), .ref so, .ref sl, .ref ce, .int (zI fn), .ref kd, .ref wd, .ref hs, .ref pf, .ref lt, .int (zI mn), .ref wg, .int (zI ta), .long ck, .int (zI at9), .int (zI rfn), .ref rk, .ref rw, .ref rh, .int (zI u_cl_1), .ref sa, .ref fi, .int (zI u_bo_2), .ref ch, .ref cn, .int (zI jd), .int (zI jr), .ref kp, .int (zI dn), .ref rfa])), (wg, .inl (c_wg, 24, .inl f_wg)), (sa, .inl (c_sa, 25, .inl u_f_sa_3)), (fi, .inl (c_fi, 24, .inl u_f_fi_4)), (hs, .inl (c_hs, 4, .inl f_hs)), (ch, .inl (c_ch, 96, .inl u_f_ch_5))] H := hP
      have hD : va_D A [(cn, .inl (c_cn, 24, .inl (upd ja (jc).toNat (zI z_14)))), (pf, .inl (c_pf, 4, .inl f_pf)), (kd, .inl (c_kd, 4, .inl f_kd)), (wd, .inl (c_wd, 4, .inl f_wd)), (h0, .inr (9, [.int (zI fa), .int (zI tc), .ref so, .ref sl, .ref ce, .int (zI fn), .ref kd, .ref wd, .ref hs, .ref pf, .ref lt, .int (zI mn), .ref wg, .int (zI ta), .long ck, .int (zI at9), .int (zI rfn), .ref rk, .ref rw, .ref rh, .int (zI u_cl_1), .ref sa, .ref fi, .int (zI u_bo_2), .ref ch, .ref cn, .int (zI jd), .int (zI jr), .ref kp, .int (zI dn), .ref rfa])), (wg, .inl (c_wg, 24, .inl f_wg)), (sa, .inl (c_sa, 25, .inl u_f_sa_3)), (fi, .inl (c_fi, 24, .inl u_f_fi_4)), (hs, .inl (c_hs, 4, .inl f_hs)), (ch, .inl (c_ch, 96, .inl u_f_ch_5))] := hD
      generalize ef_17 : upd ja (jc).toNat (zI z_14) = f_17 at hP hD
      refine lv_iload_n hx hb dX9_findBest_67 rfl (lv_at hl 1 rfl) ?_
      refine kz_if_eq (tgt := 88) hx hb dX9_findBest_68 (by decide) (by omega) (fun c_18 => ?_) (fun c_18 => ?_)
      · refine lv_iconst (v := zI 1) hx hb dX9_findBest_88 rfl ?_
        refine lv_goto (tgt := 93) hx hb dX9_findBest_89 (by decide) ?_
        refine lv_istore (lv' := [(5, .int (zI 1)), (4, .int (zI jp)), (3, .int (zI jc)), (2, .int (zI jl)), (1, .int (zI z_6)), (0, .ref h0)]) hx hb dX9_findBest_93 hl (by decide) rfl (fun ls hl => ?_)
        refine lv_iload_n hx hb dX9_findBest_95 rfl (lv_at hl 3 rfl) ?_
        refine lv_iload_n hx hb dX9_findBest_96 rfl (lv_at hl 2 rfl) ?_
        refine kz_if_le (tgt := 109) hx hb dX9_findBest_97 (by decide) (by omega) (fun c_19 => ?_) (fun c_19 => ?_)
        · refine lv_iconst (v := zI 0) hx hb dX9_findBest_109 rfl ?_
          refine kz_isub hx hb dX9_findBest_110 ?_
          refine lv_istore_n (lv' := [(2, .int (zI (jl - 0))), (5, .int (zI 1)), (4, .int (zI jp)), (3, .int (zI jc)), (1, .int (zI z_6)), (0, .ref h0)]) hx hb dX9_findBest_111 rfl hl (by decide) rfl (fun ls hl => ?_)
          refine lv_aload_n hx hb dX9_findBest_112 rfl (lv_at hl 5 rfl) ?_
          refine lv_dup hx hb dX9_findBest_113 rfl ?_
          refine va_get (D := D) (ci := 9) (v := .int (zI jr)) (C := RX9) (T := TX9) (N := 31) hx hb hts (fun _ h9 => List.mem_cons_of_mem _ (List.mem_append_right _ h9)) hown hK hP 4 rfl rfl 27 (by decide) (hts (.fieldLink RX9 161 "FontRunsModel" "runs" "I") mw_X9_findBest_1) (fun _ h9 => h9) rfl dX9_findBest_114 ?_
          refine lv_iload hx hb dX9_findBest_117 (lv_at hl 1 rfl) ?_
          refine kz_if_eq (tgt := 126) hx hb dX9_findBest_119 (by decide) (by omega) (fun c9 => by omega) (fun c9 => ?_)
          refine lv_iconst (v := zI 1) hx hb dX9_findBest_122 rfl ?_
          refine lv_goto (tgt := 127) hx hb dX9_findBest_123 (by decide) ?_
          refine kz_iadd hx hb dX9_findBest_127 ?_
          refine va_put (D := D) (ci := 9) (v := .int (zI (jr + 1))) (ty := .int) (C := RX9) (T := TX9) (N := 31) hx hb hts (fun _ h9 => List.mem_cons_of_mem _ (List.mem_append_right _ h9)) tyX9 tyX9_ok nmX9 hown hK hP hD hS 4 rfl rfl 27 (by decide) (hts (.fieldLink RX9 161 "FontRunsModel" "runs" "I") mw_X9_findBest_1) (fun _ h9 => h9) rfl (by decide +kernel) rfl rfl (Nat.le_of_ble_eq_true rfl) dX9_findBest_128 (fun H locs hP hD hS => ?_)
          have hP : va_P D vwCl [(cn, .inl (c_cn, 24, .inl f_17)), (pf, .inl (c_pf, 4, .inl f_pf)), (kd, .inl (c_kd, 4, .inl f_kd)), (wd, .inl (c_wd, 4, .inl f_wd)), (h0, .inr (9, [.int (zI fa), .int (zI tc), .ref so, .ref sl, .ref ce, .int (zI fn), .ref kd, .ref wd, .ref hs, .ref pf, .ref lt, .int (zI mn), .ref wg, .int (zI ta), .long ck, .int (zI at9), .int (zI rfn), .ref rk, .ref rw, .ref rh, .int (zI u_cl_1), .ref sa, .ref fi, .int (zI u_bo_2), .ref ch, .ref cn, .int (zI jd), .int (zI (jr + 1)), .ref kp, .int (zI dn), .ref rfa])), (wg, .inl (c_wg, 24, .inl f_wg)), (sa, .inl (c_sa, 25, .inl u_f_sa_3)), (fi, .inl (c_fi, 24, .inl u_f_fi_4)), (hs, .inl (c_hs, 4, .inl f_hs)), (ch, .inl (c_ch, 96, .inl u_f_ch_5))] H := hP
          have hD : va_D A [(cn, .inl (c_cn, 24, .inl f_17)), (pf, .inl (c_pf, 4, .inl f_pf)), (kd, .inl (c_kd, 4, .inl f_kd)), (wd, .inl (c_wd, 4, .inl f_wd)), (h0, .inr (9, [.int (zI fa), .int (zI tc), .ref so, .ref sl, .ref ce, .int (zI fn), .ref kd, .ref wd, .ref hs, .ref pf, .ref lt, .int (zI mn), .ref wg, .int (zI ta), .long ck, .int (zI at9), .int (zI rfn), .ref rk, .ref rw, .ref rh, .int (zI u_cl_1), .ref sa, .ref fi, .int (zI u_bo_2), .ref ch, .ref cn, .int (zI jd), .int (zI (jr + 1)), .ref kp, .int (zI dn), .ref rfa])), (wg, .inl (c_wg, 24, .inl f_wg)), (sa, .inl (c_sa, 25, .inl u_f_sa_3)), (fi, .inl (c_fi, 24, .inl u_f_fi_4)), (hs, .inl (c_hs, 4, .inl f_hs)), (ch, .inl (c_ch, 96, .inl u_f_ch_5))] := hD
          refine lv_aload_n hx hb dX9_findBest_131 rfl (lv_at hl 5 rfl) ?_
          refine lv_dup hx hb dX9_findBest_132 rfl ?_
          refine va_get (D := D) (ci := 9) (v := .int (zI jd)) (C := RX9) (T := TX9) (N := 31) hx hb hts (fun _ h9 => List.mem_cons_of_mem _ (List.mem_append_right _ h9)) hown hK hP 4 rfl rfl 26 (by decide) (hts (.fieldLink RX9 158 "FontRunsModel" "advance" "I") mw_X9_findBest_0) (fun _ h9 => h9) rfl dX9_findBest_133 ?_
          refine lv_aload_n hx hb dX9_findBest_136 rfl (lv_at hl 5 rfl) ?_
          refine lv_aload_n hx hb dX9_findBest_137 rfl (lv_at hl 5 rfl) ?_
          refine va_get (D := D) (ci := 9) (v := .ref cn) (C := RX9) (T := TX9) (N := 31) hx hb hts (fun _ h9 => List.mem_cons_of_mem _ (List.mem_append_right _ h9)) hown hK hP 4 rfl rfl 25 (by decide) (hts (.fieldLink RX9 55 "FontRunsModel" "chosen" "[I") mw_X9_findBest_4) (fun _ h9 => h9) rfl dX9_findBest_138 ?_
          refine lv_iload_n hx hb dX9_findBest_141 rfl (lv_at hl 3 rfl) ?_
          refine kz_iald hx hb hK hP 0 5 rfl rfl (by omega) dX9_findBest_142 (fun z_20 rz_20 ez_20 => ?_)
          have bz_20 : z_20 = z_14 := (zI_eq rz_20 rz_14).mp (by rw [← ez_20, ← ef_17, pk_us])
          refine k_callP (va_runV (As := [.int (zI z_20)]) (rest := [.int (zI jd), .ref h0]) ⟨hx, hb, hml, hown, hts⟩ (c_X9_stepOf l D H.size (f := z_20) (h0 := h0) (fa := fa) (tc := tc) (so := so) (sl := sl) (ce := ce) (fn := fn) (kd := kd) (wd := wd) (hs := hs) (pf := pf) (lt := lt) (mn := mn) (wg := wg) (ta := ta) (ck := ck) (at9 := at9) (rfn := rfn) (rk := rk) (rw := rw) (rh := rh) (cl := u_cl_1) (sa := sa) (fi := fi) (bo := u_bo_2) (ch := ch) (cn := cn) (ad := jd) (ru := (jr + 1)) (kp := kp) (dn := dn) (rfa := rfa) (c_kd := c_kd) (f_kd := f_kd) (c_wd := c_wd) (f_wd := f_wd) (by omega)) (cwV 1 hts gX9_findBest_X9_stepOf rfl rfl rfl (by decide +kernel) ⟨Nat.le_of_ble_eq_true rfl, Nat.le_of_ble_eq_true rfl⟩) (kPreV hP (kD0 hD) hK hN [4, 2, 3] [7, 8] ax_X9_findBest_6 rfl (by decide +kernel) 4 9 rfl rfl) rfl rfl hl.1 rfl (lv_room (Nat.le_of_ble_eq_true rfl)) dX9_findBest_143 ⟨Nat.le_of_ble_eq_true rfl, Nat.le_of_ble_eq_true rfl⟩) (fun z_21 rz_21 h_22 => ?_)
          refine kz_iadd hx hb dX9_findBest_146 ?_
          refine kz_any (fun z_23 rz_23 ez_23 => ?_)
          refine va_put (D := D) (ci := 9) (v := .int (zI z_23)) (ty := .int) (C := RX9) (T := TX9) (N := 31) hx hb hts (fun _ h9 => List.mem_cons_of_mem _ (List.mem_append_right _ h9)) tyX9 tyX9_ok nmX9 hown hK hP hD hS 4 rfl rfl 26 (by decide) (hts (.fieldLink RX9 158 "FontRunsModel" "advance" "I") mw_X9_findBest_0) (fun _ h9 => h9) rfl (by decide +kernel) rfl rfl (Nat.le_of_ble_eq_true rfl) dX9_findBest_147 (fun H locs hP hD hS => ?_)
          have hP : va_P D vwCl [(cn, .inl (c_cn, 24, .inl f_17)), (pf, .inl (c_pf, 4, .inl f_pf)), (kd, .inl (c_kd, 4, .inl f_kd)), (wd, .inl (c_wd, 4, .inl f_wd)), (h0, .inr (9, [.int (zI fa), .int (zI tc), .ref so, .ref sl, .ref ce, .int (zI fn), .ref kd, .ref wd, .ref hs, .ref pf, .ref lt, .int (zI mn), .ref wg, .int (zI ta), .long ck, .int (zI at9), .int (zI rfn), .ref rk, .ref rw, .ref rh, .int (zI u_cl_1), .ref sa, .ref fi, .int (zI u_bo_2), .ref ch, .ref cn, .int (zI z_23), .int (zI (jr + 1)), .ref kp, .int (zI dn), .ref rfa])), (wg, .inl (c_wg, 24, .inl f_wg)), (sa, .inl (c_sa, 25, .inl u_f_sa_3)), (fi, .inl (c_fi, 24, .inl u_f_fi_4)), (hs, .inl (c_hs, 4, .inl f_hs)), (ch, .inl (c_ch, 96, .inl u_f_ch_5))] H := hP
          have hD : va_D A [(cn, .inl (c_cn, 24, .inl f_17)), (pf, .inl (c_pf, 4, .inl f_pf)), (kd, .inl (c_kd, 4, .inl f_kd)), (wd, .inl (c_wd, 4, .inl f_wd)), (h0, .inr (9, [.int (zI fa), .int (zI tc), .ref so, .ref sl, .ref ce, .int (zI fn), .ref kd, .ref wd, .ref hs, .ref pf, .ref lt, .int (zI mn), .ref wg, .int (zI ta), .long ck, .int (zI at9), .int (zI rfn), .ref rk, .ref rw, .ref rh, .int (zI u_cl_1), .ref sa, .ref fi, .int (zI u_bo_2), .ref ch, .ref cn, .int (zI z_23), .int (zI (jr + 1)), .ref kp, .int (zI dn), .ref rfa])), (wg, .inl (c_wg, 24, .inl f_wg)), (sa, .inl (c_sa, 25, .inl u_f_sa_3)), (fi, .inl (c_fi, 24, .inl u_f_fi_4)), (hs, .inl (c_hs, 4, .inl f_hs)), (ch, .inl (c_ch, 96, .inl u_f_ch_5))] := hD
          refine lv_iinc (v := (zI (jc + 1))) (lv' := [(3, .int (zI (jc + 1))), (2, .int (zI (jl - 0))), (5, .int (zI 1)), (4, .int (zI jp)), (1, .int (zI z_6)), (0, .ref h0)]) hx hb dX9_findBest_150 hl (k := 3) rfl (kz_inc _ 1) (by decide) rfl (fun ls hl => ?_)
          refine lv_goto (tgt := 21) hx hb dX9_findBest_153 (by decide) ?_
          exact ih21 _ (by omega) _ _ _ ⟨(jl - 0), (jc + 1), z_23, (jr + 1), f_17, rfl, (by omega), (by omega), (kRn_first c_18 v_212), (by omega), (by have q9 := c_15.2; rw [kIts_0 (by omega)] at q9; have g9 := h_10 jc z_14 (by omega) (by omega) (by omega) (by omega); have u1 := g9.1; have u2 := g9.2.1; omega), (kLeft_s h_10 (kFt_fit h_9 (by omega)) (by omega) (by omega) (by omega) ef_17 (by have q9 := c_15.2; rw [kIts_0 (by omega)] at q9; omega)), (kCn_s v_216 (by omega) (by omega) ef_17), hP, hD, hS, lv_sub hl [0, 1, 4, 5] rfl⟩
        · refine lv_iload hx hb dX9_findBest_100 (lv_at hl 0 rfl) ?_
          refine kz_if_eq (tgt := 109) hx hb dX9_findBest_102 (by decide) (by omega) (fun c9 => by omega) (fun c9 => ?_)
          refine lv_iconst (v := zI 1) hx hb dX9_findBest_105 rfl ?_
          refine lv_goto (tgt := 110) hx hb dX9_findBest_106 (by decide) ?_
          refine kz_isub hx hb dX9_findBest_110 ?_
          refine lv_istore_n (lv' := [(2, .int (zI (jl - 1))), (5, .int (zI 1)), (4, .int (zI jp)), (3, .int (zI jc)), (1, .int (zI z_6)), (0, .ref h0)]) hx hb dX9_findBest_111 rfl hl (by decide) rfl (fun ls hl => ?_)
          refine lv_aload_n hx hb dX9_findBest_112 rfl (lv_at hl 5 rfl) ?_
          refine lv_dup hx hb dX9_findBest_113 rfl ?_
          refine va_get (D := D) (ci := 9) (v := .int (zI jr)) (C := RX9) (T := TX9) (N := 31) hx hb hts (fun _ h9 => List.mem_cons_of_mem _ (List.mem_append_right _ h9)) hown hK hP 4 rfl rfl 27 (by decide) (hts (.fieldLink RX9 161 "FontRunsModel" "runs" "I") mw_X9_findBest_1) (fun _ h9 => h9) rfl dX9_findBest_114 ?_
          refine lv_iload hx hb dX9_findBest_117 (lv_at hl 1 rfl) ?_
          refine kz_if_eq (tgt := 126) hx hb dX9_findBest_119 (by decide) (by omega) (fun c9 => by omega) (fun c9 => ?_)
          refine lv_iconst (v := zI 1) hx hb dX9_findBest_122 rfl ?_
          refine lv_goto (tgt := 127) hx hb dX9_findBest_123 (by decide) ?_
          refine kz_iadd hx hb dX9_findBest_127 ?_
          refine va_put (D := D) (ci := 9) (v := .int (zI (jr + 1))) (ty := .int) (C := RX9) (T := TX9) (N := 31) hx hb hts (fun _ h9 => List.mem_cons_of_mem _ (List.mem_append_right _ h9)) tyX9 tyX9_ok nmX9 hown hK hP hD hS 4 rfl rfl 27 (by decide) (hts (.fieldLink RX9 161 "FontRunsModel" "runs" "I") mw_X9_findBest_1) (fun _ h9 => h9) rfl (by decide +kernel) rfl rfl (Nat.le_of_ble_eq_true rfl) dX9_findBest_128 (fun H locs hP hD hS => ?_)
          have hP : va_P D vwCl [(cn, .inl (c_cn, 24, .inl f_17)), (pf, .inl (c_pf, 4, .inl f_pf)), (kd, .inl (c_kd, 4, .inl f_kd)), (wd, .inl (c_wd, 4, .inl f_wd)), (h0, .inr (9, [.int (zI fa), .int (zI tc), .ref so, .ref sl, .ref ce, .int (zI fn), .ref kd, .ref wd, .ref hs, .ref pf, .ref lt, .int (zI mn), .ref wg, .int (zI ta), .long ck, .int (zI at9), .int (zI rfn), .ref rk, .ref rw, .ref rh, .int (zI u_cl_1), .ref sa, .ref fi, .int (zI u_bo_2), .ref ch, .ref cn, .int (zI jd), .int (zI (jr + 1)), .ref kp, .int (zI dn), .ref rfa])), (wg, .inl (c_wg, 24, .inl f_wg)), (sa, .inl (c_sa, 25, .inl u_f_sa_3)), (fi, .inl (c_fi, 24, .inl u_f_fi_4)), (hs, .inl (c_hs, 4, .inl f_hs)), (ch, .inl (c_ch, 96, .inl u_f_ch_5))] H := hP
          have hD : va_D A [(cn, .inl (c_cn, 24, .inl f_17)), (pf, .inl (c_pf, 4, .inl f_pf)), (kd, .inl (c_kd, 4, .inl f_kd)), (wd, .inl (c_wd, 4, .inl f_wd)), (h0, .inr (9, [.int (zI fa), .int (zI tc), .ref so, .ref sl, .ref ce, .int (zI fn), .ref kd, .ref wd, .ref hs, .ref pf, .ref lt, .int (zI mn), .ref wg, .int (zI ta), .long ck, .int (zI at9), .int (zI rfn), .ref rk, .ref rw, .ref rh, .int (zI u_cl_1), .ref sa, .ref fi, .int (zI u_bo_2), .ref ch, .ref cn, .int (zI jd), .int (zI (jr + 1)), .ref kp, .int (zI dn), .ref rfa])), (wg, .inl (c_wg, 24, .inl f_wg)), (sa, .inl (c_sa, 25, .inl u_f_sa_3)), (fi, .inl (c_fi, 24, .inl u_f_fi_4)), (hs, .inl (c_hs, 4, .inl f_hs)), (ch, .inl (c_ch, 96, .inl u_f_ch_5))] := hD
          refine lv_aload_n hx hb dX9_findBest_131 rfl (lv_at hl 5 rfl) ?_
          refine lv_dup hx hb dX9_findBest_132 rfl ?_
          refine va_get (D := D) (ci := 9) (v := .int (zI jd)) (C := RX9) (T := TX9) (N := 31) hx hb hts (fun _ h9 => List.mem_cons_of_mem _ (List.mem_append_right _ h9)) hown hK hP 4 rfl rfl 26 (by decide) (hts (.fieldLink RX9 158 "FontRunsModel" "advance" "I") mw_X9_findBest_0) (fun _ h9 => h9) rfl dX9_findBest_133 ?_
          refine lv_aload_n hx hb dX9_findBest_136 rfl (lv_at hl 5 rfl) ?_
          refine lv_aload_n hx hb dX9_findBest_137 rfl (lv_at hl 5 rfl) ?_
          refine va_get (D := D) (ci := 9) (v := .ref cn) (C := RX9) (T := TX9) (N := 31) hx hb hts (fun _ h9 => List.mem_cons_of_mem _ (List.mem_append_right _ h9)) hown hK hP 4 rfl rfl 25 (by decide) (hts (.fieldLink RX9 55 "FontRunsModel" "chosen" "[I") mw_X9_findBest_4) (fun _ h9 => h9) rfl dX9_findBest_138 ?_
          refine lv_iload_n hx hb dX9_findBest_141 rfl (lv_at hl 3 rfl) ?_
          refine kz_iald hx hb hK hP 0 5 rfl rfl (by omega) dX9_findBest_142 (fun z_24 rz_24 ez_24 => ?_)
          have bz_24 : z_24 = z_14 := (zI_eq rz_24 rz_14).mp (by rw [← ez_24, ← ef_17, pk_us])
          refine k_callP (va_runV (As := [.int (zI z_24)]) (rest := [.int (zI jd), .ref h0]) ⟨hx, hb, hml, hown, hts⟩ (c_X9_stepOf l D H.size (f := z_24) (h0 := h0) (fa := fa) (tc := tc) (so := so) (sl := sl) (ce := ce) (fn := fn) (kd := kd) (wd := wd) (hs := hs) (pf := pf) (lt := lt) (mn := mn) (wg := wg) (ta := ta) (ck := ck) (at9 := at9) (rfn := rfn) (rk := rk) (rw := rw) (rh := rh) (cl := u_cl_1) (sa := sa) (fi := fi) (bo := u_bo_2) (ch := ch) (cn := cn) (ad := jd) (ru := (jr + 1)) (kp := kp) (dn := dn) (rfa := rfa) (c_kd := c_kd) (f_kd := f_kd) (c_wd := c_wd) (f_wd := f_wd) (by omega)) (cwV 1 hts gX9_findBest_X9_stepOf rfl rfl rfl (by decide +kernel) ⟨Nat.le_of_ble_eq_true rfl, Nat.le_of_ble_eq_true rfl⟩) (kPreV hP (kD0 hD) hK hN [4, 2, 3] [7, 8] ax_X9_findBest_6 rfl (by decide +kernel) 4 9 rfl rfl) rfl rfl hl.1 rfl (lv_room (Nat.le_of_ble_eq_true rfl)) dX9_findBest_143 ⟨Nat.le_of_ble_eq_true rfl, Nat.le_of_ble_eq_true rfl⟩) (fun z_25 rz_25 h_26 => ?_)
          refine kz_iadd hx hb dX9_findBest_146 ?_
          refine kz_any (fun z_27 rz_27 ez_27 => ?_)
          refine va_put (D := D) (ci := 9) (v := .int (zI z_27)) (ty := .int) (C := RX9) (T := TX9) (N := 31) hx hb hts (fun _ h9 => List.mem_cons_of_mem _ (List.mem_append_right _ h9)) tyX9 tyX9_ok nmX9 hown hK hP hD hS 4 rfl rfl 26 (by decide) (hts (.fieldLink RX9 158 "FontRunsModel" "advance" "I") mw_X9_findBest_0) (fun _ h9 => h9) rfl (by decide +kernel) rfl rfl (Nat.le_of_ble_eq_true rfl) dX9_findBest_147 (fun H locs hP hD hS => ?_)
          have hP : va_P D vwCl [(cn, .inl (c_cn, 24, .inl f_17)), (pf, .inl (c_pf, 4, .inl f_pf)), (kd, .inl (c_kd, 4, .inl f_kd)), (wd, .inl (c_wd, 4, .inl f_wd)), (h0, .inr (9, [.int (zI fa), .int (zI tc), .ref so, .ref sl, .ref ce, .int (zI fn), .ref kd, .ref wd, .ref hs, .ref pf, .ref lt, .int (zI mn), .ref wg, .int (zI ta), .long ck, .int (zI at9), .int (zI rfn), .ref rk, .ref rw, .ref rh, .int (zI u_cl_1), .ref sa, .ref fi, .int (zI u_bo_2), .ref ch, .ref cn, .int (zI z_27), .int (zI (jr + 1)), .ref kp, .int (zI dn), .ref rfa])), (wg, .inl (c_wg, 24, .inl f_wg)), (sa, .inl (c_sa, 25, .inl u_f_sa_3)), (fi, .inl (c_fi, 24, .inl u_f_fi_4)), (hs, .inl (c_hs, 4, .inl f_hs)), (ch, .inl (c_ch, 96, .inl u_f_ch_5))] H := hP
          have hD : va_D A [(cn, .inl (c_cn, 24, .inl f_17)), (pf, .inl (c_pf, 4, .inl f_pf)), (kd, .inl (c_kd, 4, .inl f_kd)), (wd, .inl (c_wd, 4, .inl f_wd)), (h0, .inr (9, [.int (zI fa), .int (zI tc), .ref so, .ref sl, .ref ce, .int (zI fn), .ref kd, .ref wd, .ref hs, .ref pf, .ref lt, .int (zI mn), .ref wg, .int (zI ta), .long ck, .int (zI at9), .int (zI rfn), .ref rk, .ref rw, .ref rh, .int (zI u_cl_1), .ref sa, .ref fi, .int (zI u_bo_2), .ref ch, .ref cn, .int (zI z_27), .int (zI (jr + 1)), .ref kp, .int (zI dn), .ref rfa])), (wg, .inl (c_wg, 24, .inl f_wg)), (sa, .inl (c_sa, 25, .inl u_f_sa_3)), (fi, .inl (c_fi, 24, .inl u_f_fi_4)), (hs, .inl (c_hs, 4, .inl f_hs)), (ch, .inl (c_ch, 96, .inl u_f_ch_5))] := hD
          refine lv_iinc (v := (zI (jc + 1))) (lv' := [(3, .int (zI (jc + 1))), (2, .int (zI (jl - 1))), (5, .int (zI 1)), (4, .int (zI jp)), (1, .int (zI z_6)), (0, .ref h0)]) hx hb dX9_findBest_150 hl (k := 3) rfl (kz_inc _ 1) (by decide) rfl (fun ls hl => ?_)
          refine lv_goto (tgt := 21) hx hb dX9_findBest_153 (by decide) ?_
          exact ih21 _ (by omega) _ _ _ ⟨(jl - 1), (jc + 1), z_27, (jr + 1), f_17, rfl, (by omega), (by omega), (kRn_first c_18 v_212), (by omega), (by have q9 := c_15.2; rw [kIts_0 (by omega)] at q9; have g9 := h_10 jc z_14 (by omega) (by omega) (by omega) (by omega); have u1 := g9.1; have u2 := g9.2.1; omega), (kLeft_s h_10 (kFt_fit h_9 (by omega)) (by omega) (by omega) (by omega) ef_17 (by have q9 := c_15.2; rw [kIts_0 (by omega)] at q9; omega)), (kCn_s v_216 (by omega) (by omega) ef_17), hP, hD, hS, lv_sub hl [0, 1, 4, 5] rfl⟩
      · refine lv_aload_n hx hb dX9_findBest_71 rfl (lv_at hl 4 rfl) ?_
        refine va_get (D := D) (ci := 9) (v := .ref cn) (C := RX9) (T := TX9) (N := 31) hx hb hts (fun _ h9 => List.mem_cons_of_mem _ (List.mem_append_right _ h9)) hown hK hP 4 rfl rfl 25 (by decide) (hts (.fieldLink RX9 55 "FontRunsModel" "chosen" "[I") mw_X9_findBest_4) (fun _ h9 => h9) rfl dX9_findBest_72 ?_
        refine lv_iload_n hx hb dX9_findBest_75 rfl (lv_at hl 1 rfl) ?_
        refine kz_iald hx hb hK hP 0 5 rfl rfl (by omega) dX9_findBest_76 (fun z_28 rz_28 ez_28 => ?_)
        have bz_28 : z_28 = z_14 := (zI_eq rz_28 rz_14).mp (by rw [← ez_28, ← ef_17, pk_us])
        refine lv_aload_n hx hb dX9_findBest_77 rfl (lv_at hl 4 rfl) ?_
        refine va_get (D := D) (ci := 9) (v := .ref cn) (C := RX9) (T := TX9) (N := 31) hx hb hts (fun _ h9 => List.mem_cons_of_mem _ (List.mem_append_right _ h9)) hown hK hP 4 rfl rfl 25 (by decide) (hts (.fieldLink RX9 55 "FontRunsModel" "chosen" "[I") mw_X9_findBest_4) (fun _ h9 => h9) rfl dX9_findBest_78 ?_
        refine lv_iload_n hx hb dX9_findBest_81 rfl (lv_at hl 1 rfl) ?_
        refine lv_iconst (v := zI 1) hx hb dX9_findBest_82 rfl ?_
        refine kz_isub hx hb dX9_findBest_83 ?_
        refine kz_iald hx hb hK hP 0 5 rfl rfl (by omega) dX9_findBest_84 (fun z_29 rz_29 ez_29 => ?_)
        have nz_29 : ja (jc - 1).toNat = zI z_29 := by rw [← ez_29, ← ef_17, pk_un (by omega)]
        refine kz_icmp_eq (tgt := 92) hx hb dX9_findBest_85 (by decide) (by omega) (by omega) (fun c_30 => ?_) (fun c_30 => ?_)
        · refine lv_iconst (v := zI 0) hx hb dX9_findBest_92 rfl ?_
          refine lv_istore (lv' := [(5, .int (zI 0)), (4, .int (zI jp)), (3, .int (zI jc)), (2, .int (zI jl)), (1, .int (zI z_6)), (0, .ref h0)]) hx hb dX9_findBest_93 hl (by decide) rfl (fun ls hl => ?_)
          refine lv_iload_n hx hb dX9_findBest_95 rfl (lv_at hl 3 rfl) ?_
          refine lv_iload_n hx hb dX9_findBest_96 rfl (lv_at hl 2 rfl) ?_
          refine kz_if_le (tgt := 109) hx hb dX9_findBest_97 (by decide) (by omega) (fun c_31 => ?_) (fun c_31 => ?_)
          · refine lv_iconst (v := zI 0) hx hb dX9_findBest_109 rfl ?_
            refine kz_isub hx hb dX9_findBest_110 ?_
            refine lv_istore_n (lv' := [(2, .int (zI (jl - 0))), (5, .int (zI 0)), (4, .int (zI jp)), (3, .int (zI jc)), (1, .int (zI z_6)), (0, .ref h0)]) hx hb dX9_findBest_111 rfl hl (by decide) rfl (fun ls hl => ?_)
            refine lv_aload_n hx hb dX9_findBest_112 rfl (lv_at hl 5 rfl) ?_
            refine lv_dup hx hb dX9_findBest_113 rfl ?_
            refine va_get (D := D) (ci := 9) (v := .int (zI jr)) (C := RX9) (T := TX9) (N := 31) hx hb hts (fun _ h9 => List.mem_cons_of_mem _ (List.mem_append_right _ h9)) hown hK hP 4 rfl rfl 27 (by decide) (hts (.fieldLink RX9 161 "FontRunsModel" "runs" "I") mw_X9_findBest_1) (fun _ h9 => h9) rfl dX9_findBest_114 ?_
            refine lv_iload hx hb dX9_findBest_117 (lv_at hl 1 rfl) ?_
            refine kz_if_eq (tgt := 126) hx hb dX9_findBest_119 (by decide) (by omega) (fun c9 => ?_) (fun c9 => by omega)
            refine lv_iconst (v := zI 0) hx hb dX9_findBest_126 rfl ?_
            refine kz_iadd hx hb dX9_findBest_127 ?_
            refine va_put (D := D) (ci := 9) (v := .int (zI (jr + 0))) (ty := .int) (C := RX9) (T := TX9) (N := 31) hx hb hts (fun _ h9 => List.mem_cons_of_mem _ (List.mem_append_right _ h9)) tyX9 tyX9_ok nmX9 hown hK hP hD hS 4 rfl rfl 27 (by decide) (hts (.fieldLink RX9 161 "FontRunsModel" "runs" "I") mw_X9_findBest_1) (fun _ h9 => h9) rfl (by decide +kernel) rfl rfl (Nat.le_of_ble_eq_true rfl) dX9_findBest_128 (fun H locs hP hD hS => ?_)
            have hP : va_P D vwCl [(cn, .inl (c_cn, 24, .inl f_17)), (pf, .inl (c_pf, 4, .inl f_pf)), (kd, .inl (c_kd, 4, .inl f_kd)), (wd, .inl (c_wd, 4, .inl f_wd)), (h0, .inr (9, [.int (zI fa), .int (zI tc), .ref so, .ref sl, .ref ce, .int (zI fn), .ref kd, .ref wd, .ref hs, .ref pf, .ref lt, .int (zI mn), .ref wg, .int (zI ta), .long ck, .int (zI at9), .int (zI rfn), .ref rk, .ref rw, .ref rh, .int (zI u_cl_1), .ref sa, .ref fi, .int (zI u_bo_2), .ref ch, .ref cn, .int (zI jd), .int (zI (jr + 0)), .ref kp, .int (zI dn), .ref rfa])), (wg, .inl (c_wg, 24, .inl f_wg)), (sa, .inl (c_sa, 25, .inl u_f_sa_3)), (fi, .inl (c_fi, 24, .inl u_f_fi_4)), (hs, .inl (c_hs, 4, .inl f_hs)), (ch, .inl (c_ch, 96, .inl u_f_ch_5))] H := hP
            have hD : va_D A [(cn, .inl (c_cn, 24, .inl f_17)), (pf, .inl (c_pf, 4, .inl f_pf)), (kd, .inl (c_kd, 4, .inl f_kd)), (wd, .inl (c_wd, 4, .inl f_wd)), (h0, .inr (9, [.int (zI fa), .int (zI tc), .ref so, .ref sl, .ref ce, .int (zI fn), .ref kd, .ref wd, .ref hs, .ref pf, .ref lt, .int (zI mn), .ref wg, .int (zI ta), .long ck, .int (zI at9), .int (zI rfn), .ref rk, .ref rw, .ref rh, .int (zI u_cl_1), .ref sa, .ref fi, .int (zI u_bo_2), .ref ch, .ref cn, .int (zI jd), .int (zI (jr + 0)), .ref kp, .int (zI dn), .ref rfa])), (wg, .inl (c_wg, 24, .inl f_wg)), (sa, .inl (c_sa, 25, .inl u_f_sa_3)), (fi, .inl (c_fi, 24, .inl u_f_fi_4)), (hs, .inl (c_hs, 4, .inl f_hs)), (ch, .inl (c_ch, 96, .inl u_f_ch_5))] := hD
            refine lv_aload_n hx hb dX9_findBest_131 rfl (lv_at hl 5 rfl) ?_
            refine lv_dup hx hb dX9_findBest_132 rfl ?_
            refine va_get (D := D) (ci := 9) (v := .int (zI jd)) (C := RX9) (T := TX9) (N := 31) hx hb hts (fun _ h9 => List.mem_cons_of_mem _ (List.mem_append_right _ h9)) hown hK hP 4 rfl rfl 26 (by decide) (hts (.fieldLink RX9 158 "FontRunsModel" "advance" "I") mw_X9_findBest_0) (fun _ h9 => h9) rfl dX9_findBest_133 ?_
            refine lv_aload_n hx hb dX9_findBest_136 rfl (lv_at hl 5 rfl) ?_
            refine lv_aload_n hx hb dX9_findBest_137 rfl (lv_at hl 5 rfl) ?_
            refine va_get (D := D) (ci := 9) (v := .ref cn) (C := RX9) (T := TX9) (N := 31) hx hb hts (fun _ h9 => List.mem_cons_of_mem _ (List.mem_append_right _ h9)) hown hK hP 4 rfl rfl 25 (by decide) (hts (.fieldLink RX9 55 "FontRunsModel" "chosen" "[I") mw_X9_findBest_4) (fun _ h9 => h9) rfl dX9_findBest_138 ?_
            refine lv_iload_n hx hb dX9_findBest_141 rfl (lv_at hl 3 rfl) ?_
            refine kz_iald hx hb hK hP 0 5 rfl rfl (by omega) dX9_findBest_142 (fun z_32 rz_32 ez_32 => ?_)
            have q9 : z_28 = z_32 := (zI_eq rz_28 rz_32).mp (ez_28.symm.trans ez_32)
            subst q9
            refine k_callP (va_runV (As := [.int (zI z_28)]) (rest := [.int (zI jd), .ref h0]) ⟨hx, hb, hml, hown, hts⟩ (c_X9_stepOf l D H.size (f := z_28) (h0 := h0) (fa := fa) (tc := tc) (so := so) (sl := sl) (ce := ce) (fn := fn) (kd := kd) (wd := wd) (hs := hs) (pf := pf) (lt := lt) (mn := mn) (wg := wg) (ta := ta) (ck := ck) (at9 := at9) (rfn := rfn) (rk := rk) (rw := rw) (rh := rh) (cl := u_cl_1) (sa := sa) (fi := fi) (bo := u_bo_2) (ch := ch) (cn := cn) (ad := jd) (ru := (jr + 0)) (kp := kp) (dn := dn) (rfa := rfa) (c_kd := c_kd) (f_kd := f_kd) (c_wd := c_wd) (f_wd := f_wd) (by omega)) (cwV 1 hts gX9_findBest_X9_stepOf rfl rfl rfl (by decide +kernel) ⟨Nat.le_of_ble_eq_true rfl, Nat.le_of_ble_eq_true rfl⟩) (kPreV hP (kD0 hD) hK hN [4, 2, 3] [7, 8] ax_X9_findBest_6 rfl (by decide +kernel) 4 9 rfl rfl) rfl rfl hl.1 rfl (lv_room (Nat.le_of_ble_eq_true rfl)) dX9_findBest_143 ⟨Nat.le_of_ble_eq_true rfl, Nat.le_of_ble_eq_true rfl⟩) (fun z_33 rz_33 h_34 => ?_)
            refine kz_iadd hx hb dX9_findBest_146 ?_
            refine kz_any (fun z_35 rz_35 ez_35 => ?_)
            refine va_put (D := D) (ci := 9) (v := .int (zI z_35)) (ty := .int) (C := RX9) (T := TX9) (N := 31) hx hb hts (fun _ h9 => List.mem_cons_of_mem _ (List.mem_append_right _ h9)) tyX9 tyX9_ok nmX9 hown hK hP hD hS 4 rfl rfl 26 (by decide) (hts (.fieldLink RX9 158 "FontRunsModel" "advance" "I") mw_X9_findBest_0) (fun _ h9 => h9) rfl (by decide +kernel) rfl rfl (Nat.le_of_ble_eq_true rfl) dX9_findBest_147 (fun H locs hP hD hS => ?_)
            have hP : va_P D vwCl [(cn, .inl (c_cn, 24, .inl f_17)), (pf, .inl (c_pf, 4, .inl f_pf)), (kd, .inl (c_kd, 4, .inl f_kd)), (wd, .inl (c_wd, 4, .inl f_wd)), (h0, .inr (9, [.int (zI fa), .int (zI tc), .ref so, .ref sl, .ref ce, .int (zI fn), .ref kd, .ref wd, .ref hs, .ref pf, .ref lt, .int (zI mn), .ref wg, .int (zI ta), .long ck, .int (zI at9), .int (zI rfn), .ref rk, .ref rw, .ref rh, .int (zI u_cl_1), .ref sa, .ref fi, .int (zI u_bo_2), .ref ch, .ref cn, .int (zI z_35), .int (zI (jr + 0)), .ref kp, .int (zI dn), .ref rfa])), (wg, .inl (c_wg, 24, .inl f_wg)), (sa, .inl (c_sa, 25, .inl u_f_sa_3)), (fi, .inl (c_fi, 24, .inl u_f_fi_4)), (hs, .inl (c_hs, 4, .inl f_hs)), (ch, .inl (c_ch, 96, .inl u_f_ch_5))] H := hP
            have hD : va_D A [(cn, .inl (c_cn, 24, .inl f_17)), (pf, .inl (c_pf, 4, .inl f_pf)), (kd, .inl (c_kd, 4, .inl f_kd)), (wd, .inl (c_wd, 4, .inl f_wd)), (h0, .inr (9, [.int (zI fa), .int (zI tc), .ref so, .ref sl, .ref ce, .int (zI fn), .ref kd, .ref wd, .ref hs, .ref pf, .ref lt, .int (zI mn), .ref wg, .int (zI ta), .long ck, .int (zI at9), .int (zI rfn), .ref rk, .ref rw, .ref rh, .int (zI u_cl_1), .ref sa, .ref fi, .int (zI u_bo_2), .ref ch, .ref cn, .int (zI z_35), .int (zI (jr + 0)), .ref kp, .int (zI dn), .ref rfa])), (wg, .inl (c_wg, 24, .inl f_wg)), (sa, .inl (c_sa, 25, .inl u_f_sa_3)), (fi, .inl (c_fi, 24, .inl u_f_fi_4)), (hs, .inl (c_hs, 4, .inl f_hs)), (ch, .inl (c_ch, 96, .inl u_f_ch_5))] := hD
            refine lv_iinc (v := (zI (jc + 1))) (lv' := [(3, .int (zI (jc + 1))), (2, .int (zI (jl - 0))), (5, .int (zI 0)), (4, .int (zI jp)), (1, .int (zI z_6)), (0, .ref h0)]) hx hb dX9_findBest_150 hl (k := 3) rfl (kz_inc _ 1) (by decide) rfl (fun ls hl => ?_)
            refine lv_goto (tgt := 21) hx hb dX9_findBest_153 (by decide) ?_
            exact ih21 _ (by omega) _ _ _ ⟨(jl - 0), (jc + 1), z_35, (jr + 0), f_17, rfl, (by omega), (by omega), (by rw [kRn_next (by omega) c_18 ef_17 v_212, if_pos (by rw [ez_28, ez_29, c_30])]), (by omega), (by have q9 := c_15.2; rw [kIts_eq rz_29 nz_29 (by omega)] at q9; have g9 := h_10 jc z_14 (by omega) (by omega) (by omega) (by omega); have u1 := g9.1; have u2 := g9.2.1; omega), (kLeft_s h_10 (kFt_fit h_9 (by omega)) (by omega) (by omega) (by omega) ef_17 (by have q9 := c_15.2; rw [kIts_eq rz_29 nz_29 (by omega)] at q9; omega)), (kCn_s v_216 (by omega) (by omega) ef_17), hP, hD, hS, lv_sub hl [0, 1, 4, 5] rfl⟩
          · refine lv_iload hx hb dX9_findBest_100 (lv_at hl 0 rfl) ?_
            refine kz_if_eq (tgt := 109) hx hb dX9_findBest_102 (by decide) (by omega) (fun c9 => ?_) (fun c9 => by omega)
            refine lv_iconst (v := zI 0) hx hb dX9_findBest_109 rfl ?_
            refine kz_isub hx hb dX9_findBest_110 ?_
            refine lv_istore_n (lv' := [(2, .int (zI (jl - 0))), (5, .int (zI 0)), (4, .int (zI jp)), (3, .int (zI jc)), (1, .int (zI z_6)), (0, .ref h0)]) hx hb dX9_findBest_111 rfl hl (by decide) rfl (fun ls hl => ?_)
            refine lv_aload_n hx hb dX9_findBest_112 rfl (lv_at hl 5 rfl) ?_
            refine lv_dup hx hb dX9_findBest_113 rfl ?_
            refine va_get (D := D) (ci := 9) (v := .int (zI jr)) (C := RX9) (T := TX9) (N := 31) hx hb hts (fun _ h9 => List.mem_cons_of_mem _ (List.mem_append_right _ h9)) hown hK hP 4 rfl rfl 27 (by decide) (hts (.fieldLink RX9 161 "FontRunsModel" "runs" "I") mw_X9_findBest_1) (fun _ h9 => h9) rfl dX9_findBest_114 ?_
            refine lv_iload hx hb dX9_findBest_117 (lv_at hl 1 rfl) ?_
            refine kz_if_eq (tgt := 126) hx hb dX9_findBest_119 (by decide) (by omega) (fun c9 => ?_) (fun c9 => by omega)
            refine lv_iconst (v := zI 0) hx hb dX9_findBest_126 rfl ?_
            refine kz_iadd hx hb dX9_findBest_127 ?_
            refine va_put (D := D) (ci := 9) (v := .int (zI (jr + 0))) (ty := .int) (C := RX9) (T := TX9) (N := 31) hx hb hts (fun _ h9 => List.mem_cons_of_mem _ (List.mem_append_right _ h9)) tyX9 tyX9_ok nmX9 hown hK hP hD hS 4 rfl rfl 27 (by decide) (hts (.fieldLink RX9 161 "FontRunsModel" "runs" "I") mw_X9_findBest_1) (fun _ h9 => h9) rfl (by decide +kernel) rfl rfl (Nat.le_of_ble_eq_true rfl) dX9_findBest_128 (fun H locs hP hD hS => ?_)
            have hP : va_P D vwCl [(cn, .inl (c_cn, 24, .inl f_17)), (pf, .inl (c_pf, 4, .inl f_pf)), (kd, .inl (c_kd, 4, .inl f_kd)), (wd, .inl (c_wd, 4, .inl f_wd)), (h0, .inr (9, [.int (zI fa), .int (zI tc), .ref so, .ref sl, .ref ce, .int (zI fn), .ref kd, .ref wd, .ref hs, .ref pf, .ref lt, .int (zI mn), .ref wg, .int (zI ta), .long ck, .int (zI at9), .int (zI rfn), .ref rk, .ref rw, .ref rh, .int (zI u_cl_1), .ref sa, .ref fi, .int (zI u_bo_2), .ref ch, .ref cn, .int (zI jd), .int (zI (jr + 0)), .ref kp, .int (zI dn), .ref rfa])), (wg, .inl (c_wg, 24, .inl f_wg)), (sa, .inl (c_sa, 25, .inl u_f_sa_3)), (fi, .inl (c_fi, 24, .inl u_f_fi_4)), (hs, .inl (c_hs, 4, .inl f_hs)), (ch, .inl (c_ch, 96, .inl u_f_ch_5))] H := hP
            have hD : va_D A [(cn, .inl (c_cn, 24, .inl f_17)), (pf, .inl (c_pf, 4, .inl f_pf)), (kd, .inl (c_kd, 4, .inl f_kd)), (wd, .inl (c_wd, 4, .inl f_wd)), (h0, .inr (9, [.int (zI fa), .int (zI tc), .ref so, .ref sl, .ref ce, .int (zI fn), .ref kd, .ref wd, .ref hs, .ref pf, .ref lt, .int (zI mn), .ref wg, .int (zI ta), .long ck, .int (zI at9), .int (zI rfn), .ref rk, .ref rw, .ref rh, .int (zI u_cl_1), .ref sa, .ref fi, .int (zI u_bo_2), .ref ch, .ref cn, .int (zI jd), .int (zI (jr + 0)), .ref kp, .int (zI dn), .ref rfa])), (wg, .inl (c_wg, 24, .inl f_wg)), (sa, .inl (c_sa, 25, .inl u_f_sa_3)), (fi, .inl (c_fi, 24, .inl u_f_fi_4)), (hs, .inl (c_hs, 4, .inl f_hs)), (ch, .inl (c_ch, 96, .inl u_f_ch_5))] := hD
            refine lv_aload_n hx hb dX9_findBest_131 rfl (lv_at hl 5 rfl) ?_
            refine lv_dup hx hb dX9_findBest_132 rfl ?_
            refine va_get (D := D) (ci := 9) (v := .int (zI jd)) (C := RX9) (T := TX9) (N := 31) hx hb hts (fun _ h9 => List.mem_cons_of_mem _ (List.mem_append_right _ h9)) hown hK hP 4 rfl rfl 26 (by decide) (hts (.fieldLink RX9 158 "FontRunsModel" "advance" "I") mw_X9_findBest_0) (fun _ h9 => h9) rfl dX9_findBest_133 ?_
            refine lv_aload_n hx hb dX9_findBest_136 rfl (lv_at hl 5 rfl) ?_
            refine lv_aload_n hx hb dX9_findBest_137 rfl (lv_at hl 5 rfl) ?_
            refine va_get (D := D) (ci := 9) (v := .ref cn) (C := RX9) (T := TX9) (N := 31) hx hb hts (fun _ h9 => List.mem_cons_of_mem _ (List.mem_append_right _ h9)) hown hK hP 4 rfl rfl 25 (by decide) (hts (.fieldLink RX9 55 "FontRunsModel" "chosen" "[I") mw_X9_findBest_4) (fun _ h9 => h9) rfl dX9_findBest_138 ?_
            refine lv_iload_n hx hb dX9_findBest_141 rfl (lv_at hl 3 rfl) ?_
            refine kz_iald hx hb hK hP 0 5 rfl rfl (by omega) dX9_findBest_142 (fun z_36 rz_36 ez_36 => ?_)
            have q9 : z_28 = z_36 := (zI_eq rz_28 rz_36).mp (ez_28.symm.trans ez_36)
            subst q9
            refine k_callP (va_runV (As := [.int (zI z_28)]) (rest := [.int (zI jd), .ref h0]) ⟨hx, hb, hml, hown, hts⟩ (c_X9_stepOf l D H.size (f := z_28) (h0 := h0) (fa := fa) (tc := tc) (so := so) (sl := sl) (ce := ce) (fn := fn) (kd := kd) (wd := wd) (hs := hs) (pf := pf) (lt := lt) (mn := mn) (wg := wg) (ta := ta) (ck := ck) (at9 := at9) (rfn := rfn) (rk := rk) (rw := rw) (rh := rh) (cl := u_cl_1) (sa := sa) (fi := fi) (bo := u_bo_2) (ch := ch) (cn := cn) (ad := jd) (ru := (jr + 0)) (kp := kp) (dn := dn) (rfa := rfa) (c_kd := c_kd) (f_kd := f_kd) (c_wd := c_wd) (f_wd := f_wd) (by omega)) (cwV 1 hts gX9_findBest_X9_stepOf rfl rfl rfl (by decide +kernel) ⟨Nat.le_of_ble_eq_true rfl, Nat.le_of_ble_eq_true rfl⟩) (kPreV hP (kD0 hD) hK hN [4, 2, 3] [7, 8] ax_X9_findBest_6 rfl (by decide +kernel) 4 9 rfl rfl) rfl rfl hl.1 rfl (lv_room (Nat.le_of_ble_eq_true rfl)) dX9_findBest_143 ⟨Nat.le_of_ble_eq_true rfl, Nat.le_of_ble_eq_true rfl⟩) (fun z_37 rz_37 h_38 => ?_)
            refine kz_iadd hx hb dX9_findBest_146 ?_
            refine kz_any (fun z_39 rz_39 ez_39 => ?_)
            refine va_put (D := D) (ci := 9) (v := .int (zI z_39)) (ty := .int) (C := RX9) (T := TX9) (N := 31) hx hb hts (fun _ h9 => List.mem_cons_of_mem _ (List.mem_append_right _ h9)) tyX9 tyX9_ok nmX9 hown hK hP hD hS 4 rfl rfl 26 (by decide) (hts (.fieldLink RX9 158 "FontRunsModel" "advance" "I") mw_X9_findBest_0) (fun _ h9 => h9) rfl (by decide +kernel) rfl rfl (Nat.le_of_ble_eq_true rfl) dX9_findBest_147 (fun H locs hP hD hS => ?_)
            have hP : va_P D vwCl [(cn, .inl (c_cn, 24, .inl f_17)), (pf, .inl (c_pf, 4, .inl f_pf)), (kd, .inl (c_kd, 4, .inl f_kd)), (wd, .inl (c_wd, 4, .inl f_wd)), (h0, .inr (9, [.int (zI fa), .int (zI tc), .ref so, .ref sl, .ref ce, .int (zI fn), .ref kd, .ref wd, .ref hs, .ref pf, .ref lt, .int (zI mn), .ref wg, .int (zI ta), .long ck, .int (zI at9), .int (zI rfn), .ref rk, .ref rw, .ref rh, .int (zI u_cl_1), .ref sa, .ref fi, .int (zI u_bo_2), .ref ch, .ref cn, .int (zI z_39), .int (zI (jr + 0)), .ref kp, .int (zI dn), .ref rfa])), (wg, .inl (c_wg, 24, .inl f_wg)), (sa, .inl (c_sa, 25, .inl u_f_sa_3)), (fi, .inl (c_fi, 24, .inl u_f_fi_4)), (hs, .inl (c_hs, 4, .inl f_hs)), (ch, .inl (c_ch, 96, .inl u_f_ch_5))] H := hP
            have hD : va_D A [(cn, .inl (c_cn, 24, .inl f_17)), (pf, .inl (c_pf, 4, .inl f_pf)), (kd, .inl (c_kd, 4, .inl f_kd)), (wd, .inl (c_wd, 4, .inl f_wd)), (h0, .inr (9, [.int (zI fa), .int (zI tc), .ref so, .ref sl, .ref ce, .int (zI fn), .ref kd, .ref wd, .ref hs, .ref pf, .ref lt, .int (zI mn), .ref wg, .int (zI ta), .long ck, .int (zI at9), .int (zI rfn), .ref rk, .ref rw, .ref rh, .int (zI u_cl_1), .ref sa, .ref fi, .int (zI u_bo_2), .ref ch, .ref cn, .int (zI z_39), .int (zI (jr + 0)), .ref kp, .int (zI dn), .ref rfa])), (wg, .inl (c_wg, 24, .inl f_wg)), (sa, .inl (c_sa, 25, .inl u_f_sa_3)), (fi, .inl (c_fi, 24, .inl u_f_fi_4)), (hs, .inl (c_hs, 4, .inl f_hs)), (ch, .inl (c_ch, 96, .inl u_f_ch_5))] := hD
            refine lv_iinc (v := (zI (jc + 1))) (lv' := [(3, .int (zI (jc + 1))), (2, .int (zI (jl - 0))), (5, .int (zI 0)), (4, .int (zI jp)), (1, .int (zI z_6)), (0, .ref h0)]) hx hb dX9_findBest_150 hl (k := 3) rfl (kz_inc _ 1) (by decide) rfl (fun ls hl => ?_)
            refine lv_goto (tgt := 21) hx hb dX9_findBest_153 (by decide) ?_
            exact ih21 _ (by omega) _ _ _ ⟨(jl - 0), (jc + 1), z_39, (jr + 0), f_17, rfl, (by omega), (by omega), (by rw [kRn_next (by omega) c_18 ef_17 v_212, if_pos (by rw [ez_28, ez_29, c_30])]), (by omega), (by have q9 := c_15.2; rw [kIts_eq rz_29 nz_29 (by omega)] at q9; have g9 := h_10 jc z_14 (by omega) (by omega) (by omega) (by omega); have u1 := g9.1; have u2 := g9.2.1; omega), (kLeft_s h_10 (kFt_fit h_9 (by omega)) (by omega) (by omega) (by omega) ef_17 (by have q9 := c_15.2; rw [kIts_eq rz_29 nz_29 (by omega)] at q9; omega)), (kCn_s v_216 (by omega) (by omega) ef_17), hP, hD, hS, lv_sub hl [0, 1, 4, 5] rfl⟩
        · refine lv_iconst (v := zI 1) hx hb dX9_findBest_88 rfl ?_
          refine lv_goto (tgt := 93) hx hb dX9_findBest_89 (by decide) ?_
          refine lv_istore (lv' := [(5, .int (zI 1)), (4, .int (zI jp)), (3, .int (zI jc)), (2, .int (zI jl)), (1, .int (zI z_6)), (0, .ref h0)]) hx hb dX9_findBest_93 hl (by decide) rfl (fun ls hl => ?_)
          refine lv_iload_n hx hb dX9_findBest_95 rfl (lv_at hl 3 rfl) ?_
          refine lv_iload_n hx hb dX9_findBest_96 rfl (lv_at hl 2 rfl) ?_
          refine kz_if_le (tgt := 109) hx hb dX9_findBest_97 (by decide) (by omega) (fun c_40 => ?_) (fun c_40 => ?_)
          · refine lv_iconst (v := zI 0) hx hb dX9_findBest_109 rfl ?_
            refine kz_isub hx hb dX9_findBest_110 ?_
            refine lv_istore_n (lv' := [(2, .int (zI (jl - 0))), (5, .int (zI 1)), (4, .int (zI jp)), (3, .int (zI jc)), (1, .int (zI z_6)), (0, .ref h0)]) hx hb dX9_findBest_111 rfl hl (by decide) rfl (fun ls hl => ?_)
            refine lv_aload_n hx hb dX9_findBest_112 rfl (lv_at hl 5 rfl) ?_
            refine lv_dup hx hb dX9_findBest_113 rfl ?_
            refine va_get (D := D) (ci := 9) (v := .int (zI jr)) (C := RX9) (T := TX9) (N := 31) hx hb hts (fun _ h9 => List.mem_cons_of_mem _ (List.mem_append_right _ h9)) hown hK hP 4 rfl rfl 27 (by decide) (hts (.fieldLink RX9 161 "FontRunsModel" "runs" "I") mw_X9_findBest_1) (fun _ h9 => h9) rfl dX9_findBest_114 ?_
            refine lv_iload hx hb dX9_findBest_117 (lv_at hl 1 rfl) ?_
            refine kz_if_eq (tgt := 126) hx hb dX9_findBest_119 (by decide) (by omega) (fun c9 => by omega) (fun c9 => ?_)
            refine lv_iconst (v := zI 1) hx hb dX9_findBest_122 rfl ?_
            refine lv_goto (tgt := 127) hx hb dX9_findBest_123 (by decide) ?_
            refine kz_iadd hx hb dX9_findBest_127 ?_
            refine va_put (D := D) (ci := 9) (v := .int (zI (jr + 1))) (ty := .int) (C := RX9) (T := TX9) (N := 31) hx hb hts (fun _ h9 => List.mem_cons_of_mem _ (List.mem_append_right _ h9)) tyX9 tyX9_ok nmX9 hown hK hP hD hS 4 rfl rfl 27 (by decide) (hts (.fieldLink RX9 161 "FontRunsModel" "runs" "I") mw_X9_findBest_1) (fun _ h9 => h9) rfl (by decide +kernel) rfl rfl (Nat.le_of_ble_eq_true rfl) dX9_findBest_128 (fun H locs hP hD hS => ?_)
            have hP : va_P D vwCl [(cn, .inl (c_cn, 24, .inl f_17)), (pf, .inl (c_pf, 4, .inl f_pf)), (kd, .inl (c_kd, 4, .inl f_kd)), (wd, .inl (c_wd, 4, .inl f_wd)), (h0, .inr (9, [.int (zI fa), .int (zI tc), .ref so, .ref sl, .ref ce, .int (zI fn), .ref kd, .ref wd, .ref hs, .ref pf, .ref lt, .int (zI mn), .ref wg, .int (zI ta), .long ck, .int (zI at9), .int (zI rfn), .ref rk, .ref rw, .ref rh, .int (zI u_cl_1), .ref sa, .ref fi, .int (zI u_bo_2), .ref ch, .ref cn, .int (zI jd), .int (zI (jr + 1)), .ref kp, .int (zI dn), .ref rfa])), (wg, .inl (c_wg, 24, .inl f_wg)), (sa, .inl (c_sa, 25, .inl u_f_sa_3)), (fi, .inl (c_fi, 24, .inl u_f_fi_4)), (hs, .inl (c_hs, 4, .inl f_hs)), (ch, .inl (c_ch, 96, .inl u_f_ch_5))] H := hP
            have hD : va_D A [(cn, .inl (c_cn, 24, .inl f_17)), (pf, .inl (c_pf, 4, .inl f_pf)), (kd, .inl (c_kd, 4, .inl f_kd)), (wd, .inl (c_wd, 4, .inl f_wd)), (h0, .inr (9, [.int (zI fa), .int (zI tc), .ref so, .ref sl, .ref ce, .int (zI fn), .ref kd, .ref wd, .ref hs, .ref pf, .ref lt, .int (zI mn), .ref wg, .int (zI ta), .long ck, .int (zI at9), .int (zI rfn), .ref rk, .ref rw, .ref rh, .int (zI u_cl_1), .ref sa, .ref fi, .int (zI u_bo_2), .ref ch, .ref cn, .int (zI jd), .int (zI (jr + 1)), .ref kp, .int (zI dn), .ref rfa])), (wg, .inl (c_wg, 24, .inl f_wg)), (sa, .inl (c_sa, 25, .inl u_f_sa_3)), (fi, .inl (c_fi, 24, .inl u_f_fi_4)), (hs, .inl (c_hs, 4, .inl f_hs)), (ch, .inl (c_ch, 96, .inl u_f_ch_5))] := hD
            refine lv_aload_n hx hb dX9_findBest_131 rfl (lv_at hl 5 rfl) ?_
            refine lv_dup hx hb dX9_findBest_132 rfl ?_
            refine va_get (D := D) (ci := 9) (v := .int (zI jd)) (C := RX9) (T := TX9) (N := 31) hx hb hts (fun _ h9 => List.mem_cons_of_mem _ (List.mem_append_right _ h9)) hown hK hP 4 rfl rfl 26 (by decide) (hts (.fieldLink RX9 158 "FontRunsModel" "advance" "I") mw_X9_findBest_0) (fun _ h9 => h9) rfl dX9_findBest_133 ?_
            refine lv_aload_n hx hb dX9_findBest_136 rfl (lv_at hl 5 rfl) ?_
            refine lv_aload_n hx hb dX9_findBest_137 rfl (lv_at hl 5 rfl) ?_
            refine va_get (D := D) (ci := 9) (v := .ref cn) (C := RX9) (T := TX9) (N := 31) hx hb hts (fun _ h9 => List.mem_cons_of_mem _ (List.mem_append_right _ h9)) hown hK hP 4 rfl rfl 25 (by decide) (hts (.fieldLink RX9 55 "FontRunsModel" "chosen" "[I") mw_X9_findBest_4) (fun _ h9 => h9) rfl dX9_findBest_138 ?_
            refine lv_iload_n hx hb dX9_findBest_141 rfl (lv_at hl 3 rfl) ?_
            refine kz_iald hx hb hK hP 0 5 rfl rfl (by omega) dX9_findBest_142 (fun z_41 rz_41 ez_41 => ?_)
            have q9 : z_28 = z_41 := (zI_eq rz_28 rz_41).mp (ez_28.symm.trans ez_41)
            subst q9
            refine k_callP (va_runV (As := [.int (zI z_28)]) (rest := [.int (zI jd), .ref h0]) ⟨hx, hb, hml, hown, hts⟩ (c_X9_stepOf l D H.size (f := z_28) (h0 := h0) (fa := fa) (tc := tc) (so := so) (sl := sl) (ce := ce) (fn := fn) (kd := kd) (wd := wd) (hs := hs) (pf := pf) (lt := lt) (mn := mn) (wg := wg) (ta := ta) (ck := ck) (at9 := at9) (rfn := rfn) (rk := rk) (rw := rw) (rh := rh) (cl := u_cl_1) (sa := sa) (fi := fi) (bo := u_bo_2) (ch := ch) (cn := cn) (ad := jd) (ru := (jr + 1)) (kp := kp) (dn := dn) (rfa := rfa) (c_kd := c_kd) (f_kd := f_kd) (c_wd := c_wd) (f_wd := f_wd) (by omega)) (cwV 1 hts gX9_findBest_X9_stepOf rfl rfl rfl (by decide +kernel) ⟨Nat.le_of_ble_eq_true rfl, Nat.le_of_ble_eq_true rfl⟩) (kPreV hP (kD0 hD) hK hN [4, 2, 3] [7, 8] ax_X9_findBest_6 rfl (by decide +kernel) 4 9 rfl rfl) rfl rfl hl.1 rfl (lv_room (Nat.le_of_ble_eq_true rfl)) dX9_findBest_143 ⟨Nat.le_of_ble_eq_true rfl, Nat.le_of_ble_eq_true rfl⟩) (fun z_42 rz_42 h_43 => ?_)
            refine kz_iadd hx hb dX9_findBest_146 ?_
            refine kz_any (fun z_44 rz_44 ez_44 => ?_)
            refine va_put (D := D) (ci := 9) (v := .int (zI z_44)) (ty := .int) (C := RX9) (T := TX9) (N := 31) hx hb hts (fun _ h9 => List.mem_cons_of_mem _ (List.mem_append_right _ h9)) tyX9 tyX9_ok nmX9 hown hK hP hD hS 4 rfl rfl 26 (by decide) (hts (.fieldLink RX9 158 "FontRunsModel" "advance" "I") mw_X9_findBest_0) (fun _ h9 => h9) rfl (by decide +kernel) rfl rfl (Nat.le_of_ble_eq_true rfl) dX9_findBest_147 (fun H locs hP hD hS => ?_)
            have hP : va_P D vwCl [(cn, .inl (c_cn, 24, .inl f_17)), (pf, .inl (c_pf, 4, .inl f_pf)), (kd, .inl (c_kd, 4, .inl f_kd)), (wd, .inl (c_wd, 4, .inl f_wd)), (h0, .inr (9, [.int (zI fa), .int (zI tc), .ref so, .ref sl, .ref ce, .int (zI fn), .ref kd, .ref wd, .ref hs, .ref pf, .ref lt, .int (zI mn), .ref wg, .int (zI ta), .long ck, .int (zI at9), .int (zI rfn), .ref rk, .ref rw, .ref rh, .int (zI u_cl_1), .ref sa, .ref fi, .int (zI u_bo_2), .ref ch, .ref cn, .int (zI z_44), .int (zI (jr + 1)), .ref kp, .int (zI dn), .ref rfa])), (wg, .inl (c_wg, 24, .inl f_wg)), (sa, .inl (c_sa, 25, .inl u_f_sa_3)), (fi, .inl (c_fi, 24, .inl u_f_fi_4)), (hs, .inl (c_hs, 4, .inl f_hs)), (ch, .inl (c_ch, 96, .inl u_f_ch_5))] H := hP
            have hD : va_D A [(cn, .inl (c_cn, 24, .inl f_17)), (pf, .inl (c_pf, 4, .inl f_pf)), (kd, .inl (c_kd, 4, .inl f_kd)), (wd, .inl (c_wd, 4, .inl f_wd)), (h0, .inr (9, [.int (zI fa), .int (zI tc), .ref so, .ref sl, .ref ce, .int (zI fn), .ref kd, .ref wd, .ref hs, .ref pf, .ref lt, .int (zI mn), .ref wg, .int (zI ta), .long ck, .int (zI at9), .int (zI rfn), .ref rk, .ref rw, .ref rh, .int (zI u_cl_1), .ref sa, .ref fi, .int (zI u_bo_2), .ref ch, .ref cn, .int (zI z_44), .int (zI (jr + 1)), .ref kp, .int (zI dn), .ref rfa])), (wg, .inl (c_wg, 24, .inl f_wg)), (sa, .inl (c_sa, 25, .inl u_f_sa_3)), (fi, .inl (c_fi, 24, .inl u_f_fi_4)), (hs, .inl (c_hs, 4, .inl f_hs)), (ch, .inl (c_ch, 96, .inl u_f_ch_5))] := hD
            refine lv_iinc (v := (zI (jc + 1))) (lv' := [(3, .int (zI (jc + 1))), (2, .int (zI (jl - 0))), (5, .int (zI 1)), (4, .int (zI jp)), (1, .int (zI z_6)), (0, .ref h0)]) hx hb dX9_findBest_150 hl (k := 3) rfl (kz_inc _ 1) (by decide) rfl (fun ls hl => ?_)
            refine lv_goto (tgt := 21) hx hb dX9_findBest_153 (by decide) ?_
            exact ih21 _ (by omega) _ _ _ ⟨(jl - 0), (jc + 1), z_44, (jr + 1), f_17, rfl, (by omega), (by omega), (by rw [kRn_next (by omega) c_18 ef_17 v_212, if_neg (by rw [ez_28, ez_29, zI_eq rz_28 rz_29]; exact c_30)]), (by omega), (by have q9 := c_15.2; rw [kIts_ne (by omega) rz_29 nz_29 (by omega)] at q9; have g9 := h_10 jc z_14 (by omega) (by omega) (by omega) (by omega); have u1 := g9.1; have u2 := g9.2.1; omega), (kLeft_s h_10 (kFt_fit h_9 (by omega)) (by omega) (by omega) (by omega) ef_17 (by have q9 := c_15.2; rw [kIts_ne (by omega) rz_29 nz_29 (by omega)] at q9; omega)), (kCn_s v_216 (by omega) (by omega) ef_17), hP, hD, hS, lv_sub hl [0, 1, 4, 5] rfl⟩
          · refine lv_iload hx hb dX9_findBest_100 (lv_at hl 0 rfl) ?_
            refine kz_if_eq (tgt := 109) hx hb dX9_findBest_102 (by decide) (by omega) (fun c9 => by omega) (fun c9 => ?_)
            refine lv_iconst (v := zI 1) hx hb dX9_findBest_105 rfl ?_
            refine lv_goto (tgt := 110) hx hb dX9_findBest_106 (by decide) ?_
            refine kz_isub hx hb dX9_findBest_110 ?_
            refine lv_istore_n (lv' := [(2, .int (zI (jl - 1))), (5, .int (zI 1)), (4, .int (zI jp)), (3, .int (zI jc)), (1, .int (zI z_6)), (0, .ref h0)]) hx hb dX9_findBest_111 rfl hl (by decide) rfl (fun ls hl => ?_)
            refine lv_aload_n hx hb dX9_findBest_112 rfl (lv_at hl 5 rfl) ?_
            refine lv_dup hx hb dX9_findBest_113 rfl ?_
            refine va_get (D := D) (ci := 9) (v := .int (zI jr)) (C := RX9) (T := TX9) (N := 31) hx hb hts (fun _ h9 => List.mem_cons_of_mem _ (List.mem_append_right _ h9)) hown hK hP 4 rfl rfl 27 (by decide) (hts (.fieldLink RX9 161 "FontRunsModel" "runs" "I") mw_X9_findBest_1) (fun _ h9 => h9) rfl dX9_findBest_114 ?_
            refine lv_iload hx hb dX9_findBest_117 (lv_at hl 1 rfl) ?_
            refine kz_if_eq (tgt := 126) hx hb dX9_findBest_119 (by decide) (by omega) (fun c9 => by omega) (fun c9 => ?_)
            refine lv_iconst (v := zI 1) hx hb dX9_findBest_122 rfl ?_
            refine lv_goto (tgt := 127) hx hb dX9_findBest_123 (by decide) ?_
            refine kz_iadd hx hb dX9_findBest_127 ?_
            refine va_put (D := D) (ci := 9) (v := .int (zI (jr + 1))) (ty := .int) (C := RX9) (T := TX9) (N := 31) hx hb hts (fun _ h9 => List.mem_cons_of_mem _ (List.mem_append_right _ h9)) tyX9 tyX9_ok nmX9 hown hK hP hD hS 4 rfl rfl 27 (by decide) (hts (.fieldLink RX9 161 "FontRunsModel" "runs" "I") mw_X9_findBest_1) (fun _ h9 => h9) rfl (by decide +kernel) rfl rfl (Nat.le_of_ble_eq_true rfl) dX9_findBest_128 (fun H locs hP hD hS => ?_)
            have hP : va_P D vwCl [(cn, .inl (c_cn, 24, .inl f_17)), (pf, .inl (c_pf, 4, .inl f_pf)), (kd, .inl (c_kd, 4, .inl f_kd)), (wd, .inl (c_wd, 4, .inl f_wd)), (h0, .inr (9, [.int (zI fa), .int (zI tc), .ref so, .ref sl, .ref ce, .int (zI fn), .ref kd, .ref wd, .ref hs, .ref pf, .ref lt, .int (zI mn), .ref wg, .int (zI ta), .long ck, .int (zI at9), .int (zI rfn), .ref rk, .ref rw, .ref rh, .int (zI u_cl_1), .ref sa, .ref fi, .int (zI u_bo_2), .ref ch, .ref cn, .int (zI jd), .int (zI (jr + 1)), .ref kp, .int (zI dn), .ref rfa])), (wg, .inl (c_wg, 24, .inl f_wg)), (sa, .inl (c_sa, 25, .inl u_f_sa_3)), (fi, .inl (c_fi, 24, .inl u_f_fi_4)), (hs, .inl (c_hs, 4, .inl f_hs)), (ch, .inl (c_ch, 96, .inl u_f_ch_5))] H := hP
            have hD : va_D A [(cn, .inl (c_cn, 24, .inl f_17)), (pf, .inl (c_pf, 4, .inl f_pf)), (kd, .inl (c_kd, 4, .inl f_kd)), (wd, .inl (c_wd, 4, .inl f_wd)), (h0, .inr (9, [.int (zI fa), .int (zI tc), .ref so, .ref sl, .ref ce, .int (zI fn), .ref kd, .ref wd, .ref hs, .ref pf, .ref lt, .int (zI mn), .ref wg, .int (zI ta), .long ck, .int (zI at9), .int (zI rfn), .ref rk, .ref rw, .ref rh, .int (zI u_cl_1), .ref sa, .ref fi, .int (zI u_bo_2), .ref ch, .ref cn, .int (zI jd), .int (zI (jr + 1)), .ref kp, .int (zI dn), .ref rfa])), (wg, .inl (c_wg, 24, .inl f_wg)), (sa, .inl (c_sa, 25, .inl u_f_sa_3)), (fi, .inl (c_fi, 24, .inl u_f_fi_4)), (hs, .inl (c_hs, 4, .inl f_hs)), (ch, .inl (c_ch, 96, .inl u_f_ch_5))] := hD
            refine lv_aload_n hx hb dX9_findBest_131 rfl (lv_at hl 5 rfl) ?_
            refine lv_dup hx hb dX9_findBest_132 rfl ?_
            refine va_get (D := D) (ci := 9) (v := .int (zI jd)) (C := RX9) (T := TX9) (N := 31) hx hb hts (fun _ h9 => List.mem_cons_of_mem _ (List.mem_append_right _ h9)) hown hK hP 4 rfl rfl 26 (by decide) (hts (.fieldLink RX9 158 "FontRunsModel" "advance" "I") mw_X9_findBest_0) (fun _ h9 => h9) rfl dX9_findBest_133 ?_
            refine lv_aload_n hx hb dX9_findBest_136 rfl (lv_at hl 5 rfl) ?_
            refine lv_aload_n hx hb dX9_findBest_137 rfl (lv_at hl 5 rfl) ?_
            refine va_get (D := D) (ci := 9) (v := .ref cn) (C := RX9) (T := TX9) (N := 31) hx hb hts (fun _ h9 => List.mem_cons_of_mem _ (List.mem_append_right _ h9)) hown hK hP 4 rfl rfl 25 (by decide) (hts (.fieldLink RX9 55 "FontRunsModel" "chosen" "[I") mw_X9_findBest_4) (fun _ h9 => h9) rfl dX9_findBest_138 ?_
            refine lv_iload_n hx hb dX9_findBest_141 rfl (lv_at hl 3 rfl) ?_
            refine kz_iald hx hb hK hP 0 5 rfl rfl (by omega) dX9_findBest_142 (fun z_45 rz_45 ez_45 => ?_)
            have q9 : z_28 = z_45 := (zI_eq rz_28 rz_45).mp (ez_28.symm.trans ez_45)
            subst q9
            refine k_callP (va_runV (As := [.int (zI z_28)]) (rest := [.int (zI jd), .ref h0]) ⟨hx, hb, hml, hown, hts⟩ (c_X9_stepOf l D H.size (f := z_28) (h0 := h0) (fa := fa) (tc := tc) (so := so) (sl := sl) (ce := ce) (fn := fn) (kd := kd) (wd := wd) (hs := hs) (pf := pf) (lt := lt) (mn := mn) (wg := wg) (ta := ta) (ck := ck) (at9 := at9) (rfn := rfn) (rk := rk) (rw := rw) (rh := rh) (cl := u_cl_1) (sa := sa) (fi := fi) (bo := u_bo_2) (ch := ch) (cn := cn) (ad := jd) (ru := (jr + 1)) (kp := kp) (dn := dn) (rfa := rfa) (c_kd := c_kd) (f_kd := f_kd) (c_wd := c_wd) (f_wd := f_wd) (by omega)) (cwV 1 hts gX9_findBest_X9_stepOf rfl rfl rfl (by decide +kernel) ⟨Nat.le_of_ble_eq_true rfl, Nat.le_of_ble_eq_true rfl⟩) (kPreV hP (kD0 hD) hK hN [4, 2, 3] [7, 8] ax_X9_findBest_6 rfl (by decide +kernel) 4 9 rfl rfl) rfl rfl hl.1 rfl (lv_room (Nat.le_of_ble_eq_true rfl)) dX9_findBest_143 ⟨Nat.le_of_ble_eq_true rfl, Nat.le_of_ble_eq_true rfl⟩) (fun z_46 rz_46 h_47 => ?_)
            refine kz_iadd hx hb dX9_findBest_146 ?_
            refine kz_any (fun z_48 rz_48 ez_48 => ?_)
            refine va_put (D := D) (ci := 9) (v := .int (zI z_48)) (ty := .int) (C := RX9) (T := TX9) (N := 31) hx hb hts (fun _ h9 => List.mem_cons_of_mem _ (List.mem_append_right _ h9)) tyX9 tyX9_ok nmX9 hown hK hP hD hS 4 rfl rfl 26 (by decide) (hts (.fieldLink RX9 158 "FontRunsModel" "advance" "I") mw_X9_findBest_0) (fun _ h9 => h9) rfl (by decide +kernel) rfl rfl (Nat.le_of_ble_eq_true rfl) dX9_findBest_147 (fun H locs hP hD hS => ?_)
            have hP : va_P D vwCl [(cn, .inl (c_cn, 24, .inl f_17)), (pf, .inl (c_pf, 4, .inl f_pf)), (kd, .inl (c_kd, 4, .inl f_kd)), (wd, .inl (c_wd, 4, .inl f_wd)), (h0, .inr (9, [.int (zI fa), .int (zI tc), .ref so, .ref sl, .ref ce, .int (zI fn), .ref kd, .ref wd, .ref hs, .ref pf, .ref lt, .int (zI mn), .ref wg, .int (zI ta), .long ck, .int (zI at9), .int (zI rfn), .ref rk, .ref rw, .ref rh, .int (zI u_cl_1), .ref sa, .ref fi, .int (zI u_bo_2), .ref ch, .ref cn, .int (zI z_48), .int (zI (jr + 1)), .ref kp, .int (zI dn), .ref rfa])), (wg, .inl (c_wg, 24, .inl f_wg)), (sa, .inl (c_sa, 25, .inl u_f_sa_3)), (fi, .inl (c_fi, 24, .inl u_f_fi_4)), (hs, .inl (c_hs, 4, .inl f_hs)), (ch, .inl (c_ch, 96, .inl u_f_ch_5))] H := hP
            have hD : va_D A [(cn, .inl (c_cn, 24, .inl f_17)), (pf, .inl (c_pf, 4, .inl f_pf)), (kd, .inl (c_kd, 4, .inl f_kd)), (wd, .inl (c_wd, 4, .inl f_wd)), (h0, .inr (9, [.int (zI fa), .int (zI tc), .ref so, .ref sl, .ref ce, .int (zI fn), .ref kd, .ref wd, .ref hs, .ref pf, .ref lt, .int (zI mn), .ref wg, .int (zI ta), .long ck, .int (zI at9), .int (zI rfn), .ref rk, .ref rw, .ref rh, .int (zI u_cl_1), .ref sa, .ref fi, .int (zI u_bo_2), .ref ch, .ref cn, .int (zI z_48), .int (zI (jr + 1)), .ref kp, .int (zI dn), .ref rfa])), (wg, .inl (c_wg, 24, .inl f_wg)), (sa, .inl (c_sa, 25, .inl u_f_sa_3)), (fi, .inl (c_fi, 24, .inl u_f_fi_4)), (hs, .inl (c_hs, 4, .inl f_hs)), (ch, .inl (c_ch, 96, .inl u_f_ch_5))] := hD
            refine lv_iinc (v := (zI (jc + 1))) (lv' := [(3, .int (zI (jc + 1))), (2, .int (zI (jl - 1))), (5, .int (zI 1)), (4, .int (zI jp)), (1, .int (zI z_6)), (0, .ref h0)]) hx hb dX9_findBest_150 hl (k := 3) rfl (kz_inc _ 1) (by decide) rfl (fun ls hl => ?_)
            refine lv_goto (tgt := 21) hx hb dX9_findBest_153 (by decide) ?_
            exact ih21 _ (by omega) _ _ _ ⟨(jl - 1), (jc + 1), z_48, (jr + 1), f_17, rfl, (by omega), (by omega), (by rw [kRn_next (by omega) c_18 ef_17 v_212, if_neg (by rw [ez_28, ez_29, zI_eq rz_28 rz_29]; exact c_30)]), (by omega), (by have q9 := c_15.2; rw [kIts_ne (by omega) rz_29 nz_29 (by omega)] at q9; have g9 := h_10 jc z_14 (by omega) (by omega) (by omega) (by omega); have u1 := g9.1; have u2 := g9.2.1; omega), (kLeft_s h_10 (kFt_fit h_9 (by omega)) (by omega) (by omega) (by omega) ef_17 (by have q9 := c_15.2; rw [kIts_ne (by omega) rz_29 nz_29 (by omega)] at q9; omega)), (kCn_s v_216 (by omega) (by omega) ef_17), hP, hD, hS, lv_sub hl [0, 1, 4, 5] rfl⟩
    · have c_15 : ¬ (kIsB u_f_ch_5 u_f_fi_4 ja jc z_14 jl) := b01f c_15
      refine lv_iinc (v := (zI (jp + 1))) (lv' := [(4, .int (zI (jp + 1))), (3, .int (zI jc)), (2, .int (zI jl)), (1, .int (zI z_6)), (0, .ref h0)]) hx hb dX9_findBest_48 hl (k := 0) rfl (kz_inc _ 1) (by decide) rfl (fun ls hl => ?_)
      refine lv_goto (tgt := 32) hx hb dX9_findBest_51 (by decide) ?_
      exact ih32 _ (by omega) _ _ _ ⟨(jp + 1), rfl, (kBp_1 v_320 (by omega) rz_14 ez_14 c_15), hP, hD, hS, lv_sub hl [0, 1, 2, 3, 4] rfl⟩
