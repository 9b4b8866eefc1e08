theorem dX9_write_0 : decode cX9_write 0 = .ok (.aload_n 0, 1) := by decide +kernel
theorem dX9_write_1 : decode cX9_write 1 = .ok (.iconst 0, 1) := by decide +kernel
theorem dX9_write_2 : decode cX9_write 2 = .ok (.putfield 64, 3) := by decide +kernel
theorem dX9_write_5 : decode cX9_write 5 = .ok (.iload_n 1, 1) := by decide +kernel
theorem dX9_write_6 : decode cX9_write 6 = .ok (.invokestatic 80, 3) := by decide +kernel
theorem dX9_write_9 : decode cX9_write 9 = .ok (.ifCond .ne 5, 3) := by decide +kernel
theorem dX9_write_12 : decode cX9_write 12 = .ok (.iconst (-1), 1) := by decide +kernel
theorem dX9_write_13 : decode cX9_write 13 = .ok (.ireturn, 1) := by decide +kernel
theorem dX9_write_14 : decode cX9_write 14 = .ok (.iload_n 2, 1) := by decide +kernel
theorem dX9_write_15 : decode cX9_write 15 = .ok (.invokestatic 84, 3) := by decide +kernel
theorem dX9_write_18 : decode cX9_write 18 = .ok (.ifCond .eq 14, 3) := by decide +kernel
theorem dX9_write_21 : decode cX9_write 21 = .ok (.iload 4, 2) := by decide +kernel
theorem dX9_write_23 : decode cX9_write 23 = .ok (.iconst 0, 1) := by decide +kernel
theorem dX9_write_24 : decode cX9_write 24 = .ok (.bipush 24, 2) := by decide +kernel
theorem dX9_write_26 : decode cX9_write 26 = .ok (.invokestatic 70, 3) := by decide +kernel
theorem dX9_write_29 : decode cX9_write 29 = .ok (.ifCond .ne 6, 3) := by decide +kernel
theorem dX9_write_32 : decode cX9_write 32 = .ok (.bipush (-2), 2) := by decide +kernel
theorem dX9_write_34 : decode cX9_write 34 = .ok (.ireturn, 1) := by decide +kernel
theorem dX9_write_35 : decode cX9_write 35 = .ok (.aload_n 0, 1) := by decide +kernel
theorem dX9_write_36 : decode cX9_write 36 = .ok (.iload_n 1, 1) := by decide +kernel
theorem dX9_write_37 : decode cX9_write 37 = .ok (.iload_n 2, 1) := by decide +kernel
theorem dX9_write_38 : decode cX9_write 38 = .ok (.iload_n 3, 1) := by decide +kernel
theorem dX9_write_39 : decode cX9_write 39 = .ok (.iload 4, 2) := by decide +kernel
theorem dX9_write_41 : decode cX9_write 41 = .ok (.invokevirtual 87, 3) := by decide +kernel
theorem dX9_write_44 : decode cX9_write 44 = .ok (.istore 5, 2) := by decide +kernel
theorem dX9_write_46 : decode cX9_write 46 = .ok (.iload 5, 2) := by decide +kernel
theorem dX9_write_48 : decode cX9_write 48 = .ok (.ifCond .eq 10, 3) := by decide +kernel
theorem dX9_write_51 : decode cX9_write 51 = .ok (.aload_n 0, 1) := by decide +kernel
theorem dX9_write_52 : decode cX9_write 52 = .ok (.iload 5, 2) := by decide +kernel
theorem dX9_write_54 : decode cX9_write 54 = .ok (.invokevirtual 91, 3) := by decide +kernel
theorem dX9_write_57 : decode cX9_write 57 = .ok (.ireturn, 1) := by decide +kernel
theorem dX9_write_58 : decode cX9_write 58 = .ok (.aload_n 0, 1) := by decide +kernel
theorem dX9_write_59 : decode cX9_write 59 = .ok (.getfield 74, 3) := by decide +kernel
theorem dX9_write_62 : decode cX9_write 62 = .ok (.ifCond .ne 6, 3) := by decide +kernel
theorem dX9_write_65 : decode cX9_write 65 = .ok (.bipush (-3), 2) := by decide +kernel
theorem dX9_write_67 : decode cX9_write 67 = .ok (.ireturn, 1) := by decide +kernel
theorem dX9_write_68 : decode cX9_write 68 = .ok (.bipush 60, 2) := by decide +kernel
theorem dX9_write_70 : decode cX9_write 70 = .ok (.iload_n 1, 1) := by decide +kernel
theorem dX9_write_71 : decode cX9_write 71 = .ok (.imul, 1) := by decide +kernel
theorem dX9_write_72 : decode cX9_write 72 = .ok (.iload_n 3, 1) := by decide +kernel
theorem dX9_write_73 : decode cX9_write 73 = .ok (.iadd, 1) := by decide +kernel
theorem dX9_write_74 : decode cX9_write 74 = .ok (.istore 6, 2) := by decide +kernel
theorem dX9_write_76 : decode cX9_write 76 = .ok (.iconst 0, 1) := by decide +kernel
theorem dX9_write_77 : decode cX9_write 77 = .ok (.istore 7, 2) := by decide +kernel
theorem dX9_write_79 : decode cX9_write 79 = .ok (.iload 7, 2) := by decide +kernel
theorem dX9_write_81 : decode cX9_write 81 = .ok (.iload 4, 2) := by decide +kernel
theorem dX9_write_83 : decode cX9_write 83 = .ok (.if_icmp .ge 31, 3) := by decide +kernel
theorem dX9_write_86 : decode cX9_write 86 = .ok (.aload_n 0, 1) := by decide +kernel
theorem dX9_write_87 : decode cX9_write 87 = .ok (.getfield 16, 3) := by decide +kernel
theorem dX9_write_90 : decode cX9_write 90 = .ok (.iload 6, 2) := by decide +kernel
theorem dX9_write_92 : decode cX9_write 92 = .ok (.iload 7, 2) := by decide +kernel
theorem dX9_write_94 : decode cX9_write 94 = .ok (.iadd, 1) := by decide +kernel
theorem dX9_write_95 : decode cX9_write 95 = .ok (.iaload, 1) := by decide +kernel
theorem dX9_write_96 : decode cX9_write 96 = .ok (.iconst 0, 1) := by decide +kernel
theorem dX9_write_97 : decode cX9_write 97 = .ok (.bipush 15, 2) := by decide +kernel
theorem dX9_write_99 : decode cX9_write 99 = .ok (.invokestatic 70, 3) := by decide +kernel
theorem dX9_write_102 : decode cX9_write 102 = .ok (.ifCond .ne 6, 3) := by decide +kernel
theorem dX9_write_105 : decode cX9_write 105 = .ok (.bipush (-2), 2) := by decide +kernel
theorem dX9_write_107 : decode cX9_write 107 = .ok (.ireturn, 1) := by decide +kernel
theorem dX9_write_108 : decode cX9_write 108 = .ok (.iinc 7 1, 3) := by decide +kernel
theorem dX9_write_111 : decode cX9_write 111 = .ok (.goto (-32), 3) := by decide +kernel
theorem dX9_write_114 : decode cX9_write 114 = .ok (.aload_n 0, 1) := by decide +kernel
theorem dX9_write_115 : decode cX9_write 115 = .ok (.getfield 101, 3) := by decide +kernel
theorem dX9_write_118 : decode cX9_write 118 = .ok (.iload 4, 2) := by decide +kernel
theorem dX9_write_120 : decode cX9_write 120 = .ok (.iadd, 1) := by decide +kernel
theorem dX9_write_121 : decode cX9_write 121 = .ok (.bipush 24, 2) := by decide +kernel
theorem dX9_write_123 : decode cX9_write 123 = .ok (.if_icmp .le 6, 3) := by decide +kernel
theorem dX9_write_126 : decode cX9_write 126 = .ok (.bipush (-4), 2) := by decide +kernel
theorem dX9_write_128 : decode cX9_write 128 = .ok (.ireturn, 1) := by decide +kernel
theorem dX9_write_129 : decode cX9_write 129 = .ok (.iconst 0, 1) := by decide +kernel
theorem dX9_write_130 : decode cX9_write 130 = .ok (.istore 7, 2) := by decide +kernel
theorem dX9_write_132 : decode cX9_write 132 = .ok (.iload 7, 2) := by decide +kernel
theorem dX9_write_134 : decode cX9_write 134 = .ok (.iload 4, 2) := by decide +kernel
theorem dX9_write_136 : decode cX9_write 136 = .ok (.if_icmp .ge 74, 3) := by decide +kernel
theorem dX9_write_139 : decode cX9_write 139 = .ok (.aload_n 0, 1) := by decide +kernel
theorem dX9_write_140 : decode cX9_write 140 = .ok (.getfield 34, 3) := by decide +kernel
theorem dX9_write_143 : decode cX9_write 143 = .ok (.aload_n 0, 1) := by decide +kernel
theorem dX9_write_144 : decode cX9_write 144 = .ok (.getfield 101, 3) := by decide +kernel
theorem dX9_write_147 : decode cX9_write 147 = .ok (.aload_n 0, 1) := by decide +kernel
theorem dX9_write_148 : decode cX9_write 148 = .ok (.getfield 16, 3) := by decide +kernel
theorem dX9_write_151 : decode cX9_write 151 = .ok (.iload 6, 2) := by decide +kernel
theorem dX9_write_153 : decode cX9_write 153 = .ok (.iload 7, 2) := by decide +kernel
theorem dX9_write_155 : decode cX9_write 155 = .ok (.iadd, 1) := by decide +kernel
theorem dX9_write_156 : decode cX9_write 156 = .ok (.iaload, 1) := by decide +kernel
theorem dX9_write_157 : decode cX9_write 157 = .ok (.iastore, 1) := by decide +kernel
theorem dX9_write_158 : decode cX9_write 158 = .ok (.aload_n 0, 1) := by decide +kernel
theorem dX9_write_159 : decode cX9_write 159 = .ok (.dup, 1) := by decide +kernel
theorem dX9_write_160 : decode cX9_write 160 = .ok (.getfield 101, 3) := by decide +kernel
theorem dX9_write_163 : decode cX9_write 163 = .ok (.iconst 1, 1) := by decide +kernel
theorem dX9_write_164 : decode cX9_write 164 = .ok (.iadd, 1) := by decide +kernel
theorem dX9_write_165 : decode cX9_write 165 = .ok (.putfield 101, 3) := by decide +kernel
theorem dX9_write_168 : decode cX9_write 168 = .ok (.aload_n 0, 1) := by decide +kernel
theorem dX9_write_169 : decode cX9_write 169 = .ok (.dup, 1) := by decide +kernel
theorem dX9_write_170 : decode cX9_write 170 = .ok (.getfield 129, 3) := by decide +kernel
theorem dX9_write_173 : decode cX9_write 173 = .ok (.iconst 1, 1) := by decide +kernel
theorem dX9_write_174 : decode cX9_write 174 = .ok (.iadd, 1) := by decide +kernel
theorem dX9_write_175 : decode cX9_write 175 = .ok (.putfield 129, 3) := by decide +kernel
theorem dX9_write_178 : decode cX9_write 178 = .ok (.aload_n 0, 1) := by decide +kernel
theorem dX9_write_179 : decode cX9_write 179 = .ok (.ldc2_w 132, 3) := by decide +kernel
theorem dX9_write_182 : decode cX9_write 182 = .ok (.aload_n 0, 1) := by decide +kernel
theorem dX9_write_183 : decode cX9_write 183 = .ok (.getfield 134, 3) := by decide +kernel
theorem dX9_write_186 : decode cX9_write 186 = .ok (.lmul, 1) := by decide +kernel
theorem dX9_write_187 : decode cX9_write 187 = .ok (.aload_n 0, 1) := by decide +kernel
theorem dX9_write_188 : decode cX9_write 188 = .ok (.getfield 16, 3) := by decide +kernel
theorem dX9_write_191 : decode cX9_write 191 = .ok (.iload 6, 2) := by decide +kernel
theorem dX9_write_193 : decode cX9_write 193 = .ok (.iload 7, 2) := by decide +kernel
theorem dX9_write_195 : decode cX9_write 195 = .ok (.iadd, 1) := by decide +kernel
theorem dX9_write_196 : decode cX9_write 196 = .ok (.iaload, 1) := by decide +kernel
theorem dX9_write_197 : decode cX9_write 197 = .ok (.i2l, 1) := by decide +kernel
theorem dX9_write_198 : decode cX9_write 198 = .ok (.ladd, 1) := by decide +kernel
theorem dX9_write_199 : decode cX9_write 199 = .ok (.lconst 1, 1) := by decide +kernel
theorem dX9_write_200 : decode cX9_write 200 = .ok (.ladd, 1) := by decide +kernel
theorem dX9_write_201 : decode cX9_write 201 = .ok (.putfield 134, 3) := by decide +kernel
theorem dX9_write_204 : decode cX9_write 204 = .ok (.iinc 7 1, 3) := by decide +kernel
theorem dX9_write_207 : decode cX9_write 207 = .ok (.goto (-75), 3) := by decide +kernel
theorem dX9_write_210 : decode cX9_write 210 = .ok (.aload_n 0, 1) := by decide +kernel
theorem dX9_write_211 : decode cX9_write 211 = .ok (.getfield 101, 3) := by decide +kernel
theorem dX9_write_214 : decode cX9_write 214 = .ok (.ireturn, 1) := by decide +kernel
set_option maxRecDepth 20000 in
theorem ggX9_write_X9_against : GoodIn wsX9_write wsX9_against := goodIn_4 _ (List.forall_mem_cons.mpr ⟨List.mem_cons_of_mem _ (List.mem_append_left _ (List.mem_append_left _ (List.mem_of_getElem? (i := 21) rfl))), List.forall_mem_append.mpr ⟨List.forall_mem_cons.mpr ⟨List.mem_cons_of_mem _ (List.mem_append_left _ (List.mem_append_left _ (List.mem_of_getElem? (i := 22) rfl))), List.forall_mem_cons.mpr ⟨List.mem_cons_of_mem _ (List.mem_append_left _ (List.mem_append_left _ (List.mem_of_getElem? (i := 23) rfl))), fun _ h9 => absurd h9 List.not_mem_nil⟩⟩, fun w h9 => List.mem_cons_of_mem _ (List.mem_append_right _ (h9))⟩⟩) (by decide +kernel)
set_option maxRecDepth 20000 in
theorem gX9_write_X9_against : GoodIn wsX9_write (wsV RX9 87 RX9 yX9_against wsX9_against) := goodIn_app (goodIn_4 _ (List.forall_mem_cons.mpr ⟨List.mem_cons_of_mem _ (List.mem_append_left _ (List.mem_append_left _ (List.mem_of_getElem? (i := 18) rfl))), List.forall_mem_cons.mpr ⟨List.mem_cons_of_mem _ (List.mem_append_left _ (List.mem_append_left _ (List.mem_of_getElem? (i := 19) rfl))), List.forall_mem_cons.mpr ⟨List.mem_cons_of_mem _ (List.mem_append_left _ (List.mem_append_left _ (List.mem_of_getElem? (i := 20) rfl))), List.forall_mem_cons.mpr ⟨List.mem_cons_of_mem _ (List.mem_append_left _ (List.mem_append_left _ (List.mem_of_getElem? (i := 10) rfl))), fun _ h9 => absurd h9 List.not_mem_nil⟩⟩⟩⟩) (by decide +kernel)) ggX9_write_X9_against
set_option maxRecDepth 20000 in
theorem ggX9_write_X9_fails : GoodIn wsX9_write wsX9_fails := goodIn_4 _ (List.forall_mem_cons.mpr ⟨List.mem_cons_of_mem _ (List.mem_append_left _ (List.mem_append_right _ (List.mem_of_getElem? (i := 3) rfl))), List.forall_mem_append.mpr ⟨List.forall_mem_cons.mpr ⟨List.mem_cons_of_mem _ (List.mem_append_left _ (List.mem_append_left _ (List.mem_of_getElem? (i := 0) rfl))), fun _ h9 => absurd h9 List.not_mem_nil⟩, fun w h9 => List.mem_cons_of_mem _ (List.mem_append_right _ (h9))⟩⟩) (by decide +kernel)
set_option maxRecDepth 20000 in
theorem gX9_write_X9_fails : GoodIn wsX9_write (wsV RX9 91 RX9 yX9_fails wsX9_fails) := goodIn_app (goodIn_4 _ (List.forall_mem_cons.mpr ⟨List.mem_cons_of_mem _ (List.mem_append_left _ (List.mem_append_right _ (List.mem_of_getElem? (i := 0) rfl))), List.forall_mem_cons.mpr ⟨List.mem_cons_of_mem _ (List.mem_append_left _ (List.mem_append_right _ (List.mem_of_getElem? (i := 1) rfl))), List.forall_mem_cons.mpr ⟨List.mem_cons_of_mem _ (List.mem_append_left _ (List.mem_append_right _ (List.mem_of_getElem? (i := 2) rfl))), List.forall_mem_cons.mpr ⟨List.mem_cons_of_mem _ (List.mem_append_left _ (List.mem_append_left _ (List.mem_of_getElem? (i := 10) rfl))), fun _ h9 => absurd h9 List.not_mem_nil⟩⟩⟩⟩) (by decide +kernel)) ggX9_write_X9_fails
set_option maxRecDepth 20000 in
theorem ggX9_write_X9_isSheet : GoodIn wsX9_write wsX9_isSheet := goodIn_4 _ (List.forall_mem_cons.mpr ⟨List.mem_cons_of_mem _ (List.mem_append_left _ (List.mem_append_left _ (List.mem_of_getElem? (i := 11) rfl))), List.forall_mem_cons.mpr ⟨List.mem_cons_of_mem _ (List.mem_append_left _ (List.mem_append_left _ (List.mem_of_getElem? (i := 12) rfl))), List.forall_mem_cons.mpr ⟨List.mem_cons_of_mem _ (List.mem_append_left _ (List.mem_append_left _ (List.mem_of_getElem? (i := 13) rfl))), List.forall_mem_cons.mpr ⟨List.mem_cons_of_mem _ (List.mem_append_left _ (List.mem_append_left _ (List.mem_of_getElem? (i := 10) rfl))), List.forall_mem_cons.mpr ⟨List.mem_cons_of_mem _ (List.mem_append_left _ (List.mem_append_left _ (List.mem_of_getElem? (i := 14) rfl))), fun _ h9 => absurd h9 List.not_mem_nil⟩⟩⟩⟩⟩) (by decide +kernel)
set_option maxRecDepth 20000 in
theorem gX9_write_X9_isSheet : GoodIn wsX9_write (va_wsS RX9 80 yX9_isSheet wsX9_isSheet) := goodIn_app (goodIn_4 _ (List.forall_mem_cons.mpr ⟨List.mem_cons_of_mem _ (List.mem_append_left _ (List.mem_append_left _ (List.mem_of_getElem? (i := 8) rfl))), List.forall_mem_cons.mpr ⟨List.mem_cons_of_mem _ (List.mem_append_left _ (List.mem_append_left _ (List.mem_of_getElem? (i := 9) rfl))), List.forall_mem_cons.mpr ⟨List.mem_cons_of_mem _ (List.mem_append_left _ (List.mem_append_left _ (List.mem_of_getElem? (i := 10) rfl))), fun _ h9 => absurd h9 List.not_mem_nil⟩⟩⟩) (by decide +kernel)) ggX9_write_X9_isSheet
set_option maxRecDepth 20000 in
theorem ggX9_write_X9_isSort : GoodIn wsX9_write wsX9_isSort := goodIn_4 _ (List.forall_mem_cons.mpr ⟨List.mem_cons_of_mem _ (List.mem_append_left _ (List.mem_append_left _ (List.mem_of_getElem? (i := 17) rfl))), List.forall_mem_cons.mpr ⟨List.mem_cons_of_mem _ (List.mem_append_left _ (List.mem_append_left _ (List.mem_of_getElem? (i := 12) rfl))), List.forall_mem_cons.mpr ⟨List.mem_cons_of_mem _ (List.mem_append_left _ (List.mem_append_left _ (List.mem_of_getElem? (i := 13) rfl))), List.forall_mem_cons.mpr ⟨List.mem_cons_of_mem _ (List.mem_append_left _ (List.mem_append_left _ (List.mem_of_getElem? (i := 10) rfl))), List.forall_mem_cons.mpr ⟨List.mem_cons_of_mem _ (List.mem_append_left _ (List.mem_append_left _ (List.mem_of_getElem? (i := 14) rfl))), fun _ h9 => absurd h9 List.not_mem_nil⟩⟩⟩⟩⟩) (by decide +kernel)
set_option maxRecDepth 20000 in
theorem gX9_write_X9_isSort : GoodIn wsX9_write (va_wsS RX9 84 yX9_isSort wsX9_isSort) := goodIn_app (goodIn_4 _ (List.forall_mem_cons.mpr ⟨List.mem_cons_of_mem _ (List.mem_append_left _ (List.mem_append_left _ (List.mem_of_getElem? (i := 15) rfl))), List.forall_mem_cons.mpr ⟨List.mem_cons_of_mem _ (List.mem_append_left _ (List.mem_append_left _ (List.mem_of_getElem? (i := 16) rfl))), List.forall_mem_cons.mpr ⟨List.mem_cons_of_mem _ (List.mem_append_left _ (List.mem_append_left _ (List.mem_of_getElem? (i := 10) rfl))), fun _ h9 => absurd h9 List.not_mem_nil⟩⟩⟩) (by decide +kernel)) ggX9_write_X9_isSort
set_option maxRecDepth 20000 in
theorem ggX9_write_X9_within : GoodIn wsX9_write wsX9_within := goodIn_4 _ (List.forall_mem_cons.mpr ⟨List.mem_cons_of_mem _ (List.mem_append_left _ (List.mem_append_left _ (List.mem_of_getElem? (i := 14) rfl))), fun _ h9 => absurd h9 List.not_mem_nil⟩) (by decide +kernel)
set_option maxRecDepth 20000 in
theorem gX9_write_X9_within : GoodIn wsX9_write (va_wsS RX9 70 yX9_within wsX9_within) := goodIn_app (goodIn_4 _ (List.forall_mem_cons.mpr ⟨List.mem_cons_of_mem _ (List.mem_append_left _ (List.mem_append_left _ (List.mem_of_getElem? (i := 12) rfl))), List.forall_mem_cons.mpr ⟨List.mem_cons_of_mem _ (List.mem_append_left _ (List.mem_append_left _ (List.mem_of_getElem? (i := 13) rfl))), List.forall_mem_cons.mpr ⟨List.mem_cons_of_mem _ (List.mem_append_left _ (List.mem_append_left _ (List.mem_of_getElem? (i := 10) rfl))), fun _ h9 => absurd h9 List.not_mem_nil⟩⟩⟩) (by decide +kernel)) ggX9_write_X9_within
set_option maxRecDepth 20000 in
theorem mw_X9_write_0 : (.fieldLink RX9 64 "FontRunsModel" "fault" "I" : Cond) ∈ wsX9_write := List.mem_cons_of_mem _ (List.mem_append_left _ (List.mem_append_left _ (List.mem_of_getElem? (i := 0) rfl)))
set_option maxRecDepth 20000 in
theorem mw_X9_write_1 : (.fieldLink RX9 74 "FontRunsModel" "fonts" "I" : Cond) ∈ wsX9_write := List.mem_cons_of_mem _ (List.mem_append_left _ (List.mem_append_left _ (List.mem_of_getElem? (i := 1) rfl)))
set_option maxRecDepth 20000 in
theorem mw_X9_write_2 : (.fieldLink RX9 101 "FontRunsModel" "many" "I" : Cond) ∈ wsX9_write := List.mem_cons_of_mem _ (List.mem_append_left _ (List.mem_append_left _ (List.mem_of_getElem? (i := 3) rfl)))
set_option maxRecDepth 20000 in
theorem mw_X9_write_3 : (.fieldLink RX9 34 "FontRunsModel" "writing" "[I" : Cond) ∈ wsX9_write := List.mem_cons_of_mem _ (List.mem_append_left _ (List.mem_append_left _ (List.mem_of_getElem? (i := 4) rfl)))
set_option maxRecDepth 20000 in
theorem mw_X9_write_4 : (.fieldLink RX9 16 "FontRunsModel" "cells" "[I" : Cond) ∈ wsX9_write := List.mem_cons_of_mem _ (List.mem_append_left _ (List.mem_append_left _ (List.mem_of_getElem? (i := 2) rfl)))
set_option maxRecDepth 20000 in
theorem mw_X9_write_5 : (.fieldLink RX9 129 "FontRunsModel" "tally" "I" : Cond) ∈ wsX9_write := List.mem_cons_of_mem _ (List.mem_append_left _ (List.mem_append_left _ (List.mem_of_getElem? (i := 5) rfl)))
set_option maxRecDepth 20000 in
theorem mw_X9_write_6 : (.constantLong RX9 132 (31) : Cond) ∈ wsX9_write := List.mem_cons_of_mem _ (List.mem_append_left _ (List.mem_append_left _ (List.mem_of_getElem? (i := 6) rfl)))
set_option maxRecDepth 20000 in
theorem mw_X9_write_7 : (.fieldLink RX9 134 "FontRunsModel" "check" "J" : Cond) ∈ wsX9_write := List.mem_cons_of_mem _ (List.mem_append_left _ (List.mem_append_left _ (List.mem_of_getElem? (i := 7) rfl)))
theorem ax_X9_write_0 {e0 e1 e2 e3 e4 : Nat × va_E} : ([] : List Nat).map (fun i => ([e0, e1, e2, e3, e4] : va_W)[i]?) = ([] : va_W).map some := rfl
theorem ax_X9_write_1 {e0 e1 e2 e3 e4 : Nat × va_E} : ([0, 1, 2, 3, 4] : List Nat).map (fun i => ([e0, e1, e2, e3, e4] : va_W)[i]?) = ([e0, e1, e2, e3, e4] : va_W).map some := rfl
theorem ax_X9_write_2 {e0 e1 e2 e3 e4 : Nat × va_E} : ([0, 1, 2] : List Nat).map (fun i => ([e0, e1, e2, e3, e4] : va_W)[i]?) = ([e0, e1, e2] : va_W).map some := rfl
theorem ax_X9_write_3 {e0 e1 e2 e3 e4 : Nat × va_E} : ([0] : List Nat).map (fun i => ([e0, e1, e2, e3, e4] : va_W)[i]?) = ([e0] : va_W).map some := rfl
theorem ax_X9_write_4 {e0 e1 e2 e3 e4 : Nat × va_E} : ([1, 2, 3, 4] : List Nat).map (fun i => ([e0, e1, e2, e3, e4] : va_W)[i]?) = ([e1, e2, e3, e4] : va_W).map some := rfl
theorem ax_X9_write_5 {D : va_G} {cl : List vw_C} {H : Heap} {e0 e1 e2 e3 f0 : Nat × va_E} (h : va_P D cl ((([e0, e1, e2, e3] : va_W) ++ ([f0] : va_W))) H) : va_P D cl (([e0, e1, e2, e3, f0] : va_W)) H := h
theorem ax_X9_write_6 {A : Nat → Prop} {e0 e1 e2 e3 f0 : Nat × va_E} (h : va_D A ((([e0, e1, e2, e3] : va_W) ++ ([f0] : va_W)))) : va_D A (([e0, e1, e2, e3, f0] : va_W)) := h
theorem ax_X9_write_7 {e0 e1 e2 e3 e4 : Nat × va_E} : ([4, 0, 1, 2, 3] : List Nat).map (fun i => ([e0, e1, e2, e3, e4] : va_W)[i]?) = ([e4, e0, e1, e2, e3] : va_W).map some := rfl
set_option maxHeartbeats 4000000 in
set_option maxRecDepth 100000 in
theorem c_X9_write (l : Launch) (D : va_G) (sz : Nat) (k : Int) (y : Int) (i : Int) (z : Int) (h0 : Nat) (fa : Int) (tc : Int) (so : Nat) (sl : Nat) (ce : Nat) (fn : Int) (kd : Nat) (wd : Nat) (hs : Nat) (pf : Nat) (lt : Nat) (mn : Int) (wg : Nat) (ta : Int) (ck : Int64) (at9 : Int) (rfn : Int) (rk : Nat) (rw : Nat) (rh : Nat) (cl : Int) (sa : Nat) (fi : Nat) (bo : Int) (ch : Nat) (cn : Nat) (ad : Int) (ru : Int) (kp : Nat) (dn : Int) (rfa : Nat) (c_so : ClassId) (f_so : Nat → Int32) (c_sl : ClassId) (f_sl : Nat → Int32) (c_ce : ClassId) (f_ce : Nat → Int32) (c_wg : ClassId) (f_wg : Nat → Int32) (q0 : rg k) (q1 : rg y) (q2 : rg i) (q3 : rg z) (q4 : rg fa) (q5 : rg ta) (q6 : kSL f_sl) (q7 : 0 ≤ mn ∧ mn ≤ 24) (q8 : 0 ≤ fn ∧ fn ≤ 4) (q9 : ¬ (fn = 0 ∧ 1 ≤ mn)) : Met l yX9_write wsX9_write ({ frames := 2, cells := 0, slots := 0, locals := 42 }) (kPre [.ref h0, .int (zI k), .int (zI y), .int (zI i), .int (zI z)] D [(h0, .inr (9, [.int (zI fa), .int (zI tc), .ref so, .ref sl, .ref ce, .int (zI fn), .ref kd, .ref wd, .ref hs, .ref pf, .ref lt, .int (zI mn), .ref wg, .int (zI ta), .long ck, .int (zI at9), .int (zI rfn), .ref rk, .ref rw, .ref rh, .int (zI cl), .ref sa, .ref fi, .int (zI bo), .ref ch, .ref cn, .int (zI ad), .int (zI ru), .ref kp, .int (zI dn), .ref rfa])), (so, .inl (c_so, 4, .inl f_so)), (sl, .inl (c_sl, 4, .inl f_sl)), (ce, .inl (c_ce, 240, .inl f_ce)), (wg, .inl (c_wg, 24, .inl f_wg))] [(c_so, .int), (c_sl, .int), (c_ce, .int), (c_wg, .int)] sz) (kQS (fun rz t => ∃ (u_fa : Int) (u_mn : Int) (u_ta : Int) (u_ck : Int64) (u_f_wg : Nat → Int32), (rg u_fa) ∧ (rg u_ta) ∧ (0 ≤ u_mn ∧ u_mn ≤ 24) ∧ (¬ (fn = 0 ∧ 1 ≤ u_mn)) ∧ (kWrM f_so f_sl f_ce k y i z fn (mn, f_wg, ta, ck) (u_mn, u_f_wg, u_ta, u_ck) u_fa rz) ∧ va_P D vwCl [(h0, .inr (9, [.int (zI u_fa), .int (zI tc), .ref so, .ref sl, .ref ce, .int (zI fn), .ref kd, .ref wd, .ref hs, .ref pf, .ref lt, .int (zI u_mn), .ref wg, .int (zI u_ta), .long u_ck, .int (zI at9), .int (zI rfn), .ref rk, .ref rw, .ref rh, .int (zI cl), .ref sa, .ref fi, .int (zI bo), .ref ch, .ref cn, .int (zI ad), .int (zI ru), .ref kp, .int (zI dn), .ref rfa])), (so, .inl (c_so, 4, .inl f_so)), (sl, .inl (c_sl, 4, .inl f_sl)), (ce, .inl (c_ce, 240, .inl f_ce)), (wg, .inl (c_wg, 24, .inl u_f_wg))] t.heap ∧ va_D (va_A [(h0, .inr (9, [.int (zI fa), .int (zI tc), .ref so, .ref sl, .ref ce, .int (zI fn), .ref kd, .ref wd, .ref hs, .ref pf, .ref lt, .int (zI mn), .ref wg, .int (zI ta), .long ck, .int (zI at9), .int (zI rfn), .ref rk, .ref rw, .ref rh, .int (zI cl), .ref sa, .ref fi, .int (zI bo), .ref ch, .ref cn, .int (zI ad), .int (zI ru), .ref kp, .int (zI dn), .ref rfa])), (so, .inl (c_so, 4, .inl f_so)), (sl, .inl (c_sl, 4, .inl f_sl)), (ce, .inl (c_ce, 240, .inl f_ce)), (wg, .inl (c_wg, 24, .inl f_wg))] sz) [(h0, .inr (9, [.int (zI u_fa), .int (zI tc), .ref so, .ref sl, .ref ce, .int (zI fn), .ref kd, .ref wd, .ref hs, .ref pf, .ref lt, .int (zI u_mn), .ref wg, .int (zI u_ta), .long u_ck, .int (zI at9), .int (zI rfn), .ref rk, .ref rw, .ref rh, .int (zI cl), .ref sa, .ref fi, .int (zI bo), .ref ch, .ref cn, .int (zI ad), .int (zI ru), .ref kp, .int (zI dn), .ref rfa])), (so, .inl (c_so, 4, .inl f_so)), (sl, .inl (c_sl, 4, .inl f_sl)), (ce, .inl (c_ce, 240, .inl f_ce)), (wg, .inl (c_wg, 24, .inl u_f_wg))]) (va_A [(h0, .inr (9, [.int (zI fa), .int (zI tc), .ref so, .ref sl, .ref ce, .int (zI fn), .ref kd, .ref wd, .ref hs, .ref pf, .ref lt, .int (zI mn), .ref wg, .int (zI ta), .long ck, .int (zI at9), .int (zI rfn), .ref rk, .ref rw, .ref rh, .int (zI cl), .ref sa, .ref fi, .int (zI bo), .ref ch, .ref cn, .int (zI ad), .int (zI ru), .ref kp, .int (zI dn), .ref rfa])), (so, .inl (c_so, 4, .inl f_so)), (sl, .inl (c_sl, 4, .inl f_sl)), (ce, .inl (c_ce, 240, .inl f_ce)), (wg, .inl (c_wg, 24, .inl f_wg))] sz)) 0 0 (va_A [(h0, .inr (9, [.int (zI fa), .int (zI tc), .ref so, .ref sl, .ref ce, .int (zI fn), .ref kd, .ref wd, .ref hs, .ref pf, .ref lt, .int (zI mn), .ref wg, .int (zI ta), .long ck, .int (zI at9), .int (zI rfn), .ref rk, .ref rw, .ref rh, .int (zI cl), .ref sa, .ref fi, .int (zI bo), .ref ch, .ref cn, .int (zI ad), .int (zI ru), .ref kp, .int (zI dn), .ref rfa])), (so, .inl (c_so, 4, .inl f_so)), (sl, .inl (c_sl, 4, .inl f_sl)), (ce, .inl (c_ce, 240, .inl f_ce)), (wg, .inl (c_wg, 24, .inl f_wg))] sz) := by
  refine Met.ofW (cc := cX9_write) (maxL := 8) (ret := (some .int)) (by decide) rfl ?_
  intro p e s m args below meth c s₁ B hml hv
  obtain ⟨rfl, hsz, hP, hK, hD0, hN⟩ := hv
  have hx := B.exec
  have hb := B.bytes
  have hr := B.returns
  have hts := atoms_spec (ws := wsX9_write) B.pre
  have hown : s.vm.findClass RX9 = some m.cls := findClass_of_methodNamed B.named
  have hlocks := B.notSynchronized
  subst hsz
  have hD := hD0.self (sz := s.heap.size)
  generalize hAe : va_A [(h0, .inr (9, [.int (zI fa), .int (zI tc), .ref so, .ref sl, .ref ce, .int (zI fn), .ref kd, .ref wd, .ref hs, .ref pf, .ref lt, .int (zI mn), .ref wg, .int (zI ta), .long ck, .int (zI at9), .int (zI rfn), .ref rk, .ref rw, .ref rh, .int (zI cl), .ref sa, .ref fi, .int (zI bo), .ref ch, .ref cn, .int (zI ad), .int (zI ru), .ref kp, .int (zI dn), .ref rfa])), (so, .inl (c_so, 4, .inl f_so)), (sl, .inl (c_sl, 4, .inl f_sl)), (ce, .inl (c_ce, 240, .inl f_ce)), (wg, .inl (c_wg, 24, .inl f_wg))] s.heap.size = A at hD ⊢
  have hA : ∀ q : Nat, s.heap.size ≤ q → A q := fun q h => by rw [← hAe]; exact Or.inr h
  have hS : va_S A s.heap s.heap [] := va_S.rf
  have hP : va_P D vwCl [(h0, .inr (9, [.int (zI fa), .int (zI tc), .ref so, .ref sl, .ref ce, .int (zI fn), .ref kd, .ref wd, .ref hs, .ref pf, .ref lt, .int (zI mn), .ref wg, .int (zI ta), .long ck, .int (zI at9), .int (zI rfn), .ref rk, .ref rw, .ref rh, .int (zI cl), .ref sa, .ref fi, .int (zI bo), .ref ch, .ref cn, .int (zI ad), .int (zI ru), .ref kp, .int (zI dn), .ref rfa])), (so, .inl (c_so, 4, .inl f_so)), (sl, .inl (c_sl, 4, .inl f_sl)), (ce, .inl (c_ce, 240, .inl f_ce)), (wg, .inl (c_wg, 24, .inl f_wg))] s.heap := hP
  have hl := lv_entry ([.ref h0, .int (zI k), .int (zI y), .int (zI i), .int (zI z)]) (n := 8) (Nat.le_of_ble_eq_true rfl)
  rw [lg_entry_eq]
  generalize (lg_sl ([.ref h0, .int (zI k), .int (zI y), .int (zI i), .int (zI z)]) ++ List.replicate (8 - (lg_sl ([.ref h0, .int (zI k), .int (zI y), .int (zI i), .int (zI z)])).length) Slot.unset).toArray = ls at hl ⊢
  have hl : lv_has ls 8 [(0, .ref h0), (1, .int (zI k)), (2, .int (zI y)), (3, .int (zI i)), (4, .int (zI z))] := hl
  refine lv_aload_n hx hb dX9_write_0 rfl (lv_at hl 0 rfl) ?_
  refine lv_iconst (v := zI 0) hx hb dX9_write_1 rfl ?_
  refine va_put (D := D) (ci := 9) (v := .int (zI 0)) (ty := .int) (C := RX9) (T := TX9) (N := 31) hx hb hts (fun _ h9 => List.mem_cons_of_mem _ (List.mem_append_right _ h9)) tyX9 tyX9_ok nmX9 hown hK hP hD hS 0 rfl rfl 0 (by decide) (hts (.fieldLink RX9 64 "FontRunsModel" "fault" "I") mw_X9_write_0) (fun _ h9 => h9) rfl (by decide +kernel) rfl rfl (Nat.le_of_ble_eq_true rfl) dX9_write_2 (fun H locs hP hD hS => ?_)
  have hP : va_P D vwCl [(h0, .inr (9, [.int (zI 0), .int (zI tc), .ref so, .ref sl, .ref ce, .int (zI fn), .ref kd, .ref wd, .ref hs, .ref pf, .ref lt, .int (zI mn), .ref wg, .int (zI ta), .long ck, .int (zI at9), .int (zI rfn), .ref rk, .ref rw, .ref rh, .int (zI cl), .ref sa, .ref fi, .int (zI bo), .ref ch, .ref cn, .int (zI ad), .int (zI ru), .ref kp, .int (zI dn), .ref rfa])), (so, .inl (c_so, 4, .inl f_so)), (sl, .inl (c_sl, 4, .inl f_sl)), (ce, .inl (c_ce, 240, .inl f_ce)), (wg, .inl (c_wg, 24, .inl f_wg))] H := hP
  have hD : va_D A [(h0, .inr (9, [.int (zI 0), .int (zI tc), .ref so, .ref sl, .ref ce, .int (zI fn), .ref kd, .ref wd, .ref hs, .ref pf, .ref lt, .int (zI mn), .ref wg, .int (zI ta), .long ck, .int (zI at9), .int (zI rfn), .ref rk, .ref rw, .ref rh, .int (zI cl), .ref sa, .ref fi, .int (zI bo), .ref ch, .ref cn, .int (zI ad), .int (zI ru), .ref kp, .int (zI dn), .ref rfa])), (so, .inl (c_so, 4, .inl f_so)), (sl, .inl (c_sl, 4, .inl f_sl)), (ce, .inl (c_ce, 240, .inl f_ce)), (wg, .inl (c_wg, 24, .inl f_wg))] := hD
  refine lv_iload_n hx hb dX9_write_5 rfl (lv_at hl 1 rfl) ?_
  refine k_callR (va_runS (As := [.int (zI k)]) (rest := []) ⟨hx, hb, hml, hown, hts⟩ (c_X9_isSheet l D H.size (k := k) q0) (va_cwS 1 hts gX9_write_X9_isSheet rfl rfl rfl (by decide +kernel) ⟨Nat.le_of_ble_eq_true rfl, Nat.le_of_ble_eq_true rfl⟩) (kPreS hP (kD0 hD) hK hN [] [] ax_X9_write_0 rfl (by decide +kernel)) rfl rfl hl.1 rfl (lv_room (Nat.le_of_ble_eq_true rfl)) dX9_write_6 ⟨Nat.le_of_ble_eq_true rfl, Nat.le_of_ble_eq_true rfl⟩) ?_
  refine lv_if_ne (tgt := 14) hx hb dX9_write_9 (by decide) (fun c_1 => ?_) (fun c_1 => ?_)
  · have c_1 : 0 ≤ k ∧ k ≤ 3 := b01t c_1
    refine lv_iload_n hx hb dX9_write_14 rfl (lv_at hl 2 rfl) ?_
    refine k_callR (va_runS (As := [.int (zI y)]) (rest := []) ⟨hx, hb, hml, hown, hts⟩ (c_X9_isSort l D H.size (k := y) q1) (va_cwS 1 hts gX9_write_X9_isSort rfl rfl rfl (by decide +kernel) ⟨Nat.le_of_ble_eq_true rfl, Nat.le_of_ble_eq_true rfl⟩) (kPreS hP (kD0 hD) hK hN [] [] ax_X9_write_0 rfl (by decide +kernel)) rfl rfl hl.1 rfl (lv_room (Nat.le_of_ble_eq_true rfl)) dX9_write_15 ⟨Nat.le_of_ble_eq_true rfl, Nat.le_of_ble_eq_true rfl⟩) ?_
    refine lv_if_eq (tgt := 32) hx hb dX9_write_18 (by decide) (fun c_2 => ?_) (fun c_2 => ?_)
    · have c_2 : ¬ (0 ≤ y ∧ y ≤ 2) := b01f c_2
      refine lv_bipush (v := zI (-2)) hx hb dX9_write_32 (by decide) ?_
      have hP9 := hP.sub (ws' := [(h0, .inr (9, [.int (zI 0), .int (zI tc), .ref so, .ref sl, .ref ce, .int (zI fn), .ref kd, .ref wd, .ref hs, .ref pf, .ref lt, .int (zI mn), .ref wg, .int (zI ta), .long ck, .int (zI at9), .int (zI rfn), .ref rk, .ref rw, .ref rh, .int (zI cl), .ref sa, .ref fi, .int (zI bo), .ref ch, .ref cn, .int (zI ad), .int (zI ru), .ref kp, .int (zI dn), .ref rfa])), (so, .inl (c_so, 4, .inl f_so)), (sl, .inl (c_sl, 4, .inl f_sl)), (ce, .inl (c_ce, 240, .inl f_ce)), (wg, .inl (c_wg, 24, .inl f_wg))]) [0, 1, 2, 3, 4] rfl
      have hD9 := hD.sub (ws' := [(h0, .inr (9, [.int (zI 0), .int (zI tc), .ref so, .ref sl, .ref ce, .int (zI fn), .ref kd, .ref wd, .ref hs, .ref pf, .ref lt, .int (zI mn), .ref wg, .int (zI ta), .long ck, .int (zI at9), .int (zI rfn), .ref rk, .ref rw, .ref rh, .int (zI cl), .ref sa, .ref fi, .int (zI bo), .ref ch, .ref cn, .int (zI ad), .int (zI ru), .ref kp, .int (zI dn), .ref rfa])), (so, .inl (c_so, 4, .inl f_so)), (sl, .inl (c_sl, 4, .inl f_sl)), (ce, .inl (c_ce, 240, .inl f_ce)), (wg, .inl (c_wg, 24, .inl f_wg))]) [0, 1, 2, 3, 4] (by decide +kernel) rfl
      exact W.iret (v := (zI (-2))) hx hb hr (fun t ht hW => kQS_of (by omega) ⟨0, mn, ta, ck, f_wg, (by omega), q5, q7, q9, (kGa_2 (by omega) (by unfold kWrB; omega) (by omega) (by omega) rfl), by rw [ht]; exact hP9, hD9⟩ (hS.F ht)) hS.2.2 dX9_write_34
    · have c_2 : 0 ≤ y ∧ y ≤ 2 := b01t c_2
      refine lv_iload hx hb dX9_write_21 (lv_at hl 4 rfl) ?_
      refine lv_iconst (v := zI 0) hx hb dX9_write_23 rfl ?_
      refine lv_bipush (v := zI 24) hx hb dX9_write_24 (by decide) ?_
      refine k_callR (va_runS (As := [.int (zI z), .int (zI 0), .int (zI 24)]) (rest := []) ⟨hx, hb, hml, hown, hts⟩ (c_X9_within l D H.size (v := z) (a := 0) (b := 24) q3 (by omega) (by omega)) (va_cwS 3 hts gX9_write_X9_within rfl rfl rfl (by decide +kernel) ⟨Nat.le_of_ble_eq_true rfl, Nat.le_of_ble_eq_true rfl⟩) (kPreS hP (kD0 hD) hK hN [] [] ax_X9_write_0 rfl (by decide +kernel)) rfl rfl hl.1 rfl (lv_room (Nat.le_of_ble_eq_true rfl)) dX9_write_26 ⟨Nat.le_of_ble_eq_true rfl, Nat.le_of_ble_eq_true rfl⟩) ?_
      refine lv_if_ne (tgt := 35) hx hb dX9_write_29 (by decide) (fun c_3 => ?_) (fun c_3 => ?_)
      · have c_3 : 0 ≤ z ∧ z ≤ 24 := b01t c_3
        refine lv_aload_n hx hb dX9_write_35 rfl (lv_at hl 0 rfl) ?_
        refine lv_iload_n hx hb dX9_write_36 rfl (lv_at hl 1 rfl) ?_
        refine lv_iload_n hx hb dX9_write_37 rfl (lv_at hl 2 rfl) ?_
        refine lv_iload_n hx hb dX9_write_38 rfl (lv_at hl 3 rfl) ?_
        refine lv_iload hx hb dX9_write_39 (lv_at hl 4 rfl) ?_
        refine k_callP (va_runV (As := [.int (zI k), .int (zI y), .int (zI i), .int (zI z)]) (rest := []) ⟨hx, hb, hml, hown, hts⟩ (c_X9_against_w l D H.size (k := k) (y := y) (i := i) (z := z) (h0 := h0) (fa := 0) (tc := tc) (so := so) (sl := sl) (ce := ce) (fn := fn) (kd := kd) (wd := wd) (hs := hs) (pf := pf) (lt := lt) (mn := mn) (wg := wg) (ta := ta) (ck := ck) (at9 := at9) (rfn := rfn) (rk := rk) (rw := rw) (rh := rh) (cl := cl) (sa := sa) (fi := fi) (bo := bo) (ch := ch) (cn := cn) (ad := ad) (ru := ru) (kp := kp) (dn := dn) (rfa := rfa) (c_so := c_so) (f_so := f_so) (c_sl := c_sl) (f_sl := f_sl) (by omega) q1 q2 q3 q6) (cwV 4 hts gX9_write_X9_against rfl rfl rfl (by decide +kernel) ⟨Nat.le_of_ble_eq_true rfl, Nat.le_of_ble_eq_true rfl⟩) (kPreV hP (kD0 hD) hK hN [0, 1, 2] [0, 1] ax_X9_write_2 rfl (by decide +kernel) 0 9 rfl rfl) rfl rfl hl.1 rfl (lv_room (Nat.le_of_ble_eq_true rfl)) dX9_write_41 ⟨Nat.le_of_ble_eq_true rfl, Nat.le_of_ble_eq_true rfl⟩) (fun z_4 rz_4 h_5 => ?_)
        refine lv_istore (lv' := [(5, .int (zI z_4)), (0, .ref h0), (1, .int (zI k)), (2, .int (zI y)), (3, .int (zI i)), (4, .int (zI z))]) hx hb dX9_write_44 hl (by decide) rfl (fun ls hl => ?_)
        refine lv_iload hx hb dX9_write_46 (lv_at hl 0 rfl) ?_
        refine kz_if_eq (tgt := 58) hx hb dX9_write_48 (by decide) (by omega) (fun c_6 => ?_) (fun c_6 => ?_)
        · refine lv_aload_n hx hb dX9_write_58 rfl (lv_at hl 1 rfl) ?_
          refine va_get (D := D) (ci := 9) (v := .int (zI fn)) (C := RX9) (T := TX9) (N := 31) hx hb hts (fun _ h9 => List.mem_cons_of_mem _ (List.mem_append_right _ h9)) hown hK hP 0 rfl rfl 5 (by decide) (hts (.fieldLink RX9 74 "FontRunsModel" "fonts" "I") mw_X9_write_1) (fun _ h9 => h9) rfl dX9_write_59 ?_
          refine kz_if_ne (tgt := 68) hx hb dX9_write_62 (by decide) (by omega) (fun c_7 => ?_) (fun c_7 => ?_)
          · refine lv_bipush (v := zI 60) hx hb dX9_write_68 (by decide) ?_
            refine lv_iload_n hx hb dX9_write_70 rfl (lv_at hl 2 rfl) ?_
            refine kz_imul hx hb dX9_write_71 ?_
            refine lv_iload_n hx hb dX9_write_72 rfl (lv_at hl 4 rfl) ?_
            refine kz_iadd hx hb dX9_write_73 ?_
            refine lv_istore (lv' := [(6, .int (zI ((60 * k) + i))), (5, .int (zI z_4)), (0, .ref h0), (1, .int (zI k)), (2, .int (zI y)), (3, .int (zI i)), (4, .int (zI z))]) hx hb dX9_write_74 hl (by decide) rfl (fun ls hl => ?_)
            refine lv_iconst (v := zI 0) hx hb dX9_write_76 rfl ?_
            refine lv_istore (lv' := [(7, .int (zI 0)), (6, .int (zI ((60 * k) + i))), (5, .int (zI z_4)), (0, .ref h0), (1, .int (zI k)), (2, .int (zI y)), (3, .int (zI i)), (4, .int (zI z))]) hx hb dX9_write_77 hl (by decide) rfl (fun ls hl => ?_)
            refine k_loopM (I := fun n9 H locs ls => ∃ (jk : Int), n9 = (z - jk).toNat ∧ (0 ≤ jk ∧ jk ≤ z) ∧ (kLet (kCd f_ce ((60 * k) + i)) jk) ∧ va_P D vwCl [(h0, .inr (9, [.int (zI 0), .int (zI tc), .ref so, .ref sl, .ref ce, .int (zI fn), .ref kd, .ref wd, .ref hs, .ref pf, .ref lt, .int (zI mn), .ref wg, .int (zI ta), .long ck, .int (zI at9), .int (zI rfn), .ref rk, .ref rw, .ref rh, .int (zI cl), .ref sa, .ref fi, .int (zI bo), .ref ch, .ref cn, .int (zI ad), .int (zI ru), .ref kp, .int (zI dn), .ref rfa])), (so, .inl (c_so, 4, .inl f_so)), (sl, .inl (c_sl, 4, .inl f_sl)), (ce, .inl (c_ce, 240, .inl f_ce)), (wg, .inl (c_wg, 24, .inl f_wg))] H ∧ va_D A [(h0, .inr (9, [.int (zI 0), .int (zI tc), .ref so, .ref sl, .ref ce, .int (zI fn), .ref kd, .ref wd, .ref hs, .ref pf, .ref lt, .int (zI mn), .ref wg, .int (zI ta), .long ck, .int (zI at9), .int (zI rfn), .ref rk, .ref rw, .ref rh, .int (zI cl), .ref sa, .ref fi, .int (zI bo), .ref ch, .ref cn, .int (zI ad), .int (zI ru), .ref kp, .int (zI dn), .ref rfa])), (so, .inl (c_so, 4, .inl f_so)), (sl, .inl (c_sl, 4, .inl f_sl)), (ce, .inl (c_ce, 240, .inl f_ce)), (wg, .inl (c_wg, 24, .inl f_wg))] ∧ va_S A s.heap H locs ∧ lv_has ls 8 [(7, .int (zI jk)), (6, .int (zI ((60 * k) + i))), (5, .int (zI z_4)), (0, .ref h0), (1, .int (zI k)), (2, .int (zI y)), (3, .int (zI i)), (4, .int (zI z))]) ?_ _ ⟨0, rfl, (by omega), kLet_0, hP, hD, hS, hl⟩
            intro n79 ih79 H locs ls hI
            obtain ⟨jk, en79, v_790, v_791, hP, hD, hS, hl⟩ := hI
            refine lv_iload hx hb dX9_write_79 (lv_at hl 0 rfl) ?_
            refine lv_iload hx hb dX9_write_81 (lv_at hl 7 rfl) ?_
            refine kz_icmp_ge (tgt := 114) hx hb dX9_write_83 (by decide) (by omega) (by omega) (fun c_8 => ?_) (fun c_8 => ?_)
            · refine lv_aload_n hx hb dX9_write_114 rfl (lv_at hl 3 rfl) ?_
              refine va_get (D := D) (ci := 9) (v := .int (zI mn)) (C := RX9) (T := TX9) (N := 31) hx hb hts (fun _ h9 => List.mem_cons_of_mem _ (List.mem_append_right _ h9)) hown hK hP 0 rfl rfl 11 (by decide) (hts (.fieldLink RX9 101 "FontRunsModel" "many" "I") mw_X9_write_2) (fun _ h9 => h9) rfl dX9_write_115 ?_
              refine lv_iload hx hb dX9_write_118 (lv_at hl 7 rfl) ?_
              refine kz_iadd hx hb dX9_write_120 ?_
              refine lv_bipush (v := zI 24) hx hb dX9_write_121 (by decide) ?_
              refine kz_icmp_le (tgt := 129) hx hb dX9_write_123 (by decide) (by omega) (by omega) (fun c_9 => ?_) (fun c_9 => ?_)
              · refine lv_iconst (v := zI 0) hx hb dX9_write_129 rfl ?_
                refine lv_istore (lv' := [(7, .int (zI 0)), (6, .int (zI ((60 * k) + i))), (5, .int (zI z_4)), (0, .ref h0), (1, .int (zI k)), (2, .int (zI y)), (3, .int (zI i)), (4, .int (zI z))]) hx hb dX9_write_130 hl (by decide) rfl (fun ls hl => ?_)
                refine k_loopM (I := fun n9 H locs ls => ∃ (jq : Int) (jn : Int) (jt : Int) (jw : Int64) (ja : Nat → Int32), n9 = (z - jq).toNat ∧ (0 ≤ jq ∧ jq ≤ z) ∧ (rg jt) ∧ (jn = mn + jq) ∧ (zI jt = zI (ta + jq)) ∧ (jw = kCk (kCd f_ce ((60 * k) + i)) ck (kNa jq)) ∧ (ja = kApp f_wg mn (kCd f_ce ((60 * k) + i)) jq) ∧ va_P D vwCl [(h0, .inr (9, [.int (zI 0), .int (zI tc), .ref so, .ref sl, .ref ce, .int (zI fn), .ref kd, .ref wd, .ref hs, .ref pf, .ref lt, .int (zI jn), .ref wg, .int (zI jt), .long jw, .int (zI at9), .int (zI rfn), .ref rk, .ref rw, .ref rh, .int (zI cl), .ref sa, .ref fi, .int (zI bo), .ref ch, .ref cn, .int (zI ad), .int (zI ru), .ref kp, .int (zI dn), .ref rfa])), (so, .inl (c_so, 4, .inl f_so)), (sl, .inl (c_sl, 4, .inl f_sl)), (ce, .inl (c_ce, 240, .inl f_ce)), (wg, .inl (c_wg, 24, .inl ja))] H ∧ va_D A [(h0, .inr (9, [.int (zI 0), .int (zI tc), .ref so, .ref sl, .ref ce, .int (zI fn), .ref kd, .ref wd, .ref hs, .ref pf, .ref lt, .int (zI jn), .ref wg, .int (zI jt), .long jw, .int (zI at9), .int (zI rfn), .ref rk, .ref rw, .ref rh, .int (zI cl), .ref sa, .ref fi, .int (zI bo), .ref ch, .ref cn, .int (zI ad), .int (zI ru), .ref kp, .int (zI dn), .ref rfa])), (so, .inl (c_so, 4, .inl f_so)), (sl, .inl (c_sl, 4, .inl f_sl)), (ce, .inl (c_ce, 240, .inl f_ce)), (wg, .inl (c_wg, 24, .inl ja))] ∧ va_S A s.heap H locs ∧ lv_has ls 8 [(7, .int (zI jq)), (6, .int (zI ((60 * k) + i))), (5, .int (zI z_4)), (0, .ref h0), (1, .int (zI k)), (2, .int (zI y)), (3, .int (zI i)), (4, .int (zI z))]) ?_ _ ⟨0, mn, ta, ck, f_wg, rfl, (by omega), q5, (by omega), (by rw [Int.add_zero]), rfl, kApp_0.symm, hP, hD, hS, hl⟩
                intro n132 ih132 H locs ls hI
                obtain ⟨jq, jn, jt, jw, ja, en132, v_1320, v_1321, v_1322, v_1323, v_1324, v_1325, hP, hD, hS, hl⟩ := hI
                refine lv_iload hx hb dX9_write_132 (lv_at hl 0 rfl) ?_
                refine lv_iload hx hb dX9_write_134 (lv_at hl 7 rfl) ?_
                refine kz_icmp_ge (tgt := 210) hx hb dX9_write_136 (by decide) (by omega) (by omega) (fun c_10 => ?_) (fun c_10 => ?_)
                · refine lv_aload_n hx hb dX9_write_210 rfl (lv_at hl 3 rfl) ?_
                  refine va_get (D := D) (ci := 9) (v := .int (zI jn)) (C := RX9) (T := TX9) (N := 31) hx hb hts (fun _ h9 => List.mem_cons_of_mem _ (List.mem_append_right _ h9)) hown hK hP 0 rfl rfl 11 (by decide) (hts (.fieldLink RX9 101 "FontRunsModel" "many" "I") mw_X9_write_2) (fun _ h9 => h9) rfl dX9_write_211 ?_
                  have hP9 := hP.sub (ws' := [(h0, .inr (9, [.int (zI 0), .int (zI tc), .ref so, .ref sl, .ref ce, .int (zI fn), .ref kd, .ref wd, .ref hs, .ref pf, .ref lt, .int (zI jn), .ref wg, .int (zI jt), .long jw, .int (zI at9), .int (zI rfn), .ref rk, .ref rw, .ref rh, .int (zI cl), .ref sa, .ref fi, .int (zI bo), .ref ch, .ref cn, .int (zI ad), .int (zI ru), .ref kp, .int (zI dn), .ref rfa])), (so, .inl (c_so, 4, .inl f_so)), (sl, .inl (c_sl, 4, .inl f_sl)), (ce, .inl (c_ce, 240, .inl f_ce)), (wg, .inl (c_wg, 24, .inl ja))]) [0, 1, 2, 3, 4] rfl
                  have hD9 := hD.sub (ws' := [(h0, .inr (9, [.int (zI 0), .int (zI tc), .ref so, .ref sl, .ref ce, .int (zI fn), .ref kd, .ref wd, .ref hs, .ref pf, .ref lt, .int (zI jn), .ref wg, .int (zI jt), .long jw, .int (zI at9), .int (zI rfn), .ref rk, .ref rw, .ref rh, .int (zI cl), .ref sa, .ref fi, .int (zI bo), .ref ch, .ref cn, .int (zI ad), .int (zI ru), .ref kp, .int (zI dn), .ref rfa])), (so, .inl (c_so, 4, .inl f_so)), (sl, .inl (c_sl, 4, .inl f_sl)), (ce, .inl (c_ce, 240, .inl f_ce)), (wg, .inl (c_wg, 24, .inl ja))]) [0, 1, 2, 3, 4] (by decide +kernel) rfl
                  exact W.iret (v := (zI jn)) hx hb hr (fun t ht hW => kQS_of (by omega) ⟨0, jn, jt, jw, ja, (by omega), v_1321, (by omega), (by omega), (kGa_3 (by omega) (fun q => by unfold kWrB at q; omega) (kGt_2 (show kAgM _ _ _ _ _ 0 from (show z_4 = 0 from by omega) ▸ h_5.2) (by omega) (Or.inr (Or.inr (Or.inr ⟨by omega, (kLet_le v_791 (by omega)), (show mn + z ≤ 24 from by omega), (show jn = mn + z from by omega), (show jn = mn + z from by omega), (show ja = kApp f_wg mn (kCd f_ce ((60 * k) + i)) z from (by have q9 : jq = z := (by omega); rw [← q9]; exact v_1325)), (show zI jt = zI (ta + z) from (by have q9 : jq = z := (by omega); rw [← q9]; exact v_1323)), (show jw = kCk (kCd f_ce ((60 * k) + i)) ck (kNa z) from (by have q9 : jq = z := (by omega); rw [← q9]; exact v_1324))⟩))))), by rw [ht]; exact hP9, hD9⟩ (hS.F ht)) hS.2.2 dX9_write_214
                · refine lv_aload_n hx hb dX9_write_139 rfl (lv_at hl 3 rfl) ?_
                  refine va_get (D := D) (ci := 9) (v := .ref wg) (C := RX9) (T := TX9) (N := 31) hx hb hts (fun _ h9 => List.mem_cons_of_mem _ (List.mem_append_right _ h9)) hown hK hP 0 rfl rfl 12 (by decide) (hts (.fieldLink RX9 34 "FontRunsModel" "writing" "[I") mw_X9_write_3) (fun _ h9 => h9) rfl dX9_write_140 ?_
                  refine lv_aload_n hx hb dX9_write_143 rfl (lv_at hl 3 rfl) ?_
                  refine va_get (D := D) (ci := 9) (v := .int (zI jn)) (C := RX9) (T := TX9) (N := 31) hx hb hts (fun _ h9 => List.mem_cons_of_mem _ (List.mem_append_right _ h9)) hown hK hP 0 rfl rfl 11 (by decide) (hts (.fieldLink RX9 101 "FontRunsModel" "many" "I") mw_X9_write_2) (fun _ h9 => h9) rfl dX9_write_144 ?_
                  refine lv_aload_n hx hb dX9_write_147 rfl (lv_at hl 3 rfl) ?_
                  refine va_get (D := D) (ci := 9) (v := .ref ce) (C := RX9) (T := TX9) (N := 31) hx hb hts (fun _ h9 => List.mem_cons_of_mem _ (List.mem_append_right _ h9)) hown hK hP 0 rfl rfl 4 (by decide) (hts (.fieldLink RX9 16 "FontRunsModel" "cells" "[I") mw_X9_write_4) (fun _ h9 => h9) rfl dX9_write_148 ?_
                  refine lv_iload hx hb dX9_write_151 (lv_at hl 1 rfl) ?_
                  refine lv_iload hx hb dX9_write_153 (lv_at hl 0 rfl) ?_
                  refine kz_iadd hx hb dX9_write_155 ?_
                  refine kz_iald hx hb hK hP 3 2 rfl rfl (by omega) dX9_write_156 (fun z_11 rz_11 ez_11 => ?_)
                  refine kz_iast hx hb hK hP hD hS 4 3 rfl rfl (by omega) dX9_write_157 (fun H locs hP hD hS => ?_)
                  have hP : va_P D vwCl [(h0, .inr (9, [.int (zI 0), .int (zI tc), .ref so, .ref sl, .ref ce, .int (zI fn), .ref kd, .ref wd, .ref hs, .ref pf, .ref lt, .int (zI jn), .ref wg, .int (zI jt), .long jw, .int (zI at9), .int (zI rfn), .ref rk, .ref rw, .ref rh, .int (zI cl), .ref sa, .ref fi, .int (zI bo), .ref ch, .ref cn, .int (zI ad), .int (zI ru), .ref kp, .int (zI dn), .ref rfa])), (so, .inl (c_so, 4, .inl f_so)), (sl, .inl (c_sl, 4, .inl f_sl)), (ce, .inl (c_ce, 240, .inl f_ce)), (wg, .inl (c_wg, 24, .inl (upd ja (jn).toNat (zI z_11))))] H := hP
                  have hD : va_D A [(h0, .inr (9, [.int (zI 0), .int (zI tc), .ref so, .ref sl, .ref ce, .int (zI fn), .ref kd, .ref wd, .ref hs, .ref pf, .ref lt, .int (zI jn), .ref wg, .int (zI jt), .long jw, .int (zI at9), .int (zI rfn), .ref rk, .ref rw, .ref rh, .int (zI cl), .ref sa, .ref fi, .int (zI bo), .ref ch, .ref cn, .int (zI ad), .int (zI ru), .ref kp, .int (zI dn), .ref rfa])), (so, .inl (c_so, 4, .inl f_so)), (sl, .inl (c_sl, 4, .inl f_sl)), (ce, .inl (c_ce, 240, .inl f_ce)), (wg, .inl (c_wg, 24, .inl (upd ja (jn).toNat (zI z_11))))] := hD
                  generalize ef_12 : upd ja (jn).toNat (zI z_11) = f_12 at hP hD
                  refine lv_aload_n hx hb dX9_write_158 rfl (lv_at hl 3 rfl) ?_
                  refine lv_dup hx hb dX9_write_159 rfl ?_
                  refine va_get (D := D) (ci := 9) (v := .int (zI jn)) (C := RX9) (T := TX9) (N := 31) hx hb hts (fun _ h9 => List.mem_cons_of_mem _ (List.mem_append_right _ h9)) hown hK hP 0 rfl rfl 11 (by decide) (hts (.fieldLink RX9 101 "FontRunsModel" "many" "I") mw_X9_write_2) (fun _ h9 => h9) rfl dX9_write_160 ?_
                  refine lv_iconst (v := zI 1) hx hb dX9_write_163 rfl ?_
                  refine kz_iadd hx hb dX9_write_164 ?_
                  refine va_put (D := D) (ci := 9) (v := .int (zI (jn + 1))) (ty := .int) (C := RX9) (T := TX9) (N := 31) hx hb hts (fun _ h9 => List.mem_cons_of_mem _ (List.mem_append_right _ h9)) tyX9 tyX9_ok nmX9 hown hK hP hD hS 0 rfl rfl 11 (by decide) (hts (.fieldLink RX9 101 "FontRunsModel" "many" "I") mw_X9_write_2) (fun _ h9 => h9) rfl (by decide +kernel) rfl rfl (Nat.le_of_ble_eq_true rfl) dX9_write_165 (fun H locs hP hD hS => ?_)
                  have hP : va_P D vwCl [(h0, .inr (9, [.int (zI 0), .int (zI tc), .ref so, .ref sl, .ref ce, .int (zI fn), .ref kd, .ref wd, .ref hs, .ref pf, .ref lt, .int (zI (jn + 1)), .ref wg, .int (zI jt), .long jw, .int (zI at9), .int (zI rfn), .ref rk, .ref rw, .ref rh, .int (zI cl), .ref sa, .ref fi, .int (zI bo), .ref ch, .ref cn, .int (zI ad), .int (zI ru), .ref kp, .int (zI dn), .ref rfa])), (so, .inl (c_so, 4, .inl f_so)), (sl, .inl (c_sl, 4, .inl f_sl)), (ce, .inl (c_ce, 240, .inl f_ce)), (wg, .inl (c_wg, 24, .inl f_12))] H := hP
                  have hD : va_D A [(h0, .inr (9, [.int (zI 0), .int (zI tc), .ref so, .ref sl, .ref ce, .int (zI fn), .ref kd, .ref wd, .ref hs, .ref pf, .ref lt, .int (zI (jn + 1)), .ref wg, .int (zI jt), .long jw, .int (zI at9), .int (zI rfn), .ref rk, .ref rw, .ref rh, .int (zI cl), .ref sa, .ref fi, .int (zI bo), .ref ch, .ref cn, .int (zI ad), .int (zI ru), .ref kp, .int (zI dn), .ref rfa])), (so, .inl (c_so, 4, .inl f_so)), (sl, .inl (c_sl, 4, .inl f_sl)), (ce, .inl (c_ce, 240, .inl f_ce)), (wg, .inl (c_wg, 24, .inl f_12))] := hD
                  refine lv_aload_n hx hb dX9_write_168 rfl (lv_at hl 3 rfl) ?_
                  refine lv_dup hx hb dX9_write_169 rfl ?_
                  refine va_get (D := D) (ci := 9) (v := .int (zI jt)) (C := RX9) (T := TX9) (N := 31) hx hb hts (fun _ h9 => List.mem_cons_of_mem _ (List.mem_append_right _ h9)) hown hK hP 0 rfl rfl 13 (by decide) (hts (.fieldLink RX9 129 "FontRunsModel" "tally" "I") mw_X9_write_5) (fun _ h9 => h9) rfl dX9_write_170 ?_
                  refine lv_iconst (v := zI 1) hx hb dX9_write_173 rfl ?_
                  refine kz_iadd hx hb dX9_write_174 ?_
                  refine kz_any (fun z_13 rz_13 ez_13 => ?_)
                  refine va_put (D := D) (ci := 9) (v := .int (zI z_13)) (ty := .int) (C := RX9) (T := TX9) (N := 31) hx hb hts (fun _ h9 => List.mem_cons_of_mem _ (List.mem_append_right _ h9)) tyX9 tyX9_ok nmX9 hown hK hP hD hS 0 rfl rfl 13 (by decide) (hts (.fieldLink RX9 129 "FontRunsModel" "tally" "I") mw_X9_write_5) (fun _ h9 => h9) rfl (by decide +kernel) rfl rfl (Nat.le_of_ble_eq_true rfl) dX9_write_175 (fun H locs hP hD hS => ?_)
                  have hP : va_P D vwCl [(h0, .inr (9, [.int (zI 0), .int (zI tc), .ref so, .ref sl, .ref ce, .int (zI fn), .ref kd, .ref wd, .ref hs, .ref pf, .ref lt, .int (zI (jn + 1)), .ref wg, .int (zI z_13), .long jw, .int (zI at9), .int (zI rfn), .ref rk, .ref rw, .ref rh, .int (zI cl), .ref sa, .ref fi, .int (zI bo), .ref ch, .ref cn, .int (zI ad), .int (zI ru), .ref kp, .int (zI dn), .ref rfa])), (so, .inl (c_so, 4, .inl f_so)), (sl, .inl (c_sl, 4, .inl f_sl)), (ce, .inl (c_ce, 240, .inl f_ce)), (wg, .inl (c_wg, 24, .inl f_12))] H := hP
                  have hD : va_D A [(h0, .inr (9, [.int (zI 0), .int (zI tc), .ref so, .ref sl, .ref ce, .int (zI fn), .ref kd, .ref wd, .ref hs, .ref pf, .ref lt, .int (zI (jn + 1)), .ref wg, .int (zI z_13), .long jw, .int (zI at9), .int (zI rfn), .ref rk, .ref rw, .ref rh, .int (zI cl), .ref sa, .ref fi, .int (zI bo), .ref ch, .ref cn, .int (zI ad), .int (zI ru), .ref kp, .int (zI dn), .ref rfa])), (so, .inl (c_so, 4, .inl f_so)), (sl, .inl (c_sl, 4, .inl f_sl)), (ce, .inl (c_ce, 240, .inl f_ce)), (wg, .inl (c_wg, 24, .inl f_12))] := hD
                  refine lv_aload_n hx hb dX9_write_178 rfl (lv_at hl 3 rfl) ?_
                  refine lv_ldc2 (v := 31) hx hb hown (hts (.constantLong RX9 132 (31)) mw_X9_write_6) dX9_write_179 ?_
                  refine lv_aload_n hx hb dX9_write_182 rfl (lv_at hl 3 rfl) ?_
                  refine va_get (D := D) (ci := 9) (v := .long jw) (C := RX9) (T := TX9) (N := 31) hx hb hts (fun _ h9 => List.mem_cons_of_mem _ (List.mem_append_right _ h9)) hown hK hP 0 rfl rfl 14 (by decide) (hts (.fieldLink RX9 134 "FontRunsModel" "check" "J") mw_X9_write_7) (fun _ h9 => h9) rfl dX9_write_183 ?_
                  refine lv_lmul hx hb dX9_write_186 ?_
                  refine lv_topl (fun l_14 el_14 => ?_)
                  refine lv_aload_n hx hb dX9_write_187 rfl (lv_at hl 3 rfl) ?_
                  refine va_get (D := D) (ci := 9) (v := .ref ce) (C := RX9) (T := TX9) (N := 31) hx hb hts (fun _ h9 => List.mem_cons_of_mem _ (List.mem_append_right _ h9)) hown hK hP 0 rfl rfl 4 (by decide) (hts (.fieldLink RX9 16 "FontRunsModel" "cells" "[I") mw_X9_write_4) (fun _ h9 => h9) rfl dX9_write_188 ?_
                  refine lv_iload hx hb dX9_write_191 (lv_at hl 1 rfl) ?_
                  refine lv_iload hx hb dX9_write_193 (lv_at hl 0 rfl) ?_
                  refine kz_iadd hx hb dX9_write_195 ?_
                  refine kz_iald hx hb hK hP 3 2 rfl rfl (by omega) dX9_write_196 (fun z_15 rz_15 ez_15 => ?_)
                  have q9 : z_11 = z_15 := (zI_eq rz_11 rz_15).mp (ez_11.symm.trans ez_15)
                  subst q9
                  refine lv_i2l (v := (zI z_11).toInt64) hx hb dX9_write_197 rfl ?_
                  refine lv_ladd hx hb dX9_write_198 ?_
                  refine lv_topl (fun l_16 el_16 => ?_)
                  refine lv_lconst (v := 1) hx hb dX9_write_199 (by decide) ?_
                  refine lv_ladd hx hb dX9_write_200 ?_
                  refine lv_topl (fun l_17 el_17 => ?_)
                  refine va_put (D := D) (ci := 9) (v := .long l_17) (ty := .long) (C := RX9) (T := TX9) (N := 31) hx hb hts (fun _ h9 => List.mem_cons_of_mem _ (List.mem_append_right _ h9)) tyX9 tyX9_ok nmX9 hown hK hP hD hS 0 rfl rfl 14 (by decide) (hts (.fieldLink RX9 134 "FontRunsModel" "check" "J") mw_X9_write_7) (fun _ h9 => h9) rfl (by decide +kernel) rfl rfl (Nat.le_of_ble_eq_true rfl) dX9_write_201 (fun H locs hP hD hS => ?_)
                  have hP : va_P D vwCl [(h0, .inr (9, [.int (zI 0), .int (zI tc), .ref so, .ref sl, .ref ce, .int (zI fn), .ref kd, .ref wd, .ref hs, .ref pf, .ref lt, .int (zI (jn + 1)), .ref wg, .int (zI z_13), .long l_17, .int (zI at9), .int (zI rfn), .ref rk, .ref rw, .ref rh, .int (zI cl), .ref sa, .ref fi, .int (zI bo), .ref ch, .ref cn, .int (zI ad), .int (zI ru), .ref kp, .int (zI dn), .ref rfa])), (so, .inl (c_so, 4, .inl f_so)), (sl, .inl (c_sl, 4, .inl f_sl)), (ce, .inl (c_ce, 240, .inl f_ce)), (wg, .inl (c_wg, 24, .inl f_12))] H := hP
                  have hD : va_D A [(h0, .inr (9, [.int (zI 0), .int (zI tc), .ref so, .ref sl, .ref ce, .int (zI fn), .ref kd, .ref wd, .ref hs, .ref pf, .ref lt, .int (zI (jn + 1)), .ref wg, .int (zI z_13), .long l_17, .int (zI at9), .int (zI rfn), .ref rk, .ref rw, .ref rh, .int (zI cl), .ref sa, .ref fi, .int (zI bo), .ref ch, .ref cn, .int (zI ad), .int (zI ru), .ref kp, .int (zI dn), .ref rfa])), (so, .inl (c_so, 4, .inl f_so)), (sl, .inl (c_sl, 4, .inl f_sl)), (ce, .inl (c_ce, 240, .inl f_ce)), (wg, .inl (c_wg, 24, .inl f_12))] := hD
                  refine lv_iinc (v := (zI (jq + 1))) (lv' := [(7, .int (zI (jq + 1))), (6, .int (zI ((60 * k) + i))), (5, .int (zI z_4)), (0, .ref h0), (1, .int (zI k)), (2, .int (zI y)), (3, .int (zI i)), (4, .int (zI z))]) hx hb dX9_write_204 hl (k := 0) rfl (kz_inc _ 1) (by decide) rfl (fun ls hl => ?_)
                  refine lv_goto (tgt := 132) hx hb dX9_write_207 (by decide) ?_
                  exact ih132 _ (by omega) _ _ _ ⟨(jq + 1), (jn + 1), z_13, l_17, f_12, rfl, (by omega), (by omega), (by omega), (kTl_s v_1323 ez_13), (kCk_s v_1324 (by omega) (kCd_m (by omega) ez_11) (by rw [el_17, el_16, el_14])), (kApp_t ef_12.symm v_1325 v_1322 (by omega) (kCd_m (by omega) ez_11)), hP, hD, hS, lv_sub hl [0, 1, 2, 3, 4, 5, 6, 7] rfl⟩
              · refine lv_bipush (v := zI (-4)) hx hb dX9_write_126 (by decide) ?_
                have hP9 := hP.sub (ws' := [(h0, .inr (9, [.int (zI 0), .int (zI tc), .ref so, .ref sl, .ref ce, .int (zI fn), .ref kd, .ref wd, .ref hs, .ref pf, .ref lt, .int (zI mn), .ref wg, .int (zI ta), .long ck, .int (zI at9), .int (zI rfn), .ref rk, .ref rw, .ref rh, .int (zI cl), .ref sa, .ref fi, .int (zI bo), .ref ch, .ref cn, .int (zI ad), .int (zI ru), .ref kp, .int (zI dn), .ref rfa])), (so, .inl (c_so, 4, .inl f_so)), (sl, .inl (c_sl, 4, .inl f_sl)), (ce, .inl (c_ce, 240, .inl f_ce)), (wg, .inl (c_wg, 24, .inl f_wg))]) [0, 1, 2, 3, 4] rfl
                have hD9 := hD.sub (ws' := [(h0, .inr (9, [.int (zI 0), .int (zI tc), .ref so, .ref sl, .ref ce, .int (zI fn), .ref kd, .ref wd, .ref hs, .ref pf, .ref lt, .int (zI mn), .ref wg, .int (zI ta), .long ck, .int (zI at9), .int (zI rfn), .ref rk, .ref rw, .ref rh, .int (zI cl), .ref sa, .ref fi, .int (zI bo), .ref ch, .ref cn, .int (zI ad), .int (zI ru), .ref kp, .int (zI dn), .ref rfa])), (so, .inl (c_so, 4, .inl f_so)), (sl, .inl (c_sl, 4, .inl f_sl)), (ce, .inl (c_ce, 240, .inl f_ce)), (wg, .inl (c_wg, 24, .inl f_wg))]) [0, 1, 2, 3, 4] (by decide +kernel) rfl
                exact W.iret (v := (zI (-4))) hx hb hr (fun t ht hW => kQS_of (by omega) ⟨0, mn, ta, ck, f_wg, (by omega), q5, q7, q9, (kGa_3 (by omega) (fun q => by unfold kWrB at q; omega) (kGt_2 (show kAgM _ _ _ _ _ 0 from (show z_4 = 0 from by omega) ▸ h_5.2) (by omega) (Or.inr (Or.inr (Or.inl ⟨by omega, (kLet_le v_791 (by omega)), (show 24 < mn + z from by omega), by omega, rfl⟩))))), by rw [ht]; exact hP9, hD9⟩ (hS.F ht)) hS.2.2 dX9_write_128
            · refine lv_aload_n hx hb dX9_write_86 rfl (lv_at hl 3 rfl) ?_
              refine va_get (D := D) (ci := 9) (v := .ref ce) (C := RX9) (T := TX9) (N := 31) hx hb hts (fun _ h9 => List.mem_cons_of_mem _ (List.mem_append_right _ h9)) hown hK hP 0 rfl rfl 4 (by decide) (hts (.fieldLink RX9 16 "FontRunsModel" "cells" "[I") mw_X9_write_4) (fun _ h9 => h9) rfl dX9_write_87 ?_
              refine lv_iload hx hb dX9_write_90 (lv_at hl 1 rfl) ?_
              refine lv_iload hx hb dX9_write_92 (lv_at hl 0 rfl) ?_
              refine kz_iadd hx hb dX9_write_94 ?_
              refine kz_iald hx hb hK hP 3 2 rfl rfl (by omega) dX9_write_95 (fun z_18 rz_18 ez_18 => ?_)
              refine lv_iconst (v := zI 0) hx hb dX9_write_96 rfl ?_
              refine lv_bipush (v := zI 15) hx hb dX9_write_97 (by decide) ?_
              refine k_callR (va_runS (As := [.int (zI z_18), .int (zI 0), .int (zI 15)]) (rest := []) ⟨hx, hb, hml, hown, hts⟩ (c_X9_within l D H.size (v := z_18) (a := 0) (b := 15) (by omega) (by omega) (by omega)) (va_cwS 3 hts gX9_write_X9_within rfl rfl rfl (by decide +kernel) ⟨Nat.le_of_ble_eq_true rfl, Nat.le_of_ble_eq_true rfl⟩) (kPreS hP (kD0 hD) hK hN [] [] ax_X9_write_0 rfl (by decide +kernel)) rfl rfl hl.1 rfl (lv_room (Nat.le_of_ble_eq_true rfl)) dX9_write_99 ⟨Nat.le_of_ble_eq_true rfl, Nat.le_of_ble_eq_true rfl⟩) ?_
              refine lv_if_ne (tgt := 108) hx hb dX9_write_102 (by decide) (fun c_19 => ?_) (fun c_19 => ?_)
              · have c_19 : 0 ≤ z_18 ∧ z_18 ≤ 15 := b01t c_19
                refine lv_iinc (v := (zI (jk + 1))) (lv' := [(7, .int (zI (jk + 1))), (6, .int (zI ((60 * k) + i))), (5, .int (zI z_4)), (0, .ref h0), (1, .int (zI k)), (2, .int (zI y)), (3, .int (zI i)), (4, .int (zI z))]) hx hb dX9_write_108 hl (k := 0) rfl (kz_inc _ 1) (by decide) rfl (fun ls hl => ?_)
                refine lv_goto (tgt := 79) hx hb dX9_write_111 (by decide) ?_
                exact ih79 _ (by omega) _ _ _ ⟨(jk + 1), rfl, (by omega), (kLet_s v_791 (by omega) (kCd_z (by omega) rz_18 ez_18) (by omega)), hP, hD, hS, lv_sub hl [0, 1, 2, 3, 4, 5, 6, 7] rfl⟩
              · have c_19 : ¬ (0 ≤ z_18 ∧ z_18 ≤ 15) := b01f c_19
                refine lv_bipush (v := zI (-2)) hx hb dX9_write_105 (by decide) ?_
                have hP9 := hP.sub (ws' := [(h0, .inr (9, [.int (zI 0), .int (zI tc), .ref so, .ref sl, .ref ce, .int (zI fn), .ref kd, .ref wd, .ref hs, .ref pf, .ref lt, .int (zI mn), .ref wg, .int (zI ta), .long ck, .int (zI at9), .int (zI rfn), .ref rk, .ref rw, .ref rh, .int (zI cl), .ref sa, .ref fi, .int (zI bo), .ref ch, .ref cn, .int (zI ad), .int (zI ru), .ref kp, .int (zI dn), .ref rfa])), (so, .inl (c_so, 4, .inl f_so)), (sl, .inl (c_sl, 4, .inl f_sl)), (ce, .inl (c_ce, 240, .inl f_ce)), (wg, .inl (c_wg, 24, .inl f_wg))]) [0, 1, 2, 3, 4] rfl
                have hD9 := hD.sub (ws' := [(h0, .inr (9, [.int (zI 0), .int (zI tc), .ref so, .ref sl, .ref ce, .int (zI fn), .ref kd, .ref wd, .ref hs, .ref pf, .ref lt, .int (zI mn), .ref wg, .int (zI ta), .long ck, .int (zI at9), .int (zI rfn), .ref rk, .ref rw, .ref rh, .int (zI cl), .ref sa, .ref fi, .int (zI bo), .ref ch, .ref cn, .int (zI ad), .int (zI ru), .ref kp, .int (zI dn), .ref rfa])), (so, .inl (c_so, 4, .inl f_so)), (sl, .inl (c_sl, 4, .inl f_sl)), (ce, .inl (c_ce, 240, .inl f_ce)), (wg, .inl (c_wg, 24, .inl f_wg))]) [0, 1, 2, 3, 4] (by decide +kernel) rfl
                exact W.iret (v := (zI (-2))) hx hb hr (fun t ht hW => kQS_of (by omega) ⟨0, mn, ta, ck, f_wg, (by omega), q5, q7, q9, (kGa_3 (by omega) (fun q => by unfold kWrB at q; omega) (kGt_2 (show kAgM _ _ _ _ _ 0 from (show z_4 = 0 from by omega) ▸ h_5.2) (by omega) (Or.inr (Or.inl ⟨by omega, kLet_not (n := jk) (by omega) (kCd_z (by omega) rz_18 ez_18) (by omega), by omega, rfl⟩)))), by rw [ht]; exact hP9, hD9⟩ (hS.F ht)) hS.2.2 dX9_write_107
          · refine lv_bipush (v := zI (-3)) hx hb dX9_write_65 (by decide) ?_
            have hP9 := hP.sub (ws' := [(h0, .inr (9, [.int (zI 0), .int (zI tc), .ref so, .ref sl, .ref ce, .int (zI fn), .ref kd, .ref wd, .ref hs, .ref pf, .ref lt, .int (zI mn), .ref wg, .int (zI ta), .long ck, .int (zI at9), .int (zI rfn), .ref rk, .ref rw, .ref rh, .int (zI cl), .ref sa, .ref fi, .int (zI bo), .ref ch, .ref cn, .int (zI ad), .int (zI ru), .ref kp, .int (zI dn), .ref rfa])), (so, .inl (c_so, 4, .inl f_so)), (sl, .inl (c_sl, 4, .inl f_sl)), (ce, .inl (c_ce, 240, .inl f_ce)), (wg, .inl (c_wg, 24, .inl f_wg))]) [0, 1, 2, 3, 4] rfl
            have hD9 := hD.sub (ws' := [(h0, .inr (9, [.int (zI 0), .int (zI tc), .ref so, .ref sl, .ref ce, .int (zI fn), .ref kd, .ref wd, .ref hs, .ref pf, .ref lt, .int (zI mn), .ref wg, .int (zI ta), .long ck, .int (zI at9), .int (zI rfn), .ref rk, .ref rw, .ref rh, .int (zI cl), .ref sa, .ref fi, .int (zI bo), .ref ch, .ref cn, .int (zI ad), .int (zI ru), .ref kp, .int (zI dn), .ref rfa])), (so, .inl (c_so, 4, .inl f_so)), (sl, .inl (c_sl, 4, .inl f_sl)), (ce, .inl (c_ce, 240, .inl f_ce)), (wg, .inl (c_wg, 24, .inl f_wg))]) [0, 1, 2, 3, 4] (by decide +kernel) rfl
            exact W.iret (v := (zI (-3))) hx hb hr (fun t ht hW => kQS_of (by omega) ⟨0, mn, ta, ck, f_wg, (by omega), q5, q7, q9, (kGa_3 (by omega) (fun q => by unfold kWrB at q; omega) (kGt_2 (show kAgM _ _ _ _ _ 0 from (show z_4 = 0 from by omega) ▸ h_5.2) (by omega) (Or.inl ⟨by omega, by omega, rfl⟩))), by rw [ht]; exact hP9, hD9⟩ (hS.F ht)) hS.2.2 dX9_write_67
        · refine lv_aload_n hx hb dX9_write_51 rfl (lv_at hl 1 rfl) ?_
          refine lv_iload hx hb dX9_write_52 (lv_at hl 0 rfl) ?_
          have hFc := va_free (wc := [(h0, .inr (9, [.int (zI 0), .int (zI tc), .ref so, .ref sl, .ref ce, .int (zI fn), .ref kd, .ref wd, .ref hs, .ref pf, .ref lt, .int (zI mn), .ref wg, .int (zI ta), .long ck, .int (zI at9), .int (zI rfn), .ref rk, .ref rw, .ref rh, .int (zI cl), .ref sa, .ref fi, .int (zI bo), .ref ch, .ref cn, .int (zI ad), .int (zI ru), .ref kp, .int (zI dn), .ref rfa]))]) hD hS hA [0] ax_X9_write_3
          refine va_calli (va_runV (As := [.int (zI z_4)]) (rest := []) ⟨hx, hb, hml, hown, hts⟩ (c_X9_fails_w l D H.size (f := z_4) (h0 := h0) (fa := 0) (tc := tc) (so := so) (sl := sl) (ce := ce) (fn := fn) (kd := kd) (wd := wd) (hs := hs) (pf := pf) (lt := lt) (mn := mn) (wg := wg) (ta := ta) (ck := ck) (at9 := at9) (rfn := rfn) (rk := rk) (rw := rw) (rh := rh) (cl := cl) (sa := sa) (fi := fi) (bo := bo) (ch := ch) (cn := cn) (ad := ad) (ru := ru) (kp := kp) (dn := dn) (rfa := rfa) (by omega) (by omega)) (cwV 1 hts gX9_write_X9_fails rfl rfl rfl (by decide +kernel) ⟨Nat.le_of_ble_eq_true rfl, Nat.le_of_ble_eq_true rfl⟩) (kPreV hP (kD0 hD) hK hN [0] [] ax_X9_write_3 rfl (by decide +kernel) 0 9 rfl rfl) rfl rfl hl.1 rfl (lv_room (Nat.le_of_ble_eq_true rfl)) dX9_write_54 ⟨Nat.le_of_ble_eq_true rfl, Nat.le_of_ble_eq_true rfl⟩) hS (fun q _ h => hFc q h) hFc (fun r u t H1 locs ht hvm hw hB hz1 hk1 hS => ?_)
          obtain ⟨z_21, e9⟩ : ∃ z, z = u := ⟨_, rfl⟩
          subst e9
          obtain ⟨rfl, rz_21⟩ := hw
          refine Exists.elim hB (fun u_fa_20 hB1 => ?_)
          have h_22 := hB1.1
          have h_23 := hB1.2.1
          have h_24 := hB1.2.2.1
          have hP1 := hB1.2.2.2.1
          have hD1 := hB1.2.2.2.2
          clear hB hB1
          rw [ht] at hP1
          obtain ⟨hP, hD⟩ := va_join (wr := [(so, .inl (c_so, 4, .inl f_so)), (sl, .inl (c_sl, 4, .inl f_sl)), (ce, .inl (c_ce, 240, .inl f_ce)), (wg, .inl (c_wg, 24, .inl f_wg))]) (w1 := [(h0, .inr (9, [.int (zI u_fa_20), .int (zI tc), .ref so, .ref sl, .ref ce, .int (zI fn), .ref kd, .ref wd, .ref hs, .ref pf, .ref lt, .int (zI mn), .ref wg, .int (zI ta), .long ck, .int (zI at9), .int (zI rfn), .ref rk, .ref rw, .ref rh, .int (zI cl), .ref sa, .ref fi, .int (zI bo), .ref ch, .ref cn, .int (zI ad), .int (zI ru), .ref kp, .int (zI dn), .ref rfa]))]) hP hD [0] [1, 2, 3, 4] ax_X9_write_3 ax_X9_write_4 (by decide +kernel) (by decide +kernel) hk1 hFc hP1 hD1
          have hP := ax_X9_write_5 hP
          have hD := ax_X9_write_6 hD
          generalize H1 = H at hP hS ⊢
          have hP : va_P D vwCl [(so, .inl (c_so, 4, .inl f_so)), (sl, .inl (c_sl, 4, .inl f_sl)), (ce, .inl (c_ce, 240, .inl f_ce)), (wg, .inl (c_wg, 24, .inl f_wg)), (h0, .inr (9, [.int (zI u_fa_20), .int (zI tc), .ref so, .ref sl, .ref ce, .int (zI fn), .ref kd, .ref wd, .ref hs, .ref pf, .ref lt, .int (zI mn), .ref wg, .int (zI ta), .long ck, .int (zI at9), .int (zI rfn), .ref rk, .ref rw, .ref rh, .int (zI cl), .ref sa, .ref fi, .int (zI bo), .ref ch, .ref cn, .int (zI ad), .int (zI ru), .ref kp, .int (zI dn), .ref rfa]))] H := hP
          have hD : va_D A [(so, .inl (c_so, 4, .inl f_so)), (sl, .inl (c_sl, 4, .inl f_sl)), (ce, .inl (c_ce, 240, .inl f_ce)), (wg, .inl (c_wg, 24, .inl f_wg)), (h0, .inr (9, [.int (zI u_fa_20), .int (zI tc), .ref so, .ref sl, .ref ce, .int (zI fn), .ref kd, .ref wd, .ref hs, .ref pf, .ref lt, .int (zI mn), .ref wg, .int (zI ta), .long ck, .int (zI at9), .int (zI rfn), .ref rk, .ref rw, .ref rh, .int (zI cl), .ref sa, .ref fi, .int (zI bo), .ref ch, .ref cn, .int (zI ad), .int (zI ru), .ref kp, .int (zI dn), .ref rfa]))] := hD
          have hP9 := hP.sub (ws' := [(h0, .inr (9, [.int (zI u_fa_20), .int (zI tc), .ref so, .ref sl, .ref ce, .int (zI fn), .ref kd, .ref wd, .ref hs, .ref pf, .ref lt, .int (zI mn), .ref wg, .int (zI ta), .long ck, .int (zI at9), .int (zI rfn), .ref rk, .ref rw, .ref rh, .int (zI cl), .ref sa, .ref fi, .int (zI bo), .ref ch, .ref cn, .int (zI ad), .int (zI ru), .ref kp, .int (zI dn), .ref rfa])), (so, .inl (c_so, 4, .inl f_so)), (sl, .inl (c_sl, 4, .inl f_sl)), (ce, .inl (c_ce, 240, .inl f_ce)), (wg, .inl (c_wg, 24, .inl f_wg))]) [4, 0, 1, 2, 3] rfl
          have hD9 := hD.sub (ws' := [(h0, .inr (9, [.int (zI u_fa_20), .int (zI tc), .ref so, .ref sl, .ref ce, .int (zI fn), .ref kd, .ref wd, .ref hs, .ref pf, .ref lt, .int (zI mn), .ref wg, .int (zI ta), .long ck, .int (zI at9), .int (zI rfn), .ref rk, .ref rw, .ref rh, .int (zI cl), .ref sa, .ref fi, .int (zI bo), .ref ch, .ref cn, .int (zI ad), .int (zI ru), .ref kp, .int (zI dn), .ref rfa])), (so, .inl (c_so, 4, .inl f_so)), (sl, .inl (c_sl, 4, .inl f_sl)), (ce, .inl (c_ce, 240, .inl f_ce)), (wg, .inl (c_wg, 24, .inl f_wg))]) [4, 0, 1, 2, 3] (by decide +kernel) rfl
          exact W.iret (v := (zI z_21)) hx hb hr (fun t ht hW => kQS_of (by omega) ⟨u_fa_20, mn, ta, ck, f_wg, h_22, q5, q7, q9, (kGa_3 (by omega) (fun q => by unfold kWrB at q; omega) (kGt_1 z_4 h_5.2 (by omega) (by omega) (by omega) rfl)), by rw [ht]; exact hP9, hD9⟩ (hS.F ht)) hS.2.2 dX9_write_57
      · have c_3 : ¬ (0 ≤ z ∧ z ≤ 24) := b01f c_3
        refine lv_bipush (v := zI (-2)) hx hb dX9_write_32 (by decide) ?_
        have hP9 := hP.sub (ws' := [(h0, .inr (9, [.int (zI 0), .int (zI tc), .ref so, .ref sl, .ref ce, .int (zI fn), .ref kd, .ref wd, .ref hs, .ref pf, .ref lt, .int (zI mn), .ref wg, .int (zI ta), .long ck, .int (zI at9), .int (zI rfn), .ref rk, .ref rw, .ref rh, .int (zI cl), .ref sa, .ref fi, .int (zI bo), .ref ch, .ref cn, .int (zI ad), .int (zI ru), .ref kp, .int (zI dn), .ref rfa])), (so, .inl (c_so, 4, .inl f_so)), (sl, .inl (c_sl, 4, .inl f_sl)), (ce, .inl (c_ce, 240, .inl f_ce)), (wg, .inl (c_wg, 24, .inl f_wg))]) [0, 1, 2, 3, 4] rfl
        have hD9 := hD.sub (ws' := [(h0, .inr (9, [.int (zI 0), .int (zI tc), .ref so, .ref sl, .ref ce, .int (zI fn), .ref kd, .ref wd, .ref hs, .ref pf, .ref lt, .int (zI mn), .ref wg, .int (zI ta), .long ck, .int (zI at9), .int (zI rfn), .ref rk, .ref rw, .ref rh, .int (zI cl), .ref sa, .ref fi, .int (zI bo), .ref ch, .ref cn, .int (zI ad), .int (zI ru), .ref kp, .int (zI dn), .ref rfa])), (so, .inl (c_so, 4, .inl f_so)), (sl, .inl (c_sl, 4, .inl f_sl)), (ce, .inl (c_ce, 240, .inl f_ce)), (wg, .inl (c_wg, 24, .inl f_wg))]) [0, 1, 2, 3, 4] (by decide +kernel) rfl
        exact W.iret (v := (zI (-2))) hx hb hr (fun t ht hW => kQS_of (by omega) ⟨0, mn, ta, ck, f_wg, (by omega), q5, q7, q9, (kGa_2 (by omega) (by unfold kWrB; omega) (by omega) (by omega) rfl), by rw [ht]; exact hP9, hD9⟩ (hS.F ht)) hS.2.2 dX9_write_34
  · have c_1 : ¬ (0 ≤ k ∧ k ≤ 3) := b01f c_1
    refine lv_iconst (v := zI (-1)) hx hb dX9_write_12 rfl ?_
    have hP9 := hP.sub (ws' := [(h0, .inr (9, [.int (zI 0), .int (zI tc), .ref so, .ref sl, .ref ce, .int (zI fn), .ref kd, .ref wd, .ref hs, .ref pf, .ref lt, .int (zI mn), .ref wg, .int (zI ta), .long ck, .int (zI at9), .int (zI rfn), .ref rk, .ref rw, .ref rh, .int (zI cl), .ref sa, .ref fi, .int (zI bo), .ref ch, .ref cn, .int (zI ad), .int (zI ru), .ref kp, .int (zI dn), .ref rfa])), (so, .inl (c_so, 4, .inl f_so)), (sl, .inl (c_sl, 4, .inl f_sl)), (ce, .inl (c_ce, 240, .inl f_ce)), (wg, .inl (c_wg, 24, .inl f_wg))]) [0, 1, 2, 3, 4] rfl
    have hD9 := hD.sub (ws' := [(h0, .inr (9, [.int (zI 0), .int (zI tc), .ref so, .ref sl, .ref ce, .int (zI fn), .ref kd, .ref wd, .ref hs, .ref pf, .ref lt, .int (zI mn), .ref wg, .int (zI ta), .long ck, .int (zI at9), .int (zI rfn), .ref rk, .ref rw, .ref rh, .int (zI cl), .ref sa, .ref fi, .int (zI bo), .ref ch, .ref cn, .int (zI ad), .int (zI ru), .ref kp, .int (zI dn), .ref rfa])), (so, .inl (c_so, 4, .inl f_so)), (sl, .inl (c_sl, 4, .inl f_sl)), (ce, .inl (c_ce, 240, .inl f_ce)), (wg, .inl (c_wg, 24, .inl f_wg))]) [0, 1, 2, 3, 4] (by decide +kernel) rfl
    exact W.iret (v := (zI (-1))) hx hb hr (fun t ht hW => kQS_of (by omega) ⟨0, mn, ta, ck, f_wg, (by omega), q5, q7, q9, (kGa_1 (by omega) (by omega) (by omega) rfl), by rw [ht]; exact hP9, hD9⟩ (hS.F ht)) hS.2.2 dX9_write_13
