theorem dX9_findClusters_0 : decode cX9_findClusters 0 = .ok (.aload_n 0, 1) := by decide +kernel
theorem dX9_findClusters_1 : decode cX9_findClusters 1 = .ok (.iconst 0, 1) := by decide +kernel
theorem dX9_findClusters_2 : decode cX9_findClusters 2 = .ok (.putfield 138, 3) := by decide +kernel
theorem dX9_findClusters_5 : decode cX9_findClusters 5 = .ok (.aload_n 0, 1) := by decide +kernel
theorem dX9_findClusters_6 : decode cX9_findClusters 6 = .ok (.iconst 0, 1) := by decide +kernel
theorem dX9_findClusters_7 : decode cX9_findClusters 7 = .ok (.putfield 141, 3) := by decide +kernel
theorem dX9_findClusters_10 : decode cX9_findClusters 10 = .ok (.iconst 0, 1) := by decide +kernel
theorem dX9_findClusters_11 : decode cX9_findClusters 11 = .ok (.istore_n 2, 1) := by decide +kernel
theorem dX9_findClusters_12 : decode cX9_findClusters 12 = .ok (.iload_n 2, 1) := by decide +kernel
theorem dX9_findClusters_13 : decode cX9_findClusters 13 = .ok (.aload_n 0, 1) := by decide +kernel
theorem dX9_findClusters_14 : decode cX9_findClusters 14 = .ok (.getfield 101, 3) := by decide +kernel
theorem dX9_findClusters_17 : decode cX9_findClusters 17 = .ok (.if_icmp .ge 44, 3) := by decide +kernel
theorem dX9_findClusters_20 : decode cX9_findClusters 20 = .ok (.iload_n 2, 1) := by decide +kernel
theorem dX9_findClusters_21 : decode cX9_findClusters 21 = .ok (.ifCond .eq 14, 3) := by decide +kernel
theorem dX9_findClusters_24 : decode cX9_findClusters 24 = .ok (.aload_n 0, 1) := by decide +kernel
theorem dX9_findClusters_25 : decode cX9_findClusters 25 = .ok (.getfield 34, 3) := by decide +kernel
theorem dX9_findClusters_28 : decode cX9_findClusters 28 = .ok (.iload_n 2, 1) := by decide +kernel
theorem dX9_findClusters_29 : decode cX9_findClusters 29 = .ok (.iaload, 1) := by decide +kernel
theorem dX9_findClusters_30 : decode cX9_findClusters 30 = .ok (.bipush 12, 2) := by decide +kernel
theorem dX9_findClusters_32 : decode cX9_findClusters 32 = .ok (.if_icmp .ge 23, 3) := by decide +kernel
theorem dX9_findClusters_35 : decode cX9_findClusters 35 = .ok (.aload_n 0, 1) := by decide +kernel
theorem dX9_findClusters_36 : decode cX9_findClusters 36 = .ok (.getfield 46, 3) := by decide +kernel
theorem dX9_findClusters_39 : decode cX9_findClusters 39 = .ok (.aload_n 0, 1) := by decide +kernel
theorem dX9_findClusters_40 : decode cX9_findClusters 40 = .ok (.getfield 138, 3) := by decide +kernel
theorem dX9_findClusters_43 : decode cX9_findClusters 43 = .ok (.iload_n 2, 1) := by decide +kernel
theorem dX9_findClusters_44 : decode cX9_findClusters 44 = .ok (.iastore, 1) := by decide +kernel
theorem dX9_findClusters_45 : decode cX9_findClusters 45 = .ok (.aload_n 0, 1) := by decide +kernel
theorem dX9_findClusters_46 : decode cX9_findClusters 46 = .ok (.dup, 1) := by decide +kernel
theorem dX9_findClusters_47 : decode cX9_findClusters 47 = .ok (.getfield 138, 3) := by decide +kernel
theorem dX9_findClusters_50 : decode cX9_findClusters 50 = .ok (.iconst 1, 1) := by decide +kernel
theorem dX9_findClusters_51 : decode cX9_findClusters 51 = .ok (.iadd, 1) := by decide +kernel
theorem dX9_findClusters_52 : decode cX9_findClusters 52 = .ok (.putfield 138, 3) := by decide +kernel
theorem dX9_findClusters_55 : decode cX9_findClusters 55 = .ok (.iinc 2 1, 3) := by decide +kernel
theorem dX9_findClusters_58 : decode cX9_findClusters 58 = .ok (.goto (-46), 3) := by decide +kernel
theorem dX9_findClusters_61 : decode cX9_findClusters 61 = .ok (.aload_n 0, 1) := by decide +kernel
theorem dX9_findClusters_62 : decode cX9_findClusters 62 = .ok (.getfield 46, 3) := by decide +kernel
theorem dX9_findClusters_65 : decode cX9_findClusters 65 = .ok (.aload_n 0, 1) := by decide +kernel
theorem dX9_findClusters_66 : decode cX9_findClusters 66 = .ok (.getfield 138, 3) := by decide +kernel
theorem dX9_findClusters_69 : decode cX9_findClusters 69 = .ok (.aload_n 0, 1) := by decide +kernel
theorem dX9_findClusters_70 : decode cX9_findClusters 70 = .ok (.getfield 101, 3) := by decide +kernel
theorem dX9_findClusters_73 : decode cX9_findClusters 73 = .ok (.iastore, 1) := by decide +kernel
theorem dX9_findClusters_74 : decode cX9_findClusters 74 = .ok (.iconst 0, 1) := by decide +kernel
theorem dX9_findClusters_75 : decode cX9_findClusters 75 = .ok (.istore_n 2, 1) := by decide +kernel
theorem dX9_findClusters_76 : decode cX9_findClusters 76 = .ok (.iload_n 2, 1) := by decide +kernel
theorem dX9_findClusters_77 : decode cX9_findClusters 77 = .ok (.aload_n 0, 1) := by decide +kernel
theorem dX9_findClusters_78 : decode cX9_findClusters 78 = .ok (.getfield 138, 3) := by decide +kernel
theorem dX9_findClusters_81 : decode cX9_findClusters 81 = .ok (.if_icmp .ge 135, 3) := by decide +kernel
theorem dX9_findClusters_84 : decode cX9_findClusters 84 = .ok (.iconst 0, 1) := by decide +kernel
theorem dX9_findClusters_85 : decode cX9_findClusters 85 = .ok (.istore_n 3, 1) := by decide +kernel
theorem dX9_findClusters_86 : decode cX9_findClusters 86 = .ok (.aload_n 0, 1) := by decide +kernel
theorem dX9_findClusters_87 : decode cX9_findClusters 87 = .ok (.getfield 46, 3) := by decide +kernel
theorem dX9_findClusters_90 : decode cX9_findClusters 90 = .ok (.iload_n 2, 1) := by decide +kernel
theorem dX9_findClusters_91 : decode cX9_findClusters 91 = .ok (.iaload, 1) := by decide +kernel
theorem dX9_findClusters_92 : decode cX9_findClusters 92 = .ok (.istore 4, 2) := by decide +kernel
theorem dX9_findClusters_94 : decode cX9_findClusters 94 = .ok (.iload 4, 2) := by decide +kernel
theorem dX9_findClusters_96 : decode cX9_findClusters 96 = .ok (.aload_n 0, 1) := by decide +kernel
theorem dX9_findClusters_97 : decode cX9_findClusters 97 = .ok (.getfield 46, 3) := by decide +kernel
theorem dX9_findClusters_100 : decode cX9_findClusters 100 = .ok (.iload_n 2, 1) := by decide +kernel
theorem dX9_findClusters_101 : decode cX9_findClusters 101 = .ok (.iconst 1, 1) := by decide +kernel
theorem dX9_findClusters_102 : decode cX9_findClusters 102 = .ok (.iadd, 1) := by decide +kernel
theorem dX9_findClusters_103 : decode cX9_findClusters 103 = .ok (.iaload, 1) := by decide +kernel
theorem dX9_findClusters_104 : decode cX9_findClusters 104 = .ok (.if_icmp .ge 21, 3) := by decide +kernel
theorem dX9_findClusters_107 : decode cX9_findClusters 107 = .ok (.iload_n 3, 1) := by decide +kernel
theorem dX9_findClusters_108 : decode cX9_findClusters 108 = .ok (.iconst 1, 1) := by decide +kernel
theorem dX9_findClusters_109 : decode cX9_findClusters 109 = .ok (.aload_n 0, 1) := by decide +kernel
theorem dX9_findClusters_110 : decode cX9_findClusters 110 = .ok (.getfield 34, 3) := by decide +kernel
theorem dX9_findClusters_113 : decode cX9_findClusters 113 = .ok (.iload 4, 2) := by decide +kernel
theorem dX9_findClusters_115 : decode cX9_findClusters 115 = .ok (.iaload, 1) := by decide +kernel
theorem dX9_findClusters_116 : decode cX9_findClusters 116 = .ok (.ishl, 1) := by decide +kernel
theorem dX9_findClusters_117 : decode cX9_findClusters 117 = .ok (.ior, 1) := by decide +kernel
theorem dX9_findClusters_118 : decode cX9_findClusters 118 = .ok (.istore_n 3, 1) := by decide +kernel
theorem dX9_findClusters_119 : decode cX9_findClusters 119 = .ok (.iinc 4 1, 3) := by decide +kernel
theorem dX9_findClusters_122 : decode cX9_findClusters 122 = .ok (.goto (-28), 3) := by decide +kernel
theorem dX9_findClusters_125 : decode cX9_findClusters 125 = .ok (.aload_n 0, 1) := by decide +kernel
theorem dX9_findClusters_126 : decode cX9_findClusters 126 = .ok (.getfield 49, 3) := by decide +kernel
theorem dX9_findClusters_129 : decode cX9_findClusters 129 = .ok (.iload_n 2, 1) := by decide +kernel
theorem dX9_findClusters_130 : decode cX9_findClusters 130 = .ok (.iconst 0, 1) := by decide +kernel
theorem dX9_findClusters_131 : decode cX9_findClusters 131 = .ok (.iastore, 1) := by decide +kernel
theorem dX9_findClusters_132 : decode cX9_findClusters 132 = .ok (.iconst 0, 1) := by decide +kernel
theorem dX9_findClusters_133 : decode cX9_findClusters 133 = .ok (.istore 4, 2) := by decide +kernel
theorem dX9_findClusters_135 : decode cX9_findClusters 135 = .ok (.iload 4, 2) := by decide +kernel
theorem dX9_findClusters_137 : decode cX9_findClusters 137 = .ok (.aload_n 0, 1) := by decide +kernel
theorem dX9_findClusters_138 : decode cX9_findClusters 138 = .ok (.getfield 74, 3) := by decide +kernel
theorem dX9_findClusters_141 : decode cX9_findClusters 141 = .ok (.if_icmp .ge 46, 3) := by decide +kernel
theorem dX9_findClusters_144 : decode cX9_findClusters 144 = .ok (.aload_n 0, 1) := by decide +kernel
theorem dX9_findClusters_145 : decode cX9_findClusters 145 = .ok (.getfield 49, 3) := by decide +kernel
theorem dX9_findClusters_148 : decode cX9_findClusters 148 = .ok (.iload_n 2, 1) := by decide +kernel
theorem dX9_findClusters_149 : decode cX9_findClusters 149 = .ok (.dup2, 1) := by decide +kernel
theorem dX9_findClusters_150 : decode cX9_findClusters 150 = .ok (.iaload, 1) := by decide +kernel
theorem dX9_findClusters_151 : decode cX9_findClusters 151 = .ok (.iload 4, 2) := by decide +kernel
theorem dX9_findClusters_153 : decode cX9_findClusters 153 = .ok (.iload_n 1, 1) := by decide +kernel
theorem dX9_findClusters_154 : decode cX9_findClusters 154 = .ok (.if_icmp .eq 24, 3) := by decide +kernel
theorem dX9_findClusters_157 : decode cX9_findClusters 157 = .ok (.iload_n 3, 1) := by decide +kernel
theorem dX9_findClusters_158 : decode cX9_findClusters 158 = .ok (.aload_n 0, 1) := by decide +kernel
theorem dX9_findClusters_159 : decode cX9_findClusters 159 = .ok (.getfield 25, 3) := by decide +kernel
theorem dX9_findClusters_162 : decode cX9_findClusters 162 = .ok (.iload 4, 2) := by decide +kernel
theorem dX9_findClusters_164 : decode cX9_findClusters 164 = .ok (.iaload, 1) := by decide +kernel
theorem dX9_findClusters_165 : decode cX9_findClusters 165 = .ok (.iconst (-1), 1) := by decide +kernel
theorem dX9_findClusters_166 : decode cX9_findClusters 166 = .ok (.ixor, 1) := by decide +kernel
theorem dX9_findClusters_167 : decode cX9_findClusters 167 = .ok (.iand, 1) := by decide +kernel
theorem dX9_findClusters_168 : decode cX9_findClusters 168 = .ok (.ifCond .ne 10, 3) := by decide +kernel
theorem dX9_findClusters_171 : decode cX9_findClusters 171 = .ok (.iconst 1, 1) := by decide +kernel
theorem dX9_findClusters_172 : decode cX9_findClusters 172 = .ok (.iload 4, 2) := by decide +kernel
theorem dX9_findClusters_174 : decode cX9_findClusters 174 = .ok (.ishl, 1) := by decide +kernel
theorem dX9_findClusters_175 : decode cX9_findClusters 175 = .ok (.goto 4, 3) := by decide +kernel
theorem dX9_findClusters_178 : decode cX9_findClusters 178 = .ok (.iconst 0, 1) := by decide +kernel
theorem dX9_findClusters_179 : decode cX9_findClusters 179 = .ok (.ior, 1) := by decide +kernel
theorem dX9_findClusters_180 : decode cX9_findClusters 180 = .ok (.iastore, 1) := by decide +kernel
theorem dX9_findClusters_181 : decode cX9_findClusters 181 = .ok (.iinc 4 1, 3) := by decide +kernel
theorem dX9_findClusters_184 : decode cX9_findClusters 184 = .ok (.goto (-49), 3) := by decide +kernel
theorem dX9_findClusters_187 : decode cX9_findClusters 187 = .ok (.aload_n 0, 1) := by decide +kernel
theorem dX9_findClusters_188 : decode cX9_findClusters 188 = .ok (.dup, 1) := by decide +kernel
theorem dX9_findClusters_189 : decode cX9_findClusters 189 = .ok (.getfield 141, 3) := by decide +kernel
theorem dX9_findClusters_192 : decode cX9_findClusters 192 = .ok (.aload_n 0, 1) := by decide +kernel
theorem dX9_findClusters_193 : decode cX9_findClusters 193 = .ok (.getfield 49, 3) := by decide +kernel
theorem dX9_findClusters_196 : decode cX9_findClusters 196 = .ok (.iload_n 2, 1) := by decide +kernel
theorem dX9_findClusters_197 : decode cX9_findClusters 197 = .ok (.iaload, 1) := by decide +kernel
theorem dX9_findClusters_198 : decode cX9_findClusters 198 = .ok (.ifCond .ne 7, 3) := by decide +kernel
theorem dX9_findClusters_201 : decode cX9_findClusters 201 = .ok (.iconst 1, 1) := by decide +kernel
theorem dX9_findClusters_202 : decode cX9_findClusters 202 = .ok (.goto 4, 3) := by decide +kernel
theorem dX9_findClusters_205 : decode cX9_findClusters 205 = .ok (.iconst 0, 1) := by decide +kernel
theorem dX9_findClusters_206 : decode cX9_findClusters 206 = .ok (.iadd, 1) := by decide +kernel
theorem dX9_findClusters_207 : decode cX9_findClusters 207 = .ok (.putfield 141, 3) := by decide +kernel
theorem dX9_findClusters_210 : decode cX9_findClusters 210 = .ok (.iinc 2 1, 3) := by decide +kernel
theorem dX9_findClusters_213 : decode cX9_findClusters 213 = .ok (.goto (-137), 3) := by decide +kernel
theorem dX9_findClusters_216 : decode cX9_findClusters 216 = .ok (.return_, 1) := by decide +kernel
set_option maxRecDepth 20000 in
theorem mw_X9_findClusters_0 : (.fieldLink RX9 138 "FontRunsModel" "clusters" "I" : Cond) ∈ wsX9_findClusters := List.mem_cons_of_mem _ (List.mem_append_left _ (List.mem_of_getElem? (i := 0) rfl))
set_option maxRecDepth 20000 in
theorem mw_X9_findClusters_1 : (.fieldLink RX9 141 "FontRunsModel" "boxes" "I" : Cond) ∈ wsX9_findClusters := List.mem_cons_of_mem _ (List.mem_append_left _ (List.mem_of_getElem? (i := 1) rfl))
set_option maxRecDepth 20000 in
theorem mw_X9_findClusters_2 : (.fieldLink RX9 101 "FontRunsModel" "many" "I" : Cond) ∈ wsX9_findClusters := List.mem_cons_of_mem _ (List.mem_append_left _ (List.mem_of_getElem? (i := 2) rfl))
set_option maxRecDepth 20000 in
theorem mw_X9_findClusters_3 : (.fieldLink RX9 46 "FontRunsModel" "start" "[I" : Cond) ∈ wsX9_findClusters := List.mem_cons_of_mem _ (List.mem_append_left _ (List.mem_of_getElem? (i := 4) rfl))
set_option maxRecDepth 20000 in
theorem mw_X9_findClusters_4 : (.fieldLink RX9 49 "FontRunsModel" "fits" "[I" : Cond) ∈ wsX9_findClusters := List.mem_cons_of_mem _ (List.mem_append_left _ (List.mem_of_getElem? (i := 5) rfl))
set_option maxRecDepth 20000 in
theorem mw_X9_findClusters_5 : (.fieldLink RX9 74 "FontRunsModel" "fonts" "I" : Cond) ∈ wsX9_findClusters := List.mem_cons_of_mem _ (List.mem_append_left _ (List.mem_of_getElem? (i := 6) rfl))
set_option maxRecDepth 20000 in
theorem mw_X9_findClusters_6 : (.fieldLink RX9 25 "FontRunsModel" "has" "[I" : Cond) ∈ wsX9_findClusters := List.mem_cons_of_mem _ (List.mem_append_left _ (List.mem_of_getElem? (i := 7) rfl))
set_option maxRecDepth 20000 in
theorem mw_X9_findClusters_7 : (.fieldLink RX9 34 "FontRunsModel" "writing" "[I" : Cond) ∈ wsX9_findClusters := List.mem_cons_of_mem _ (List.mem_append_left _ (List.mem_of_getElem? (i := 3) rfl))
theorem ax_X9_findClusters_0 {e0 e1 e2 e3 e4 : Nat × va_E} : ([0, 1, 2, 3, 4] : List Nat).map (fun i => ([e0, e1, e2, e3, e4] : va_W)[i]?) = ([e0, e1, e2, e3, e4] : va_W).map some := rfl
set_option maxHeartbeats 4000000 in
set_option maxRecDepth 100000 in
theorem c_X9_findClusters (l : Launch) (D : va_G) (sz : Nat) (wo : Int) (h0 : Nat) (fa : Int) (tc : Int) (so : Nat) (sl : Nat) (ce : Nat) (fn : Int) (kd : Nat) (wd : Nat) (hs : Nat) (pf : Nat) (lt : Nat) (mn : Int) (wg : Nat) (ta : Int) (ck : Int64) (at9 : Int) (rfn : Int) (rk : Nat) (rw : Nat) (rh : Nat) (cl : Int) (sa : Nat) (fi : Nat) (bo : Int) (ch : Nat) (cn : Nat) (ad : Int) (ru : Int) (kp : Nat) (dn : Int) (rfa : Nat) (c_wg : ClassId) (f_wg : Nat → Int32) (c_sa : ClassId) (f_sa : Nat → Int32) (c_fi : ClassId) (f_fi : Nat → Int32) (c_hs : ClassId) (f_hs : Nat → Int32) (q0 : rg wo) (q1 : 0 ≤ mn ∧ mn ≤ 24) (q2 : 0 ≤ fn ∧ fn ≤ 4) : Met l yX9_findClusters wsX9_findClusters ({ frames := 0, cells := 0, slots := 0, locals := 0 }) (kPre [.ref h0, .int (zI wo)] D [(h0, .inr (9, [.int (zI fa), .int (zI tc), .ref so, .ref sl, .ref ce, .int (zI fn), .ref kd, .ref wd, .ref hs, .ref pf, .ref lt, .int (zI mn), .ref wg, .int (zI ta), .long ck, .int (zI at9), .int (zI rfn), .ref rk, .ref rw, .ref rh, .int (zI cl), .ref sa, .ref fi, .int (zI bo), .ref ch, .ref cn, .int (zI ad), .int (zI ru), .ref kp, .int (zI dn), .ref rfa])), (wg, .inl (c_wg, 24, .inl f_wg)), (sa, .inl (c_sa, 25, .inl f_sa)), (fi, .inl (c_fi, 24, .inl f_fi)), (hs, .inl (c_hs, 4, .inl f_hs))] [(c_wg, .int), (c_sa, .int), (c_fi, .int), (c_hs, .int)] sz) (kQV (fun t => ∃ (u_cl : Int) (u_bo : Int) (u_f_sa : Nat → Int32) (u_f_fi : Nat → Int32), (0 ≤ u_cl ∧ u_cl ≤ mn) ∧ (0 ≤ u_bo ∧ u_bo ≤ 24) ∧ (kFt u_f_fi fn u_cl wo) ∧ va_P D vwCl [(h0, .inr (9, [.int (zI fa), .int (zI tc), .ref so, .ref sl, .ref ce, .int (zI fn), .ref kd, .ref wd, .ref hs, .ref pf, .ref lt, .int (zI mn), .ref wg, .int (zI ta), .long ck, .int (zI at9), .int (zI rfn), .ref rk, .ref rw, .ref rh, .int (zI u_cl), .ref sa, .ref fi, .int (zI u_bo), .ref ch, .ref cn, .int (zI ad), .int (zI ru), .ref kp, .int (zI dn), .ref rfa])), (wg, .inl (c_wg, 24, .inl f_wg)), (sa, .inl (c_sa, 25, .inl u_f_sa)), (fi, .inl (c_fi, 24, .inl u_f_fi)), (hs, .inl (c_hs, 4, .inl f_hs))] t.heap ∧ va_D (va_A [(h0, .inr (9, [.int (zI fa), .int (zI tc), .ref so, .ref sl, .ref ce, .int (zI fn), .ref kd, .ref wd, .ref hs, .ref pf, .ref lt, .int (zI mn), .ref wg, .int (zI ta), .long ck, .int (zI at9), .int (zI rfn), .ref rk, .ref rw, .ref rh, .int (zI cl), .ref sa, .ref fi, .int (zI bo), .ref ch, .ref cn, .int (zI ad), .int (zI ru), .ref kp, .int (zI dn), .ref rfa])), (wg, .inl (c_wg, 24, .inl f_wg)), (sa, .inl (c_sa, 25, .inl f_sa)), (fi, .inl (c_fi, 24, .inl f_fi)), (hs, .inl (c_hs, 4, .inl f_hs))] sz) [(h0, .inr (9, [.int (zI fa), .int (zI tc), .ref so, .ref sl, .ref ce, .int (zI fn), .ref kd, .ref wd, .ref hs, .ref pf, .ref lt, .int (zI mn), .ref wg, .int (zI ta), .long ck, .int (zI at9), .int (zI rfn), .ref rk, .ref rw, .ref rh, .int (zI u_cl), .ref sa, .ref fi, .int (zI u_bo), .ref ch, .ref cn, .int (zI ad), .int (zI ru), .ref kp, .int (zI dn), .ref rfa])), (wg, .inl (c_wg, 24, .inl f_wg)), (sa, .inl (c_sa, 25, .inl u_f_sa)), (fi, .inl (c_fi, 24, .inl u_f_fi)), (hs, .inl (c_hs, 4, .inl f_hs))]) (va_A [(h0, .inr (9, [.int (zI fa), .int (zI tc), .ref so, .ref sl, .ref ce, .int (zI fn), .ref kd, .ref wd, .ref hs, .ref pf, .ref lt, .int (zI mn), .ref wg, .int (zI ta), .long ck, .int (zI at9), .int (zI rfn), .ref rk, .ref rw, .ref rh, .int (zI cl), .ref sa, .ref fi, .int (zI bo), .ref ch, .ref cn, .int (zI ad), .int (zI ru), .ref kp, .int (zI dn), .ref rfa])), (wg, .inl (c_wg, 24, .inl f_wg)), (sa, .inl (c_sa, 25, .inl f_sa)), (fi, .inl (c_fi, 24, .inl f_fi)), (hs, .inl (c_hs, 4, .inl f_hs))] sz)) 0 0 (va_A [(h0, .inr (9, [.int (zI fa), .int (zI tc), .ref so, .ref sl, .ref ce, .int (zI fn), .ref kd, .ref wd, .ref hs, .ref pf, .ref lt, .int (zI mn), .ref wg, .int (zI ta), .long ck, .int (zI at9), .int (zI rfn), .ref rk, .ref rw, .ref rh, .int (zI cl), .ref sa, .ref fi, .int (zI bo), .ref ch, .ref cn, .int (zI ad), .int (zI ru), .ref kp, .int (zI dn), .ref rfa])), (wg, .inl (c_wg, 24, .inl f_wg)), (sa, .inl (c_sa, 25, .inl f_sa)), (fi, .inl (c_fi, 24, .inl f_fi)), (hs, .inl (c_hs, 4, .inl f_hs))] sz) := by
  refine Met.ofW (cc := cX9_findClusters) (maxL := 5) (ret := none) (by decide) rfl ?_
  intro p e s m args below meth c s₁ B hml hv
  obtain ⟨rfl, hsz, hP, hK, hD0, hN⟩ := hv
  have hx := B.exec
  have hb := B.bytes
  have hr := B.returns
  have hts := atoms_spec (ws := wsX9_findClusters) B.pre
  have hown : s.vm.findClass RX9 = some m.cls := findClass_of_methodNamed B.named
  have hlocks := B.notSynchronized
  subst hsz
  have hD := hD0.self (sz := s.heap.size)
  generalize hAe : va_A [(h0, .inr (9, [.int (zI fa), .int (zI tc), .ref so, .ref sl, .ref ce, .int (zI fn), .ref kd, .ref wd, .ref hs, .ref pf, .ref lt, .int (zI mn), .ref wg, .int (zI ta), .long ck, .int (zI at9), .int (zI rfn), .ref rk, .ref rw, .ref rh, .int (zI cl), .ref sa, .ref fi, .int (zI bo), .ref ch, .ref cn, .int (zI ad), .int (zI ru), .ref kp, .int (zI dn), .ref rfa])), (wg, .inl (c_wg, 24, .inl f_wg)), (sa, .inl (c_sa, 25, .inl f_sa)), (fi, .inl (c_fi, 24, .inl f_fi)), (hs, .inl (c_hs, 4, .inl f_hs))] s.heap.size = A at hD ⊢
  have hA : ∀ q : Nat, s.heap.size ≤ q → A q := fun q h => by rw [← hAe]; exact Or.inr h
  have hS : va_S A s.heap s.heap [] := va_S.rf
  have hP : va_P D vwCl [(h0, .inr (9, [.int (zI fa), .int (zI tc), .ref so, .ref sl, .ref ce, .int (zI fn), .ref kd, .ref wd, .ref hs, .ref pf, .ref lt, .int (zI mn), .ref wg, .int (zI ta), .long ck, .int (zI at9), .int (zI rfn), .ref rk, .ref rw, .ref rh, .int (zI cl), .ref sa, .ref fi, .int (zI bo), .ref ch, .ref cn, .int (zI ad), .int (zI ru), .ref kp, .int (zI dn), .ref rfa])), (wg, .inl (c_wg, 24, .inl f_wg)), (sa, .inl (c_sa, 25, .inl f_sa)), (fi, .inl (c_fi, 24, .inl f_fi)), (hs, .inl (c_hs, 4, .inl f_hs))] s.heap := hP
  have hl := lv_entry ([.ref h0, .int (zI wo)]) (n := 5) (Nat.le_of_ble_eq_true rfl)
  rw [lg_entry_eq]
  generalize (lg_sl ([.ref h0, .int (zI wo)]) ++ List.replicate (5 - (lg_sl ([.ref h0, .int (zI wo)])).length) Slot.unset).toArray = ls at hl ⊢
  have hl : lv_has ls 5 [(0, .ref h0), (1, .int (zI wo))] := hl
  refine lv_aload_n hx hb dX9_findClusters_0 rfl (lv_at hl 0 rfl) ?_
  refine lv_iconst (v := zI 0) hx hb dX9_findClusters_1 rfl ?_
  refine va_put (D := D) (ci := 9) (v := .int (zI 0)) (ty := .int) (C := RX9) (T := TX9) (N := 31) hx hb hts (fun _ h9 => List.mem_cons_of_mem _ (List.mem_append_right _ h9)) tyX9 tyX9_ok nmX9 hown hK hP hD hS 0 rfl rfl 20 (by decide) (hts (.fieldLink RX9 138 "FontRunsModel" "clusters" "I") mw_X9_findClusters_0) (fun _ h9 => h9) rfl (by decide +kernel) rfl rfl (Nat.le_of_ble_eq_true rfl) dX9_findClusters_2 (fun H locs hP hD hS => ?_)
  have hP : va_P D vwCl [(h0, .inr (9, [.int (zI fa), .int (zI tc), .ref so, .ref sl, .ref ce, .int (zI fn), .ref kd, .ref wd, .ref hs, .ref pf, .ref lt, .int (zI mn), .ref wg, .int (zI ta), .long ck, .int (zI at9), .int (zI rfn), .ref rk, .ref rw, .ref rh, .int (zI 0), .ref sa, .ref fi, .int (zI bo), .ref ch, .ref cn, .int (zI ad), .int (zI ru), .ref kp, .int (zI dn), .ref rfa])), (wg, .inl (c_wg, 24, .inl f_wg)), (sa, .inl (c_sa, 25, .inl f_sa)), (fi, .inl (c_fi, 24, .inl f_fi)), (hs, .inl (c_hs, 4, .inl f_hs))] H := hP
  have hD : va_D A [(h0, .inr (9, [.int (zI fa), .int (zI tc), .ref so, .ref sl, .ref ce, .int (zI fn), .ref kd, .ref wd, .ref hs, .ref pf, .ref lt, .int (zI mn), .ref wg, .int (zI ta), .long ck, .int (zI at9), .int (zI rfn), .ref rk, .ref rw, .ref rh, .int (zI 0), .ref sa, .ref fi, .int (zI bo), .ref ch, .ref cn, .int (zI ad), .int (zI ru), .ref kp, .int (zI dn), .ref rfa])), (wg, .inl (c_wg, 24, .inl f_wg)), (sa, .inl (c_sa, 25, .inl f_sa)), (fi, .inl (c_fi, 24, .inl f_fi)), (hs, .inl (c_hs, 4, .inl f_hs))] := hD
  refine lv_aload_n hx hb dX9_findClusters_5 rfl (lv_at hl 0 rfl) ?_
  refine lv_iconst (v := zI 0) hx hb dX9_findClusters_6 rfl ?_
  refine va_put (D := D) (ci := 9) (v := .int (zI 0)) (ty := .int) (C := RX9) (T := TX9) (N := 31) hx hb hts (fun _ h9 => List.mem_cons_of_mem _ (List.mem_append_right _ h9)) tyX9 tyX9_ok nmX9 hown hK hP hD hS 0 rfl rfl 23 (by decide) (hts (.fieldLink RX9 141 "FontRunsModel" "boxes" "I") mw_X9_findClusters_1) (fun _ h9 => h9) rfl (by decide +kernel) rfl rfl (Nat.le_of_ble_eq_true rfl) dX9_findClusters_7 (fun H locs hP hD hS => ?_)
  have hP : va_P D vwCl [(h0, .inr (9, [.int (zI fa), .int (zI tc), .ref so, .ref sl, .ref ce, .int (zI fn), .ref kd, .ref wd, .ref hs, .ref pf, .ref lt, .int (zI mn), .ref wg, .int (zI ta), .long ck, .int (zI at9), .int (zI rfn), .ref rk, .ref rw, .ref rh, .int (zI 0), .ref sa, .ref fi, .int (zI 0), .ref ch, .ref cn, .int (zI ad), .int (zI ru), .ref kp, .int (zI dn), .ref rfa])), (wg, .inl (c_wg, 24, .inl f_wg)), (sa, .inl (c_sa, 25, .inl f_sa)), (fi, .inl (c_fi, 24, .inl f_fi)), (hs, .inl (c_hs, 4, .inl f_hs))] H := hP
  have hD : va_D A [(h0, .inr (9, [.int (zI fa), .int (zI tc), .ref so, .ref sl, .ref ce, .int (zI fn), .ref kd, .ref wd, .ref hs, .ref pf, .ref lt, .int (zI mn), .ref wg, .int (zI ta), .long ck, .int (zI at9), .int (zI rfn), .ref rk, .ref rw, .ref rh, .int (zI 0), .ref sa, .ref fi, .int (zI 0), .ref ch, .ref cn, .int (zI ad), .int (zI ru), .ref kp, .int (zI dn), .ref rfa])), (wg, .inl (c_wg, 24, .inl f_wg)), (sa, .inl (c_sa, 25, .inl f_sa)), (fi, .inl (c_fi, 24, .inl f_fi)), (hs, .inl (c_hs, 4, .inl f_hs))] := hD
  refine lv_iconst (v := zI 0) hx hb dX9_findClusters_10 rfl ?_
  refine lv_istore_n (lv' := [(2, .int (zI 0)), (0, .ref h0), (1, .int (zI wo))]) hx hb dX9_findClusters_11 rfl hl (by decide) rfl (fun ls hl => ?_)
  refine k_loopM (I := fun n9 H locs ls => ∃ (jk : Int) (jc : Int) (ja : Nat → Int32), n9 = (mn - jk).toNat ∧ (0 ≤ jk ∧ jk ≤ mn) ∧ (0 ≤ jc ∧ jc ≤ jk) ∧ (kSt ja jc mn) ∧ va_P D vwCl [(h0, .inr (9, [.int (zI fa), .int (zI tc), .ref so, .ref sl, .ref ce, .int (zI fn), .ref kd, .ref wd, .ref hs, .ref pf, .ref lt, .int (zI mn), .ref wg, .int (zI ta), .long ck, .int (zI at9), .int (zI rfn), .ref rk, .ref rw, .ref rh, .int (zI jc), .ref sa, .ref fi, .int (zI 0), .ref ch, .ref cn, .int (zI ad), .int (zI ru), .ref kp, .int (zI dn), .ref rfa])), (wg, .inl (c_wg, 24, .inl f_wg)), (sa, .inl (c_sa, 25, .inl ja)), (fi, .inl (c_fi, 24, .inl f_fi)), (hs, .inl (c_hs, 4, .inl f_hs))] H ∧ va_D A [(h0, .inr (9, [.int (zI fa), .int (zI tc), .ref so, .ref sl, .ref ce, .int (zI fn), .ref kd, .ref wd, .ref hs, .ref pf, .ref lt, .int (zI mn), .ref wg, .int (zI ta), .long ck, .int (zI at9), .int (zI rfn), .ref rk, .ref rw, .ref rh, .int (zI jc), .ref sa, .ref fi, .int (zI 0), .ref ch, .ref cn, .int (zI ad), .int (zI ru), .ref kp, .int (zI dn), .ref rfa])), (wg, .inl (c_wg, 24, .inl f_wg)), (sa, .inl (c_sa, 25, .inl ja)), (fi, .inl (c_fi, 24, .inl f_fi)), (hs, .inl (c_hs, 4, .inl f_hs))] ∧ va_S A s.heap H locs ∧ lv_has ls 5 [(2, .int (zI jk)), (0, .ref h0), (1, .int (zI wo))]) ?_ _ ⟨0, 0, f_sa, rfl, (by omega), (by omega), kSt_0, hP, hD, hS, hl⟩
  intro n12 ih12 H locs ls hI
  obtain ⟨jk, jc, ja, en12, v_120, v_121, v_122, hP, hD, hS, hl⟩ := hI
  refine lv_iload_n hx hb dX9_findClusters_12 rfl (lv_at hl 0 rfl) ?_
  refine lv_aload_n hx hb dX9_findClusters_13 rfl (lv_at hl 1 rfl) ?_
  refine va_get (D := D) (ci := 9) (v := .int (zI mn)) (C := RX9) (T := TX9) (N := 31) hx hb hts (fun _ h9 => List.mem_cons_of_mem _ (List.mem_append_right _ h9)) hown hK hP 0 rfl rfl 11 (by decide) (hts (.fieldLink RX9 101 "FontRunsModel" "many" "I") mw_X9_findClusters_2) (fun _ h9 => h9) rfl dX9_findClusters_14 ?_
  refine kz_icmp_ge (tgt := 61) hx hb dX9_findClusters_17 (by decide) (by omega) (by omega) (fun c_1 => ?_) (fun c_1 => ?_)
  · refine lv_aload_n hx hb dX9_findClusters_61 rfl (lv_at hl 1 rfl) ?_
    refine va_get (D := D) (ci := 9) (v := .ref sa) (C := RX9) (T := TX9) (N := 31) hx hb hts (fun _ h9 => List.mem_cons_of_mem _ (List.mem_append_right _ h9)) hown hK hP 0 rfl rfl 21 (by decide) (hts (.fieldLink RX9 46 "FontRunsModel" "start" "[I") mw_X9_findClusters_3) (fun _ h9 => h9) rfl dX9_findClusters_62 ?_
    refine lv_aload_n hx hb dX9_findClusters_65 rfl (lv_at hl 1 rfl) ?_
    refine va_get (D := D) (ci := 9) (v := .int (zI jc)) (C := RX9) (T := TX9) (N := 31) hx hb hts (fun _ h9 => List.mem_cons_of_mem _ (List.mem_append_right _ h9)) hown hK hP 0 rfl rfl 20 (by decide) (hts (.fieldLink RX9 138 "FontRunsModel" "clusters" "I") mw_X9_findClusters_0) (fun _ h9 => h9) rfl dX9_findClusters_66 ?_
    refine lv_aload_n hx hb dX9_findClusters_69 rfl (lv_at hl 1 rfl) ?_
    refine va_get (D := D) (ci := 9) (v := .int (zI mn)) (C := RX9) (T := TX9) (N := 31) hx hb hts (fun _ h9 => List.mem_cons_of_mem _ (List.mem_append_right _ h9)) hown hK hP 0 rfl rfl 11 (by decide) (hts (.fieldLink RX9 101 "FontRunsModel" "many" "I") mw_X9_findClusters_2) (fun _ h9 => h9) rfl dX9_findClusters_70 ?_
    refine kz_iast hx hb hK hP hD hS 2 1 rfl rfl (by omega) dX9_findClusters_73 (fun H locs hP hD hS => ?_)
    have hP : va_P D vwCl [(h0, .inr (9, [.int (zI fa), .int (zI tc), .ref so, .ref sl, .ref ce, .int (zI fn), .ref kd, .ref wd, .ref hs, .ref pf, .ref lt, .int (zI mn), .ref wg, .int (zI ta), .long ck, .int (zI at9), .int (zI rfn), .ref rk, .ref rw, .ref rh, .int (zI jc), .ref sa, .ref fi, .int (zI 0), .ref ch, .ref cn, .int (zI ad), .int (zI ru), .ref kp, .int (zI dn), .ref rfa])), (wg, .inl (c_wg, 24, .inl f_wg)), (sa, .inl (c_sa, 25, .inl (upd ja (jc).toNat (zI mn)))), (fi, .inl (c_fi, 24, .inl f_fi)), (hs, .inl (c_hs, 4, .inl f_hs))] H := hP
    have hD : va_D A [(h0, .inr (9, [.int (zI fa), .int (zI tc), .ref so, .ref sl, .ref ce, .int (zI fn), .ref kd, .ref wd, .ref hs, .ref pf, .ref lt, .int (zI mn), .ref wg, .int (zI ta), .long ck, .int (zI at9), .int (zI rfn), .ref rk, .ref rw, .ref rh, .int (zI jc), .ref sa, .ref fi, .int (zI 0), .ref ch, .ref cn, .int (zI ad), .int (zI ru), .ref kp, .int (zI dn), .ref rfa])), (wg, .inl (c_wg, 24, .inl f_wg)), (sa, .inl (c_sa, 25, .inl (upd ja (jc).toNat (zI mn)))), (fi, .inl (c_fi, 24, .inl f_fi)), (hs, .inl (c_hs, 4, .inl f_hs))] := hD
    generalize ef_2 : upd ja (jc).toNat (zI mn) = f_2 at hP hD
    have hst : kSt f_2 (jc + 1) mn := by rw [← ef_2]; exact kSt_upd v_122 (by omega) (by omega)
    refine lv_iconst (v := zI 0) hx hb dX9_findClusters_74 rfl ?_
    refine lv_istore_n (lv' := [(2, .int (zI 0)), (0, .ref h0), (1, .int (zI wo))]) hx hb dX9_findClusters_75 rfl hl (by decide) rfl (fun ls hl => ?_)
    refine k_loopM (I := fun n9 H locs ls => ∃ (jc2 : Int) (jb : Int) (jf : Nat → Int32), n9 = (jc - jc2).toNat ∧ (0 ≤ jc2 ∧ jc2 ≤ jc) ∧ (0 ≤ jb ∧ jb ≤ jc2) ∧ (kFt jf fn jc2 wo) ∧ va_P D vwCl [(h0, .inr (9, [.int (zI fa), .int (zI tc), .ref so, .ref sl, .ref ce, .int (zI fn), .ref kd, .ref wd, .ref hs, .ref pf, .ref lt, .int (zI mn), .ref wg, .int (zI ta), .long ck, .int (zI at9), .int (zI rfn), .ref rk, .ref rw, .ref rh, .int (zI jc), .ref sa, .ref fi, .int (zI jb), .ref ch, .ref cn, .int (zI ad), .int (zI ru), .ref kp, .int (zI dn), .ref rfa])), (wg, .inl (c_wg, 24, .inl f_wg)), (sa, .inl (c_sa, 25, .inl f_2)), (fi, .inl (c_fi, 24, .inl jf)), (hs, .inl (c_hs, 4, .inl f_hs))] H ∧ va_D A [(h0, .inr (9, [.int (zI fa), .int (zI tc), .ref so, .ref sl, .ref ce, .int (zI fn), .ref kd, .ref wd, .ref hs, .ref pf, .ref lt, .int (zI mn), .ref wg, .int (zI ta), .long ck, .int (zI at9), .int (zI rfn), .ref rk, .ref rw, .ref rh, .int (zI jc), .ref sa, .ref fi, .int (zI jb), .ref ch, .ref cn, .int (zI ad), .int (zI ru), .ref kp, .int (zI dn), .ref rfa])), (wg, .inl (c_wg, 24, .inl f_wg)), (sa, .inl (c_sa, 25, .inl f_2)), (fi, .inl (c_fi, 24, .inl jf)), (hs, .inl (c_hs, 4, .inl f_hs))] ∧ va_S A s.heap H locs ∧ lv_has ls 5 [(2, .int (zI jc2)), (0, .ref h0), (1, .int (zI wo))]) ?_ _ ⟨0, 0, f_fi, rfl, (by omega), (by omega), kFt_0, hP, hD, hS, hl⟩
    intro n76 ih76 H locs ls hI
    obtain ⟨jc2, jb, jf, en76, v_760, v_761, v_762, hP, hD, hS, hl⟩ := hI
    refine lv_iload_n hx hb dX9_findClusters_76 rfl (lv_at hl 0 rfl) ?_
    refine lv_aload_n hx hb dX9_findClusters_77 rfl (lv_at hl 1 rfl) ?_
    refine va_get (D := D) (ci := 9) (v := .int (zI jc)) (C := RX9) (T := TX9) (N := 31) hx hb hts (fun _ h9 => List.mem_cons_of_mem _ (List.mem_append_right _ h9)) hown hK hP 0 rfl rfl 20 (by decide) (hts (.fieldLink RX9 138 "FontRunsModel" "clusters" "I") mw_X9_findClusters_0) (fun _ h9 => h9) rfl dX9_findClusters_78 ?_
    refine kz_icmp_ge (tgt := 216) hx hb dX9_findClusters_81 (by decide) (by omega) (by omega) (fun c_3 => ?_) (fun c_3 => ?_)
    · have hP9 := hP.sub (ws' := [(h0, .inr (9, [.int (zI fa), .int (zI tc), .ref so, .ref sl, .ref ce, .int (zI fn), .ref kd, .ref wd, .ref hs, .ref pf, .ref lt, .int (zI mn), .ref wg, .int (zI ta), .long ck, .int (zI at9), .int (zI rfn), .ref rk, .ref rw, .ref rh, .int (zI jc), .ref sa, .ref fi, .int (zI jb), .ref ch, .ref cn, .int (zI ad), .int (zI ru), .ref kp, .int (zI dn), .ref rfa])), (wg, .inl (c_wg, 24, .inl f_wg)), (sa, .inl (c_sa, 25, .inl f_2)), (fi, .inl (c_fi, 24, .inl jf)), (hs, .inl (c_hs, 4, .inl f_hs))]) [0, 1, 2, 3, 4] rfl
      have hD9 := hD.sub (ws' := [(h0, .inr (9, [.int (zI fa), .int (zI tc), .ref so, .ref sl, .ref ce, .int (zI fn), .ref kd, .ref wd, .ref hs, .ref pf, .ref lt, .int (zI mn), .ref wg, .int (zI ta), .long ck, .int (zI at9), .int (zI rfn), .ref rk, .ref rw, .ref rh, .int (zI jc), .ref sa, .ref fi, .int (zI jb), .ref ch, .ref cn, .int (zI ad), .int (zI ru), .ref kp, .int (zI dn), .ref rfa])), (wg, .inl (c_wg, 24, .inl f_wg)), (sa, .inl (c_sa, 25, .inl f_2)), (fi, .inl (c_fi, 24, .inl jf)), (hs, .inl (c_hs, 4, .inl f_hs))]) [0, 1, 2, 3, 4] (by decide +kernel) rfl
      exact W.vret hx hb hr (fun t ht hW => kQV_of ⟨jc, jb, f_2, jf, (by omega), (by omega), ((show jc2 = jc by omega) ▸ v_762), by rw [ht]; exact hP9, hD9⟩ (hS.F ht)) hS.2.2 dX9_findClusters_216
    · refine lv_iconst (v := zI 0) hx hb dX9_findClusters_84 rfl ?_
      refine lv_istore_n (lv' := [(3, .int (zI 0)), (2, .int (zI jc2)), (0, .ref h0), (1, .int (zI wo))]) hx hb dX9_findClusters_85 rfl hl (by decide) rfl (fun ls hl => ?_)
      refine lv_aload_n hx hb dX9_findClusters_86 rfl (lv_at hl 2 rfl) ?_
      refine va_get (D := D) (ci := 9) (v := .ref sa) (C := RX9) (T := TX9) (N := 31) hx hb hts (fun _ h9 => List.mem_cons_of_mem _ (List.mem_append_right _ h9)) hown hK hP 0 rfl rfl 21 (by decide) (hts (.fieldLink RX9 46 "FontRunsModel" "start" "[I") mw_X9_findClusters_3) (fun _ h9 => h9) rfl dX9_findClusters_87 ?_
      refine lv_iload_n hx hb dX9_findClusters_90 rfl (lv_at hl 1 rfl) ?_
      refine kz_iald hx hb hK hP 2 1 rfl rfl (by omega) dX9_findClusters_91 (fun z_4 rz_4 ez_4 => ?_)
      have bz_4 := kSt_at hst (by omega) (by omega) rz_4 ez_4
      refine lv_istore (lv' := [(4, .int (zI z_4)), (3, .int (zI 0)), (2, .int (zI jc2)), (0, .ref h0), (1, .int (zI wo))]) hx hb dX9_findClusters_92 hl (by decide) rfl (fun ls hl => ?_)
      refine k_loopM (I := fun n9 H locs ls => ∃ (js : Int) (jk2 : Int), n9 = (24 - jk2).toNat ∧ (rg js) ∧ (0 ≤ jk2 ∧ jk2 ≤ 24) ∧ va_P D vwCl [(h0, .inr (9, [.int (zI fa), .int (zI tc), .ref so, .ref sl, .ref ce, .int (zI fn), .ref kd, .ref wd, .ref hs, .ref pf, .ref lt, .int (zI mn), .ref wg, .int (zI ta), .long ck, .int (zI at9), .int (zI rfn), .ref rk, .ref rw, .ref rh, .int (zI jc), .ref sa, .ref fi, .int (zI jb), .ref ch, .ref cn, .int (zI ad), .int (zI ru), .ref kp, .int (zI dn), .ref rfa])), (wg, .inl (c_wg, 24, .inl f_wg)), (sa, .inl (c_sa, 25, .inl f_2)), (fi, .inl (c_fi, 24, .inl jf)), (hs, .inl (c_hs, 4, .inl f_hs))] H ∧ va_D A [(h0, .inr (9, [.int (zI fa), .int (zI tc), .ref so, .ref sl, .ref ce, .int (zI fn), .ref kd, .ref wd, .ref hs, .ref pf, .ref lt, .int (zI mn), .ref wg, .int (zI ta), .long ck, .int (zI at9), .int (zI rfn), .ref rk, .ref rw, .ref rh, .int (zI jc), .ref sa, .ref fi, .int (zI jb), .ref ch, .ref cn, .int (zI ad), .int (zI ru), .ref kp, .int (zI dn), .ref rfa])), (wg, .inl (c_wg, 24, .inl f_wg)), (sa, .inl (c_sa, 25, .inl f_2)), (fi, .inl (c_fi, 24, .inl jf)), (hs, .inl (c_hs, 4, .inl f_hs))] ∧ va_S A s.heap H locs ∧ lv_has ls 5 [(4, .int (zI jk2)), (3, .int (zI js)), (2, .int (zI jc2)), (0, .ref h0), (1, .int (zI wo))]) ?_ _ ⟨0, z_4, rfl, (by omega), (by omega), hP, hD, hS, hl⟩
      intro n94 ih94 H locs ls hI
      obtain ⟨js, jk2, en94, v_940, v_941, hP, hD, hS, hl⟩ := hI
      refine lv_iload hx hb dX9_findClusters_94 (lv_at hl 0 rfl) ?_
      refine lv_aload_n hx hb dX9_findClusters_96 rfl (lv_at hl 3 rfl) ?_
      refine va_get (D := D) (ci := 9) (v := .ref sa) (C := RX9) (T := TX9) (N := 31) hx hb hts (fun _ h9 => List.mem_cons_of_mem _ (List.mem_append_right _ h9)) hown hK hP 0 rfl rfl 21 (by decide) (hts (.fieldLink RX9 46 "FontRunsModel" "start" "[I") mw_X9_findClusters_3) (fun _ h9 => h9) rfl dX9_findClusters_97 ?_
      refine lv_iload_n hx hb dX9_findClusters_100 rfl (lv_at hl 2 rfl) ?_
      refine lv_iconst (v := zI 1) hx hb dX9_findClusters_101 rfl ?_
      refine kz_iadd hx hb dX9_findClusters_102 ?_
      refine kz_iald hx hb hK hP 2 1 rfl rfl (by omega) dX9_findClusters_103 (fun z_5 rz_5 ez_5 => ?_)
      have bz_5 := kSt_at hst (by omega) (by omega) rz_5 ez_5
      refine kz_icmp_ge (tgt := 125) hx hb dX9_findClusters_104 (by decide) (by omega) (by omega) (fun c_6 => ?_) (fun c_6 => ?_)
      · refine lv_aload_n hx hb dX9_findClusters_125 rfl (lv_at hl 3 rfl) ?_
        refine va_get (D := D) (ci := 9) (v := .ref fi) (C := RX9) (T := TX9) (N := 31) hx hb hts (fun _ h9 => List.mem_cons_of_mem _ (List.mem_append_right _ h9)) hown hK hP 0 rfl rfl 22 (by decide) (hts (.fieldLink RX9 49 "FontRunsModel" "fits" "[I") mw_X9_findClusters_4) (fun _ h9 => h9) rfl dX9_findClusters_126 ?_
        refine lv_iload_n hx hb dX9_findClusters_129 rfl (lv_at hl 2 rfl) ?_
        refine lv_iconst (v := zI 0) hx hb dX9_findClusters_130 rfl ?_
        refine kz_iast hx hb hK hP hD hS 3 2 rfl rfl (by omega) dX9_findClusters_131 (fun H locs hP hD hS => ?_)
        have hP : va_P D vwCl [(h0, .inr (9, [.int (zI fa), .int (zI tc), .ref so, .ref sl, .ref ce, .int (zI fn), .ref kd, .ref wd, .ref hs, .ref pf, .ref lt, .int (zI mn), .ref wg, .int (zI ta), .long ck, .int (zI at9), .int (zI rfn), .ref rk, .ref rw, .ref rh, .int (zI jc), .ref sa, .ref fi, .int (zI jb), .ref ch, .ref cn, .int (zI ad), .int (zI ru), .ref kp, .int (zI dn), .ref rfa])), (wg, .inl (c_wg, 24, .inl f_wg)), (sa, .inl (c_sa, 25, .inl f_2)), (fi, .inl (c_fi, 24, .inl (upd jf (jc2).toNat (zI 0)))), (hs, .inl (c_hs, 4, .inl f_hs))] H := hP
        have hD : va_D A [(h0, .inr (9, [.int (zI fa), .int (zI tc), .ref so, .ref sl, .ref ce, .int (zI fn), .ref kd, .ref wd, .ref hs, .ref pf, .ref lt, .int (zI mn), .ref wg, .int (zI ta), .long ck, .int (zI at9), .int (zI rfn), .ref rk, .ref rw, .ref rh, .int (zI jc), .ref sa, .ref fi, .int (zI jb), .ref ch, .ref cn, .int (zI ad), .int (zI ru), .ref kp, .int (zI dn), .ref rfa])), (wg, .inl (c_wg, 24, .inl f_wg)), (sa, .inl (c_sa, 25, .inl f_2)), (fi, .inl (c_fi, 24, .inl (upd jf (jc2).toNat (zI 0)))), (hs, .inl (c_hs, 4, .inl f_hs))] := hD
        generalize ef_7 : upd jf (jc2).toNat (zI 0) = f_7 at hP hD
        refine lv_iconst (v := zI 0) hx hb dX9_findClusters_132 rfl ?_
        refine lv_istore (lv' := [(4, .int (zI 0)), (3, .int (zI js)), (2, .int (zI jc2)), (0, .ref h0), (1, .int (zI wo))]) hx hb dX9_findClusters_133 hl (by decide) rfl (fun ls hl => ?_)
        refine k_loopM (I := fun n9 H locs ls => ∃ (jg : Int) (jh : Nat → Int32), n9 = (fn - jg).toNat ∧ (0 ≤ jg ∧ jg ≤ fn) ∧ (kFt jh fn jc2 wo) ∧ (kFp (jh jc2.toNat) jg wo) ∧ va_P D vwCl [(h0, .inr (9, [.int (zI fa), .int (zI tc), .ref so, .ref sl, .ref ce, .int (zI fn), .ref kd, .ref wd, .ref hs, .ref pf, .ref lt, .int (zI mn), .ref wg, .int (zI ta), .long ck, .int (zI at9), .int (zI rfn), .ref rk, .ref rw, .ref rh, .int (zI jc), .ref sa, .ref fi, .int (zI jb), .ref ch, .ref cn, .int (zI ad), .int (zI ru), .ref kp, .int (zI dn), .ref rfa])), (wg, .inl (c_wg, 24, .inl f_wg)), (sa, .inl (c_sa, 25, .inl f_2)), (fi, .inl (c_fi, 24, .inl jh)), (hs, .inl (c_hs, 4, .inl f_hs))] H ∧ va_D A [(h0, .inr (9, [.int (zI fa), .int (zI tc), .ref so, .ref sl, .ref ce, .int (zI fn), .ref kd, .ref wd, .ref hs, .ref pf, .ref lt, .int (zI mn), .ref wg, .int (zI ta), .long ck, .int (zI at9), .int (zI rfn), .ref rk, .ref rw, .ref rh, .int (zI jc), .ref sa, .ref fi, .int (zI jb), .ref ch, .ref cn, .int (zI ad), .int (zI ru), .ref kp, .int (zI dn), .ref rfa])), (wg, .inl (c_wg, 24, .inl f_wg)), (sa, .inl (c_sa, 25, .inl f_2)), (fi, .inl (c_fi, 24, .inl jh)), (hs, .inl (c_hs, 4, .inl f_hs))] ∧ va_S A s.heap H locs ∧ lv_has ls 5 [(4, .int (zI jg)), (3, .int (zI js)), (2, .int (zI jc2)), (0, .ref h0), (1, .int (zI wo))]) ?_ _ ⟨0, f_7, rfl, (by omega), (by rw [← ef_7]; exact kFt_upd v_762 (by omega)), (Or.inl (by rw [← ef_7, pk_us]; rfl)), hP, hD, hS, hl⟩
        intro n135 ih135 H locs ls hI
        obtain ⟨jg, jh, en135, v_1350, v_1351, v_1352, hP, hD, hS, hl⟩ := hI
        refine lv_iload hx hb dX9_findClusters_135 (lv_at hl 0 rfl) ?_
        refine lv_aload_n hx hb dX9_findClusters_137 rfl (lv_at hl 3 rfl) ?_
        refine va_get (D := D) (ci := 9) (v := .int (zI fn)) (C := RX9) (T := TX9) (N := 31) hx hb hts (fun _ h9 => List.mem_cons_of_mem _ (List.mem_append_right _ h9)) hown hK hP 0 rfl rfl 5 (by decide) (hts (.fieldLink RX9 74 "FontRunsModel" "fonts" "I") mw_X9_findClusters_5) (fun _ h9 => h9) rfl dX9_findClusters_138 ?_
        refine kz_icmp_ge (tgt := 187) hx hb dX9_findClusters_141 (by decide) (by omega) (by omega) (fun c_8 => ?_) (fun c_8 => ?_)
        · refine lv_aload_n hx hb dX9_findClusters_187 rfl (lv_at hl 3 rfl) ?_
          refine lv_dup hx hb dX9_findClusters_188 rfl ?_
          refine va_get (D := D) (ci := 9) (v := .int (zI jb)) (C := RX9) (T := TX9) (N := 31) hx hb hts (fun _ h9 => List.mem_cons_of_mem _ (List.mem_append_right _ h9)) hown hK hP 0 rfl rfl 23 (by decide) (hts (.fieldLink RX9 141 "FontRunsModel" "boxes" "I") mw_X9_findClusters_1) (fun _ h9 => h9) rfl dX9_findClusters_189 ?_
          refine lv_aload_n hx hb dX9_findClusters_192 rfl (lv_at hl 3 rfl) ?_
          refine va_get (D := D) (ci := 9) (v := .ref fi) (C := RX9) (T := TX9) (N := 31) hx hb hts (fun _ h9 => List.mem_cons_of_mem _ (List.mem_append_right _ h9)) hown hK hP 0 rfl rfl 22 (by decide) (hts (.fieldLink RX9 49 "FontRunsModel" "fits" "[I") mw_X9_findClusters_4) (fun _ h9 => h9) rfl dX9_findClusters_193 ?_
          refine lv_iload_n hx hb dX9_findClusters_196 rfl (lv_at hl 2 rfl) ?_
          refine kz_iald hx hb hK hP 3 2 rfl rfl (by omega) dX9_findClusters_197 (fun z_9 rz_9 ez_9 => ?_)
          refine kz_if_ne (tgt := 205) hx hb dX9_findClusters_198 (by decide) (by omega) (fun c_10 => ?_) (fun c_10 => ?_)
          · refine lv_iconst (v := zI 0) hx hb dX9_findClusters_205 rfl ?_
            refine kz_iadd hx hb dX9_findClusters_206 ?_
            refine va_put (D := D) (ci := 9) (v := .int (zI (jb + 0))) (ty := .int) (C := RX9) (T := TX9) (N := 31) hx hb hts (fun _ h9 => List.mem_cons_of_mem _ (List.mem_append_right _ h9)) tyX9 tyX9_ok nmX9 hown hK hP hD hS 0 rfl rfl 23 (by decide) (hts (.fieldLink RX9 141 "FontRunsModel" "boxes" "I") mw_X9_findClusters_1) (fun _ h9 => h9) rfl (by decide +kernel) rfl rfl (Nat.le_of_ble_eq_true rfl) dX9_findClusters_207 (fun H locs hP hD hS => ?_)
            have hP : va_P D vwCl [(h0, .inr (9, [.int (zI fa), .int (zI tc), .ref so, .ref sl, .ref ce, .int (zI fn), .ref kd, .ref wd, .ref hs, .ref pf, .ref lt, .int (zI mn), .ref wg, .int (zI ta), .long ck, .int (zI at9), .int (zI rfn), .ref rk, .ref rw, .ref rh, .int (zI jc), .ref sa, .ref fi, .int (zI (jb + 0)), .ref ch, .ref cn, .int (zI ad), .int (zI ru), .ref kp, .int (zI dn), .ref rfa])), (wg, .inl (c_wg, 24, .inl f_wg)), (sa, .inl (c_sa, 25, .inl f_2)), (fi, .inl (c_fi, 24, .inl jh)), (hs, .inl (c_hs, 4, .inl f_hs))] H := hP
            have hD : va_D A [(h0, .inr (9, [.int (zI fa), .int (zI tc), .ref so, .ref sl, .ref ce, .int (zI fn), .ref kd, .ref wd, .ref hs, .ref pf, .ref lt, .int (zI mn), .ref wg, .int (zI ta), .long ck, .int (zI at9), .int (zI rfn), .ref rk, .ref rw, .ref rh, .int (zI jc), .ref sa, .ref fi, .int (zI (jb + 0)), .ref ch, .ref cn, .int (zI ad), .int (zI ru), .ref kp, .int (zI dn), .ref rfa])), (wg, .inl (c_wg, 24, .inl f_wg)), (sa, .inl (c_sa, 25, .inl f_2)), (fi, .inl (c_fi, 24, .inl jh)), (hs, .inl (c_hs, 4, .inl f_hs))] := hD
            refine lv_iinc (v := (zI (jc2 + 1))) (lv' := [(2, .int (zI (jc2 + 1))), (4, .int (zI jg)), (3, .int (zI js)), (0, .ref h0), (1, .int (zI wo))]) hx hb dX9_findClusters_210 hl (k := 2) rfl (kz_inc _ 1) (by decide) rfl (fun ls hl => ?_)
            refine lv_goto (tgt := 76) hx hb dX9_findClusters_213 (by decide) ?_
            exact ih76 _ (by omega) _ _ _ ⟨(jc2 + 1), (jb + 0), jh, rfl, (by omega), (by omega), (kFt_1 v_1351 ((show fn = jg by omega) ▸ v_1352)), hP, hD, hS, lv_sub hl [0, 3, 4] rfl⟩
          · refine lv_iconst (v := zI 1) hx hb dX9_findClusters_201 rfl ?_
            refine lv_goto (tgt := 206) hx hb dX9_findClusters_202 (by decide) ?_
            refine kz_iadd hx hb dX9_findClusters_206 ?_
            refine va_put (D := D) (ci := 9) (v := .int (zI (jb + 1))) (ty := .int) (C := RX9) (T := TX9) (N := 31) hx hb hts (fun _ h9 => List.mem_cons_of_mem _ (List.mem_append_right _ h9)) tyX9 tyX9_ok nmX9 hown hK hP hD hS 0 rfl rfl 23 (by decide) (hts (.fieldLink RX9 141 "FontRunsModel" "boxes" "I") mw_X9_findClusters_1) (fun _ h9 => h9) rfl (by decide +kernel) rfl rfl (Nat.le_of_ble_eq_true rfl) dX9_findClusters_207 (fun H locs hP hD hS => ?_)
            have hP : va_P D vwCl [(h0, .inr (9, [.int (zI fa), .int (zI tc), .ref so, .ref sl, .ref ce, .int (zI fn), .ref kd, .ref wd, .ref hs, .ref pf, .ref lt, .int (zI mn), .ref wg, .int (zI ta), .long ck, .int (zI at9), .int (zI rfn), .ref rk, .ref rw, .ref rh, .int (zI jc), .ref sa, .ref fi, .int (zI (jb + 1)), .ref ch, .ref cn, .int (zI ad), .int (zI ru), .ref kp, .int (zI dn), .ref rfa])), (wg, .inl (c_wg, 24, .inl f_wg)), (sa, .inl (c_sa, 25, .inl f_2)), (fi, .inl (c_fi, 24, .inl jh)), (hs, .inl (c_hs, 4, .inl f_hs))] H := hP
            have hD : va_D A [(h0, .inr (9, [.int (zI fa), .int (zI tc), .ref so, .ref sl, .ref ce, .int (zI fn), .ref kd, .ref wd, .ref hs, .ref pf, .ref lt, .int (zI mn), .ref wg, .int (zI ta), .long ck, .int (zI at9), .int (zI rfn), .ref rk, .ref rw, .ref rh, .int (zI jc), .ref sa, .ref fi, .int (zI (jb + 1)), .ref ch, .ref cn, .int (zI ad), .int (zI ru), .ref kp, .int (zI dn), .ref rfa])), (wg, .inl (c_wg, 24, .inl f_wg)), (sa, .inl (c_sa, 25, .inl f_2)), (fi, .inl (c_fi, 24, .inl jh)), (hs, .inl (c_hs, 4, .inl f_hs))] := hD
            refine lv_iinc (v := (zI (jc2 + 1))) (lv' := [(2, .int (zI (jc2 + 1))), (4, .int (zI jg)), (3, .int (zI js)), (0, .ref h0), (1, .int (zI wo))]) hx hb dX9_findClusters_210 hl (k := 2) rfl (kz_inc _ 1) (by decide) rfl (fun ls hl => ?_)
            refine lv_goto (tgt := 76) hx hb dX9_findClusters_213 (by decide) ?_
            exact ih76 _ (by omega) _ _ _ ⟨(jc2 + 1), (jb + 1), jh, rfl, (by omega), (by omega), (kFt_1 v_1351 ((show fn = jg by omega) ▸ v_1352)), hP, hD, hS, lv_sub hl [0, 3, 4] rfl⟩
        · refine lv_aload_n hx hb dX9_findClusters_144 rfl (lv_at hl 3 rfl) ?_
          refine va_get (D := D) (ci := 9) (v := .ref fi) (C := RX9) (T := TX9) (N := 31) hx hb hts (fun _ h9 => List.mem_cons_of_mem _ (List.mem_append_right _ h9)) hown hK hP 0 rfl rfl 22 (by decide) (hts (.fieldLink RX9 49 "FontRunsModel" "fits" "[I") mw_X9_findClusters_4) (fun _ h9 => h9) rfl dX9_findClusters_145 ?_
          refine lv_iload_n hx hb dX9_findClusters_148 rfl (lv_at hl 2 rfl) ?_
          refine lv_dup2_11 hx hb dX9_findClusters_149 rfl rfl ?_
          refine kz_iald hx hb hK hP 3 2 rfl rfl (by omega) dX9_findClusters_150 (fun z_11 rz_11 ez_11 => ?_)
          refine lv_iload hx hb dX9_findClusters_151 (lv_at hl 0 rfl) ?_
          refine lv_iload_n hx hb dX9_findClusters_153 rfl (lv_at hl 4 rfl) ?_
          refine kz_icmp_eq (tgt := 178) hx hb dX9_findClusters_154 (by decide) (by omega) (by omega) (fun c_12 => ?_) (fun c_12 => ?_)
          · refine lv_iconst (v := zI 0) hx hb dX9_findClusters_178 rfl ?_
            refine lv_ior hx hb dX9_findClusters_179 ?_
            refine kz_any (fun z_13 rz_13 ez_13 => ?_)
            refine kz_iast hx hb hK hP hD hS 3 2 rfl rfl (by omega) dX9_findClusters_180 (fun H locs hP hD hS => ?_)
            have hP : va_P D vwCl [(h0, .inr (9, [.int (zI fa), .int (zI tc), .ref so, .ref sl, .ref ce, .int (zI fn), .ref kd, .ref wd, .ref hs, .ref pf, .ref lt, .int (zI mn), .ref wg, .int (zI ta), .long ck, .int (zI at9), .int (zI rfn), .ref rk, .ref rw, .ref rh, .int (zI jc), .ref sa, .ref fi, .int (zI jb), .ref ch, .ref cn, .int (zI ad), .int (zI ru), .ref kp, .int (zI dn), .ref rfa])), (wg, .inl (c_wg, 24, .inl f_wg)), (sa, .inl (c_sa, 25, .inl f_2)), (fi, .inl (c_fi, 24, .inl (upd jh (jc2).toNat (zI z_13)))), (hs, .inl (c_hs, 4, .inl f_hs))] H := hP
            have hD : va_D A [(h0, .inr (9, [.int (zI fa), .int (zI tc), .ref so, .ref sl, .ref ce, .int (zI fn), .ref kd, .ref wd, .ref hs, .ref pf, .ref lt, .int (zI mn), .ref wg, .int (zI ta), .long ck, .int (zI at9), .int (zI rfn), .ref rk, .ref rw, .ref rh, .int (zI jc), .ref sa, .ref fi, .int (zI jb), .ref ch, .ref cn, .int (zI ad), .int (zI ru), .ref kp, .int (zI dn), .ref rfa])), (wg, .inl (c_wg, 24, .inl f_wg)), (sa, .inl (c_sa, 25, .inl f_2)), (fi, .inl (c_fi, 24, .inl (upd jh (jc2).toNat (zI z_13)))), (hs, .inl (c_hs, 4, .inl f_hs))] := hD
            generalize ef_14 : upd jh (jc2).toNat (zI z_13) = f_14 at hP hD
            refine lv_iinc (v := (zI (jg + 1))) (lv' := [(4, .int (zI (jg + 1))), (3, .int (zI js)), (2, .int (zI jc2)), (0, .ref h0), (1, .int (zI wo))]) hx hb dX9_findClusters_181 hl (k := 0) rfl (kz_inc _ 1) (by decide) rfl (fun ls hl => ?_)
            refine lv_goto (tgt := 135) hx hb dX9_findClusters_184 (by decide) ?_
            exact ih135 _ (by omega) _ _ _ ⟨(jg + 1), f_14, rfl, (by omega), (by rw [← ef_14]; exact kFt_upd v_1351 (by omega)), (kFp_same v_1352 (by rw [← ef_14, pk_us, ← ez_13, kb_o0, ← ez_11])), hP, hD, hS, lv_sub hl [0, 1, 2, 3, 4] rfl⟩
          · refine lv_iload_n hx hb dX9_findClusters_157 rfl (lv_at hl 1 rfl) ?_
            refine lv_aload_n hx hb dX9_findClusters_158 rfl (lv_at hl 3 rfl) ?_
            refine va_get (D := D) (ci := 9) (v := .ref hs) (C := RX9) (T := TX9) (N := 31) hx hb hts (fun _ h9 => List.mem_cons_of_mem _ (List.mem_append_right _ h9)) hown hK hP 0 rfl rfl 8 (by decide) (hts (.fieldLink RX9 25 "FontRunsModel" "has" "[I") mw_X9_findClusters_6) (fun _ h9 => h9) rfl dX9_findClusters_159 ?_
            refine lv_iload hx hb dX9_findClusters_162 (lv_at hl 0 rfl) ?_
            refine kz_iald hx hb hK hP 4 3 rfl rfl (by omega) dX9_findClusters_164 (fun z_15 rz_15 ez_15 => ?_)
            refine lv_iconst (v := zI (-1)) hx hb dX9_findClusters_165 rfl ?_
            refine lv_ixor hx hb dX9_findClusters_166 ?_
            refine kz_any (fun z_16 rz_16 ez_16 => ?_)
            refine lv_iand hx hb dX9_findClusters_167 ?_
            refine kz_any (fun z_17 rz_17 ez_17 => ?_)
            refine kz_if_ne (tgt := 178) hx hb dX9_findClusters_168 (by decide) (by omega) (fun c_18 => ?_) (fun c_18 => ?_)
            · refine lv_iconst (v := zI 0) hx hb dX9_findClusters_178 rfl ?_
              refine lv_ior hx hb dX9_findClusters_179 ?_
              refine kz_any (fun z_19 rz_19 ez_19 => ?_)
              refine kz_iast hx hb hK hP hD hS 3 2 rfl rfl (by omega) dX9_findClusters_180 (fun H locs hP hD hS => ?_)
              have hP : va_P D vwCl [(h0, .inr (9, [.int (zI fa), .int (zI tc), .ref so, .ref sl, .ref ce, .int (zI fn), .ref kd, .ref wd, .ref hs, .ref pf, .ref lt, .int (zI mn), .ref wg, .int (zI ta), .long ck, .int (zI at9), .int (zI rfn), .ref rk, .ref rw, .ref rh, .int (zI jc), .ref sa, .ref fi, .int (zI jb), .ref ch, .ref cn, .int (zI ad), .int (zI ru), .ref kp, .int (zI dn), .ref rfa])), (wg, .inl (c_wg, 24, .inl f_wg)), (sa, .inl (c_sa, 25, .inl f_2)), (fi, .inl (c_fi, 24, .inl (upd jh (jc2).toNat (zI z_19)))), (hs, .inl (c_hs, 4, .inl f_hs))] H := hP
              have hD : va_D A [(h0, .inr (9, [.int (zI fa), .int (zI tc), .ref so, .ref sl, .ref ce, .int (zI fn), .ref kd, .ref wd, .ref hs, .ref pf, .ref lt, .int (zI mn), .ref wg, .int (zI ta), .long ck, .int (zI at9), .int (zI rfn), .ref rk, .ref rw, .ref rh, .int (zI jc), .ref sa, .ref fi, .int (zI jb), .ref ch, .ref cn, .int (zI ad), .int (zI ru), .ref kp, .int (zI dn), .ref rfa])), (wg, .inl (c_wg, 24, .inl f_wg)), (sa, .inl (c_sa, 25, .inl f_2)), (fi, .inl (c_fi, 24, .inl (upd jh (jc2).toNat (zI z_19)))), (hs, .inl (c_hs, 4, .inl f_hs))] := hD
              generalize ef_20 : upd jh (jc2).toNat (zI z_19) = f_20 at hP hD
              refine lv_iinc (v := (zI (jg + 1))) (lv' := [(4, .int (zI (jg + 1))), (3, .int (zI js)), (2, .int (zI jc2)), (0, .ref h0), (1, .int (zI wo))]) hx hb dX9_findClusters_181 hl (k := 0) rfl (kz_inc _ 1) (by decide) rfl (fun ls hl => ?_)
              refine lv_goto (tgt := 135) hx hb dX9_findClusters_184 (by decide) ?_
              exact ih135 _ (by omega) _ _ _ ⟨(jg + 1), f_20, rfl, (by omega), (by rw [← ef_20]; exact kFt_upd v_1351 (by omega)), (kFp_same v_1352 (by rw [← ef_20, pk_us, ← ez_19, kb_o0, ← ez_11])), hP, hD, hS, lv_sub hl [0, 1, 2, 3, 4] rfl⟩
            · refine lv_iconst (v := zI 1) hx hb dX9_findClusters_171 rfl ?_
              refine lv_iload hx hb dX9_findClusters_172 (lv_at hl 0 rfl) ?_
              refine lv_ishl hx hb dX9_findClusters_174 ?_
              refine kz_any (fun z_21 rz_21 ez_21 => ?_)
              refine lv_goto (tgt := 179) hx hb dX9_findClusters_175 (by decide) ?_
              refine lv_ior hx hb dX9_findClusters_179 ?_
              refine kz_any (fun z_22 rz_22 ez_22 => ?_)
              refine kz_iast hx hb hK hP hD hS 3 2 rfl rfl (by omega) dX9_findClusters_180 (fun H locs hP hD hS => ?_)
              have hP : va_P D vwCl [(h0, .inr (9, [.int (zI fa), .int (zI tc), .ref so, .ref sl, .ref ce, .int (zI fn), .ref kd, .ref wd, .ref hs, .ref pf, .ref lt, .int (zI mn), .ref wg, .int (zI ta), .long ck, .int (zI at9), .int (zI rfn), .ref rk, .ref rw, .ref rh, .int (zI jc), .ref sa, .ref fi, .int (zI jb), .ref ch, .ref cn, .int (zI ad), .int (zI ru), .ref kp, .int (zI dn), .ref rfa])), (wg, .inl (c_wg, 24, .inl f_wg)), (sa, .inl (c_sa, 25, .inl f_2)), (fi, .inl (c_fi, 24, .inl (upd jh (jc2).toNat (zI z_22)))), (hs, .inl (c_hs, 4, .inl f_hs))] H := hP
              have hD : va_D A [(h0, .inr (9, [.int (zI fa), .int (zI tc), .ref so, .ref sl, .ref ce, .int (zI fn), .ref kd, .ref wd, .ref hs, .ref pf, .ref lt, .int (zI mn), .ref wg, .int (zI ta), .long ck, .int (zI at9), .int (zI rfn), .ref rk, .ref rw, .ref rh, .int (zI jc), .ref sa, .ref fi, .int (zI jb), .ref ch, .ref cn, .int (zI ad), .int (zI ru), .ref kp, .int (zI dn), .ref rfa])), (wg, .inl (c_wg, 24, .inl f_wg)), (sa, .inl (c_sa, 25, .inl f_2)), (fi, .inl (c_fi, 24, .inl (upd jh (jc2).toNat (zI z_22)))), (hs, .inl (c_hs, 4, .inl f_hs))] := hD
              generalize ef_23 : upd jh (jc2).toNat (zI z_22) = f_23 at hP hD
              refine lv_iinc (v := (zI (jg + 1))) (lv' := [(4, .int (zI (jg + 1))), (3, .int (zI js)), (2, .int (zI jc2)), (0, .ref h0), (1, .int (zI wo))]) hx hb dX9_findClusters_181 hl (k := 0) rfl (kz_inc _ 1) (by decide) rfl (fun ls hl => ?_)
              refine lv_goto (tgt := 135) hx hb dX9_findClusters_184 (by decide) ?_
              exact ih135 _ (by omega) _ _ _ ⟨(jg + 1), f_23, rfl, (by omega), (by rw [← ef_23]; exact kFt_upd v_1351 (by omega)), (kFp_set (x := zI z_11) (by omega) c_12 (by rw [← ef_23, pk_us, ← ez_22, ← ez_21])), hP, hD, hS, lv_sub hl [0, 1, 2, 3, 4] rfl⟩
      · refine lv_iload_n hx hb dX9_findClusters_107 rfl (lv_at hl 1 rfl) ?_
        refine lv_iconst (v := zI 1) hx hb dX9_findClusters_108 rfl ?_
        refine lv_aload_n hx hb dX9_findClusters_109 rfl (lv_at hl 3 rfl) ?_
        refine va_get (D := D) (ci := 9) (v := .ref wg) (C := RX9) (T := TX9) (N := 31) hx hb hts (fun _ h9 => List.mem_cons_of_mem _ (List.mem_append_right _ h9)) hown hK hP 0 rfl rfl 12 (by decide) (hts (.fieldLink RX9 34 "FontRunsModel" "writing" "[I") mw_X9_findClusters_7) (fun _ h9 => h9) rfl dX9_findClusters_110 ?_
        refine lv_iload hx hb dX9_findClusters_113 (lv_at hl 0 rfl) ?_
        refine kz_iald hx hb hK hP 1 0 rfl rfl (by omega) dX9_findClusters_115 (fun z_24 rz_24 ez_24 => ?_)
        refine lv_ishl hx hb dX9_findClusters_116 ?_
        refine kz_any (fun z_25 rz_25 ez_25 => ?_)
        refine lv_ior hx hb dX9_findClusters_117 ?_
        refine kz_any (fun z_26 rz_26 ez_26 => ?_)
        refine lv_istore_n (lv' := [(3, .int (zI z_26)), (4, .int (zI jk2)), (2, .int (zI jc2)), (0, .ref h0), (1, .int (zI wo))]) hx hb dX9_findClusters_118 rfl hl (by decide) rfl (fun ls hl => ?_)
        refine lv_iinc (v := (zI (jk2 + 1))) (lv' := [(4, .int (zI (jk2 + 1))), (3, .int (zI z_26)), (2, .int (zI jc2)), (0, .ref h0), (1, .int (zI wo))]) hx hb dX9_findClusters_119 hl (k := 1) rfl (kz_inc _ 1) (by decide) rfl (fun ls hl => ?_)
        refine lv_goto (tgt := 94) hx hb dX9_findClusters_122 (by decide) ?_
        exact ih94 _ (by omega) _ _ _ ⟨z_26, (jk2 + 1), rfl, (by omega), (by omega), hP, hD, hS, lv_sub hl [0, 1, 2, 3, 4] rfl⟩
  · refine lv_iload_n hx hb dX9_findClusters_20 rfl (lv_at hl 0 rfl) ?_
    refine kz_if_eq (tgt := 35) hx hb dX9_findClusters_21 (by decide) (by omega) (fun c_27 => ?_) (fun c_27 => ?_)
    · refine lv_aload_n hx hb dX9_findClusters_35 rfl (lv_at hl 1 rfl) ?_
      refine va_get (D := D) (ci := 9) (v := .ref sa) (C := RX9) (T := TX9) (N := 31) hx hb hts (fun _ h9 => List.mem_cons_of_mem _ (List.mem_append_right _ h9)) hown hK hP 0 rfl rfl 21 (by decide) (hts (.fieldLink RX9 46 "FontRunsModel" "start" "[I") mw_X9_findClusters_3) (fun _ h9 => h9) rfl dX9_findClusters_36 ?_
      refine lv_aload_n hx hb dX9_findClusters_39 rfl (lv_at hl 1 rfl) ?_
      refine va_get (D := D) (ci := 9) (v := .int (zI jc)) (C := RX9) (T := TX9) (N := 31) hx hb hts (fun _ h9 => List.mem_cons_of_mem _ (List.mem_append_right _ h9)) hown hK hP 0 rfl rfl 20 (by decide) (hts (.fieldLink RX9 138 "FontRunsModel" "clusters" "I") mw_X9_findClusters_0) (fun _ h9 => h9) rfl dX9_findClusters_40 ?_
      refine lv_iload_n hx hb dX9_findClusters_43 rfl (lv_at hl 0 rfl) ?_
      refine kz_iast hx hb hK hP hD hS 2 1 rfl rfl (by omega) dX9_findClusters_44 (fun H locs hP hD hS => ?_)
      have hP : va_P D vwCl [(h0, .inr (9, [.int (zI fa), .int (zI tc), .ref so, .ref sl, .ref ce, .int (zI fn), .ref kd, .ref wd, .ref hs, .ref pf, .ref lt, .int (zI mn), .ref wg, .int (zI ta), .long ck, .int (zI at9), .int (zI rfn), .ref rk, .ref rw, .ref rh, .int (zI jc), .ref sa, .ref fi, .int (zI 0), .ref ch, .ref cn, .int (zI ad), .int (zI ru), .ref kp, .int (zI dn), .ref rfa])), (wg, .inl (c_wg, 24, .inl f_wg)), (sa, .inl (c_sa, 25, .inl (upd ja (jc).toNat (zI jk)))), (fi, .inl (c_fi, 24, .inl f_fi)), (hs, .inl (c_hs, 4, .inl f_hs))] H := hP
      have hD : va_D A [(h0, .inr (9, [.int (zI fa), .int (zI tc), .ref so, .ref sl, .ref ce, .int (zI fn), .ref kd, .ref wd, .ref hs, .ref pf, .ref lt, .int (zI mn), .ref wg, .int (zI ta), .long ck, .int (zI at9), .int (zI rfn), .ref rk, .ref rw, .ref rh, .int (zI jc), .ref sa, .ref fi, .int (zI 0), .ref ch, .ref cn, .int (zI ad), .int (zI ru), .ref kp, .int (zI dn), .ref rfa])), (wg, .inl (c_wg, 24, .inl f_wg)), (sa, .inl (c_sa, 25, .inl (upd ja (jc).toNat (zI jk)))), (fi, .inl (c_fi, 24, .inl f_fi)), (hs, .inl (c_hs, 4, .inl f_hs))] := hD
      generalize ef_28 : upd ja (jc).toNat (zI jk) = f_28 at hP hD
      refine lv_aload_n hx hb dX9_findClusters_45 rfl (lv_at hl 1 rfl) ?_
      refine lv_dup hx hb dX9_findClusters_46 rfl ?_
      refine va_get (D := D) (ci := 9) (v := .int (zI jc)) (C := RX9) (T := TX9) (N := 31) hx hb hts (fun _ h9 => List.mem_cons_of_mem _ (List.mem_append_right _ h9)) hown hK hP 0 rfl rfl 20 (by decide) (hts (.fieldLink RX9 138 "FontRunsModel" "clusters" "I") mw_X9_findClusters_0) (fun _ h9 => h9) rfl dX9_findClusters_47 ?_
      refine lv_iconst (v := zI 1) hx hb dX9_findClusters_50 rfl ?_
      refine kz_iadd hx hb dX9_findClusters_51 ?_
      refine va_put (D := D) (ci := 9) (v := .int (zI (jc + 1))) (ty := .int) (C := RX9) (T := TX9) (N := 31) hx hb hts (fun _ h9 => List.mem_cons_of_mem _ (List.mem_append_right _ h9)) tyX9 tyX9_ok nmX9 hown hK hP hD hS 0 rfl rfl 20 (by decide) (hts (.fieldLink RX9 138 "FontRunsModel" "clusters" "I") mw_X9_findClusters_0) (fun _ h9 => h9) rfl (by decide +kernel) rfl rfl (Nat.le_of_ble_eq_true rfl) dX9_findClusters_52 (fun H locs hP hD hS => ?_)
      have hP : va_P D vwCl [(h0, .inr (9, [.int (zI fa), .int (zI tc), .ref so, .ref sl, .ref ce, .int (zI fn), .ref kd, .ref wd, .ref hs, .ref pf, .ref lt, .int (zI mn), .ref wg, .int (zI ta), .long ck, .int (zI at9), .int (zI rfn), .ref rk, .ref rw, .ref rh, .int (zI (jc + 1)), .ref sa, .ref fi, .int (zI 0), .ref ch, .ref cn, .int (zI ad), .int (zI ru), .ref kp, .int (zI dn), .ref rfa])), (wg, .inl (c_wg, 24, .inl f_wg)), (sa, .inl (c_sa, 25, .inl f_28)), (fi, .inl (c_fi, 24, .inl f_fi)), (hs, .inl (c_hs, 4, .inl f_hs))] H := hP
      have hD : va_D A [(h0, .inr (9, [.int (zI fa), .int (zI tc), .ref so, .ref sl, .ref ce, .int (zI fn), .ref kd, .ref wd, .ref hs, .ref pf, .ref lt, .int (zI mn), .ref wg, .int (zI ta), .long ck, .int (zI at9), .int (zI rfn), .ref rk, .ref rw, .ref rh, .int (zI (jc + 1)), .ref sa, .ref fi, .int (zI 0), .ref ch, .ref cn, .int (zI ad), .int (zI ru), .ref kp, .int (zI dn), .ref rfa])), (wg, .inl (c_wg, 24, .inl f_wg)), (sa, .inl (c_sa, 25, .inl f_28)), (fi, .inl (c_fi, 24, .inl f_fi)), (hs, .inl (c_hs, 4, .inl f_hs))] := hD
      refine lv_iinc (v := (zI (jk + 1))) (lv' := [(2, .int (zI (jk + 1))), (0, .ref h0), (1, .int (zI wo))]) hx hb dX9_findClusters_55 hl (k := 0) rfl (kz_inc _ 1) (by decide) rfl (fun ls hl => ?_)
      refine lv_goto (tgt := 12) hx hb dX9_findClusters_58 (by decide) ?_
      exact ih12 _ (by omega) _ _ _ ⟨(jk + 1), (jc + 1), f_28, rfl, (by omega), (by omega), (by rw [← ef_28]; exact kSt_upd v_122 (by omega) (by omega)), hP, hD, hS, lv_sub hl [0, 1, 2] rfl⟩
    · refine lv_aload_n hx hb dX9_findClusters_24 rfl (lv_at hl 1 rfl) ?_
      refine va_get (D := D) (ci := 9) (v := .ref wg) (C := RX9) (T := TX9) (N := 31) hx hb hts (fun _ h9 => List.mem_cons_of_mem _ (List.mem_append_right _ h9)) hown hK hP 0 rfl rfl 12 (by decide) (hts (.fieldLink RX9 34 "FontRunsModel" "writing" "[I") mw_X9_findClusters_7) (fun _ h9 => h9) rfl dX9_findClusters_25 ?_
      refine lv_iload_n hx hb dX9_findClusters_28 rfl (lv_at hl 0 rfl) ?_
      refine kz_iald hx hb hK hP 1 0 rfl rfl (by omega) dX9_findClusters_29 (fun z_29 rz_29 ez_29 => ?_)
      refine lv_bipush (v := zI 12) hx hb dX9_findClusters_30 (by decide) ?_
      refine kz_icmp_ge (tgt := 55) hx hb dX9_findClusters_32 (by decide) (by omega) (by omega) (fun c_30 => ?_) (fun c_30 => ?_)
      · refine lv_iinc (v := (zI (jk + 1))) (lv' := [(2, .int (zI (jk + 1))), (0, .ref h0), (1, .int (zI wo))]) hx hb dX9_findClusters_55 hl (k := 0) rfl (kz_inc _ 1) (by decide) rfl (fun ls hl => ?_)
        refine lv_goto (tgt := 12) hx hb dX9_findClusters_58 (by decide) ?_
        exact ih12 _ (by omega) _ _ _ ⟨(jk + 1), jc, ja, rfl, (by omega), (by omega), v_122, hP, hD, hS, lv_sub hl [0, 1, 2] rfl⟩
      · refine lv_aload_n hx hb dX9_findClusters_35 rfl (lv_at hl 1 rfl) ?_
        refine va_get (D := D) (ci := 9) (v := .ref sa) (C := RX9) (T := TX9) (N := 31) hx hb hts (fun _ h9 => List.mem_cons_of_mem _ (List.mem_append_right _ h9)) hown hK hP 0 rfl rfl 21 (by decide) (hts (.fieldLink RX9 46 "FontRunsModel" "start" "[I") mw_X9_findClusters_3) (fun _ h9 => h9) rfl dX9_findClusters_36 ?_
        refine lv_aload_n hx hb dX9_findClusters_39 rfl (lv_at hl 1 rfl) ?_
        refine va_get (D := D) (ci := 9) (v := .int (zI jc)) (C := RX9) (T := TX9) (N := 31) hx hb hts (fun _ h9 => List.mem_cons_of_mem _ (List.mem_append_right _ h9)) hown hK hP 0 rfl rfl 20 (by decide) (hts (.fieldLink RX9 138 "FontRunsModel" "clusters" "I") mw_X9_findClusters_0) (fun _ h9 => h9) rfl dX9_findClusters_40 ?_
        refine lv_iload_n hx hb dX9_findClusters_43 rfl (lv_at hl 0 rfl) ?_
        refine kz_iast hx hb hK hP hD hS 2 1 rfl rfl (by omega) dX9_findClusters_44 (fun H locs hP hD hS => ?_)
        have hP : va_P D vwCl [(h0, .inr (9, [.int (zI fa), .int (zI tc), .ref so, .ref sl, .ref ce, .int (zI fn), .ref kd, .ref wd, .ref hs, .ref pf, .ref lt, .int (zI mn), .ref wg, .int (zI ta), .long ck, .int (zI at9), .int (zI rfn), .ref rk, .ref rw, .ref rh, .int (zI jc), .ref sa, .ref fi, .int (zI 0), .ref ch, .ref cn, .int (zI ad), .int (zI ru), .ref kp, .int (zI dn), .ref rfa])), (wg, .inl (c_wg, 24, .inl f_wg)), (sa, .inl (c_sa, 25, .inl (upd ja (jc).toNat (zI jk)))), (fi, .inl (c_fi, 24, .inl f_fi)), (hs, .inl (c_hs, 4, .inl f_hs))] H := hP
        have hD : va_D A [(h0, .inr (9, [.int (zI fa), .int (zI tc), .ref so, .ref sl, .ref ce, .int (zI fn), .ref kd, .ref wd, .ref hs, .ref pf, .ref lt, .int (zI mn), .ref wg, .int (zI ta), .long ck, .int (zI at9), .int (zI rfn), .ref rk, .ref rw, .ref rh, .int (zI jc), .ref sa, .ref fi, .int (zI 0), .ref ch, .ref cn, .int (zI ad), .int (zI ru), .ref kp, .int (zI dn), .ref rfa])), (wg, .inl (c_wg, 24, .inl f_wg)), (sa, .inl (c_sa, 25, .inl (upd ja (jc).toNat (zI jk)))), (fi, .inl (c_fi, 24, .inl f_fi)), (hs, .inl (c_hs, 4, .inl f_hs))] := hD
        generalize ef_31 : upd ja (jc).toNat (zI jk) = f_31 at hP hD
        refine lv_aload_n hx hb dX9_findClusters_45 rfl (lv_at hl 1 rfl) ?_
        refine lv_dup hx hb dX9_findClusters_46 rfl ?_
        refine va_get (D := D) (ci := 9) (v := .int (zI jc)) (C := RX9) (T := TX9) (N := 31) hx hb hts (fun _ h9 => List.mem_cons_of_mem _ (List.mem_append_right _ h9)) hown hK hP 0 rfl rfl 20 (by decide) (hts (.fieldLink RX9 138 "FontRunsModel" "clusters" "I") mw_X9_findClusters_0) (fun _ h9 => h9) rfl dX9_findClusters_47 ?_
        refine lv_iconst (v := zI 1) hx hb dX9_findClusters_50 rfl ?_
        refine kz_iadd hx hb dX9_findClusters_51 ?_
        refine va_put (D := D) (ci := 9) (v := .int (zI (jc + 1))) (ty := .int) (C := RX9) (T := TX9) (N := 31) hx hb hts (fun _ h9 => List.mem_cons_of_mem _ (List.mem_append_right _ h9)) tyX9 tyX9_ok nmX9 hown hK hP hD hS 0 rfl rfl 20 (by decide) (hts (.fieldLink RX9 138 "FontRunsModel" "clusters" "I") mw_X9_findClusters_0) (fun _ h9 => h9) rfl (by decide +kernel) rfl rfl (Nat.le_of_ble_eq_true rfl) dX9_findClusters_52 (fun H locs hP hD hS => ?_)
        have hP : va_P D vwCl [(h0, .inr (9, [.int (zI fa), .int (zI tc), .ref so, .ref sl, .ref ce, .int (zI fn), .ref kd, .ref wd, .ref hs, .ref pf, .ref lt, .int (zI mn), .ref wg, .int (zI ta), .long ck, .int (zI at9), .int (zI rfn), .ref rk, .ref rw, .ref rh, .int (zI (jc + 1)), .ref sa, .ref fi, .int (zI 0), .ref ch, .ref cn, .int (zI ad), .int (zI ru), .ref kp, .int (zI dn), .ref rfa])), (wg, .inl (c_wg, 24, .inl f_wg)), (sa, .inl (c_sa, 25, .inl f_31)), (fi, .inl (c_fi, 24, .inl f_fi)), (hs, .inl (c_hs, 4, .inl f_hs))] H := hP
        have hD : va_D A [(h0, .inr (9, [.int (zI fa), .int (zI tc), .ref so, .ref sl, .ref ce, .int (zI fn), .ref kd, .ref wd, .ref hs, .ref pf, .ref lt, .int (zI mn), .ref wg, .int (zI ta), .long ck, .int (zI at9), .int (zI rfn), .ref rk, .ref rw, .ref rh, .int (zI (jc + 1)), .ref sa, .ref fi, .int (zI 0), .ref ch, .ref cn, .int (zI ad), .int (zI ru), .ref kp, .int (zI dn), .ref rfa])), (wg, .inl (c_wg, 24, .inl f_wg)), (sa, .inl (c_sa, 25, .inl f_31)), (fi, .inl (c_fi, 24, .inl f_fi)), (hs, .inl (c_hs, 4, .inl f_hs))] := hD
        refine lv_iinc (v := (zI (jk + 1))) (lv' := [(2, .int (zI (jk + 1))), (0, .ref h0), (1, .int (zI wo))]) hx hb dX9_findClusters_55 hl (k := 0) rfl (kz_inc _ 1) (by decide) rfl (fun ls hl => ?_)
        refine lv_goto (tgt := 12) hx hb dX9_findClusters_58 (by decide) ?_
        exact ih12 _ (by omega) _ _ _ ⟨(jk + 1), (jc + 1), f_31, rfl, (by omega), (by omega), (by rw [← ef_31]; exact kSt_upd v_122 (by omega) (by omega)), hP, hD, hS, lv_sub hl [0, 1, 2] rfl⟩
