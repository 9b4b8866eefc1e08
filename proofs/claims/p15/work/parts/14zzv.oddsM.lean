theorem dX9_odds_0 : decode cX9_odds 0 = .ok (.iload_n 1, 1) := by decide +kernel
theorem dX9_odds_1 : decode cX9_odds 1 = .ok (.iconst 0, 1) := by decide +kernel
theorem dX9_odds_2 : decode cX9_odds 2 = .ok (.bipush 24, 2) := by decide +kernel
theorem dX9_odds_4 : decode cX9_odds 4 = .ok (.invokestatic 70, 3) := by decide +kernel
theorem dX9_odds_7 : decode cX9_odds 7 = .ok (.ifCond .eq 28, 3) := by decide +kernel
theorem dX9_odds_10 : decode cX9_odds 10 = .ok (.iload_n 2, 1) := by decide +kernel
theorem dX9_odds_11 : decode cX9_odds 11 = .ok (.iconst 0, 1) := by decide +kernel
theorem dX9_odds_12 : decode cX9_odds 12 = .ok (.iconst 1, 1) := by decide +kernel
theorem dX9_odds_13 : decode cX9_odds 13 = .ok (.invokestatic 70, 3) := by decide +kernel
theorem dX9_odds_16 : decode cX9_odds 16 = .ok (.ifCond .eq 19, 3) := by decide +kernel
theorem dX9_odds_19 : decode cX9_odds 19 = .ok (.aload_n 0, 1) := by decide +kernel
theorem dX9_odds_20 : decode cX9_odds 20 = .ok (.getfield 74, 3) := by decide +kernel
theorem dX9_odds_23 : decode cX9_odds 23 = .ok (.ifCond .eq 12, 3) := by decide +kernel
theorem dX9_odds_26 : decode cX9_odds 26 = .ok (.aload_n 0, 1) := by decide +kernel
theorem dX9_odds_27 : decode cX9_odds 27 = .ok (.getfield 101, 3) := by decide +kernel
theorem dX9_odds_30 : decode cX9_odds 30 = .ok (.bipush 24, 2) := by decide +kernel
theorem dX9_odds_32 : decode cX9_odds 32 = .ok (.if_icmp .ne 7, 3) := by decide +kernel
theorem dX9_odds_35 : decode cX9_odds 35 = .ok (.ldc2_w 68, 3) := by decide +kernel
theorem dX9_odds_38 : decode cX9_odds 38 = .ok (.lreturn, 1) := by decide +kernel
theorem dX9_odds_39 : decode cX9_odds 39 = .ok (.iconst 0, 1) := by decide +kernel
theorem dX9_odds_40 : decode cX9_odds 40 = .ok (.istore_n 3, 1) := by decide +kernel
theorem dX9_odds_41 : decode cX9_odds 41 = .ok (.aload_n 0, 1) := by decide +kernel
theorem dX9_odds_42 : decode cX9_odds 42 = .ok (.dup, 1) := by decide +kernel
theorem dX9_odds_43 : decode cX9_odds 43 = .ok (.getfield 101, 3) := by decide +kernel
theorem dX9_odds_46 : decode cX9_odds 46 = .ok (.iconst 1, 1) := by decide +kernel
theorem dX9_odds_47 : decode cX9_odds 47 = .ok (.iadd, 1) := by decide +kernel
theorem dX9_odds_48 : decode cX9_odds 48 = .ok (.putfield 101, 3) := by decide +kernel
theorem dX9_odds_51 : decode cX9_odds 51 = .ok (.iconst 0, 1) := by decide +kernel
theorem dX9_odds_52 : decode cX9_odds 52 = .ok (.istore 4, 2) := by decide +kernel
theorem dX9_odds_54 : decode cX9_odds 54 = .ok (.iload 4, 2) := by decide +kernel
theorem dX9_odds_56 : decode cX9_odds 56 = .ok (.bipush 16, 2) := by decide +kernel
theorem dX9_odds_58 : decode cX9_odds 58 = .ok (.if_icmp .ge 40, 3) := by decide +kernel
theorem dX9_odds_61 : decode cX9_odds 61 = .ok (.aload_n 0, 1) := by decide +kernel
theorem dX9_odds_62 : decode cX9_odds 62 = .ok (.getfield 34, 3) := by decide +kernel
theorem dX9_odds_65 : decode cX9_odds 65 = .ok (.aload_n 0, 1) := by decide +kernel
theorem dX9_odds_66 : decode cX9_odds 66 = .ok (.getfield 101, 3) := by decide +kernel
theorem dX9_odds_69 : decode cX9_odds 69 = .ok (.iconst 1, 1) := by decide +kernel
theorem dX9_odds_70 : decode cX9_odds 70 = .ok (.isub, 1) := by decide +kernel
theorem dX9_odds_71 : decode cX9_odds 71 = .ok (.iload 4, 2) := by decide +kernel
theorem dX9_odds_73 : decode cX9_odds 73 = .ok (.iastore, 1) := by decide +kernel
theorem dX9_odds_74 : decode cX9_odds 74 = .ok (.iload_n 3, 1) := by decide +kernel
theorem dX9_odds_75 : decode cX9_odds 75 = .ok (.aload_n 0, 1) := by decide +kernel
theorem dX9_odds_76 : decode cX9_odds 76 = .ok (.bipush (-9), 2) := by decide +kernel
theorem dX9_odds_78 : decode cX9_odds 78 = .ok (.invokevirtual 155, 3) := by decide +kernel
theorem dX9_odds_81 : decode cX9_odds 81 = .ok (.iload_n 1, 1) := by decide +kernel
theorem dX9_odds_82 : decode cX9_odds 82 = .ok (.if_icmp .ne 7, 3) := by decide +kernel
theorem dX9_odds_85 : decode cX9_odds 85 = .ok (.iconst 1, 1) := by decide +kernel
theorem dX9_odds_86 : decode cX9_odds 86 = .ok (.goto 4, 3) := by decide +kernel
theorem dX9_odds_89 : decode cX9_odds 89 = .ok (.iconst 0, 1) := by decide +kernel
theorem dX9_odds_90 : decode cX9_odds 90 = .ok (.iadd, 1) := by decide +kernel
theorem dX9_odds_91 : decode cX9_odds 91 = .ok (.istore_n 3, 1) := by decide +kernel
theorem dX9_odds_92 : decode cX9_odds 92 = .ok (.iinc 4 1, 3) := by decide +kernel
theorem dX9_odds_95 : decode cX9_odds 95 = .ok (.goto (-41), 3) := by decide +kernel
theorem dX9_odds_98 : decode cX9_odds 98 = .ok (.aload_n 0, 1) := by decide +kernel
theorem dX9_odds_99 : decode cX9_odds 99 = .ok (.dup, 1) := by decide +kernel
theorem dX9_odds_100 : decode cX9_odds 100 = .ok (.getfield 101, 3) := by decide +kernel
theorem dX9_odds_103 : decode cX9_odds 103 = .ok (.iconst 1, 1) := by decide +kernel
theorem dX9_odds_104 : decode cX9_odds 104 = .ok (.isub, 1) := by decide +kernel
theorem dX9_odds_105 : decode cX9_odds 105 = .ok (.putfield 101, 3) := by decide +kernel
theorem dX9_odds_108 : decode cX9_odds 108 = .ok (.iload_n 3, 1) := by decide +kernel
theorem dX9_odds_109 : decode cX9_odds 109 = .ok (.i2l, 1) := by decide +kernel
theorem dX9_odds_110 : decode cX9_odds 110 = .ok (.ldc2_w 200, 3) := by decide +kernel
theorem dX9_odds_113 : decode cX9_odds 113 = .ok (.iload_n 2, 1) := by decide +kernel
theorem dX9_odds_114 : decode cX9_odds 114 = .ok (.invokestatic 202, 3) := by decide +kernel
theorem dX9_odds_117 : decode cX9_odds 117 = .ok (.lreturn, 1) := by decide +kernel
set_option maxRecDepth 20000 in
theorem ggX9_odds_X9_findChanges : GoodIn wsX9_odds wsX9_findChanges := goodIn_4 _ (List.forall_mem_cons.mpr ⟨List.mem_cons_of_mem _ (List.mem_append_left _ (List.mem_append_left _ (List.mem_of_getElem? (i := 12) rfl))), List.forall_mem_append.mpr ⟨List.forall_mem_append.mpr ⟨List.forall_mem_cons.mpr ⟨List.mem_cons_of_mem _ (List.mem_append_left _ (List.mem_append_left _ (List.mem_of_getElem? (i := 13) rfl))), List.forall_mem_cons.mpr ⟨List.mem_cons_of_mem _ (List.mem_append_left _ (List.mem_append_left _ (List.mem_of_getElem? (i := 0) rfl))), List.forall_mem_cons.mpr ⟨List.mem_cons_of_mem _ (List.mem_append_left _ (List.mem_append_left _ (List.mem_of_getElem? (i := 14) rfl))), List.forall_mem_cons.mpr ⟨List.mem_cons_of_mem _ (List.mem_append_left _ (List.mem_append_left _ (List.mem_of_getElem? (i := 15) rfl))), List.forall_mem_cons.mpr ⟨List.mem_cons_of_mem _ (List.mem_append_left _ (List.mem_append_left _ (List.mem_of_getElem? (i := 16) rfl))), List.forall_mem_cons.mpr ⟨List.mem_cons_of_mem _ (List.mem_append_left _ (List.mem_append_left _ (List.mem_of_getElem? (i := 17) rfl))), List.forall_mem_cons.mpr ⟨List.mem_cons_of_mem _ (List.mem_append_left _ (List.mem_append_left _ (List.mem_of_getElem? (i := 7) rfl))), List.forall_mem_cons.mpr ⟨List.mem_cons_of_mem _ (List.mem_append_left _ (List.mem_append_left _ (List.mem_of_getElem? (i := 18) rfl))), List.forall_mem_cons.mpr ⟨List.mem_cons_of_mem _ (List.mem_append_left _ (List.mem_append_left _ (List.mem_of_getElem? (i := 19) rfl))), List.forall_mem_cons.mpr ⟨List.mem_cons_of_mem _ (List.mem_append_left _ (List.mem_append_left _ (List.mem_of_getElem? (i := 1) rfl))), List.forall_mem_cons.mpr ⟨List.mem_cons_of_mem _ (List.mem_append_left _ (List.mem_append_left _ (List.mem_of_getElem? (i := 3) rfl))), List.forall_mem_cons.mpr ⟨List.mem_cons_of_mem _ (List.mem_append_left _ (List.mem_append_left _ (List.mem_of_getElem? (i := 20) rfl))), List.forall_mem_cons.mpr ⟨List.mem_cons_of_mem _ (List.mem_append_left _ (List.mem_append_left _ (List.mem_of_getElem? (i := 21) rfl))), List.forall_mem_cons.mpr ⟨List.mem_cons_of_mem _ (List.mem_append_left _ (List.mem_append_left _ (List.mem_of_getElem? (i := 22) rfl))), List.forall_mem_cons.mpr ⟨List.mem_cons_of_mem _ (List.mem_append_left _ (List.mem_append_left _ (List.mem_of_getElem? (i := 23) rfl))), List.forall_mem_cons.mpr ⟨List.mem_cons_of_mem _ (List.mem_append_left _ (List.mem_append_right _ (List.mem_of_getElem? (i := 0) rfl))), List.forall_mem_cons.mpr ⟨List.mem_cons_of_mem _ (List.mem_append_left _ (List.mem_append_right _ (List.mem_of_getElem? (i := 1) rfl))), List.forall_mem_cons.mpr ⟨List.mem_cons_of_mem _ (List.mem_append_left _ (List.mem_append_right _ (List.mem_of_getElem? (i := 2) rfl))), List.forall_mem_cons.mpr ⟨List.mem_cons_of_mem _ (List.mem_append_left _ (List.mem_append_right _ (List.mem_of_getElem? (i := 3) rfl))), List.forall_mem_cons.mpr ⟨List.mem_cons_of_mem _ (List.mem_append_left _ (List.mem_append_right _ (List.mem_of_getElem? (i := 4) rfl))), List.forall_mem_cons.mpr ⟨List.mem_cons_of_mem _ (List.mem_append_left _ (List.mem_append_right _ (List.mem_of_getElem? (i := 5) rfl))), List.forall_mem_cons.mpr ⟨List.mem_cons_of_mem _ (List.mem_append_left _ (List.mem_append_right _ (List.mem_of_getElem? (i := 6) rfl))), List.forall_mem_cons.mpr ⟨List.mem_cons_of_mem _ (List.mem_append_left _ (List.mem_append_right _ (List.mem_of_getElem? (i := 7) rfl))), List.forall_mem_cons.mpr ⟨List.mem_cons_of_mem _ (List.mem_append_left _ (List.mem_append_right _ (List.mem_of_getElem? (i := 8) rfl))), fun _ h9 => absurd h9 List.not_mem_nil⟩⟩⟩⟩⟩⟩⟩⟩⟩⟩⟩⟩⟩⟩⟩⟩⟩⟩⟩⟩⟩⟩⟩⟩, List.forall_mem_cons.mpr ⟨List.mem_cons_of_mem _ (List.mem_append_left _ (List.mem_append_right _ (List.mem_of_getElem? (i := 9) rfl))), fun _ h9 => absurd h9 List.not_mem_nil⟩⟩, fun w h9 => List.mem_cons_of_mem _ (List.mem_append_right _ (h9))⟩⟩) (by decide +kernel)
set_option maxRecDepth 20000 in
theorem gX9_odds_X9_findChanges : GoodIn wsX9_odds (wsV RX9 155 RX9 yX9_findChanges wsX9_findChanges) := goodIn_app (goodIn_4 _ (List.forall_mem_cons.mpr ⟨List.mem_cons_of_mem _ (List.mem_append_left _ (List.mem_append_left _ (List.mem_of_getElem? (i := 9) rfl))), List.forall_mem_cons.mpr ⟨List.mem_cons_of_mem _ (List.mem_append_left _ (List.mem_append_left _ (List.mem_of_getElem? (i := 10) rfl))), List.forall_mem_cons.mpr ⟨List.mem_cons_of_mem _ (List.mem_append_left _ (List.mem_append_left _ (List.mem_of_getElem? (i := 11) rfl))), List.forall_mem_cons.mpr ⟨List.mem_cons_of_mem _ (List.mem_append_left _ (List.mem_append_left _ (List.mem_of_getElem? (i := 7) rfl))), fun _ h9 => absurd h9 List.not_mem_nil⟩⟩⟩⟩) (by decide +kernel)) ggX9_odds_X9_findChanges
set_option maxRecDepth 20000 in
theorem ggX9_odds_X9_inLeastTerms : GoodIn wsX9_odds wsX9_inLeastTerms := goodIn_4 _ (List.forall_mem_cons.mpr ⟨List.mem_cons_of_mem _ (List.mem_append_left _ (List.mem_append_right _ (List.mem_of_getElem? (i := 12) rfl))), fun _ h9 => absurd h9 List.not_mem_nil⟩) (by decide +kernel)
set_option maxRecDepth 20000 in
theorem gX9_odds_X9_inLeastTerms : GoodIn wsX9_odds (va_wsS RX9 202 yX9_inLeastTerms wsX9_inLeastTerms) := goodIn_app (goodIn_4 _ (List.forall_mem_cons.mpr ⟨List.mem_cons_of_mem _ (List.mem_append_left _ (List.mem_append_right _ (List.mem_of_getElem? (i := 10) rfl))), List.forall_mem_cons.mpr ⟨List.mem_cons_of_mem _ (List.mem_append_left _ (List.mem_append_right _ (List.mem_of_getElem? (i := 11) rfl))), List.forall_mem_cons.mpr ⟨List.mem_cons_of_mem _ (List.mem_append_left _ (List.mem_append_left _ (List.mem_of_getElem? (i := 7) rfl))), fun _ h9 => absurd h9 List.not_mem_nil⟩⟩⟩) (by decide +kernel)) ggX9_odds_X9_inLeastTerms
set_option maxRecDepth 20000 in
theorem ggX9_odds_X9_within : GoodIn wsX9_odds wsX9_within := goodIn_4 _ (List.forall_mem_cons.mpr ⟨List.mem_cons_of_mem _ (List.mem_append_left _ (List.mem_append_left _ (List.mem_of_getElem? (i := 8) rfl))), fun _ h9 => absurd h9 List.not_mem_nil⟩) (by decide +kernel)
set_option maxRecDepth 20000 in
theorem gX9_odds_X9_within : GoodIn wsX9_odds (va_wsS RX9 70 yX9_within wsX9_within) := goodIn_app (goodIn_4 _ (List.forall_mem_cons.mpr ⟨List.mem_cons_of_mem _ (List.mem_append_left _ (List.mem_append_left _ (List.mem_of_getElem? (i := 5) rfl))), List.forall_mem_cons.mpr ⟨List.mem_cons_of_mem _ (List.mem_append_left _ (List.mem_append_left _ (List.mem_of_getElem? (i := 6) rfl))), List.forall_mem_cons.mpr ⟨List.mem_cons_of_mem _ (List.mem_append_left _ (List.mem_append_left _ (List.mem_of_getElem? (i := 7) rfl))), fun _ h9 => absurd h9 List.not_mem_nil⟩⟩⟩) (by decide +kernel)) ggX9_odds_X9_within
set_option maxRecDepth 20000 in
theorem mw_X9_odds_0 : (.constantLong RX9 68 (-9223372036854775808) : Cond) ∈ wsX9_odds := List.mem_cons_of_mem _ (List.mem_append_left _ (List.mem_append_left _ (List.mem_of_getElem? (i := 2) rfl)))
set_option maxRecDepth 20000 in
theorem mw_X9_odds_1 : (.fieldLink RX9 74 "FontRunsModel" "fonts" "I" : Cond) ∈ wsX9_odds := List.mem_cons_of_mem _ (List.mem_append_left _ (List.mem_append_left _ (List.mem_of_getElem? (i := 0) rfl)))
set_option maxRecDepth 20000 in
theorem mw_X9_odds_2 : (.fieldLink RX9 101 "FontRunsModel" "many" "I" : Cond) ∈ wsX9_odds := List.mem_cons_of_mem _ (List.mem_append_left _ (List.mem_append_left _ (List.mem_of_getElem? (i := 1) rfl)))
set_option maxRecDepth 20000 in
theorem mw_X9_odds_3 : (.constantLong RX9 200 (16) : Cond) ∈ wsX9_odds := List.mem_cons_of_mem _ (List.mem_append_left _ (List.mem_append_left _ (List.mem_of_getElem? (i := 4) rfl)))
set_option maxRecDepth 20000 in
theorem mw_X9_odds_4 : (.fieldLink RX9 34 "FontRunsModel" "writing" "[I" : Cond) ∈ wsX9_odds := List.mem_cons_of_mem _ (List.mem_append_left _ (List.mem_append_left _ (List.mem_of_getElem? (i := 3) rfl)))
theorem ax_X9_odds_0 {e0 e1 e2 e3 e4 e5 : Nat × va_E} : ([] : List Nat).map (fun i => ([e0, e1, e2, e3, e4, e5] : va_W)[i]?) = ([] : va_W).map some := rfl
theorem ax_X9_odds_1 {e0 e1 e2 e3 e4 e5 : Nat × va_E} : ([0, 1, 2, 3, 4, 5] : List Nat).map (fun i => ([e0, e1, e2, e3, e4, e5] : va_W)[i]?) = ([e0, e1, e2, e3, e4, e5] : va_W).map some := rfl
theorem ax_X9_odds_2 {D : va_G} {cl : List vw_C} {H : Heap} {e0 e1 e2 e3 e4 e5 : Nat × va_E} (h : va_P D cl ((([e0, e1, e2, e3, e4, e5] : va_W) ++ ([] : va_W))) H) : va_P D cl (([e0, e1, e2, e3, e4, e5] : va_W)) H := h
theorem ax_X9_odds_3 {A : Nat → Prop} {e0 e1 e2 e3 e4 e5 : Nat × va_E} (h : va_D A ((([e0, e1, e2, e3, e4, e5] : va_W) ++ ([] : va_W)))) : va_D A (([e0, e1, e2, e3, e4, e5] : va_W)) := h
theorem ax_X9_odds_4 {D : va_G} {cl : List vw_C} {H : Heap} {f0 f1 f2 f3 f4 f5 : Nat × va_E} (h : va_P D cl ((([] : va_W) ++ ([f0, f1, f2, f3, f4, f5] : va_W))) H) : va_P D cl (([f0, f1, f2, f3, f4, f5] : va_W)) H := h
theorem ax_X9_odds_5 {A : Nat → Prop} {f0 f1 f2 f3 f4 f5 : Nat × va_E} (h : va_D A ((([] : va_W) ++ ([f0, f1, f2, f3, f4, f5] : va_W)))) : va_D A (([f0, f1, f2, f3, f4, f5] : va_W)) := h
set_option maxHeartbeats 4000000 in
set_option maxRecDepth 100000 in
theorem c_X9_odds (l : Launch) (D : va_G) (sz : Nat) (x : Int) (w : Int) (h0 : Nat) (fa : Int) (tc : Int) (so : Nat) (sl : Nat) (ce : Nat) (fn : Int) (kd : Nat) (wd : Nat) (hs : Nat) (pf : Nat) (lt : Nat) (mn : Int) (wg : Nat) (ta : Int) (ck : Int64) (at9 : Int) (rfn : Int) (rk : Nat) (rw : Nat) (rh : Nat) (cl : Int) (sa : Nat) (fi : Nat) (bo : Int) (ch : Nat) (cn : Nat) (ad : Int) (ru : Int) (kp : Nat) (dn : Int) (rfa : Nat) (c_wg : ClassId) (f_wg : Nat → Int32) (c_sa : ClassId) (f_sa : Nat → Int32) (c_fi : ClassId) (f_fi : Nat → Int32) (c_hs : ClassId) (f_hs : Nat → Int32) (c_ch : ClassId) (f_ch : Nat → Int32) (q0 : rg x) (q1 : rg w) (q2 : 0 ≤ mn ∧ mn ≤ 24) (q3 : 0 ≤ fn ∧ fn ≤ 4) (q4 : 0 ≤ cl ∧ cl ≤ 24) (q5 : 0 ≤ bo ∧ bo ≤ 24) (q6 : ¬ (fn = 0 ∧ 1 ≤ mn)) : Met l yX9_odds wsX9_odds ({ frames := 4, cells := 0, slots := 0, locals := 93 }) (kPre [.ref h0, .int (zI x), .int (zI w)] D [(h0, .inr (9, [.int (zI fa), .int (zI tc), .ref so, .ref sl, .ref ce, .int (zI fn), .ref kd, .ref wd, .ref hs, .ref pf, .ref lt, .int (zI mn), .ref wg, .int (zI ta), .long ck, .int (zI at9), .int (zI rfn), .ref rk, .ref rw, .ref rh, .int (zI cl), .ref sa, .ref fi, .int (zI bo), .ref ch, .ref cn, .int (zI ad), .int (zI ru), .ref kp, .int (zI dn), .ref rfa])), (wg, .inl (c_wg, 24, .inl f_wg)), (sa, .inl (c_sa, 25, .inl f_sa)), (fi, .inl (c_fi, 24, .inl f_fi)), (hs, .inl (c_hs, 4, .inl f_hs)), (ch, .inl (c_ch, 96, .inl f_ch))] [(c_wg, .int), (c_sa, .int), (c_fi, .int), (c_hs, .int), (c_ch, .int)] sz) (kQL (fun rz t => ∃ (u_mn : Int) (u_f_wg : Nat → Int32) (u_cl : Int) (u_bo : Int) (u_f_sa : Nat → Int32) (u_f_fi : Nat → Int32) (u_f_ch : Nat → Int32), (0 ≤ u_mn ∧ u_mn ≤ 24) ∧ (0 ≤ u_cl ∧ u_cl ≤ 24) ∧ (0 ≤ u_bo ∧ u_bo ≤ 24) ∧ (¬ (fn = 0 ∧ 1 ≤ u_mn)) ∧ (u_mn = mn) ∧ (kEq u_f_wg f_wg mn) ∧ va_P D vwCl [(h0, .inr (9, [.int (zI fa), .int (zI tc), .ref so, .ref sl, .ref ce, .int (zI fn), .ref kd, .ref wd, .ref hs, .ref pf, .ref lt, .int (zI u_mn), .ref wg, .int (zI ta), .long ck, .int (zI at9), .int (zI rfn), .ref rk, .ref rw, .ref rh, .int (zI u_cl), .ref sa, .ref fi, .int (zI u_bo), .ref ch, .ref cn, .int (zI ad), .int (zI ru), .ref kp, .int (zI dn), .ref rfa])), (wg, .inl (c_wg, 24, .inl u_f_wg)), (sa, .inl (c_sa, 25, .inl u_f_sa)), (fi, .inl (c_fi, 24, .inl u_f_fi)), (hs, .inl (c_hs, 4, .inl f_hs)), (ch, .inl (c_ch, 96, .inl u_f_ch))] t.heap ∧ va_D (va_A [(h0, .inr (9, [.int (zI fa), .int (zI tc), .ref so, .ref sl, .ref ce, .int (zI fn), .ref kd, .ref wd, .ref hs, .ref pf, .ref lt, .int (zI mn), .ref wg, .int (zI ta), .long ck, .int (zI at9), .int (zI rfn), .ref rk, .ref rw, .ref rh, .int (zI cl), .ref sa, .ref fi, .int (zI bo), .ref ch, .ref cn, .int (zI ad), .int (zI ru), .ref kp, .int (zI dn), .ref rfa])), (wg, .inl (c_wg, 24, .inl f_wg)), (sa, .inl (c_sa, 25, .inl f_sa)), (fi, .inl (c_fi, 24, .inl f_fi)), (hs, .inl (c_hs, 4, .inl f_hs)), (ch, .inl (c_ch, 96, .inl f_ch))] sz) [(h0, .inr (9, [.int (zI fa), .int (zI tc), .ref so, .ref sl, .ref ce, .int (zI fn), .ref kd, .ref wd, .ref hs, .ref pf, .ref lt, .int (zI u_mn), .ref wg, .int (zI ta), .long ck, .int (zI at9), .int (zI rfn), .ref rk, .ref rw, .ref rh, .int (zI u_cl), .ref sa, .ref fi, .int (zI u_bo), .ref ch, .ref cn, .int (zI ad), .int (zI ru), .ref kp, .int (zI dn), .ref rfa])), (wg, .inl (c_wg, 24, .inl u_f_wg)), (sa, .inl (c_sa, 25, .inl u_f_sa)), (fi, .inl (c_fi, 24, .inl u_f_fi)), (hs, .inl (c_hs, 4, .inl f_hs)), (ch, .inl (c_ch, 96, .inl u_f_ch))]) (va_A [(h0, .inr (9, [.int (zI fa), .int (zI tc), .ref so, .ref sl, .ref ce, .int (zI fn), .ref kd, .ref wd, .ref hs, .ref pf, .ref lt, .int (zI mn), .ref wg, .int (zI ta), .long ck, .int (zI at9), .int (zI rfn), .ref rk, .ref rw, .ref rh, .int (zI cl), .ref sa, .ref fi, .int (zI bo), .ref ch, .ref cn, .int (zI ad), .int (zI ru), .ref kp, .int (zI dn), .ref rfa])), (wg, .inl (c_wg, 24, .inl f_wg)), (sa, .inl (c_sa, 25, .inl f_sa)), (fi, .inl (c_fi, 24, .inl f_fi)), (hs, .inl (c_hs, 4, .inl f_hs)), (ch, .inl (c_ch, 96, .inl f_ch))] sz)) 0 0 (va_A [(h0, .inr (9, [.int (zI fa), .int (zI tc), .ref so, .ref sl, .ref ce, .int (zI fn), .ref kd, .ref wd, .ref hs, .ref pf, .ref lt, .int (zI mn), .ref wg, .int (zI ta), .long ck, .int (zI at9), .int (zI rfn), .ref rk, .ref rw, .ref rh, .int (zI cl), .ref sa, .ref fi, .int (zI bo), .ref ch, .ref cn, .int (zI ad), .int (zI ru), .ref kp, .int (zI dn), .ref rfa])), (wg, .inl (c_wg, 24, .inl f_wg)), (sa, .inl (c_sa, 25, .inl f_sa)), (fi, .inl (c_fi, 24, .inl f_fi)), (hs, .inl (c_hs, 4, .inl f_hs)), (ch, .inl (c_ch, 96, .inl f_ch))] sz) := by
  refine Met.ofW (cc := cX9_odds) (maxL := 5) (ret := (some .long)) (by decide) rfl ?_
  intro p e s m args below meth c s₁ B hml hv
  obtain ⟨rfl, hsz, hP, hK, hD0, hN⟩ := hv
  have hx := B.exec
  have hb := B.bytes
  have hr := B.returns
  have hts := atoms_spec (ws := wsX9_odds) B.pre
  have hown : s.vm.findClass RX9 = some m.cls := findClass_of_methodNamed B.named
  have hlocks := B.notSynchronized
  subst hsz
  have hD := hD0.self (sz := s.heap.size)
  generalize hAe : va_A [(h0, .inr (9, [.int (zI fa), .int (zI tc), .ref so, .ref sl, .ref ce, .int (zI fn), .ref kd, .ref wd, .ref hs, .ref pf, .ref lt, .int (zI mn), .ref wg, .int (zI ta), .long ck, .int (zI at9), .int (zI rfn), .ref rk, .ref rw, .ref rh, .int (zI cl), .ref sa, .ref fi, .int (zI bo), .ref ch, .ref cn, .int (zI ad), .int (zI ru), .ref kp, .int (zI dn), .ref rfa])), (wg, .inl (c_wg, 24, .inl f_wg)), (sa, .inl (c_sa, 25, .inl f_sa)), (fi, .inl (c_fi, 24, .inl f_fi)), (hs, .inl (c_hs, 4, .inl f_hs)), (ch, .inl (c_ch, 96, .inl f_ch))] s.heap.size = A at hD ⊢
  have hA : ∀ q : Nat, s.heap.size ≤ q → A q := fun q h => by rw [← hAe]; exact Or.inr h
  have hS : va_S A s.heap s.heap [] := va_S.rf
  have hP : va_P D vwCl [(h0, .inr (9, [.int (zI fa), .int (zI tc), .ref so, .ref sl, .ref ce, .int (zI fn), .ref kd, .ref wd, .ref hs, .ref pf, .ref lt, .int (zI mn), .ref wg, .int (zI ta), .long ck, .int (zI at9), .int (zI rfn), .ref rk, .ref rw, .ref rh, .int (zI cl), .ref sa, .ref fi, .int (zI bo), .ref ch, .ref cn, .int (zI ad), .int (zI ru), .ref kp, .int (zI dn), .ref rfa])), (wg, .inl (c_wg, 24, .inl f_wg)), (sa, .inl (c_sa, 25, .inl f_sa)), (fi, .inl (c_fi, 24, .inl f_fi)), (hs, .inl (c_hs, 4, .inl f_hs)), (ch, .inl (c_ch, 96, .inl f_ch))] s.heap := hP
  have hl := lv_entry ([.ref h0, .int (zI x), .int (zI w)]) (n := 5) (Nat.le_of_ble_eq_true rfl)
  rw [lg_entry_eq]
  generalize (lg_sl ([.ref h0, .int (zI x), .int (zI w)]) ++ List.replicate (5 - (lg_sl ([.ref h0, .int (zI x), .int (zI w)])).length) Slot.unset).toArray = ls at hl ⊢
  have hl : lv_has ls 5 [(0, .ref h0), (1, .int (zI x)), (2, .int (zI w))] := hl
  refine lv_iload_n hx hb dX9_odds_0 rfl (lv_at hl 1 rfl) ?_
  refine lv_iconst (v := zI 0) hx hb dX9_odds_1 rfl ?_
  refine lv_bipush (v := zI 24) hx hb dX9_odds_2 (by decide) ?_
  refine k_callR (va_runS (As := [.int (zI x), .int (zI 0), .int (zI 24)]) (rest := []) ⟨hx, hb, hml, hown, hts⟩ (c_X9_within l D s.heap.size (v := x) (a := 0) (b := 24) q0 (by omega) (by omega)) (va_cwS 3 hts gX9_odds_X9_within rfl rfl rfl (by decide +kernel) ⟨Nat.le_of_ble_eq_true rfl, Nat.le_of_ble_eq_true rfl⟩) (kPreS hP (kD0 hD) hK hN [] [] ax_X9_odds_0 rfl (by decide +kernel)) rfl rfl hl.1 rfl (lv_room (Nat.le_of_ble_eq_true rfl)) dX9_odds_4 ⟨Nat.le_of_ble_eq_true rfl, Nat.le_of_ble_eq_true rfl⟩) ?_
  refine lv_if_eq (tgt := 35) hx hb dX9_odds_7 (by decide) (fun c_1 => ?_) (fun c_1 => ?_)
  · have c_1 : ¬ (0 ≤ x ∧ x ≤ 24) := b01f c_1
    refine lv_ldc2 (v := (-9223372036854775808)) hx hb hown (hts (.constantLong RX9 68 (-9223372036854775808)) mw_X9_odds_0) dX9_odds_35 ?_
    have hP9 := hP.sub (ws' := [(h0, .inr (9, [.int (zI fa), .int (zI tc), .ref so, .ref sl, .ref ce, .int (zI fn), .ref kd, .ref wd, .ref hs, .ref pf, .ref lt, .int (zI mn), .ref wg, .int (zI ta), .long ck, .int (zI at9), .int (zI rfn), .ref rk, .ref rw, .ref rh, .int (zI cl), .ref sa, .ref fi, .int (zI bo), .ref ch, .ref cn, .int (zI ad), .int (zI ru), .ref kp, .int (zI dn), .ref rfa])), (wg, .inl (c_wg, 24, .inl f_wg)), (sa, .inl (c_sa, 25, .inl f_sa)), (fi, .inl (c_fi, 24, .inl f_fi)), (hs, .inl (c_hs, 4, .inl f_hs)), (ch, .inl (c_ch, 96, .inl f_ch))]) [0, 1, 2, 3, 4, 5] rfl
    have hD9 := hD.sub (ws' := [(h0, .inr (9, [.int (zI fa), .int (zI tc), .ref so, .ref sl, .ref ce, .int (zI fn), .ref kd, .ref wd, .ref hs, .ref pf, .ref lt, .int (zI mn), .ref wg, .int (zI ta), .long ck, .int (zI at9), .int (zI rfn), .ref rk, .ref rw, .ref rh, .int (zI cl), .ref sa, .ref fi, .int (zI bo), .ref ch, .ref cn, .int (zI ad), .int (zI ru), .ref kp, .int (zI dn), .ref rfa])), (wg, .inl (c_wg, 24, .inl f_wg)), (sa, .inl (c_sa, 25, .inl f_sa)), (fi, .inl (c_fi, 24, .inl f_fi)), (hs, .inl (c_hs, 4, .inl f_hs)), (ch, .inl (c_ch, 96, .inl f_ch))]) [0, 1, 2, 3, 4, 5] (by decide +kernel) rfl
    exact W.lret (v := (-9223372036854775808)) hx hb hr (fun t ht hW => kQL_of ⟨mn, f_wg, cl, bo, f_sa, f_fi, f_ch, q2, q4, q5, q6, (by omega), kEq_rf, by rw [ht]; exact hP9, hD9⟩ (hS.F ht)) hS.2.2 dX9_odds_38
  · have c_1 : 0 ≤ x ∧ x ≤ 24 := b01t c_1
    refine lv_iload_n hx hb dX9_odds_10 rfl (lv_at hl 2 rfl) ?_
    refine lv_iconst (v := zI 0) hx hb dX9_odds_11 rfl ?_
    refine lv_iconst (v := zI 1) hx hb dX9_odds_12 rfl ?_
    refine k_callR (va_runS (As := [.int (zI w), .int (zI 0), .int (zI 1)]) (rest := []) ⟨hx, hb, hml, hown, hts⟩ (c_X9_within l D s.heap.size (v := w) (a := 0) (b := 1) q1 (by omega) (by omega)) (va_cwS 3 hts gX9_odds_X9_within rfl rfl rfl (by decide +kernel) ⟨Nat.le_of_ble_eq_true rfl, Nat.le_of_ble_eq_true rfl⟩) (kPreS hP (kD0 hD) hK hN [] [] ax_X9_odds_0 rfl (by decide +kernel)) rfl rfl hl.1 rfl (lv_room (Nat.le_of_ble_eq_true rfl)) dX9_odds_13 ⟨Nat.le_of_ble_eq_true rfl, Nat.le_of_ble_eq_true rfl⟩) ?_
    refine lv_if_eq (tgt := 35) hx hb dX9_odds_16 (by decide) (fun c_2 => ?_) (fun c_2 => ?_)
    · have c_2 : ¬ (0 ≤ w ∧ w ≤ 1) := b01f c_2
      refine lv_ldc2 (v := (-9223372036854775808)) hx hb hown (hts (.constantLong RX9 68 (-9223372036854775808)) mw_X9_odds_0) dX9_odds_35 ?_
      have hP9 := hP.sub (ws' := [(h0, .inr (9, [.int (zI fa), .int (zI tc), .ref so, .ref sl, .ref ce, .int (zI fn), .ref kd, .ref wd, .ref hs, .ref pf, .ref lt, .int (zI mn), .ref wg, .int (zI ta), .long ck, .int (zI at9), .int (zI rfn), .ref rk, .ref rw, .ref rh, .int (zI cl), .ref sa, .ref fi, .int (zI bo), .ref ch, .ref cn, .int (zI ad), .int (zI ru), .ref kp, .int (zI dn), .ref rfa])), (wg, .inl (c_wg, 24, .inl f_wg)), (sa, .inl (c_sa, 25, .inl f_sa)), (fi, .inl (c_fi, 24, .inl f_fi)), (hs, .inl (c_hs, 4, .inl f_hs)), (ch, .inl (c_ch, 96, .inl f_ch))]) [0, 1, 2, 3, 4, 5] rfl
      have hD9 := hD.sub (ws' := [(h0, .inr (9, [.int (zI fa), .int (zI tc), .ref so, .ref sl, .ref ce, .int (zI fn), .ref kd, .ref wd, .ref hs, .ref pf, .ref lt, .int (zI mn), .ref wg, .int (zI ta), .long ck, .int (zI at9), .int (zI rfn), .ref rk, .ref rw, .ref rh, .int (zI cl), .ref sa, .ref fi, .int (zI bo), .ref ch, .ref cn, .int (zI ad), .int (zI ru), .ref kp, .int (zI dn), .ref rfa])), (wg, .inl (c_wg, 24, .inl f_wg)), (sa, .inl (c_sa, 25, .inl f_sa)), (fi, .inl (c_fi, 24, .inl f_fi)), (hs, .inl (c_hs, 4, .inl f_hs)), (ch, .inl (c_ch, 96, .inl f_ch))]) [0, 1, 2, 3, 4, 5] (by decide +kernel) rfl
      exact W.lret (v := (-9223372036854775808)) hx hb hr (fun t ht hW => kQL_of ⟨mn, f_wg, cl, bo, f_sa, f_fi, f_ch, q2, q4, q5, q6, (by omega), kEq_rf, by rw [ht]; exact hP9, hD9⟩ (hS.F ht)) hS.2.2 dX9_odds_38
    · have c_2 : 0 ≤ w ∧ w ≤ 1 := b01t c_2
      refine lv_aload_n hx hb dX9_odds_19 rfl (lv_at hl 0 rfl) ?_
      refine va_get (D := D) (ci := 9) (v := .int (zI fn)) (C := RX9) (T := TX9) (N := 31) hx hb hts (fun _ h9 => List.mem_cons_of_mem _ (List.mem_append_right _ h9)) hown hK hP 0 rfl rfl 5 (by decide) (hts (.fieldLink RX9 74 "FontRunsModel" "fonts" "I") mw_X9_odds_1) (fun _ h9 => h9) rfl dX9_odds_20 ?_
      refine kz_if_eq (tgt := 35) hx hb dX9_odds_23 (by decide) (by omega) (fun c_3 => ?_) (fun c_3 => ?_)
      · refine lv_ldc2 (v := (-9223372036854775808)) hx hb hown (hts (.constantLong RX9 68 (-9223372036854775808)) mw_X9_odds_0) dX9_odds_35 ?_
        have hP9 := hP.sub (ws' := [(h0, .inr (9, [.int (zI fa), .int (zI tc), .ref so, .ref sl, .ref ce, .int (zI fn), .ref kd, .ref wd, .ref hs, .ref pf, .ref lt, .int (zI mn), .ref wg, .int (zI ta), .long ck, .int (zI at9), .int (zI rfn), .ref rk, .ref rw, .ref rh, .int (zI cl), .ref sa, .ref fi, .int (zI bo), .ref ch, .ref cn, .int (zI ad), .int (zI ru), .ref kp, .int (zI dn), .ref rfa])), (wg, .inl (c_wg, 24, .inl f_wg)), (sa, .inl (c_sa, 25, .inl f_sa)), (fi, .inl (c_fi, 24, .inl f_fi)), (hs, .inl (c_hs, 4, .inl f_hs)), (ch, .inl (c_ch, 96, .inl f_ch))]) [0, 1, 2, 3, 4, 5] rfl
        have hD9 := hD.sub (ws' := [(h0, .inr (9, [.int (zI fa), .int (zI tc), .ref so, .ref sl, .ref ce, .int (zI fn), .ref kd, .ref wd, .ref hs, .ref pf, .ref lt, .int (zI mn), .ref wg, .int (zI ta), .long ck, .int (zI at9), .int (zI rfn), .ref rk, .ref rw, .ref rh, .int (zI cl), .ref sa, .ref fi, .int (zI bo), .ref ch, .ref cn, .int (zI ad), .int (zI ru), .ref kp, .int (zI dn), .ref rfa])), (wg, .inl (c_wg, 24, .inl f_wg)), (sa, .inl (c_sa, 25, .inl f_sa)), (fi, .inl (c_fi, 24, .inl f_fi)), (hs, .inl (c_hs, 4, .inl f_hs)), (ch, .inl (c_ch, 96, .inl f_ch))]) [0, 1, 2, 3, 4, 5] (by decide +kernel) rfl
        exact W.lret (v := (-9223372036854775808)) hx hb hr (fun t ht hW => kQL_of ⟨mn, f_wg, cl, bo, f_sa, f_fi, f_ch, q2, q4, q5, q6, (by omega), kEq_rf, by rw [ht]; exact hP9, hD9⟩ (hS.F ht)) hS.2.2 dX9_odds_38
      · refine lv_aload_n hx hb dX9_odds_26 rfl (lv_at hl 0 rfl) ?_
        refine va_get (D := D) (ci := 9) (v := .int (zI mn)) (C := RX9) (T := TX9) (N := 31) hx hb hts (fun _ h9 => List.mem_cons_of_mem _ (List.mem_append_right _ h9)) hown hK hP 0 rfl rfl 11 (by decide) (hts (.fieldLink RX9 101 "FontRunsModel" "many" "I") mw_X9_odds_2) (fun _ h9 => h9) rfl dX9_odds_27 ?_
        refine lv_bipush (v := zI 24) hx hb dX9_odds_30 (by decide) ?_
        refine kz_icmp_ne (tgt := 39) hx hb dX9_odds_32 (by decide) (by omega) (by omega) (fun c_4 => ?_) (fun c_4 => ?_)
        · refine lv_iconst (v := zI 0) hx hb dX9_odds_39 rfl ?_
          refine lv_istore_n (lv' := [(3, .int (zI 0)), (0, .ref h0), (1, .int (zI x)), (2, .int (zI w))]) hx hb dX9_odds_40 rfl hl (by decide) rfl (fun ls hl => ?_)
          refine lv_aload_n hx hb dX9_odds_41 rfl (lv_at hl 1 rfl) ?_
          refine lv_dup hx hb dX9_odds_42 rfl ?_
          refine va_get (D := D) (ci := 9) (v := .int (zI mn)) (C := RX9) (T := TX9) (N := 31) hx hb hts (fun _ h9 => List.mem_cons_of_mem _ (List.mem_append_right _ h9)) hown hK hP 0 rfl rfl 11 (by decide) (hts (.fieldLink RX9 101 "FontRunsModel" "many" "I") mw_X9_odds_2) (fun _ h9 => h9) rfl dX9_odds_43 ?_
          refine lv_iconst (v := zI 1) hx hb dX9_odds_46 rfl ?_
          refine kz_iadd hx hb dX9_odds_47 ?_
          refine va_put (D := D) (ci := 9) (v := .int (zI (mn + 1))) (ty := .int) (C := RX9) (T := TX9) (N := 31) hx hb hts (fun _ h9 => List.mem_cons_of_mem _ (List.mem_append_right _ h9)) tyX9 tyX9_ok nmX9 hown hK hP hD hS 0 rfl rfl 11 (by decide) (hts (.fieldLink RX9 101 "FontRunsModel" "many" "I") mw_X9_odds_2) (fun _ h9 => h9) rfl (by decide +kernel) rfl rfl (Nat.le_of_ble_eq_true rfl) dX9_odds_48 (fun H locs hP hD hS => ?_)
          have hP : va_P D vwCl [(h0, .inr (9, [.int (zI fa), .int (zI tc), .ref so, .ref sl, .ref ce, .int (zI fn), .ref kd, .ref wd, .ref hs, .ref pf, .ref lt, .int (zI (mn + 1)), .ref wg, .int (zI ta), .long ck, .int (zI at9), .int (zI rfn), .ref rk, .ref rw, .ref rh, .int (zI cl), .ref sa, .ref fi, .int (zI bo), .ref ch, .ref cn, .int (zI ad), .int (zI ru), .ref kp, .int (zI dn), .ref rfa])), (wg, .inl (c_wg, 24, .inl f_wg)), (sa, .inl (c_sa, 25, .inl f_sa)), (fi, .inl (c_fi, 24, .inl f_fi)), (hs, .inl (c_hs, 4, .inl f_hs)), (ch, .inl (c_ch, 96, .inl f_ch))] H := hP
          have hD : va_D A [(h0, .inr (9, [.int (zI fa), .int (zI tc), .ref so, .ref sl, .ref ce, .int (zI fn), .ref kd, .ref wd, .ref hs, .ref pf, .ref lt, .int (zI (mn + 1)), .ref wg, .int (zI ta), .long ck, .int (zI at9), .int (zI rfn), .ref rk, .ref rw, .ref rh, .int (zI cl), .ref sa, .ref fi, .int (zI bo), .ref ch, .ref cn, .int (zI ad), .int (zI ru), .ref kp, .int (zI dn), .ref rfa])), (wg, .inl (c_wg, 24, .inl f_wg)), (sa, .inl (c_sa, 25, .inl f_sa)), (fi, .inl (c_fi, 24, .inl f_fi)), (hs, .inl (c_hs, 4, .inl f_hs)), (ch, .inl (c_ch, 96, .inl f_ch))] := hD
          refine lv_iconst (v := zI 0) hx hb dX9_odds_51 rfl ?_
          refine lv_istore (lv' := [(4, .int (zI 0)), (3, .int (zI 0)), (0, .ref h0), (1, .int (zI x)), (2, .int (zI w))]) hx hb dX9_odds_52 hl (by decide) rfl (fun ls hl => ?_)
          refine k_loopM (I := fun n9 H locs ls => ∃ (jn : Int) (jl : Int) (jc : Int) (jo : Int) (a0 : Nat → Int32) (a1 : Nat → Int32) (a2 : Nat → Int32) (a3 : Nat → Int32), n9 = (16 - jl).toNat ∧ (0 ≤ jn ∧ jn ≤ jl) ∧ (0 ≤ jl ∧ jl ≤ 16) ∧ (0 ≤ jc ∧ jc ≤ 24) ∧ (0 ≤ jo ∧ jo ≤ 24) ∧ (kEx a0 f_wg ((mn + 1) - 1)) ∧ va_P D vwCl [(h0, .inr (9, [.int (zI fa), .int (zI tc), .ref so, .ref sl, .ref ce, .int (zI fn), .ref kd, .ref wd, .ref hs, .ref pf, .ref lt, .int (zI (mn + 1)), .ref wg, .int (zI ta), .long ck, .int (zI at9), .int (zI rfn), .ref rk, .ref rw, .ref rh, .int (zI jc), .ref sa, .ref fi, .int (zI jo), .ref ch, .ref cn, .int (zI ad), .int (zI ru), .ref kp, .int (zI dn), .ref rfa])), (wg, .inl (c_wg, 24, .inl a0)), (sa, .inl (c_sa, 25, .inl a1)), (fi, .inl (c_fi, 24, .inl a2)), (hs, .inl (c_hs, 4, .inl f_hs)), (ch, .inl (c_ch, 96, .inl a3))] H ∧ va_D A [(h0, .inr (9, [.int (zI fa), .int (zI tc), .ref so, .ref sl, .ref ce, .int (zI fn), .ref kd, .ref wd, .ref hs, .ref pf, .ref lt, .int (zI (mn + 1)), .ref wg, .int (zI ta), .long ck, .int (zI at9), .int (zI rfn), .ref rk, .ref rw, .ref rh, .int (zI jc), .ref sa, .ref fi, .int (zI jo), .ref ch, .ref cn, .int (zI ad), .int (zI ru), .ref kp, .int (zI dn), .ref rfa])), (wg, .inl (c_wg, 24, .inl a0)), (sa, .inl (c_sa, 25, .inl a1)), (fi, .inl (c_fi, 24, .inl a2)), (hs, .inl (c_hs, 4, .inl f_hs)), (ch, .inl (c_ch, 96, .inl a3))] ∧ va_S A s.heap H locs ∧ lv_has ls 5 [(4, .int (zI jl)), (3, .int (zI jn)), (0, .ref h0), (1, .int (zI x)), (2, .int (zI w))]) ?_ _ ⟨0, 0, cl, bo, f_wg, f_sa, f_fi, f_ch, rfl, (by omega), (by omega), q4, q5, kEx_0, hP, hD, hS, hl⟩
          intro n54 ih54 H locs ls hI
          obtain ⟨jn, jl, jc, jo, a0, a1, a2, a3, en54, v_540, v_541, v_542, v_543, v_544, hP, hD, hS, hl⟩ := hI
          refine lv_iload hx hb dX9_odds_54 (lv_at hl 0 rfl) ?_
          refine lv_bipush (v := zI 16) hx hb dX9_odds_56 (by decide) ?_
          refine kz_icmp_ge (tgt := 98) hx hb dX9_odds_58 (by decide) (by omega) (by omega) (fun c_5 => ?_) (fun c_5 => ?_)
          · refine lv_aload_n hx hb dX9_odds_98 rfl (lv_at hl 2 rfl) ?_
            refine lv_dup hx hb dX9_odds_99 rfl ?_
            refine va_get (D := D) (ci := 9) (v := .int (zI (mn + 1))) (C := RX9) (T := TX9) (N := 31) hx hb hts (fun _ h9 => List.mem_cons_of_mem _ (List.mem_append_right _ h9)) hown hK hP 0 rfl rfl 11 (by decide) (hts (.fieldLink RX9 101 "FontRunsModel" "many" "I") mw_X9_odds_2) (fun _ h9 => h9) rfl dX9_odds_100 ?_
            refine lv_iconst (v := zI 1) hx hb dX9_odds_103 rfl ?_
            refine kz_isub hx hb dX9_odds_104 ?_
            refine va_put (D := D) (ci := 9) (v := .int (zI ((mn + 1) - 1))) (ty := .int) (C := RX9) (T := TX9) (N := 31) hx hb hts (fun _ h9 => List.mem_cons_of_mem _ (List.mem_append_right _ h9)) tyX9 tyX9_ok nmX9 hown hK hP hD hS 0 rfl rfl 11 (by decide) (hts (.fieldLink RX9 101 "FontRunsModel" "many" "I") mw_X9_odds_2) (fun _ h9 => h9) rfl (by decide +kernel) rfl rfl (Nat.le_of_ble_eq_true rfl) dX9_odds_105 (fun H locs hP hD hS => ?_)
            have hP : va_P D vwCl [(h0, .inr (9, [.int (zI fa), .int (zI tc), .ref so, .ref sl, .ref ce, .int (zI fn), .ref kd, .ref wd, .ref hs, .ref pf, .ref lt, .int (zI ((mn + 1) - 1)), .ref wg, .int (zI ta), .long ck, .int (zI at9), .int (zI rfn), .ref rk, .ref rw, .ref rh, .int (zI jc), .ref sa, .ref fi, .int (zI jo), .ref ch, .ref cn, .int (zI ad), .int (zI ru), .ref kp, .int (zI dn), .ref rfa])), (wg, .inl (c_wg, 24, .inl a0)), (sa, .inl (c_sa, 25, .inl a1)), (fi, .inl (c_fi, 24, .inl a2)), (hs, .inl (c_hs, 4, .inl f_hs)), (ch, .inl (c_ch, 96, .inl a3))] H := hP
            have hD : va_D A [(h0, .inr (9, [.int (zI fa), .int (zI tc), .ref so, .ref sl, .ref ce, .int (zI fn), .ref kd, .ref wd, .ref hs, .ref pf, .ref lt, .int (zI ((mn + 1) - 1)), .ref wg, .int (zI ta), .long ck, .int (zI at9), .int (zI rfn), .ref rk, .ref rw, .ref rh, .int (zI jc), .ref sa, .ref fi, .int (zI jo), .ref ch, .ref cn, .int (zI ad), .int (zI ru), .ref kp, .int (zI dn), .ref rfa])), (wg, .inl (c_wg, 24, .inl a0)), (sa, .inl (c_sa, 25, .inl a1)), (fi, .inl (c_fi, 24, .inl a2)), (hs, .inl (c_hs, 4, .inl f_hs)), (ch, .inl (c_ch, 96, .inl a3))] := hD
            refine lv_iload_n hx hb dX9_odds_108 rfl (lv_at hl 1 rfl) ?_
            refine lv_i2l (v := (zI jn).toInt64) hx hb dX9_odds_109 rfl ?_
            refine lv_ldc2 (v := 16) hx hb hown (hts (.constantLong RX9 200 (16)) mw_X9_odds_3) dX9_odds_110 ?_
            refine lv_iload_n hx hb dX9_odds_113 rfl (lv_at hl 4 rfl) ?_
            have hFc := va_free (wc := []) hD hS hA [] ax_X9_odds_0
            refine va_calll (va_runS (As := [.long ((zI jn).toInt64), .long 16, .int (zI w)]) (rest := []) ⟨hx, hb, hml, hown, hts⟩ (c_X9_inLeastTerms l D H.size (u := ((zI jn).toInt64)) (d := 16) (w := w) (kl64 (by omega)) rfl q1) (va_cwS 3 hts gX9_odds_X9_inLeastTerms rfl rfl rfl (by decide +kernel) ⟨Nat.le_of_ble_eq_true rfl, Nat.le_of_ble_eq_true rfl⟩) (kPreS hP (kD0 hD) hK hN [] [] ax_X9_odds_0 rfl (by decide +kernel)) rfl rfl hl.1 rfl (lv_room (Nat.le_of_ble_eq_true rfl)) dX9_odds_114 ⟨Nat.le_of_ble_eq_true rfl, Nat.le_of_ble_eq_true rfl⟩) hS (fun q _ h => hFc q h) hFc (fun r u t H1 locs ht hvm hw hB hz1 hk1 hS => ?_)
            obtain ⟨l_6, e9⟩ : ∃ z, z = u := ⟨_, rfl⟩
            subst e9
            have hw := Eq.symm hw
            subst hw
            have hP1 := hB.1
            have hD1 := hB.2
            clear hB
            rw [ht] at hP1
            obtain ⟨hP, hD⟩ := va_join (wr := [(h0, .inr (9, [.int (zI fa), .int (zI tc), .ref so, .ref sl, .ref ce, .int (zI fn), .ref kd, .ref wd, .ref hs, .ref pf, .ref lt, .int (zI ((mn + 1) - 1)), .ref wg, .int (zI ta), .long ck, .int (zI at9), .int (zI rfn), .ref rk, .ref rw, .ref rh, .int (zI jc), .ref sa, .ref fi, .int (zI jo), .ref ch, .ref cn, .int (zI ad), .int (zI ru), .ref kp, .int (zI dn), .ref rfa])), (wg, .inl (c_wg, 24, .inl a0)), (sa, .inl (c_sa, 25, .inl a1)), (fi, .inl (c_fi, 24, .inl a2)), (hs, .inl (c_hs, 4, .inl f_hs)), (ch, .inl (c_ch, 96, .inl a3))]) (w1 := []) hP hD [] [0, 1, 2, 3, 4, 5] ax_X9_odds_0 ax_X9_odds_1 (by decide +kernel) (by decide +kernel) hk1 hFc hP1 hD1
            have hP := ax_X9_odds_2 hP
            have hD := ax_X9_odds_3 hD
            generalize H1 = H at hP hS ⊢
            have hP : va_P D vwCl [(h0, .inr (9, [.int (zI fa), .int (zI tc), .ref so, .ref sl, .ref ce, .int (zI fn), .ref kd, .ref wd, .ref hs, .ref pf, .ref lt, .int (zI ((mn + 1) - 1)), .ref wg, .int (zI ta), .long ck, .int (zI at9), .int (zI rfn), .ref rk, .ref rw, .ref rh, .int (zI jc), .ref sa, .ref fi, .int (zI jo), .ref ch, .ref cn, .int (zI ad), .int (zI ru), .ref kp, .int (zI dn), .ref rfa])), (wg, .inl (c_wg, 24, .inl a0)), (sa, .inl (c_sa, 25, .inl a1)), (fi, .inl (c_fi, 24, .inl a2)), (hs, .inl (c_hs, 4, .inl f_hs)), (ch, .inl (c_ch, 96, .inl a3))] H := hP
            have hD : va_D A [(h0, .inr (9, [.int (zI fa), .int (zI tc), .ref so, .ref sl, .ref ce, .int (zI fn), .ref kd, .ref wd, .ref hs, .ref pf, .ref lt, .int (zI ((mn + 1) - 1)), .ref wg, .int (zI ta), .long ck, .int (zI at9), .int (zI rfn), .ref rk, .ref rw, .ref rh, .int (zI jc), .ref sa, .ref fi, .int (zI jo), .ref ch, .ref cn, .int (zI ad), .int (zI ru), .ref kp, .int (zI dn), .ref rfa])), (wg, .inl (c_wg, 24, .inl a0)), (sa, .inl (c_sa, 25, .inl a1)), (fi, .inl (c_fi, 24, .inl a2)), (hs, .inl (c_hs, 4, .inl f_hs)), (ch, .inl (c_ch, 96, .inl a3))] := hD
            have hP9 := hP.sub (ws' := [(h0, .inr (9, [.int (zI fa), .int (zI tc), .ref so, .ref sl, .ref ce, .int (zI fn), .ref kd, .ref wd, .ref hs, .ref pf, .ref lt, .int (zI ((mn + 1) - 1)), .ref wg, .int (zI ta), .long ck, .int (zI at9), .int (zI rfn), .ref rk, .ref rw, .ref rh, .int (zI jc), .ref sa, .ref fi, .int (zI jo), .ref ch, .ref cn, .int (zI ad), .int (zI ru), .ref kp, .int (zI dn), .ref rfa])), (wg, .inl (c_wg, 24, .inl a0)), (sa, .inl (c_sa, 25, .inl a1)), (fi, .inl (c_fi, 24, .inl a2)), (hs, .inl (c_hs, 4, .inl f_hs)), (ch, .inl (c_ch, 96, .inl a3))]) [0, 1, 2, 3, 4, 5] rfl
            have hD9 := hD.sub (ws' := [(h0, .inr (9, [.int (zI fa), .int (zI tc), .ref so, .ref sl, .ref ce, .int (zI fn), .ref kd, .ref wd, .ref hs, .ref pf, .ref lt, .int (zI ((mn + 1) - 1)), .ref wg, .int (zI ta), .long ck, .int (zI at9), .int (zI rfn), .ref rk, .ref rw, .ref rh, .int (zI jc), .ref sa, .ref fi, .int (zI jo), .ref ch, .ref cn, .int (zI ad), .int (zI ru), .ref kp, .int (zI dn), .ref rfa])), (wg, .inl (c_wg, 24, .inl a0)), (sa, .inl (c_sa, 25, .inl a1)), (fi, .inl (c_fi, 24, .inl a2)), (hs, .inl (c_hs, 4, .inl f_hs)), (ch, .inl (c_ch, 96, .inl a3))]) [0, 1, 2, 3, 4, 5] (by decide +kernel) rfl
            exact W.lret (v := l_6) hx hb hr (fun t ht hW => kQL_of ⟨((mn + 1) - 1), a0, jc, jo, a1, a2, a3, (by omega), v_542, v_543, (by omega), (by omega), (kEx_eq v_544 (by omega) (by omega)), by rw [ht]; exact hP9, hD9⟩ (hS.F ht)) hS.2.2 dX9_odds_117
          · refine lv_aload_n hx hb dX9_odds_61 rfl (lv_at hl 2 rfl) ?_
            refine va_get (D := D) (ci := 9) (v := .ref wg) (C := RX9) (T := TX9) (N := 31) hx hb hts (fun _ h9 => List.mem_cons_of_mem _ (List.mem_append_right _ h9)) hown hK hP 0 rfl rfl 12 (by decide) (hts (.fieldLink RX9 34 "FontRunsModel" "writing" "[I") mw_X9_odds_4) (fun _ h9 => h9) rfl dX9_odds_62 ?_
            refine lv_aload_n hx hb dX9_odds_65 rfl (lv_at hl 2 rfl) ?_
            refine va_get (D := D) (ci := 9) (v := .int (zI (mn + 1))) (C := RX9) (T := TX9) (N := 31) hx hb hts (fun _ h9 => List.mem_cons_of_mem _ (List.mem_append_right _ h9)) hown hK hP 0 rfl rfl 11 (by decide) (hts (.fieldLink RX9 101 "FontRunsModel" "many" "I") mw_X9_odds_2) (fun _ h9 => h9) rfl dX9_odds_66 ?_
            refine lv_iconst (v := zI 1) hx hb dX9_odds_69 rfl ?_
            refine kz_isub hx hb dX9_odds_70 ?_
            refine lv_iload hx hb dX9_odds_71 (lv_at hl 0 rfl) ?_
            refine kz_iast hx hb hK hP hD hS 1 0 rfl rfl (by omega) dX9_odds_73 (fun H locs hP hD hS => ?_)
            have hP : va_P D vwCl [(h0, .inr (9, [.int (zI fa), .int (zI tc), .ref so, .ref sl, .ref ce, .int (zI fn), .ref kd, .ref wd, .ref hs, .ref pf, .ref lt, .int (zI (mn + 1)), .ref wg, .int (zI ta), .long ck, .int (zI at9), .int (zI rfn), .ref rk, .ref rw, .ref rh, .int (zI jc), .ref sa, .ref fi, .int (zI jo), .ref ch, .ref cn, .int (zI ad), .int (zI ru), .ref kp, .int (zI dn), .ref rfa])), (wg, .inl (c_wg, 24, .inl (upd a0 ((mn + 1) - 1).toNat (zI jl)))), (sa, .inl (c_sa, 25, .inl a1)), (fi, .inl (c_fi, 24, .inl a2)), (hs, .inl (c_hs, 4, .inl f_hs)), (ch, .inl (c_ch, 96, .inl a3))] H := hP
            have hD : va_D A [(h0, .inr (9, [.int (zI fa), .int (zI tc), .ref so, .ref sl, .ref ce, .int (zI fn), .ref kd, .ref wd, .ref hs, .ref pf, .ref lt, .int (zI (mn + 1)), .ref wg, .int (zI ta), .long ck, .int (zI at9), .int (zI rfn), .ref rk, .ref rw, .ref rh, .int (zI jc), .ref sa, .ref fi, .int (zI jo), .ref ch, .ref cn, .int (zI ad), .int (zI ru), .ref kp, .int (zI dn), .ref rfa])), (wg, .inl (c_wg, 24, .inl (upd a0 ((mn + 1) - 1).toNat (zI jl)))), (sa, .inl (c_sa, 25, .inl a1)), (fi, .inl (c_fi, 24, .inl a2)), (hs, .inl (c_hs, 4, .inl f_hs)), (ch, .inl (c_ch, 96, .inl a3))] := hD
            generalize ef_7 : upd a0 ((mn + 1) - 1).toNat (zI jl) = f_7 at hP hD
            refine lv_iload_n hx hb dX9_odds_74 rfl (lv_at hl 1 rfl) ?_
            refine lv_aload_n hx hb dX9_odds_75 rfl (lv_at hl 2 rfl) ?_
            refine lv_bipush (v := zI (-9)) hx hb dX9_odds_76 (by decide) ?_
            have hFc := va_free (wc := [(h0, .inr (9, [.int (zI fa), .int (zI tc), .ref so, .ref sl, .ref ce, .int (zI fn), .ref kd, .ref wd, .ref hs, .ref pf, .ref lt, .int (zI (mn + 1)), .ref wg, .int (zI ta), .long ck, .int (zI at9), .int (zI rfn), .ref rk, .ref rw, .ref rh, .int (zI jc), .ref sa, .ref fi, .int (zI jo), .ref ch, .ref cn, .int (zI ad), .int (zI ru), .ref kp, .int (zI dn), .ref rfa])), (wg, .inl (c_wg, 24, .inl f_7)), (sa, .inl (c_sa, 25, .inl a1)), (fi, .inl (c_fi, 24, .inl a2)), (hs, .inl (c_hs, 4, .inl f_hs)), (ch, .inl (c_ch, 96, .inl a3))]) hD hS hA [0, 1, 2, 3, 4, 5] ax_X9_odds_1
            refine va_calli (va_runV (As := [.int (zI (-9))]) (rest := [.int (zI jn)]) ⟨hx, hb, hml, hown, hts⟩ (c_X9_findChanges_b l D H.size (wo := (-9)) (h0 := h0) (fa := fa) (tc := tc) (so := so) (sl := sl) (ce := ce) (fn := fn) (kd := kd) (wd := wd) (hs := hs) (pf := pf) (lt := lt) (mn := (mn + 1)) (wg := wg) (ta := ta) (ck := ck) (at9 := at9) (rfn := rfn) (rk := rk) (rw := rw) (rh := rh) (cl := jc) (sa := sa) (fi := fi) (bo := jo) (ch := ch) (cn := cn) (ad := ad) (ru := ru) (kp := kp) (dn := dn) (rfa := rfa) (c_wg := c_wg) (f_wg := f_7) (c_sa := c_sa) (f_sa := a1) (c_fi := c_fi) (f_fi := a2) (c_hs := c_hs) (f_hs := f_hs) (c_ch := c_ch) (f_ch := a3) (by omega) (by omega) q3) (cwV 1 hts gX9_odds_X9_findChanges rfl rfl rfl (by decide +kernel) ⟨Nat.le_of_ble_eq_true rfl, Nat.le_of_ble_eq_true rfl⟩) (kPreV hP (kD0 hD) hK hN [0, 1, 2, 3, 4, 5] [0, 1, 2, 3, 4] ax_X9_odds_1 rfl (by decide +kernel) 0 9 rfl rfl) rfl rfl hl.1 rfl (lv_room (Nat.le_of_ble_eq_true rfl)) dX9_odds_78 ⟨Nat.le_of_ble_eq_true rfl, Nat.le_of_ble_eq_true rfl⟩) hS (fun q _ h => hFc q h) hFc (fun r u t H1 locs ht hvm hw hB hz1 hk1 hS => ?_)
            obtain ⟨z_13, e9⟩ : ∃ z, z = u := ⟨_, rfl⟩
            subst e9
            obtain ⟨rfl, rz_13⟩ := hw
            refine Exists.elim hB (fun u_cl_8 hB1 => Exists.elim hB1 (fun u_bo_9 hB2 => Exists.elim hB2 (fun u_f_sa_10 hB3 => Exists.elim hB3 (fun u_f_fi_11 hB4 => Exists.elim hB4 (fun u_f_ch_12 hB5 => ?_)))))
            have h_14 := hB5.1
            have h_15 := hB5.2.1
            have h_16 := hB5.2.2.1
            have h_17 := hB5.2.2.2.1
            have h_18 := hB5.2.2.2.2.1
            have h_19 := hB5.2.2.2.2.2.1
            have h_20 := hB5.2.2.2.2.2.2.1
            have h_21 := hB5.2.2.2.2.2.2.2.1
            have h_22 := hB5.2.2.2.2.2.2.2.2.1
            have hP1 := hB5.2.2.2.2.2.2.2.2.2.1
            have hD1 := hB5.2.2.2.2.2.2.2.2.2.2
            clear hB hB1 hB2 hB3 hB4 hB5
            rw [ht] at hP1
            obtain ⟨hP, hD⟩ := va_join (wr := []) (w1 := [(h0, .inr (9, [.int (zI fa), .int (zI tc), .ref so, .ref sl, .ref ce, .int (zI fn), .ref kd, .ref wd, .ref hs, .ref pf, .ref lt, .int (zI ((mn + 1))), .ref wg, .int (zI ta), .long ck, .int (zI at9), .int (zI rfn), .ref rk, .ref rw, .ref rh, .int (zI u_cl_8), .ref sa, .ref fi, .int (zI u_bo_9), .ref ch, .ref cn, .int (zI ad), .int (zI ru), .ref kp, .int (zI dn), .ref rfa])), (wg, .inl (c_wg, 24, .inl f_7)), (sa, .inl (c_sa, 25, .inl u_f_sa_10)), (fi, .inl (c_fi, 24, .inl u_f_fi_11)), (hs, .inl (c_hs, 4, .inl f_hs)), (ch, .inl (c_ch, 96, .inl u_f_ch_12))]) hP hD [0, 1, 2, 3, 4, 5] [] ax_X9_odds_1 ax_X9_odds_0 (by decide +kernel) (by decide +kernel) hk1 hFc hP1 hD1
            have hP := ax_X9_odds_4 hP
            have hD := ax_X9_odds_5 hD
            generalize H1 = H at hP hS ⊢
            have hP : va_P D vwCl [(h0, .inr (9, [.int (zI fa), .int (zI tc), .ref so, .ref sl, .ref ce, .int (zI fn), .ref kd, .ref wd, .ref hs, .ref pf, .ref lt, .int (zI ((mn + 1))), .ref wg, .int (zI ta), .long ck, .int (zI at9), .int (zI rfn), .ref rk, .ref rw, .ref rh, .int (zI u_cl_8), .ref sa, .ref fi, .int (zI u_bo_9), .ref ch, .ref cn, .int (zI ad), .int (zI ru), .ref kp, .int (zI dn), .ref rfa])), (wg, .inl (c_wg, 24, .inl f_7)), (sa, .inl (c_sa, 25, .inl u_f_sa_10)), (fi, .inl (c_fi, 24, .inl u_f_fi_11)), (hs, .inl (c_hs, 4, .inl f_hs)), (ch, .inl (c_ch, 96, .inl u_f_ch_12))] H := hP
            have hD : va_D A [(h0, .inr (9, [.int (zI fa), .int (zI tc), .ref so, .ref sl, .ref ce, .int (zI fn), .ref kd, .ref wd, .ref hs, .ref pf, .ref lt, .int (zI ((mn + 1))), .ref wg, .int (zI ta), .long ck, .int (zI at9), .int (zI rfn), .ref rk, .ref rw, .ref rh, .int (zI u_cl_8), .ref sa, .ref fi, .int (zI u_bo_9), .ref ch, .ref cn, .int (zI ad), .int (zI ru), .ref kp, .int (zI dn), .ref rfa])), (wg, .inl (c_wg, 24, .inl f_7)), (sa, .inl (c_sa, 25, .inl u_f_sa_10)), (fi, .inl (c_fi, 24, .inl u_f_fi_11)), (hs, .inl (c_hs, 4, .inl f_hs)), (ch, .inl (c_ch, 96, .inl u_f_ch_12))] := hD
            refine lv_iload_n hx hb dX9_odds_81 rfl (lv_at hl 3 rfl) ?_
            refine kz_icmp_ne (tgt := 89) hx hb dX9_odds_82 (by decide) (by omega) (by omega) (fun c_23 => ?_) (fun c_23 => ?_)
            · refine lv_iconst (v := zI 0) hx hb dX9_odds_89 rfl ?_
              refine kz_iadd hx hb dX9_odds_90 ?_
              refine lv_istore_n (lv' := [(3, .int (zI (jn + 0))), (4, .int (zI jl)), (0, .ref h0), (1, .int (zI x)), (2, .int (zI w))]) hx hb dX9_odds_91 rfl hl (by decide) rfl (fun ls hl => ?_)
              refine lv_iinc (v := (zI (jl + 1))) (lv' := [(4, .int (zI (jl + 1))), (3, .int (zI (jn + 0))), (0, .ref h0), (1, .int (zI x)), (2, .int (zI w))]) hx hb dX9_odds_92 hl (k := 1) rfl (kz_inc _ 1) (by decide) rfl (fun ls hl => ?_)
              refine lv_goto (tgt := 54) hx hb dX9_odds_95 (by decide) ?_
              exact ih54 _ (by omega) _ _ _ ⟨(jn + 0), (jl + 1), u_cl_8, u_bo_9, f_7, u_f_sa_10, u_f_fi_11, u_f_ch_12, rfl, (by omega), (by omega), (by omega), h_15, (kEx_s v_544 ef_7), hP, hD, hS, lv_sub hl [0, 1, 2, 3, 4] rfl⟩
            · refine lv_iconst (v := zI 1) hx hb dX9_odds_85 rfl ?_
              refine lv_goto (tgt := 90) hx hb dX9_odds_86 (by decide) ?_
              refine kz_iadd hx hb dX9_odds_90 ?_
              refine lv_istore_n (lv' := [(3, .int (zI (jn + 1))), (4, .int (zI jl)), (0, .ref h0), (1, .int (zI x)), (2, .int (zI w))]) hx hb dX9_odds_91 rfl hl (by decide) rfl (fun ls hl => ?_)
              refine lv_iinc (v := (zI (jl + 1))) (lv' := [(4, .int (zI (jl + 1))), (3, .int (zI (jn + 1))), (0, .ref h0), (1, .int (zI x)), (2, .int (zI w))]) hx hb dX9_odds_92 hl (k := 1) rfl (kz_inc _ 1) (by decide) rfl (fun ls hl => ?_)
              refine lv_goto (tgt := 54) hx hb dX9_odds_95 (by decide) ?_
              exact ih54 _ (by omega) _ _ _ ⟨(jn + 1), (jl + 1), u_cl_8, u_bo_9, f_7, u_f_sa_10, u_f_fi_11, u_f_ch_12, rfl, (by omega), (by omega), (by omega), h_15, (kEx_s v_544 ef_7), hP, hD, hS, lv_sub hl [0, 1, 2, 3, 4] rfl⟩
        · refine lv_ldc2 (v := (-9223372036854775808)) hx hb hown (hts (.constantLong RX9 68 (-9223372036854775808)) mw_X9_odds_0) dX9_odds_35 ?_
          have hP9 := hP.sub (ws' := [(h0, .inr (9, [.int (zI fa), .int (zI tc), .ref so, .ref sl, .ref ce, .int (zI fn), .ref kd, .ref wd, .ref hs, .ref pf, .ref lt, .int (zI mn), .ref wg, .int (zI ta), .long ck, .int (zI at9), .int (zI rfn), .ref rk, .ref rw, .ref rh, .int (zI cl), .ref sa, .ref fi, .int (zI bo), .ref ch, .ref cn, .int (zI ad), .int (zI ru), .ref kp, .int (zI dn), .ref rfa])), (wg, .inl (c_wg, 24, .inl f_wg)), (sa, .inl (c_sa, 25, .inl f_sa)), (fi, .inl (c_fi, 24, .inl f_fi)), (hs, .inl (c_hs, 4, .inl f_hs)), (ch, .inl (c_ch, 96, .inl f_ch))]) [0, 1, 2, 3, 4, 5] rfl
          have hD9 := hD.sub (ws' := [(h0, .inr (9, [.int (zI fa), .int (zI tc), .ref so, .ref sl, .ref ce, .int (zI fn), .ref kd, .ref wd, .ref hs, .ref pf, .ref lt, .int (zI mn), .ref wg, .int (zI ta), .long ck, .int (zI at9), .int (zI rfn), .ref rk, .ref rw, .ref rh, .int (zI cl), .ref sa, .ref fi, .int (zI bo), .ref ch, .ref cn, .int (zI ad), .int (zI ru), .ref kp, .int (zI dn), .ref rfa])), (wg, .inl (c_wg, 24, .inl f_wg)), (sa, .inl (c_sa, 25, .inl f_sa)), (fi, .inl (c_fi, 24, .inl f_fi)), (hs, .inl (c_hs, 4, .inl f_hs)), (ch, .inl (c_ch, 96, .inl f_ch))]) [0, 1, 2, 3, 4, 5] (by decide +kernel) rfl
          exact W.lret (v := (-9223372036854775808)) hx hb hr (fun t ht hW => kQL_of ⟨mn, f_wg, cl, bo, f_sa, f_fi, f_ch, q2, q4, q5, q6, (by omega), kEq_rf, by rw [ht]; exact hP9, hD9⟩ (hS.F ht)) hS.2.2 dX9_odds_38
