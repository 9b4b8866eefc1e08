theorem kshl16 {f z : Int} (h : 0 ≤ f ∧ f ≤ 4) (hz : rg z) (e : zI 1 <<< (zI f &&& 31) = zI z) : 1 ≤ z ∧ z ≤ 16 := by
  have a : ∀ n : Nat, n < 5 → 1 ≤ (zI 1 <<< (zI (n : Int) &&& 31)).toInt ∧ (zI 1 <<< (zI (n : Int) &&& 31)).toInt ≤ 16 := by decide +kernel
  obtain ⟨n, rfl⟩ := Int.eq_ofNat_of_zero_le h.1
  have q := a n (by omega)
  rw [e, zI_toInt hz] at q
  exact q
theorem dX9_enough_0 : decode cX9_enough 0 = .ok (.iload_n 1, 1) := by decide +kernel
theorem dX9_enough_1 : decode cX9_enough 1 = .ok (.iconst 0, 1) := by decide +kernel
theorem dX9_enough_2 : decode cX9_enough 2 = .ok (.iconst 1, 1) := by decide +kernel
theorem dX9_enough_3 : decode cX9_enough 3 = .ok (.invokestatic 70, 3) := by decide +kernel
theorem dX9_enough_6 : decode cX9_enough 6 = .ok (.ifCond .ne 6, 3) := by decide +kernel
theorem dX9_enough_9 : decode cX9_enough 9 = .ok (.bipush (-2), 2) := by decide +kernel
theorem dX9_enough_11 : decode cX9_enough 11 = .ok (.ireturn, 1) := by decide +kernel
theorem dX9_enough_12 : decode cX9_enough 12 = .ok (.aload_n 0, 1) := by decide +kernel
theorem dX9_enough_13 : decode cX9_enough 13 = .ok (.getfield 74, 3) := by decide +kernel
theorem dX9_enough_16 : decode cX9_enough 16 = .ok (.ifCond .ne 6, 3) := by decide +kernel
theorem dX9_enough_19 : decode cX9_enough 19 = .ok (.bipush (-3), 2) := by decide +kernel
theorem dX9_enough_21 : decode cX9_enough 21 = .ok (.ireturn, 1) := by decide +kernel
theorem dX9_enough_22 : decode cX9_enough 22 = .ok (.aload_n 0, 1) := by decide +kernel
theorem dX9_enough_23 : decode cX9_enough 23 = .ok (.bipush (-9), 2) := by decide +kernel
theorem dX9_enough_25 : decode cX9_enough 25 = .ok (.invokevirtual 147, 3) := by decide +kernel
theorem dX9_enough_28 : decode cX9_enough 28 = .ok (.bipush (-9), 2) := by decide +kernel
theorem dX9_enough_30 : decode cX9_enough 30 = .ok (.istore_n 2, 1) := by decide +kernel
theorem dX9_enough_31 : decode cX9_enough 31 = .ok (.iconst 0, 1) := by decide +kernel
theorem dX9_enough_32 : decode cX9_enough 32 = .ok (.istore_n 3, 1) := by decide +kernel
theorem dX9_enough_33 : decode cX9_enough 33 = .ok (.iload_n 3, 1) := by decide +kernel
theorem dX9_enough_34 : decode cX9_enough 34 = .ok (.iconst 1, 1) := by decide +kernel
theorem dX9_enough_35 : decode cX9_enough 35 = .ok (.aload_n 0, 1) := by decide +kernel
theorem dX9_enough_36 : decode cX9_enough 36 = .ok (.getfield 74, 3) := by decide +kernel
theorem dX9_enough_39 : decode cX9_enough 39 = .ok (.ishl, 1) := by decide +kernel
theorem dX9_enough_40 : decode cX9_enough 40 = .ok (.if_icmp .ge 96, 3) := by decide +kernel
theorem dX9_enough_43 : decode cX9_enough 43 = .ok (.iload_n 2, 1) := by decide +kernel
theorem dX9_enough_44 : decode cX9_enough 44 = .ok (.bipush (-9), 2) := by decide +kernel
theorem dX9_enough_46 : decode cX9_enough 46 = .ok (.if_icmp .eq 14, 3) := by decide +kernel
theorem dX9_enough_49 : decode cX9_enough 49 = .ok (.iload_n 3, 1) := by decide +kernel
theorem dX9_enough_50 : decode cX9_enough 50 = .ok (.invokestatic 114, 3) := by decide +kernel
theorem dX9_enough_53 : decode cX9_enough 53 = .ok (.iload_n 2, 1) := by decide +kernel
theorem dX9_enough_54 : decode cX9_enough 54 = .ok (.invokestatic 114, 3) := by decide +kernel
theorem dX9_enough_57 : decode cX9_enough 57 = .ok (.if_icmp .ge 7, 3) := by decide +kernel
theorem dX9_enough_60 : decode cX9_enough 60 = .ok (.iconst 1, 1) := by decide +kernel
theorem dX9_enough_61 : decode cX9_enough 61 = .ok (.goto 4, 3) := by decide +kernel
theorem dX9_enough_64 : decode cX9_enough 64 = .ok (.iconst 0, 1) := by decide +kernel
theorem dX9_enough_65 : decode cX9_enough 65 = .ok (.istore 4, 2) := by decide +kernel
theorem dX9_enough_67 : decode cX9_enough 67 = .ok (.iconst 0, 1) := by decide +kernel
theorem dX9_enough_68 : decode cX9_enough 68 = .ok (.istore 5, 2) := by decide +kernel
theorem dX9_enough_70 : decode cX9_enough 70 = .ok (.iload 5, 2) := by decide +kernel
theorem dX9_enough_72 : decode cX9_enough 72 = .ok (.aload_n 0, 1) := by decide +kernel
theorem dX9_enough_73 : decode cX9_enough 73 = .ok (.getfield 138, 3) := by decide +kernel
theorem dX9_enough_76 : decode cX9_enough 76 = .ok (.if_icmp .ge 43, 3) := by decide +kernel
theorem dX9_enough_79 : decode cX9_enough 79 = .ok (.iload 4, 2) := by decide +kernel
theorem dX9_enough_81 : decode cX9_enough 81 = .ok (.ifCond .eq 29, 3) := by decide +kernel
theorem dX9_enough_84 : decode cX9_enough 84 = .ok (.aload_n 0, 1) := by decide +kernel
theorem dX9_enough_85 : decode cX9_enough 85 = .ok (.getfield 49, 3) := by decide +kernel
theorem dX9_enough_88 : decode cX9_enough 88 = .ok (.iload 5, 2) := by decide +kernel
theorem dX9_enough_90 : decode cX9_enough 90 = .ok (.iaload, 1) := by decide +kernel
theorem dX9_enough_91 : decode cX9_enough 91 = .ok (.ifCond .eq 15, 3) := by decide +kernel
theorem dX9_enough_94 : decode cX9_enough 94 = .ok (.aload_n 0, 1) := by decide +kernel
theorem dX9_enough_95 : decode cX9_enough 95 = .ok (.getfield 49, 3) := by decide +kernel
theorem dX9_enough_98 : decode cX9_enough 98 = .ok (.iload 5, 2) := by decide +kernel
theorem dX9_enough_100 : decode cX9_enough 100 = .ok (.iaload, 1) := by decide +kernel
theorem dX9_enough_101 : decode cX9_enough 101 = .ok (.iload_n 3, 1) := by decide +kernel
theorem dX9_enough_102 : decode cX9_enough 102 = .ok (.iand, 1) := by decide +kernel
theorem dX9_enough_103 : decode cX9_enough 103 = .ok (.ifCond .eq 7, 3) := by decide +kernel
theorem dX9_enough_106 : decode cX9_enough 106 = .ok (.iconst 1, 1) := by decide +kernel
theorem dX9_enough_107 : decode cX9_enough 107 = .ok (.goto 4, 3) := by decide +kernel
theorem dX9_enough_110 : decode cX9_enough 110 = .ok (.iconst 0, 1) := by decide +kernel
theorem dX9_enough_111 : decode cX9_enough 111 = .ok (.istore 4, 2) := by decide +kernel
theorem dX9_enough_113 : decode cX9_enough 113 = .ok (.iinc 5 1, 3) := by decide +kernel
theorem dX9_enough_116 : decode cX9_enough 116 = .ok (.goto (-46), 3) := by decide +kernel
theorem dX9_enough_119 : decode cX9_enough 119 = .ok (.iload 4, 2) := by decide +kernel
theorem dX9_enough_121 : decode cX9_enough 121 = .ok (.ifCond .eq 7, 3) := by decide +kernel
theorem dX9_enough_124 : decode cX9_enough 124 = .ok (.iload_n 3, 1) := by decide +kernel
theorem dX9_enough_125 : decode cX9_enough 125 = .ok (.goto 4, 3) := by decide +kernel
theorem dX9_enough_128 : decode cX9_enough 128 = .ok (.iload_n 2, 1) := by decide +kernel
theorem dX9_enough_129 : decode cX9_enough 129 = .ok (.istore_n 2, 1) := by decide +kernel
theorem dX9_enough_130 : decode cX9_enough 130 = .ok (.iinc 3 1, 3) := by decide +kernel
theorem dX9_enough_133 : decode cX9_enough 133 = .ok (.goto (-100), 3) := by decide +kernel
theorem dX9_enough_136 : decode cX9_enough 136 = .ok (.iload_n 1, 1) := by decide +kernel
theorem dX9_enough_137 : decode cX9_enough 137 = .ok (.ifCond .ne 10, 3) := by decide +kernel
theorem dX9_enough_140 : decode cX9_enough 140 = .ok (.iload_n 2, 1) := by decide +kernel
theorem dX9_enough_141 : decode cX9_enough 141 = .ok (.invokestatic 114, 3) := by decide +kernel
theorem dX9_enough_144 : decode cX9_enough 144 = .ok (.goto 4, 3) := by decide +kernel
theorem dX9_enough_147 : decode cX9_enough 147 = .ok (.iload_n 2, 1) := by decide +kernel
theorem dX9_enough_148 : decode cX9_enough 148 = .ok (.ireturn, 1) := by decide +kernel
set_option maxRecDepth 20000 in
theorem ggX9_enough_X9_findClusters : GoodIn wsX9_enough wsX9_findClusters := goodIn_4 _ (List.forall_mem_cons.mpr ⟨List.mem_cons_of_mem _ (List.mem_append_left _ (List.mem_of_getElem? (i := 10) rfl)), List.forall_mem_append.mpr ⟨List.forall_mem_cons.mpr ⟨List.mem_cons_of_mem _ (List.mem_append_left _ (List.mem_of_getElem? (i := 1) rfl)), List.forall_mem_cons.mpr ⟨List.mem_cons_of_mem _ (List.mem_append_left _ (List.mem_of_getElem? (i := 11) rfl)), List.forall_mem_cons.mpr ⟨List.mem_cons_of_mem _ (List.mem_append_left _ (List.mem_of_getElem? (i := 12) rfl)), List.forall_mem_cons.mpr ⟨List.mem_cons_of_mem _ (List.mem_append_left _ (List.mem_of_getElem? (i := 13) rfl)), List.forall_mem_cons.mpr ⟨List.mem_cons_of_mem _ (List.mem_append_left _ (List.mem_of_getElem? (i := 14) rfl)), List.forall_mem_cons.mpr ⟨List.mem_cons_of_mem _ (List.mem_append_left _ (List.mem_of_getElem? (i := 2) rfl)), List.forall_mem_cons.mpr ⟨List.mem_cons_of_mem _ (List.mem_append_left _ (List.mem_of_getElem? (i := 0) rfl)), List.forall_mem_cons.mpr ⟨List.mem_cons_of_mem _ (List.mem_append_left _ (List.mem_of_getElem? (i := 15) rfl)), fun _ h9 => absurd h9 List.not_mem_nil⟩⟩⟩⟩⟩⟩⟩⟩, fun w h9 => List.mem_cons_of_mem _ (List.mem_append_right _ (h9))⟩⟩) (by decide +kernel)
set_option maxRecDepth 20000 in
theorem gX9_enough_X9_findClusters : GoodIn wsX9_enough (wsV RX9 147 RX9 yX9_findClusters wsX9_findClusters) := goodIn_app (goodIn_4 _ (List.forall_mem_cons.mpr ⟨List.mem_cons_of_mem _ (List.mem_append_left _ (List.mem_of_getElem? (i := 7) rfl)), List.forall_mem_cons.mpr ⟨List.mem_cons_of_mem _ (List.mem_append_left _ (List.mem_of_getElem? (i := 8) rfl)), List.forall_mem_cons.mpr ⟨List.mem_cons_of_mem _ (List.mem_append_left _ (List.mem_of_getElem? (i := 9) rfl)), List.forall_mem_cons.mpr ⟨List.mem_cons_of_mem _ (List.mem_append_left _ (List.mem_of_getElem? (i := 5) rfl)), fun _ h9 => absurd h9 List.not_mem_nil⟩⟩⟩⟩) (by decide +kernel)) ggX9_enough_X9_findClusters
set_option maxRecDepth 20000 in
theorem ggX9_enough_X9_size : GoodIn wsX9_enough wsX9_size := goodIn_4 _ (List.forall_mem_cons.mpr ⟨List.mem_cons_of_mem _ (List.mem_append_left _ (List.mem_of_getElem? (i := 18) rfl)), fun _ h9 => absurd h9 List.not_mem_nil⟩) (by decide +kernel)
set_option maxRecDepth 20000 in
theorem gX9_enough_X9_size : GoodIn wsX9_enough (va_wsS RX9 114 yX9_size wsX9_size) := goodIn_app (goodIn_4 _ (List.forall_mem_cons.mpr ⟨List.mem_cons_of_mem _ (List.mem_append_left _ (List.mem_of_getElem? (i := 16) rfl)), List.forall_mem_cons.mpr ⟨List.mem_cons_of_mem _ (List.mem_append_left _ (List.mem_of_getElem? (i := 17) rfl)), List.forall_mem_cons.mpr ⟨List.mem_cons_of_mem _ (List.mem_append_left _ (List.mem_of_getElem? (i := 5) rfl)), fun _ h9 => absurd h9 List.not_mem_nil⟩⟩⟩) (by decide +kernel)) ggX9_enough_X9_size
set_option maxRecDepth 20000 in
theorem ggX9_enough_X9_within : GoodIn wsX9_enough wsX9_within := goodIn_4 _ (List.forall_mem_cons.mpr ⟨List.mem_cons_of_mem _ (List.mem_append_left _ (List.mem_of_getElem? (i := 6) rfl)), fun _ h9 => absurd h9 List.not_mem_nil⟩) (by decide +kernel)
set_option maxRecDepth 20000 in
theorem gX9_enough_X9_within : GoodIn wsX9_enough (va_wsS RX9 70 yX9_within wsX9_within) := goodIn_app (goodIn_4 _ (List.forall_mem_cons.mpr ⟨List.mem_cons_of_mem _ (List.mem_append_left _ (List.mem_of_getElem? (i := 3) rfl)), List.forall_mem_cons.mpr ⟨List.mem_cons_of_mem _ (List.mem_append_left _ (List.mem_of_getElem? (i := 4) rfl)), List.forall_mem_cons.mpr ⟨List.mem_cons_of_mem _ (List.mem_append_left _ (List.mem_of_getElem? (i := 5) rfl)), fun _ h9 => absurd h9 List.not_mem_nil⟩⟩⟩) (by decide +kernel)) ggX9_enough_X9_within
set_option maxRecDepth 20000 in
theorem mw_X9_enough_0 : (.fieldLink RX9 74 "FontRunsModel" "fonts" "I" : Cond) ∈ wsX9_enough := List.mem_cons_of_mem _ (List.mem_append_left _ (List.mem_of_getElem? (i := 0) rfl))
set_option maxRecDepth 20000 in
theorem mw_X9_enough_1 : (.fieldLink RX9 138 "FontRunsModel" "clusters" "I" : Cond) ∈ wsX9_enough := List.mem_cons_of_mem _ (List.mem_append_left _ (List.mem_of_getElem? (i := 1) rfl))
set_option maxRecDepth 20000 in
theorem mw_X9_enough_2 : (.fieldLink RX9 49 "FontRunsModel" "fits" "[I" : Cond) ∈ wsX9_enough := List.mem_cons_of_mem _ (List.mem_append_left _ (List.mem_of_getElem? (i := 2) rfl))
theorem ax_X9_enough_0 {e0 e1 e2 e3 e4 : Nat × va_E} : ([] : List Nat).map (fun i => ([e0, e1, e2, e3, e4] : va_W)[i]?) = ([] : va_W).map some := rfl
theorem ax_X9_enough_1 {e0 e1 e2 e3 e4 : Nat × va_E} : ([0, 1, 2, 3, 4] : List Nat).map (fun i => ([e0, e1, e2, e3, e4] : va_W)[i]?) = ([e0, e1, e2, e3, e4] : va_W).map some := rfl
theorem ax_X9_enough_2 {D : va_G} {cl : List vw_C} {H : Heap} {f0 f1 f2 f3 f4 : Nat × va_E} (h : va_P D cl ((([] : va_W) ++ ([f0, f1, f2, f3, f4] : va_W))) H) : va_P D cl (([f0, f1, f2, f3, f4] : va_W)) H := h
theorem ax_X9_enough_3 {A : Nat → Prop} {f0 f1 f2 f3 f4 : Nat × va_E} (h : va_D A ((([] : va_W) ++ ([f0, f1, f2, f3, f4] : va_W)))) : va_D A (([f0, f1, f2, f3, f4] : va_W)) := h
set_option maxHeartbeats 4000000 in
set_option maxRecDepth 100000 in
theorem c_X9_enough (l : Launch) (D : va_G) (sz : Nat) (w : Int) (h0 : Nat) (fa : Int) (tc : Int) (so : Nat) (sl : Nat) (ce : Nat) (fn : Int) (kd : Nat) (wd : Nat) (hs : Nat) (pf : Nat) (lt : Nat) (mn : Int) (wg : Nat) (ta : Int) (ck : Int64) (at9 : Int) (rfn : Int) (rk : Nat) (rw : Nat) (rh : Nat) (cl : Int) (sa : Nat) (fi : Nat) (bo : Int) (ch : Nat) (cn : Nat) (ad : Int) (ru : Int) (kp : Nat) (dn : Int) (rfa : Nat) (c_wg : ClassId) (f_wg : Nat → Int32) (c_sa : ClassId) (f_sa : Nat → Int32) (c_fi : ClassId) (f_fi : Nat → Int32) (c_hs : ClassId) (f_hs : Nat → Int32) (q0 : rg w) (q1 : 0 ≤ mn ∧ mn ≤ 24) (q2 : 0 ≤ fn ∧ fn ≤ 4) (q3 : 0 ≤ cl ∧ cl ≤ 24) (q4 : 0 ≤ bo ∧ bo ≤ 24) : Met l yX9_enough wsX9_enough ({ frames := 1, cells := 0, slots := 0, locals := 24 }) (kPre [.ref h0, .int (zI w)] D [(h0, .inr (9, [.int (zI fa), .int (zI tc), .ref so, .ref sl, .ref ce, .int (zI fn), .ref kd, .ref wd, .ref hs, .ref pf, .ref lt, .int (zI mn), .ref wg, .int (zI ta), .long ck, .int (zI at9), .int (zI rfn), .ref rk, .ref rw, .ref rh, .int (zI cl), .ref sa, .ref fi, .int (zI bo), .ref ch, .ref cn, .int (zI ad), .int (zI ru), .ref kp, .int (zI dn), .ref rfa])), (wg, .inl (c_wg, 24, .inl f_wg)), (sa, .inl (c_sa, 25, .inl f_sa)), (fi, .inl (c_fi, 24, .inl f_fi)), (hs, .inl (c_hs, 4, .inl f_hs))] [(c_wg, .int), (c_sa, .int), (c_fi, .int), (c_hs, .int)] sz) (kQS (fun rz t => ∃ (u_cl : Int) (u_bo : Int) (u_f_sa : Nat → Int32) (u_f_fi : Nat → Int32), (0 ≤ u_cl ∧ u_cl ≤ 24) ∧ (0 ≤ u_bo ∧ u_bo ≤ 24) ∧ va_P D vwCl [(h0, .inr (9, [.int (zI fa), .int (zI tc), .ref so, .ref sl, .ref ce, .int (zI fn), .ref kd, .ref wd, .ref hs, .ref pf, .ref lt, .int (zI mn), .ref wg, .int (zI ta), .long ck, .int (zI at9), .int (zI rfn), .ref rk, .ref rw, .ref rh, .int (zI u_cl), .ref sa, .ref fi, .int (zI u_bo), .ref ch, .ref cn, .int (zI ad), .int (zI ru), .ref kp, .int (zI dn), .ref rfa])), (wg, .inl (c_wg, 24, .inl f_wg)), (sa, .inl (c_sa, 25, .inl u_f_sa)), (fi, .inl (c_fi, 24, .inl u_f_fi)), (hs, .inl (c_hs, 4, .inl f_hs))] t.heap ∧ va_D (va_A [(h0, .inr (9, [.int (zI fa), .int (zI tc), .ref so, .ref sl, .ref ce, .int (zI fn), .ref kd, .ref wd, .ref hs, .ref pf, .ref lt, .int (zI mn), .ref wg, .int (zI ta), .long ck, .int (zI at9), .int (zI rfn), .ref rk, .ref rw, .ref rh, .int (zI cl), .ref sa, .ref fi, .int (zI bo), .ref ch, .ref cn, .int (zI ad), .int (zI ru), .ref kp, .int (zI dn), .ref rfa])), (wg, .inl (c_wg, 24, .inl f_wg)), (sa, .inl (c_sa, 25, .inl f_sa)), (fi, .inl (c_fi, 24, .inl f_fi)), (hs, .inl (c_hs, 4, .inl f_hs))] sz) [(h0, .inr (9, [.int (zI fa), .int (zI tc), .ref so, .ref sl, .ref ce, .int (zI fn), .ref kd, .ref wd, .ref hs, .ref pf, .ref lt, .int (zI mn), .ref wg, .int (zI ta), .long ck, .int (zI at9), .int (zI rfn), .ref rk, .ref rw, .ref rh, .int (zI u_cl), .ref sa, .ref fi, .int (zI u_bo), .ref ch, .ref cn, .int (zI ad), .int (zI ru), .ref kp, .int (zI dn), .ref rfa])), (wg, .inl (c_wg, 24, .inl f_wg)), (sa, .inl (c_sa, 25, .inl u_f_sa)), (fi, .inl (c_fi, 24, .inl u_f_fi)), (hs, .inl (c_hs, 4, .inl f_hs))]) (va_A [(h0, .inr (9, [.int (zI fa), .int (zI tc), .ref so, .ref sl, .ref ce, .int (zI fn), .ref kd, .ref wd, .ref hs, .ref pf, .ref lt, .int (zI mn), .ref wg, .int (zI ta), .long ck, .int (zI at9), .int (zI rfn), .ref rk, .ref rw, .ref rh, .int (zI cl), .ref sa, .ref fi, .int (zI bo), .ref ch, .ref cn, .int (zI ad), .int (zI ru), .ref kp, .int (zI dn), .ref rfa])), (wg, .inl (c_wg, 24, .inl f_wg)), (sa, .inl (c_sa, 25, .inl f_sa)), (fi, .inl (c_fi, 24, .inl f_fi)), (hs, .inl (c_hs, 4, .inl f_hs))] sz)) 0 0 (va_A [(h0, .inr (9, [.int (zI fa), .int (zI tc), .ref so, .ref sl, .ref ce, .int (zI fn), .ref kd, .ref wd, .ref hs, .ref pf, .ref lt, .int (zI mn), .ref wg, .int (zI ta), .long ck, .int (zI at9), .int (zI rfn), .ref rk, .ref rw, .ref rh, .int (zI cl), .ref sa, .ref fi, .int (zI bo), .ref ch, .ref cn, .int (zI ad), .int (zI ru), .ref kp, .int (zI dn), .ref rfa])), (wg, .inl (c_wg, 24, .inl f_wg)), (sa, .inl (c_sa, 25, .inl f_sa)), (fi, .inl (c_fi, 24, .inl f_fi)), (hs, .inl (c_hs, 4, .inl f_hs))] sz) := by
  refine Met.ofW (cc := cX9_enough) (maxL := 6) (ret := (some .int)) (by decide) rfl ?_
  intro p e s m args below meth c s₁ B hml hv
  obtain ⟨rfl, hsz, hP, hK, hD0, hN⟩ := hv
  have hx := B.exec
  have hb := B.bytes
  have hr := B.returns
  have hts := atoms_spec (ws := wsX9_enough) B.pre
  have hown : s.vm.findClass RX9 = some m.cls := findClass_of_methodNamed B.named
  have hlocks := B.notSynchronized
  subst hsz
  have hD := hD0.self (sz := s.heap.size)
  generalize hAe : va_A [(h0, .inr (9, [.int (zI fa), .int (zI tc), .ref so, .ref sl, .ref ce, .int (zI fn), .ref kd, .ref wd, .ref hs, .ref pf, .ref lt, .int (zI mn), .ref wg, .int (zI ta), .long ck, .int (zI at9), .int (zI rfn), .ref rk, .ref rw, .ref rh, .int (zI cl), .ref sa, .ref fi, .int (zI bo), .ref ch, .ref cn, .int (zI ad), .int (zI ru), .ref kp, .int (zI dn), .ref rfa])), (wg, .inl (c_wg, 24, .inl f_wg)), (sa, .inl (c_sa, 25, .inl f_sa)), (fi, .inl (c_fi, 24, .inl f_fi)), (hs, .inl (c_hs, 4, .inl f_hs))] s.heap.size = A at hD ⊢
  have hA : ∀ q : Nat, s.heap.size ≤ q → A q := fun q h => by rw [← hAe]; exact Or.inr h
  have hS : va_S A s.heap s.heap [] := va_S.rf
  have hP : va_P D vwCl [(h0, .inr (9, [.int (zI fa), .int (zI tc), .ref so, .ref sl, .ref ce, .int (zI fn), .ref kd, .ref wd, .ref hs, .ref pf, .ref lt, .int (zI mn), .ref wg, .int (zI ta), .long ck, .int (zI at9), .int (zI rfn), .ref rk, .ref rw, .ref rh, .int (zI cl), .ref sa, .ref fi, .int (zI bo), .ref ch, .ref cn, .int (zI ad), .int (zI ru), .ref kp, .int (zI dn), .ref rfa])), (wg, .inl (c_wg, 24, .inl f_wg)), (sa, .inl (c_sa, 25, .inl f_sa)), (fi, .inl (c_fi, 24, .inl f_fi)), (hs, .inl (c_hs, 4, .inl f_hs))] s.heap := hP
  have hl := lv_entry ([.ref h0, .int (zI w)]) (n := 6) (Nat.le_of_ble_eq_true rfl)
  rw [lg_entry_eq]
  generalize (lg_sl ([.ref h0, .int (zI w)]) ++ List.replicate (6 - (lg_sl ([.ref h0, .int (zI w)])).length) Slot.unset).toArray = ls at hl ⊢
  have hl : lv_has ls 6 [(0, .ref h0), (1, .int (zI w))] := hl
  refine lv_iload_n hx hb dX9_enough_0 rfl (lv_at hl 1 rfl) ?_
  refine lv_iconst (v := zI 0) hx hb dX9_enough_1 rfl ?_
  refine lv_iconst (v := zI 1) hx hb dX9_enough_2 rfl ?_
  refine k_callR (va_runS (As := [.int (zI w), .int (zI 0), .int (zI 1)]) (rest := []) ⟨hx, hb, hml, hown, hts⟩ (c_X9_within l D s.heap.size (v := w) (a := 0) (b := 1) q0 (by omega) (by omega)) (va_cwS 3 hts gX9_enough_X9_within rfl rfl rfl (by decide +kernel) ⟨Nat.le_of_ble_eq_true rfl, Nat.le_of_ble_eq_true rfl⟩) (kPreS hP (kD0 hD) hK hN [] [] ax_X9_enough_0 rfl (by decide +kernel)) rfl rfl hl.1 rfl (lv_room (Nat.le_of_ble_eq_true rfl)) dX9_enough_3 ⟨Nat.le_of_ble_eq_true rfl, Nat.le_of_ble_eq_true rfl⟩) ?_
  refine lv_if_ne (tgt := 12) hx hb dX9_enough_6 (by decide) (fun c_1 => ?_) (fun c_1 => ?_)
  · have c_1 : 0 ≤ w ∧ w ≤ 1 := b01t c_1
    refine lv_aload_n hx hb dX9_enough_12 rfl (lv_at hl 0 rfl) ?_
    refine va_get (D := D) (ci := 9) (v := .int (zI fn)) (C := RX9) (T := TX9) (N := 31) hx hb hts (fun _ h9 => List.mem_cons_of_mem _ (List.mem_append_right _ h9)) hown hK hP 0 rfl rfl 5 (by decide) (hts (.fieldLink RX9 74 "FontRunsModel" "fonts" "I") mw_X9_enough_0) (fun _ h9 => h9) rfl dX9_enough_13 ?_
    refine kz_if_ne (tgt := 22) hx hb dX9_enough_16 (by decide) (by omega) (fun c_2 => ?_) (fun c_2 => ?_)
    · refine lv_aload_n hx hb dX9_enough_22 rfl (lv_at hl 0 rfl) ?_
      refine lv_bipush (v := zI (-9)) hx hb dX9_enough_23 (by decide) ?_
      have hFc := va_free (wc := [(h0, .inr (9, [.int (zI fa), .int (zI tc), .ref so, .ref sl, .ref ce, .int (zI fn), .ref kd, .ref wd, .ref hs, .ref pf, .ref lt, .int (zI mn), .ref wg, .int (zI ta), .long ck, .int (zI at9), .int (zI rfn), .ref rk, .ref rw, .ref rh, .int (zI cl), .ref sa, .ref fi, .int (zI bo), .ref ch, .ref cn, .int (zI ad), .int (zI ru), .ref kp, .int (zI dn), .ref rfa])), (wg, .inl (c_wg, 24, .inl f_wg)), (sa, .inl (c_sa, 25, .inl f_sa)), (fi, .inl (c_fi, 24, .inl f_fi)), (hs, .inl (c_hs, 4, .inl f_hs))]) hD hS hA [0, 1, 2, 3, 4] ax_X9_enough_1
      refine va_callv (va_runV (As := [.int (zI (-9))]) (rest := []) ⟨hx, hb, hml, hown, hts⟩ (c_X9_findClusters l D s.heap.size (wo := (-9)) (h0 := h0) (fa := fa) (tc := tc) (so := so) (sl := sl) (ce := ce) (fn := fn) (kd := kd) (wd := wd) (hs := hs) (pf := pf) (lt := lt) (mn := mn) (wg := wg) (ta := ta) (ck := ck) (at9 := at9) (rfn := rfn) (rk := rk) (rw := rw) (rh := rh) (cl := cl) (sa := sa) (fi := fi) (bo := bo) (ch := ch) (cn := cn) (ad := ad) (ru := ru) (kp := kp) (dn := dn) (rfa := rfa) (c_wg := c_wg) (f_wg := f_wg) (c_sa := c_sa) (f_sa := f_sa) (c_fi := c_fi) (f_fi := f_fi) (c_hs := c_hs) (f_hs := f_hs) (by omega) q1 q2) (cwV 1 hts gX9_enough_X9_findClusters rfl rfl rfl (by decide +kernel) ⟨Nat.le_of_ble_eq_true rfl, Nat.le_of_ble_eq_true rfl⟩) (kPreV hP (kD0 hD) hK hN [0, 1, 2, 3, 4] [0, 1, 2, 3] ax_X9_enough_1 rfl (by decide +kernel) 0 9 rfl rfl) rfl rfl hl.1 rfl (lv_room (Nat.le_of_ble_eq_true rfl)) dX9_enough_25 ⟨Nat.le_of_ble_eq_true rfl, Nat.le_of_ble_eq_true rfl⟩) hS (fun q _ h => hFc q h) hFc (fun u t H1 locs ht hvm hw hB hz1 hk1 hS => ?_)
      refine Exists.elim hB (fun u_cl_3 hB1 => Exists.elim hB1 (fun u_bo_4 hB2 => Exists.elim hB2 (fun u_f_sa_5 hB3 => Exists.elim hB3 (fun u_f_fi_6 hB4 => ?_))))
      have h_7 := hB4.1
      have h_8 := hB4.2.1
      have h_9 := hB4.2.2.1
      have hP1 := hB4.2.2.2.1
      have hD1 := hB4.2.2.2.2
      clear hB hB1 hB2 hB3 hB4
      rw [ht] at hP1
      obtain ⟨hP, hD⟩ := va_join (wr := []) (w1 := [(h0, .inr (9, [.int (zI fa), .int (zI tc), .ref so, .ref sl, .ref ce, .int (zI fn), .ref kd, .ref wd, .ref hs, .ref pf, .ref lt, .int (zI mn), .ref wg, .int (zI ta), .long ck, .int (zI at9), .int (zI rfn), .ref rk, .ref rw, .ref rh, .int (zI u_cl_3), .ref sa, .ref fi, .int (zI u_bo_4), .ref ch, .ref cn, .int (zI ad), .int (zI ru), .ref kp, .int (zI dn), .ref rfa])), (wg, .inl (c_wg, 24, .inl f_wg)), (sa, .inl (c_sa, 25, .inl u_f_sa_5)), (fi, .inl (c_fi, 24, .inl u_f_fi_6)), (hs, .inl (c_hs, 4, .inl f_hs))]) hP hD [0, 1, 2, 3, 4] [] ax_X9_enough_1 ax_X9_enough_0 (by decide +kernel) (by decide +kernel) hk1 hFc hP1 hD1
      have hP := ax_X9_enough_2 hP
      have hD := ax_X9_enough_3 hD
      generalize H1 = H at hP hS ⊢
      have hP : va_P D vwCl [(h0, .inr (9, [.int (zI fa), .int (zI tc), .ref so, .ref sl, .ref ce, .int (zI fn), .ref kd, .ref wd, .ref hs, .ref pf, .ref lt, .int (zI mn), .ref wg, .int (zI ta), .long ck, .int (zI at9), .int (zI rfn), .ref rk, .ref rw, .ref rh, .int (zI u_cl_3), .ref sa, .ref fi, .int (zI u_bo_4), .ref ch, .ref cn, .int (zI ad), .int (zI ru), .ref kp, .int (zI dn), .ref rfa])), (wg, .inl (c_wg, 24, .inl f_wg)), (sa, .inl (c_sa, 25, .inl u_f_sa_5)), (fi, .inl (c_fi, 24, .inl u_f_fi_6)), (hs, .inl (c_hs, 4, .inl f_hs))] H := hP
      have hD : va_D A [(h0, .inr (9, [.int (zI fa), .int (zI tc), .ref so, .ref sl, .ref ce, .int (zI fn), .ref kd, .ref wd, .ref hs, .ref pf, .ref lt, .int (zI mn), .ref wg, .int (zI ta), .long ck, .int (zI at9), .int (zI rfn), .ref rk, .ref rw, .ref rh, .int (zI u_cl_3), .ref sa, .ref fi, .int (zI u_bo_4), .ref ch, .ref cn, .int (zI ad), .int (zI ru), .ref kp, .int (zI dn), .ref rfa])), (wg, .inl (c_wg, 24, .inl f_wg)), (sa, .inl (c_sa, 25, .inl u_f_sa_5)), (fi, .inl (c_fi, 24, .inl u_f_fi_6)), (hs, .inl (c_hs, 4, .inl f_hs))] := hD
      refine lv_bipush (v := zI (-9)) hx hb dX9_enough_28 (by decide) ?_
      refine lv_istore_n (lv' := [(2, .int (zI (-9))), (0, .ref h0), (1, .int (zI w))]) hx hb dX9_enough_30 rfl hl (by decide) rfl (fun ls hl => ?_)
      refine lv_iconst (v := zI 0) hx hb dX9_enough_31 rfl ?_
      refine lv_istore_n (lv' := [(3, .int (zI 0)), (2, .int (zI (-9))), (0, .ref h0), (1, .int (zI w))]) hx hb dX9_enough_32 rfl hl (by decide) rfl (fun ls hl => ?_)
      refine k_loopM (I := fun n9 H locs ls => ∃ (jb : Int) (js : Int), n9 = (16 - js).toNat ∧ (rg jb) ∧ (0 ≤ js ∧ js ≤ 16) ∧ va_P D vwCl [(h0, .inr (9, [.int (zI fa), .int (zI tc), .ref so, .ref sl, .ref ce, .int (zI fn), .ref kd, .ref wd, .ref hs, .ref pf, .ref lt, .int (zI mn), .ref wg, .int (zI ta), .long ck, .int (zI at9), .int (zI rfn), .ref rk, .ref rw, .ref rh, .int (zI u_cl_3), .ref sa, .ref fi, .int (zI u_bo_4), .ref ch, .ref cn, .int (zI ad), .int (zI ru), .ref kp, .int (zI dn), .ref rfa])), (wg, .inl (c_wg, 24, .inl f_wg)), (sa, .inl (c_sa, 25, .inl u_f_sa_5)), (fi, .inl (c_fi, 24, .inl u_f_fi_6)), (hs, .inl (c_hs, 4, .inl f_hs))] H ∧ va_D A [(h0, .inr (9, [.int (zI fa), .int (zI tc), .ref so, .ref sl, .ref ce, .int (zI fn), .ref kd, .ref wd, .ref hs, .ref pf, .ref lt, .int (zI mn), .ref wg, .int (zI ta), .long ck, .int (zI at9), .int (zI rfn), .ref rk, .ref rw, .ref rh, .int (zI u_cl_3), .ref sa, .ref fi, .int (zI u_bo_4), .ref ch, .ref cn, .int (zI ad), .int (zI ru), .ref kp, .int (zI dn), .ref rfa])), (wg, .inl (c_wg, 24, .inl f_wg)), (sa, .inl (c_sa, 25, .inl u_f_sa_5)), (fi, .inl (c_fi, 24, .inl u_f_fi_6)), (hs, .inl (c_hs, 4, .inl f_hs))] ∧ va_S A s.heap H locs ∧ lv_has ls 6 [(3, .int (zI js)), (2, .int (zI jb)), (0, .ref h0), (1, .int (zI w))]) ?_ _ ⟨(-9), 0, rfl, (by omega), (by omega), hP, hD, hS, hl⟩
      intro n33 ih33 H locs ls hI
      obtain ⟨jb, js, en33, v_330, v_331, hP, hD, hS, hl⟩ := hI
      refine lv_iload_n hx hb dX9_enough_33 rfl (lv_at hl 0 rfl) ?_
      refine lv_iconst (v := zI 1) hx hb dX9_enough_34 rfl ?_
      refine lv_aload_n hx hb dX9_enough_35 rfl (lv_at hl 2 rfl) ?_
      refine va_get (D := D) (ci := 9) (v := .int (zI fn)) (C := RX9) (T := TX9) (N := 31) hx hb hts (fun _ h9 => List.mem_cons_of_mem _ (List.mem_append_right _ h9)) hown hK hP 0 rfl rfl 5 (by decide) (hts (.fieldLink RX9 74 "FontRunsModel" "fonts" "I") mw_X9_enough_0) (fun _ h9 => h9) rfl dX9_enough_36 ?_
      refine lv_ishl hx hb dX9_enough_39 ?_
      refine kz_any (fun z_10 rz_10 ez_10 => ?_)
      have bz_10 := kshl16 (by omega) rz_10 ez_10
      refine kz_icmp_ge (tgt := 136) hx hb dX9_enough_40 (by decide) (by omega) (by omega) (fun c_11 => ?_) (fun c_11 => ?_)
      · refine lv_iload_n hx hb dX9_enough_136 rfl (lv_at hl 3 rfl) ?_
        refine kz_if_ne (tgt := 147) hx hb dX9_enough_137 (by decide) (by omega) (fun c_12 => ?_) (fun c_12 => ?_)
        · refine lv_iload_n hx hb dX9_enough_147 rfl (lv_at hl 1 rfl) ?_
          have hP9 := hP.sub (ws' := [(h0, .inr (9, [.int (zI fa), .int (zI tc), .ref so, .ref sl, .ref ce, .int (zI fn), .ref kd, .ref wd, .ref hs, .ref pf, .ref lt, .int (zI mn), .ref wg, .int (zI ta), .long ck, .int (zI at9), .int (zI rfn), .ref rk, .ref rw, .ref rh, .int (zI u_cl_3), .ref sa, .ref fi, .int (zI u_bo_4), .ref ch, .ref cn, .int (zI ad), .int (zI ru), .ref kp, .int (zI dn), .ref rfa])), (wg, .inl (c_wg, 24, .inl f_wg)), (sa, .inl (c_sa, 25, .inl u_f_sa_5)), (fi, .inl (c_fi, 24, .inl u_f_fi_6)), (hs, .inl (c_hs, 4, .inl f_hs))]) [0, 1, 2, 3, 4] rfl
          have hD9 := hD.sub (ws' := [(h0, .inr (9, [.int (zI fa), .int (zI tc), .ref so, .ref sl, .ref ce, .int (zI fn), .ref kd, .ref wd, .ref hs, .ref pf, .ref lt, .int (zI mn), .ref wg, .int (zI ta), .long ck, .int (zI at9), .int (zI rfn), .ref rk, .ref rw, .ref rh, .int (zI u_cl_3), .ref sa, .ref fi, .int (zI u_bo_4), .ref ch, .ref cn, .int (zI ad), .int (zI ru), .ref kp, .int (zI dn), .ref rfa])), (wg, .inl (c_wg, 24, .inl f_wg)), (sa, .inl (c_sa, 25, .inl u_f_sa_5)), (fi, .inl (c_fi, 24, .inl u_f_fi_6)), (hs, .inl (c_hs, 4, .inl f_hs))]) [0, 1, 2, 3, 4] (by decide +kernel) rfl
          exact W.iret (v := (zI jb)) hx hb hr (fun t ht hW => kQS_of (by omega) ⟨u_cl_3, u_bo_4, u_f_sa_5, u_f_fi_6, (by omega), h_8, by rw [ht]; exact hP9, hD9⟩ (hS.F ht)) hS.2.2 dX9_enough_148
        · refine lv_iload_n hx hb dX9_enough_140 rfl (lv_at hl 1 rfl) ?_
          refine k_callP (va_runS (As := [.int (zI jb)]) (rest := []) ⟨hx, hb, hml, hown, hts⟩ (c_X9_size l D H.size (x := jb) v_330) (va_cwS 1 hts gX9_enough_X9_size rfl rfl rfl (by decide +kernel) ⟨Nat.le_of_ble_eq_true rfl, Nat.le_of_ble_eq_true rfl⟩) (kPreS hP (kD0 hD) hK hN [] [] ax_X9_enough_0 rfl (by decide +kernel)) rfl rfl hl.1 rfl (lv_room (Nat.le_of_ble_eq_true rfl)) dX9_enough_141 ⟨Nat.le_of_ble_eq_true rfl, Nat.le_of_ble_eq_true rfl⟩) (fun z_13 rz_13 h_14 => ?_)
          refine lv_goto (tgt := 148) hx hb dX9_enough_144 (by decide) ?_
          have hP9 := hP.sub (ws' := [(h0, .inr (9, [.int (zI fa), .int (zI tc), .ref so, .ref sl, .ref ce, .int (zI fn), .ref kd, .ref wd, .ref hs, .ref pf, .ref lt, .int (zI mn), .ref wg, .int (zI ta), .long ck, .int (zI at9), .int (zI rfn), .ref rk, .ref rw, .ref rh, .int (zI u_cl_3), .ref sa, .ref fi, .int (zI u_bo_4), .ref ch, .ref cn, .int (zI ad), .int (zI ru), .ref kp, .int (zI dn), .ref rfa])), (wg, .inl (c_wg, 24, .inl f_wg)), (sa, .inl (c_sa, 25, .inl u_f_sa_5)), (fi, .inl (c_fi, 24, .inl u_f_fi_6)), (hs, .inl (c_hs, 4, .inl f_hs))]) [0, 1, 2, 3, 4] rfl
          have hD9 := hD.sub (ws' := [(h0, .inr (9, [.int (zI fa), .int (zI tc), .ref so, .ref sl, .ref ce, .int (zI fn), .ref kd, .ref wd, .ref hs, .ref pf, .ref lt, .int (zI mn), .ref wg, .int (zI ta), .long ck, .int (zI at9), .int (zI rfn), .ref rk, .ref rw, .ref rh, .int (zI u_cl_3), .ref sa, .ref fi, .int (zI u_bo_4), .ref ch, .ref cn, .int (zI ad), .int (zI ru), .ref kp, .int (zI dn), .ref rfa])), (wg, .inl (c_wg, 24, .inl f_wg)), (sa, .inl (c_sa, 25, .inl u_f_sa_5)), (fi, .inl (c_fi, 24, .inl u_f_fi_6)), (hs, .inl (c_hs, 4, .inl f_hs))]) [0, 1, 2, 3, 4] (by decide +kernel) rfl
          exact W.iret (v := (zI z_13)) hx hb hr (fun t ht hW => kQS_of (by omega) ⟨u_cl_3, u_bo_4, u_f_sa_5, u_f_fi_6, (by omega), h_8, by rw [ht]; exact hP9, hD9⟩ (hS.F ht)) hS.2.2 dX9_enough_148
      · refine lv_iload_n hx hb dX9_enough_43 rfl (lv_at hl 1 rfl) ?_
        refine lv_bipush (v := zI (-9)) hx hb dX9_enough_44 (by decide) ?_
        refine kz_icmp_eq (tgt := 60) hx hb dX9_enough_46 (by decide) (by omega) (by omega) (fun c_15 => ?_) (fun c_15 => ?_)
        · refine lv_iconst (v := zI 1) hx hb dX9_enough_60 rfl ?_
          refine lv_goto (tgt := 65) hx hb dX9_enough_61 (by decide) ?_
          refine lv_istore (lv' := [(4, .int (zI 1)), (3, .int (zI js)), (2, .int (zI jb)), (0, .ref h0), (1, .int (zI w))]) hx hb dX9_enough_65 hl (by decide) rfl (fun ls hl => ?_)
          refine lv_iconst (v := zI 0) hx hb dX9_enough_67 rfl ?_
          refine lv_istore (lv' := [(5, .int (zI 0)), (4, .int (zI 1)), (3, .int (zI js)), (2, .int (zI jb)), (0, .ref h0), (1, .int (zI w))]) hx hb dX9_enough_68 hl (by decide) rfl (fun ls hl => ?_)
          refine k_loopM (I := fun n9 H locs ls => ∃ (jw : Int) (jc : Int), n9 = (u_cl_3 - jc).toNat ∧ (jw = 0 ∨ jw = 1) ∧ (0 ≤ jc ∧ jc ≤ u_cl_3) ∧ va_P D vwCl [(h0, .inr (9, [.int (zI fa), .int (zI tc), .ref so, .ref sl, .ref ce, .int (zI fn), .ref kd, .ref wd, .ref hs, .ref pf, .ref lt, .int (zI mn), .ref wg, .int (zI ta), .long ck, .int (zI at9), .int (zI rfn), .ref rk, .ref rw, .ref rh, .int (zI u_cl_3), .ref sa, .ref fi, .int (zI u_bo_4), .ref ch, .ref cn, .int (zI ad), .int (zI ru), .ref kp, .int (zI dn), .ref rfa])), (wg, .inl (c_wg, 24, .inl f_wg)), (sa, .inl (c_sa, 25, .inl u_f_sa_5)), (fi, .inl (c_fi, 24, .inl u_f_fi_6)), (hs, .inl (c_hs, 4, .inl f_hs))] H ∧ va_D A [(h0, .inr (9, [.int (zI fa), .int (zI tc), .ref so, .ref sl, .ref ce, .int (zI fn), .ref kd, .ref wd, .ref hs, .ref pf, .ref lt, .int (zI mn), .ref wg, .int (zI ta), .long ck, .int (zI at9), .int (zI rfn), .ref rk, .ref rw, .ref rh, .int (zI u_cl_3), .ref sa, .ref fi, .int (zI u_bo_4), .ref ch, .ref cn, .int (zI ad), .int (zI ru), .ref kp, .int (zI dn), .ref rfa])), (wg, .inl (c_wg, 24, .inl f_wg)), (sa, .inl (c_sa, 25, .inl u_f_sa_5)), (fi, .inl (c_fi, 24, .inl u_f_fi_6)), (hs, .inl (c_hs, 4, .inl f_hs))] ∧ va_S A s.heap H locs ∧ lv_has ls 6 [(5, .int (zI jc)), (4, .int (zI jw)), (3, .int (zI js)), (2, .int (zI jb)), (0, .ref h0), (1, .int (zI w))]) ?_ _ ⟨1, 0, rfl, (by omega), (by omega), hP, hD, hS, hl⟩
          intro n70 ih70 H locs ls hI
          obtain ⟨jw, jc, en70, v_700, v_701, hP, hD, hS, hl⟩ := hI
          refine lv_iload hx hb dX9_enough_70 (lv_at hl 0 rfl) ?_
          refine lv_aload_n hx hb dX9_enough_72 rfl (lv_at hl 4 rfl) ?_
          refine va_get (D := D) (ci := 9) (v := .int (zI u_cl_3)) (C := RX9) (T := TX9) (N := 31) hx hb hts (fun _ h9 => List.mem_cons_of_mem _ (List.mem_append_right _ h9)) hown hK hP 0 rfl rfl 20 (by decide) (hts (.fieldLink RX9 138 "FontRunsModel" "clusters" "I") mw_X9_enough_1) (fun _ h9 => h9) rfl dX9_enough_73 ?_
          refine kz_icmp_ge (tgt := 119) hx hb dX9_enough_76 (by decide) (by omega) (by omega) (fun c_16 => ?_) (fun c_16 => ?_)
          · refine lv_iload hx hb dX9_enough_119 (lv_at hl 1 rfl) ?_
            refine kz_if_eq (tgt := 128) hx hb dX9_enough_121 (by decide) (by omega) (fun c_17 => ?_) (fun c_17 => ?_)
            · refine lv_iload_n hx hb dX9_enough_128 rfl (lv_at hl 3 rfl) ?_
              refine lv_istore_n (lv' := [(2, .int (zI jb)), (5, .int (zI jc)), (4, .int (zI jw)), (3, .int (zI js)), (0, .ref h0), (1, .int (zI w))]) hx hb dX9_enough_129 rfl hl (by decide) rfl (fun ls hl => ?_)
              refine lv_iinc (v := (zI (js + 1))) (lv' := [(3, .int (zI (js + 1))), (2, .int (zI jb)), (5, .int (zI jc)), (4, .int (zI jw)), (0, .ref h0), (1, .int (zI w))]) hx hb dX9_enough_130 hl (k := 3) rfl (kz_inc _ 1) (by decide) rfl (fun ls hl => ?_)
              refine lv_goto (tgt := 33) hx hb dX9_enough_133 (by decide) ?_
              exact ih33 _ (by omega) _ _ _ ⟨jb, (js + 1), rfl, v_330, (by omega), hP, hD, hS, lv_sub hl [0, 1, 4, 5] rfl⟩
            · refine lv_iload_n hx hb dX9_enough_124 rfl (lv_at hl 2 rfl) ?_
              refine lv_goto (tgt := 129) hx hb dX9_enough_125 (by decide) ?_
              refine lv_istore_n (lv' := [(2, .int (zI js)), (5, .int (zI jc)), (4, .int (zI jw)), (3, .int (zI js)), (0, .ref h0), (1, .int (zI w))]) hx hb dX9_enough_129 rfl hl (by decide) rfl (fun ls hl => ?_)
              refine lv_iinc (v := (zI (js + 1))) (lv' := [(3, .int (zI (js + 1))), (2, .int (zI js)), (5, .int (zI jc)), (4, .int (zI jw)), (0, .ref h0), (1, .int (zI w))]) hx hb dX9_enough_130 hl (k := 3) rfl (kz_inc _ 1) (by decide) rfl (fun ls hl => ?_)
              refine lv_goto (tgt := 33) hx hb dX9_enough_133 (by decide) ?_
              exact ih33 _ (by omega) _ _ _ ⟨js, (js + 1), rfl, (by omega), (by omega), hP, hD, hS, lv_sub hl [0, 1, 4, 5] rfl⟩
          · refine lv_iload hx hb dX9_enough_79 (lv_at hl 1 rfl) ?_
            refine kz_if_eq (tgt := 110) hx hb dX9_enough_81 (by decide) (by omega) (fun c_18 => ?_) (fun c_18 => ?_)
            · refine lv_iconst (v := zI 0) hx hb dX9_enough_110 rfl ?_
              refine lv_istore (lv' := [(4, .int (zI 0)), (5, .int (zI jc)), (3, .int (zI js)), (2, .int (zI jb)), (0, .ref h0), (1, .int (zI w))]) hx hb dX9_enough_111 hl (by decide) rfl (fun ls hl => ?_)
              refine lv_iinc (v := (zI (jc + 1))) (lv' := [(5, .int (zI (jc + 1))), (4, .int (zI 0)), (3, .int (zI js)), (2, .int (zI jb)), (0, .ref h0), (1, .int (zI w))]) hx hb dX9_enough_113 hl (k := 1) rfl (kz_inc _ 1) (by decide) rfl (fun ls hl => ?_)
              refine lv_goto (tgt := 70) hx hb dX9_enough_116 (by decide) ?_
              exact ih70 _ (by omega) _ _ _ ⟨0, (jc + 1), rfl, (by omega), (by omega), hP, hD, hS, lv_sub hl [0, 1, 2, 3, 4, 5] rfl⟩
            · refine lv_aload_n hx hb dX9_enough_84 rfl (lv_at hl 4 rfl) ?_
              refine va_get (D := D) (ci := 9) (v := .ref fi) (C := RX9) (T := TX9) (N := 31) hx hb hts (fun _ h9 => List.mem_cons_of_mem _ (List.mem_append_right _ h9)) hown hK hP 0 rfl rfl 22 (by decide) (hts (.fieldLink RX9 49 "FontRunsModel" "fits" "[I") mw_X9_enough_2) (fun _ h9 => h9) rfl dX9_enough_85 ?_
              refine lv_iload hx hb dX9_enough_88 (lv_at hl 0 rfl) ?_
              refine kz_iald hx hb hK hP 3 2 rfl rfl (by omega) dX9_enough_90 (fun z_19 rz_19 ez_19 => ?_)
              refine kz_if_eq (tgt := 106) hx hb dX9_enough_91 (by decide) (by omega) (fun c_20 => ?_) (fun c_20 => ?_)
              · refine lv_iconst (v := zI 1) hx hb dX9_enough_106 rfl ?_
                refine lv_goto (tgt := 111) hx hb dX9_enough_107 (by decide) ?_
                refine lv_istore (lv' := [(4, .int (zI 1)), (5, .int (zI jc)), (3, .int (zI js)), (2, .int (zI jb)), (0, .ref h0), (1, .int (zI w))]) hx hb dX9_enough_111 hl (by decide) rfl (fun ls hl => ?_)
                refine lv_iinc (v := (zI (jc + 1))) (lv' := [(5, .int (zI (jc + 1))), (4, .int (zI 1)), (3, .int (zI js)), (2, .int (zI jb)), (0, .ref h0), (1, .int (zI w))]) hx hb dX9_enough_113 hl (k := 1) rfl (kz_inc _ 1) (by decide) rfl (fun ls hl => ?_)
                refine lv_goto (tgt := 70) hx hb dX9_enough_116 (by decide) ?_
                exact ih70 _ (by omega) _ _ _ ⟨1, (jc + 1), rfl, (by omega), (by omega), hP, hD, hS, lv_sub hl [0, 1, 2, 3, 4, 5] rfl⟩
              · refine lv_aload_n hx hb dX9_enough_94 rfl (lv_at hl 4 rfl) ?_
                refine va_get (D := D) (ci := 9) (v := .ref fi) (C := RX9) (T := TX9) (N := 31) hx hb hts (fun _ h9 => List.mem_cons_of_mem _ (List.mem_append_right _ h9)) hown hK hP 0 rfl rfl 22 (by decide) (hts (.fieldLink RX9 49 "FontRunsModel" "fits" "[I") mw_X9_enough_2) (fun _ h9 => h9) rfl dX9_enough_95 ?_
                refine lv_iload hx hb dX9_enough_98 (lv_at hl 0 rfl) ?_
                refine kz_iald hx hb hK hP 3 2 rfl rfl (by omega) dX9_enough_100 (fun z_21 rz_21 ez_21 => ?_)
                have q9 : z_19 = z_21 := (zI_eq rz_19 rz_21).mp (ez_19.symm.trans ez_21)
                subst q9
                refine lv_iload_n hx hb dX9_enough_101 rfl (lv_at hl 2 rfl) ?_
                refine lv_iand hx hb dX9_enough_102 ?_
                refine kz_any (fun z_22 rz_22 ez_22 => ?_)
                refine kz_if_eq (tgt := 110) hx hb dX9_enough_103 (by decide) (by omega) (fun c_23 => ?_) (fun c_23 => ?_)
                · refine lv_iconst (v := zI 0) hx hb dX9_enough_110 rfl ?_
                  refine lv_istore (lv' := [(4, .int (zI 0)), (5, .int (zI jc)), (3, .int (zI js)), (2, .int (zI jb)), (0, .ref h0), (1, .int (zI w))]) hx hb dX9_enough_111 hl (by decide) rfl (fun ls hl => ?_)
                  refine lv_iinc (v := (zI (jc + 1))) (lv' := [(5, .int (zI (jc + 1))), (4, .int (zI 0)), (3, .int (zI js)), (2, .int (zI jb)), (0, .ref h0), (1, .int (zI w))]) hx hb dX9_enough_113 hl (k := 1) rfl (kz_inc _ 1) (by decide) rfl (fun ls hl => ?_)
                  refine lv_goto (tgt := 70) hx hb dX9_enough_116 (by decide) ?_
                  exact ih70 _ (by omega) _ _ _ ⟨0, (jc + 1), rfl, (by omega), (by omega), hP, hD, hS, lv_sub hl [0, 1, 2, 3, 4, 5] rfl⟩
                · refine lv_iconst (v := zI 1) hx hb dX9_enough_106 rfl ?_
                  refine lv_goto (tgt := 111) hx hb dX9_enough_107 (by decide) ?_
                  refine lv_istore (lv' := [(4, .int (zI 1)), (5, .int (zI jc)), (3, .int (zI js)), (2, .int (zI jb)), (0, .ref h0), (1, .int (zI w))]) hx hb dX9_enough_111 hl (by decide) rfl (fun ls hl => ?_)
                  refine lv_iinc (v := (zI (jc + 1))) (lv' := [(5, .int (zI (jc + 1))), (4, .int (zI 1)), (3, .int (zI js)), (2, .int (zI jb)), (0, .ref h0), (1, .int (zI w))]) hx hb dX9_enough_113 hl (k := 1) rfl (kz_inc _ 1) (by decide) rfl (fun ls hl => ?_)
                  refine lv_goto (tgt := 70) hx hb dX9_enough_116 (by decide) ?_
                  exact ih70 _ (by omega) _ _ _ ⟨1, (jc + 1), rfl, (by omega), (by omega), hP, hD, hS, lv_sub hl [0, 1, 2, 3, 4, 5] rfl⟩
        · refine lv_iload_n hx hb dX9_enough_49 rfl (lv_at hl 0 rfl) ?_
          refine k_callP (va_runS (As := [.int (zI js)]) (rest := []) ⟨hx, hb, hml, hown, hts⟩ (c_X9_size l D H.size (x := js) (by omega)) (va_cwS 1 hts gX9_enough_X9_size rfl rfl rfl (by decide +kernel) ⟨Nat.le_of_ble_eq_true rfl, Nat.le_of_ble_eq_true rfl⟩) (kPreS hP (kD0 hD) hK hN [] [] ax_X9_enough_0 rfl (by decide +kernel)) rfl rfl hl.1 rfl (lv_room (Nat.le_of_ble_eq_true rfl)) dX9_enough_50 ⟨Nat.le_of_ble_eq_true rfl, Nat.le_of_ble_eq_true rfl⟩) (fun z_24 rz_24 h_25 => ?_)
          refine lv_iload_n hx hb dX9_enough_53 rfl (lv_at hl 1 rfl) ?_
          refine k_callP (va_runS (As := [.int (zI jb)]) (rest := [.int (zI z_24)]) ⟨hx, hb, hml, hown, hts⟩ (c_X9_size l D H.size (x := jb) v_330) (va_cwS 1 hts gX9_enough_X9_size rfl rfl rfl (by decide +kernel) ⟨Nat.le_of_ble_eq_true rfl, Nat.le_of_ble_eq_true rfl⟩) (kPreS hP (kD0 hD) hK hN [] [] ax_X9_enough_0 rfl (by decide +kernel)) rfl rfl hl.1 rfl (lv_room (Nat.le_of_ble_eq_true rfl)) dX9_enough_54 ⟨Nat.le_of_ble_eq_true rfl, Nat.le_of_ble_eq_true rfl⟩) (fun z_26 rz_26 h_27 => ?_)
          refine kz_icmp_ge (tgt := 64) hx hb dX9_enough_57 (by decide) (by omega) (by omega) (fun c_28 => ?_) (fun c_28 => ?_)
          · refine lv_iconst (v := zI 0) hx hb dX9_enough_64 rfl ?_
            refine lv_istore (lv' := [(4, .int (zI 0)), (3, .int (zI js)), (2, .int (zI jb)), (0, .ref h0), (1, .int (zI w))]) hx hb dX9_enough_65 hl (by decide) rfl (fun ls hl => ?_)
            refine lv_iconst (v := zI 0) hx hb dX9_enough_67 rfl ?_
            refine lv_istore (lv' := [(5, .int (zI 0)), (4, .int (zI 0)), (3, .int (zI js)), (2, .int (zI jb)), (0, .ref h0), (1, .int (zI w))]) hx hb dX9_enough_68 hl (by decide) rfl (fun ls hl => ?_)
            refine k_loopM (I := fun n9 H locs ls => ∃ (jw : Int) (jc : Int), n9 = (u_cl_3 - jc).toNat ∧ (jw = 0 ∨ jw = 1) ∧ (0 ≤ jc ∧ jc ≤ u_cl_3) ∧ va_P D vwCl [(h0, .inr (9, [.int (zI fa), .int (zI tc), .ref so, .ref sl, .ref ce, .int (zI fn), .ref kd, .ref wd, .ref hs, .ref pf, .ref lt, .int (zI mn), .ref wg, .int (zI ta), .long ck, .int (zI at9), .int (zI rfn), .ref rk, .ref rw, .ref rh, .int (zI u_cl_3), .ref sa, .ref fi, .int (zI u_bo_4), .ref ch, .ref cn, .int (zI ad), .int (zI ru), .ref kp, .int (zI dn), .ref rfa])), (wg, .inl (c_wg, 24, .inl f_wg)), (sa, .inl (c_sa, 25, .inl u_f_sa_5)), (fi, .inl (c_fi, 24, .inl u_f_fi_6)), (hs, .inl (c_hs, 4, .inl f_hs))] H ∧ va_D A [(h0, .inr (9, [.int (zI fa), .int (zI tc), .ref so, .ref sl, .ref ce, .int (zI fn), .ref kd, .ref wd, .ref hs, .ref pf, .ref lt, .int (zI mn), .ref wg, .int (zI ta), .long ck, .int (zI at9), .int (zI rfn), .ref rk, .ref rw, .ref rh, .int (zI u_cl_3), .ref sa, .ref fi, .int (zI u_bo_4), .ref ch, .ref cn, .int (zI ad), .int (zI ru), .ref kp, .int (zI dn), .ref rfa])), (wg, .inl (c_wg, 24, .inl f_wg)), (sa, .inl (c_sa, 25, .inl u_f_sa_5)), (fi, .inl (c_fi, 24, .inl u_f_fi_6)), (hs, .inl (c_hs, 4, .inl f_hs))] ∧ va_S A s.heap H locs ∧ lv_has ls 6 [(5, .int (zI jc)), (4, .int (zI jw)), (3, .int (zI js)), (2, .int (zI jb)), (0, .ref h0), (1, .int (zI w))]) ?_ _ ⟨0, 0, rfl, (by omega), (by omega), hP, hD, hS, hl⟩
            intro n70 ih70 H locs ls hI
            obtain ⟨jw, jc, en70, v_700, v_701, hP, hD, hS, hl⟩ := hI
            refine lv_iload hx hb dX9_enough_70 (lv_at hl 0 rfl) ?_
            refine lv_aload_n hx hb dX9_enough_72 rfl (lv_at hl 4 rfl) ?_
            refine va_get (D := D) (ci := 9) (v := .int (zI u_cl_3)) (C := RX9) (T := TX9) (N := 31) hx hb hts (fun _ h9 => List.mem_cons_of_mem _ (List.mem_append_right _ h9)) hown hK hP 0 rfl rfl 20 (by decide) (hts (.fieldLink RX9 138 "FontRunsModel" "clusters" "I") mw_X9_enough_1) (fun _ h9 => h9) rfl dX9_enough_73 ?_
            refine kz_icmp_ge (tgt := 119) hx hb dX9_enough_76 (by decide) (by omega) (by omega) (fun c_29 => ?_) (fun c_29 => ?_)
            · refine lv_iload hx hb dX9_enough_119 (lv_at hl 1 rfl) ?_
              refine kz_if_eq (tgt := 128) hx hb dX9_enough_121 (by decide) (by omega) (fun c_30 => ?_) (fun c_30 => ?_)
              · refine lv_iload_n hx hb dX9_enough_128 rfl (lv_at hl 3 rfl) ?_
                refine lv_istore_n (lv' := [(2, .int (zI jb)), (5, .int (zI jc)), (4, .int (zI jw)), (3, .int (zI js)), (0, .ref h0), (1, .int (zI w))]) hx hb dX9_enough_129 rfl hl (by decide) rfl (fun ls hl => ?_)
                refine lv_iinc (v := (zI (js + 1))) (lv' := [(3, .int (zI (js + 1))), (2, .int (zI jb)), (5, .int (zI jc)), (4, .int (zI jw)), (0, .ref h0), (1, .int (zI w))]) hx hb dX9_enough_130 hl (k := 3) rfl (kz_inc _ 1) (by decide) rfl (fun ls hl => ?_)
                refine lv_goto (tgt := 33) hx hb dX9_enough_133 (by decide) ?_
                exact ih33 _ (by omega) _ _ _ ⟨jb, (js + 1), rfl, v_330, (by omega), hP, hD, hS, lv_sub hl [0, 1, 4, 5] rfl⟩
              · refine lv_iload_n hx hb dX9_enough_124 rfl (lv_at hl 2 rfl) ?_
                refine lv_goto (tgt := 129) hx hb dX9_enough_125 (by decide) ?_
                refine lv_istore_n (lv' := [(2, .int (zI js)), (5, .int (zI jc)), (4, .int (zI jw)), (3, .int (zI js)), (0, .ref h0), (1, .int (zI w))]) hx hb dX9_enough_129 rfl hl (by decide) rfl (fun ls hl => ?_)
                refine lv_iinc (v := (zI (js + 1))) (lv' := [(3, .int (zI (js + 1))), (2, .int (zI js)), (5, .int (zI jc)), (4, .int (zI jw)), (0, .ref h0), (1, .int (zI w))]) hx hb dX9_enough_130 hl (k := 3) rfl (kz_inc _ 1) (by decide) rfl (fun ls hl => ?_)
                refine lv_goto (tgt := 33) hx hb dX9_enough_133 (by decide) ?_
                exact ih33 _ (by omega) _ _ _ ⟨js, (js + 1), rfl, (by omega), (by omega), hP, hD, hS, lv_sub hl [0, 1, 4, 5] rfl⟩
            · refine lv_iload hx hb dX9_enough_79 (lv_at hl 1 rfl) ?_
              refine kz_if_eq (tgt := 110) hx hb dX9_enough_81 (by decide) (by omega) (fun c_31 => ?_) (fun c_31 => ?_)
              · refine lv_iconst (v := zI 0) hx hb dX9_enough_110 rfl ?_
                refine lv_istore (lv' := [(4, .int (zI 0)), (5, .int (zI jc)), (3, .int (zI js)), (2, .int (zI jb)), (0, .ref h0), (1, .int (zI w))]) hx hb dX9_enough_111 hl (by decide) rfl (fun ls hl => ?_)
                refine lv_iinc (v := (zI (jc + 1))) (lv' := [(5, .int (zI (jc + 1))), (4, .int (zI 0)), (3, .int (zI js)), (2, .int (zI jb)), (0, .ref h0), (1, .int (zI w))]) hx hb dX9_enough_113 hl (k := 1) rfl (kz_inc _ 1) (by decide) rfl (fun ls hl => ?_)
                refine lv_goto (tgt := 70) hx hb dX9_enough_116 (by decide) ?_
                exact ih70 _ (by omega) _ _ _ ⟨0, (jc + 1), rfl, (by omega), (by omega), hP, hD, hS, lv_sub hl [0, 1, 2, 3, 4, 5] rfl⟩
              · refine lv_aload_n hx hb dX9_enough_84 rfl (lv_at hl 4 rfl) ?_
                refine va_get (D := D) (ci := 9) (v := .ref fi) (C := RX9) (T := TX9) (N := 31) hx hb hts (fun _ h9 => List.mem_cons_of_mem _ (List.mem_append_right _ h9)) hown hK hP 0 rfl rfl 22 (by decide) (hts (.fieldLink RX9 49 "FontRunsModel" "fits" "[I") mw_X9_enough_2) (fun _ h9 => h9) rfl dX9_enough_85 ?_
                refine lv_iload hx hb dX9_enough_88 (lv_at hl 0 rfl) ?_
                refine kz_iald hx hb hK hP 3 2 rfl rfl (by omega) dX9_enough_90 (fun z_32 rz_32 ez_32 => ?_)
                refine kz_if_eq (tgt := 106) hx hb dX9_enough_91 (by decide) (by omega) (fun c_33 => ?_) (fun c_33 => ?_)
                · refine lv_iconst (v := zI 1) hx hb dX9_enough_106 rfl ?_
                  refine lv_goto (tgt := 111) hx hb dX9_enough_107 (by decide) ?_
                  refine lv_istore (lv' := [(4, .int (zI 1)), (5, .int (zI jc)), (3, .int (zI js)), (2, .int (zI jb)), (0, .ref h0), (1, .int (zI w))]) hx hb dX9_enough_111 hl (by decide) rfl (fun ls hl => ?_)
                  refine lv_iinc (v := (zI (jc + 1))) (lv' := [(5, .int (zI (jc + 1))), (4, .int (zI 1)), (3, .int (zI js)), (2, .int (zI jb)), (0, .ref h0), (1, .int (zI w))]) hx hb dX9_enough_113 hl (k := 1) rfl (kz_inc _ 1) (by decide) rfl (fun ls hl => ?_)
                  refine lv_goto (tgt := 70) hx hb dX9_enough_116 (by decide) ?_
                  exact ih70 _ (by omega) _ _ _ ⟨1, (jc + 1), rfl, (by omega), (by omega), hP, hD, hS, lv_sub hl [0, 1, 2, 3, 4, 5] rfl⟩
                · refine lv_aload_n hx hb dX9_enough_94 rfl (lv_at hl 4 rfl) ?_
                  refine va_get (D := D) (ci := 9) (v := .ref fi) (C := RX9) (T := TX9) (N := 31) hx hb hts (fun _ h9 => List.mem_cons_of_mem _ (List.mem_append_right _ h9)) hown hK hP 0 rfl rfl 22 (by decide) (hts (.fieldLink RX9 49 "FontRunsModel" "fits" "[I") mw_X9_enough_2) (fun _ h9 => h9) rfl dX9_enough_95 ?_
                  refine lv_iload hx hb dX9_enough_98 (lv_at hl 0 rfl) ?_
                  refine kz_iald hx hb hK hP 3 2 rfl rfl (by omega) dX9_enough_100 (fun z_34 rz_34 ez_34 => ?_)
                  have q9 : z_32 = z_34 := (zI_eq rz_32 rz_34).mp (ez_32.symm.trans ez_34)
                  subst q9
                  refine lv_iload_n hx hb dX9_enough_101 rfl (lv_at hl 2 rfl) ?_
                  refine lv_iand hx hb dX9_enough_102 ?_
                  refine kz_any (fun z_35 rz_35 ez_35 => ?_)
                  refine kz_if_eq (tgt := 110) hx hb dX9_enough_103 (by decide) (by omega) (fun c_36 => ?_) (fun c_36 => ?_)
                  · refine lv_iconst (v := zI 0) hx hb dX9_enough_110 rfl ?_
                    refine lv_istore (lv' := [(4, .int (zI 0)), (5, .int (zI jc)), (3, .int (zI js)), (2, .int (zI jb)), (0, .ref h0), (1, .int (zI w))]) hx hb dX9_enough_111 hl (by decide) rfl (fun ls hl => ?_)
                    refine lv_iinc (v := (zI (jc + 1))) (lv' := [(5, .int (zI (jc + 1))), (4, .int (zI 0)), (3, .int (zI js)), (2, .int (zI jb)), (0, .ref h0), (1, .int (zI w))]) hx hb dX9_enough_113 hl (k := 1) rfl (kz_inc _ 1) (by decide) rfl (fun ls hl => ?_)
                    refine lv_goto (tgt := 70) hx hb dX9_enough_116 (by decide) ?_
                    exact ih70 _ (by omega) _ _ _ ⟨0, (jc + 1), rfl, (by omega), (by omega), hP, hD, hS, lv_sub hl [0, 1, 2, 3, 4, 5] rfl⟩
                  · refine lv_iconst (v := zI 1) hx hb dX9_enough_106 rfl ?_
                    refine lv_goto (tgt := 111) hx hb dX9_enough_107 (by decide) ?_
                    refine lv_istore (lv' := [(4, .int (zI 1)), (5, .int (zI jc)), (3, .int (zI js)), (2, .int (zI jb)), (0, .ref h0), (1, .int (zI w))]) hx hb dX9_enough_111 hl (by decide) rfl (fun ls hl => ?_)
                    refine lv_iinc (v := (zI (jc + 1))) (lv' := [(5, .int (zI (jc + 1))), (4, .int (zI 1)), (3, .int (zI js)), (2, .int (zI jb)), (0, .ref h0), (1, .int (zI w))]) hx hb dX9_enough_113 hl (k := 1) rfl (kz_inc _ 1) (by decide) rfl (fun ls hl => ?_)
                    refine lv_goto (tgt := 70) hx hb dX9_enough_116 (by decide) ?_
                    exact ih70 _ (by omega) _ _ _ ⟨1, (jc + 1), rfl, (by omega), (by omega), hP, hD, hS, lv_sub hl [0, 1, 2, 3, 4, 5] rfl⟩
          · refine lv_iconst (v := zI 1) hx hb dX9_enough_60 rfl ?_
            refine lv_goto (tgt := 65) hx hb dX9_enough_61 (by decide) ?_
            refine lv_istore (lv' := [(4, .int (zI 1)), (3, .int (zI js)), (2, .int (zI jb)), (0, .ref h0), (1, .int (zI w))]) hx hb dX9_enough_65 hl (by decide) rfl (fun ls hl => ?_)
            refine lv_iconst (v := zI 0) hx hb dX9_enough_67 rfl ?_
            refine lv_istore (lv' := [(5, .int (zI 0)), (4, .int (zI 1)), (3, .int (zI js)), (2, .int (zI jb)), (0, .ref h0), (1, .int (zI w))]) hx hb dX9_enough_68 hl (by decide) rfl (fun ls hl => ?_)
            refine k_loopM (I := fun n9 H locs ls => ∃ (jw : Int) (jc : Int), n9 = (u_cl_3 - jc).toNat ∧ (jw = 0 ∨ jw = 1) ∧ (0 ≤ jc ∧ jc ≤ u_cl_3) ∧ va_P D vwCl [(h0, .inr (9, [.int (zI fa), .int (zI tc), .ref so, .ref sl, .ref ce, .int (zI fn), .ref kd, .ref wd, .ref hs, .ref pf, .ref lt, .int (zI mn), .ref wg, .int (zI ta), .long ck, .int (zI at9), .int (zI rfn), .ref rk, .ref rw, .ref rh, .int (zI u_cl_3), .ref sa, .ref fi, .int (zI u_bo_4), .ref ch, .ref cn, .int (zI ad), .int (zI ru), .ref kp, .int (zI dn), .ref rfa])), (wg, .inl (c_wg, 24, .inl f_wg)), (sa, .inl (c_sa, 25, .inl u_f_sa_5)), (fi, .inl (c_fi, 24, .inl u_f_fi_6)), (hs, .inl (c_hs, 4, .inl f_hs))] H ∧ va_D A [(h0, .inr (9, [.int (zI fa), .int (zI tc), .ref so, .ref sl, .ref ce, .int (zI fn), .ref kd, .ref wd, .ref hs, .ref pf, .ref lt, .int (zI mn), .ref wg, .int (zI ta), .long ck, .int (zI at9), .int (zI rfn), .ref rk, .ref rw, .ref rh, .int (zI u_cl_3), .ref sa, .ref fi, .int (zI u_bo_4), .ref ch, .ref cn, .int (zI ad), .int (zI ru), .ref kp, .int (zI dn), .ref rfa])), (wg, .inl (c_wg, 24, .inl f_wg)), (sa, .inl (c_sa, 25, .inl u_f_sa_5)), (fi, .inl (c_fi, 24, .inl u_f_fi_6)), (hs, .inl (c_hs, 4, .inl f_hs))] ∧ va_S A s.heap H locs ∧ lv_has ls 6 [(5, .int (zI jc)), (4, .int (zI jw)), (3, .int (zI js)), (2, .int (zI jb)), (0, .ref h0), (1, .int (zI w))]) ?_ _ ⟨1, 0, rfl, (by omega), (by omega), hP, hD, hS, hl⟩
            intro n70 ih70 H locs ls hI
            obtain ⟨jw, jc, en70, v_700, v_701, hP, hD, hS, hl⟩ := hI
            refine lv_iload hx hb dX9_enough_70 (lv_at hl 0 rfl) ?_
            refine lv_aload_n hx hb dX9_enough_72 rfl (lv_at hl 4 rfl) ?_
            refine va_get (D := D) (ci := 9) (v := .int (zI u_cl_3)) (C := RX9) (T := TX9) (N := 31) hx hb hts (fun _ h9 => List.mem_cons_of_mem _ (List.mem_append_right _ h9)) hown hK hP 0 rfl rfl 20 (by decide) (hts (.fieldLink RX9 138 "FontRunsModel" "clusters" "I") mw_X9_enough_1) (fun _ h9 => h9) rfl dX9_enough_73 ?_
            refine kz_icmp_ge (tgt := 119) hx hb dX9_enough_76 (by decide) (by omega) (by omega) (fun c_37 => ?_) (fun c_37 => ?_)
            · refine lv_iload hx hb dX9_enough_119 (lv_at hl 1 rfl) ?_
              refine kz_if_eq (tgt := 128) hx hb dX9_enough_121 (by decide) (by omega) (fun c_38 => ?_) (fun c_38 => ?_)
              · refine lv_iload_n hx hb dX9_enough_128 rfl (lv_at hl 3 rfl) ?_
                refine lv_istore_n (lv' := [(2, .int (zI jb)), (5, .int (zI jc)), (4, .int (zI jw)), (3, .int (zI js)), (0, .ref h0), (1, .int (zI w))]) hx hb dX9_enough_129 rfl hl (by decide) rfl (fun ls hl => ?_)
                refine lv_iinc (v := (zI (js + 1))) (lv' := [(3, .int (zI (js + 1))), (2, .int (zI jb)), (5, .int (zI jc)), (4, .int (zI jw)), (0, .ref h0), (1, .int (zI w))]) hx hb dX9_enough_130 hl (k := 3) rfl (kz_inc _ 1) (by decide) rfl (fun ls hl => ?_)
                refine lv_goto (tgt := 33) hx hb dX9_enough_133 (by decide) ?_
                exact ih33 _ (by omega) _ _ _ ⟨jb, (js + 1), rfl, v_330, (by omega), hP, hD, hS, lv_sub hl [0, 1, 4, 5] rfl⟩
              · refine lv_iload_n hx hb dX9_enough_124 rfl (lv_at hl 2 rfl) ?_
                refine lv_goto (tgt := 129) hx hb dX9_enough_125 (by decide) ?_
                refine lv_istore_n (lv' := [(2, .int (zI js)), (5, .int (zI jc)), (4, .int (zI jw)), (3, .int (zI js)), (0, .ref h0), (1, .int (zI w))]) hx hb dX9_enough_129 rfl hl (by decide) rfl (fun ls hl => ?_)
                refine lv_iinc (v := (zI (js + 1))) (lv' := [(3, .int (zI (js + 1))), (2, .int (zI js)), (5, .int (zI jc)), (4, .int (zI jw)), (0, .ref h0), (1, .int (zI w))]) hx hb dX9_enough_130 hl (k := 3) rfl (kz_inc _ 1) (by decide) rfl (fun ls hl => ?_)
                refine lv_goto (tgt := 33) hx hb dX9_enough_133 (by decide) ?_
                exact ih33 _ (by omega) _ _ _ ⟨js, (js + 1), rfl, (by omega), (by omega), hP, hD, hS, lv_sub hl [0, 1, 4, 5] rfl⟩
            · refine lv_iload hx hb dX9_enough_79 (lv_at hl 1 rfl) ?_
              refine kz_if_eq (tgt := 110) hx hb dX9_enough_81 (by decide) (by omega) (fun c_39 => ?_) (fun c_39 => ?_)
              · refine lv_iconst (v := zI 0) hx hb dX9_enough_110 rfl ?_
                refine lv_istore (lv' := [(4, .int (zI 0)), (5, .int (zI jc)), (3, .int (zI js)), (2, .int (zI jb)), (0, .ref h0), (1, .int (zI w))]) hx hb dX9_enough_111 hl (by decide) rfl (fun ls hl => ?_)
                refine lv_iinc (v := (zI (jc + 1))) (lv' := [(5, .int (zI (jc + 1))), (4, .int (zI 0)), (3, .int (zI js)), (2, .int (zI jb)), (0, .ref h0), (1, .int (zI w))]) hx hb dX9_enough_113 hl (k := 1) rfl (kz_inc _ 1) (by decide) rfl (fun ls hl => ?_)
                refine lv_goto (tgt := 70) hx hb dX9_enough_116 (by decide) ?_
                exact ih70 _ (by omega) _ _ _ ⟨0, (jc + 1), rfl, (by omega), (by omega), hP, hD, hS, lv_sub hl [0, 1, 2, 3, 4, 5] rfl⟩
              · refine lv_aload_n hx hb dX9_enough_84 rfl (lv_at hl 4 rfl) ?_
                refine va_get (D := D) (ci := 9) (v := .ref fi) (C := RX9) (T := TX9) (N := 31) hx hb hts (fun _ h9 => List.mem_cons_of_mem _ (List.mem_append_right _ h9)) hown hK hP 0 rfl rfl 22 (by decide) (hts (.fieldLink RX9 49 "FontRunsModel" "fits" "[I") mw_X9_enough_2) (fun _ h9 => h9) rfl dX9_enough_85 ?_
                refine lv_iload hx hb dX9_enough_88 (lv_at hl 0 rfl) ?_
                refine kz_iald hx hb hK hP 3 2 rfl rfl (by omega) dX9_enough_90 (fun z_40 rz_40 ez_40 => ?_)
                refine kz_if_eq (tgt := 106) hx hb dX9_enough_91 (by decide) (by omega) (fun c_41 => ?_) (fun c_41 => ?_)
                · refine lv_iconst (v := zI 1) hx hb dX9_enough_106 rfl ?_
                  refine lv_goto (tgt := 111) hx hb dX9_enough_107 (by decide) ?_
                  refine lv_istore (lv' := [(4, .int (zI 1)), (5, .int (zI jc)), (3, .int (zI js)), (2, .int (zI jb)), (0, .ref h0), (1, .int (zI w))]) hx hb dX9_enough_111 hl (by decide) rfl (fun ls hl => ?_)
                  refine lv_iinc (v := (zI (jc + 1))) (lv' := [(5, .int (zI (jc + 1))), (4, .int (zI 1)), (3, .int (zI js)), (2, .int (zI jb)), (0, .ref h0), (1, .int (zI w))]) hx hb dX9_enough_113 hl (k := 1) rfl (kz_inc _ 1) (by decide) rfl (fun ls hl => ?_)
                  refine lv_goto (tgt := 70) hx hb dX9_enough_116 (by decide) ?_
                  exact ih70 _ (by omega) _ _ _ ⟨1, (jc + 1), rfl, (by omega), (by omega), hP, hD, hS, lv_sub hl [0, 1, 2, 3, 4, 5] rfl⟩
                · refine lv_aload_n hx hb dX9_enough_94 rfl (lv_at hl 4 rfl) ?_
                  refine va_get (D := D) (ci := 9) (v := .ref fi) (C := RX9) (T := TX9) (N := 31) hx hb hts (fun _ h9 => List.mem_cons_of_mem _ (List.mem_append_right _ h9)) hown hK hP 0 rfl rfl 22 (by decide) (hts (.fieldLink RX9 49 "FontRunsModel" "fits" "[I") mw_X9_enough_2) (fun _ h9 => h9) rfl dX9_enough_95 ?_
                  refine lv_iload hx hb dX9_enough_98 (lv_at hl 0 rfl) ?_
                  refine kz_iald hx hb hK hP 3 2 rfl rfl (by omega) dX9_enough_100 (fun z_42 rz_42 ez_42 => ?_)
                  have q9 : z_40 = z_42 := (zI_eq rz_40 rz_42).mp (ez_40.symm.trans ez_42)
                  subst q9
                  refine lv_iload_n hx hb dX9_enough_101 rfl (lv_at hl 2 rfl) ?_
                  refine lv_iand hx hb dX9_enough_102 ?_
                  refine kz_any (fun z_43 rz_43 ez_43 => ?_)
                  refine kz_if_eq (tgt := 110) hx hb dX9_enough_103 (by decide) (by omega) (fun c_44 => ?_) (fun c_44 => ?_)
                  · refine lv_iconst (v := zI 0) hx hb dX9_enough_110 rfl ?_
                    refine lv_istore (lv' := [(4, .int (zI 0)), (5, .int (zI jc)), (3, .int (zI js)), (2, .int (zI jb)), (0, .ref h0), (1, .int (zI w))]) hx hb dX9_enough_111 hl (by decide) rfl (fun ls hl => ?_)
                    refine lv_iinc (v := (zI (jc + 1))) (lv' := [(5, .int (zI (jc + 1))), (4, .int (zI 0)), (3, .int (zI js)), (2, .int (zI jb)), (0, .ref h0), (1, .int (zI w))]) hx hb dX9_enough_113 hl (k := 1) rfl (kz_inc _ 1) (by decide) rfl (fun ls hl => ?_)
                    refine lv_goto (tgt := 70) hx hb dX9_enough_116 (by decide) ?_
                    exact ih70 _ (by omega) _ _ _ ⟨0, (jc + 1), rfl, (by omega), (by omega), hP, hD, hS, lv_sub hl [0, 1, 2, 3, 4, 5] rfl⟩
                  · refine lv_iconst (v := zI 1) hx hb dX9_enough_106 rfl ?_
                    refine lv_goto (tgt := 111) hx hb dX9_enough_107 (by decide) ?_
                    refine lv_istore (lv' := [(4, .int (zI 1)), (5, .int (zI jc)), (3, .int (zI js)), (2, .int (zI jb)), (0, .ref h0), (1, .int (zI w))]) hx hb dX9_enough_111 hl (by decide) rfl (fun ls hl => ?_)
                    refine lv_iinc (v := (zI (jc + 1))) (lv' := [(5, .int (zI (jc + 1))), (4, .int (zI 1)), (3, .int (zI js)), (2, .int (zI jb)), (0, .ref h0), (1, .int (zI w))]) hx hb dX9_enough_113 hl (k := 1) rfl (kz_inc _ 1) (by decide) rfl (fun ls hl => ?_)
                    refine lv_goto (tgt := 70) hx hb dX9_enough_116 (by decide) ?_
                    exact ih70 _ (by omega) _ _ _ ⟨1, (jc + 1), rfl, (by omega), (by omega), hP, hD, hS, lv_sub hl [0, 1, 2, 3, 4, 5] rfl⟩
    · refine lv_bipush (v := zI (-3)) hx hb dX9_enough_19 (by decide) ?_
      have hP9 := hP.sub (ws' := [(h0, .inr (9, [.int (zI fa), .int (zI tc), .ref so, .ref sl, .ref ce, .int (zI fn), .ref kd, .ref wd, .ref hs, .ref pf, .ref lt, .int (zI mn), .ref wg, .int (zI ta), .long ck, .int (zI at9), .int (zI rfn), .ref rk, .ref rw, .ref rh, .int (zI cl), .ref sa, .ref fi, .int (zI bo), .ref ch, .ref cn, .int (zI ad), .int (zI ru), .ref kp, .int (zI dn), .ref rfa])), (wg, .inl (c_wg, 24, .inl f_wg)), (sa, .inl (c_sa, 25, .inl f_sa)), (fi, .inl (c_fi, 24, .inl f_fi)), (hs, .inl (c_hs, 4, .inl f_hs))]) [0, 1, 2, 3, 4] rfl
      have hD9 := hD.sub (ws' := [(h0, .inr (9, [.int (zI fa), .int (zI tc), .ref so, .ref sl, .ref ce, .int (zI fn), .ref kd, .ref wd, .ref hs, .ref pf, .ref lt, .int (zI mn), .ref wg, .int (zI ta), .long ck, .int (zI at9), .int (zI rfn), .ref rk, .ref rw, .ref rh, .int (zI cl), .ref sa, .ref fi, .int (zI bo), .ref ch, .ref cn, .int (zI ad), .int (zI ru), .ref kp, .int (zI dn), .ref rfa])), (wg, .inl (c_wg, 24, .inl f_wg)), (sa, .inl (c_sa, 25, .inl f_sa)), (fi, .inl (c_fi, 24, .inl f_fi)), (hs, .inl (c_hs, 4, .inl f_hs))]) [0, 1, 2, 3, 4] (by decide +kernel) rfl
      exact W.iret (v := (zI (-3))) hx hb hr (fun t ht hW => kQS_of (by omega) ⟨cl, bo, f_sa, f_fi, q3, q4, by rw [ht]; exact hP9, hD9⟩ (hS.F ht)) hS.2.2 dX9_enough_21
  · have c_1 : ¬ (0 ≤ w ∧ w ≤ 1) := b01f c_1
    refine lv_bipush (v := zI (-2)) hx hb dX9_enough_9 (by decide) ?_
    have hP9 := hP.sub (ws' := [(h0, .inr (9, [.int (zI fa), .int (zI tc), .ref so, .ref sl, .ref ce, .int (zI fn), .ref kd, .ref wd, .ref hs, .ref pf, .ref lt, .int (zI mn), .ref wg, .int (zI ta), .long ck, .int (zI at9), .int (zI rfn), .ref rk, .ref rw, .ref rh, .int (zI cl), .ref sa, .ref fi, .int (zI bo), .ref ch, .ref cn, .int (zI ad), .int (zI ru), .ref kp, .int (zI dn), .ref rfa])), (wg, .inl (c_wg, 24, .inl f_wg)), (sa, .inl (c_sa, 25, .inl f_sa)), (fi, .inl (c_fi, 24, .inl f_fi)), (hs, .inl (c_hs, 4, .inl f_hs))]) [0, 1, 2, 3, 4] rfl
    have hD9 := hD.sub (ws' := [(h0, .inr (9, [.int (zI fa), .int (zI tc), .ref so, .ref sl, .ref ce, .int (zI fn), .ref kd, .ref wd, .ref hs, .ref pf, .ref lt, .int (zI mn), .ref wg, .int (zI ta), .long ck, .int (zI at9), .int (zI rfn), .ref rk, .ref rw, .ref rh, .int (zI cl), .ref sa, .ref fi, .int (zI bo), .ref ch, .ref cn, .int (zI ad), .int (zI ru), .ref kp, .int (zI dn), .ref rfa])), (wg, .inl (c_wg, 24, .inl f_wg)), (sa, .inl (c_sa, 25, .inl f_sa)), (fi, .inl (c_fi, 24, .inl f_fi)), (hs, .inl (c_hs, 4, .inl f_hs))]) [0, 1, 2, 3, 4] (by decide +kernel) rfl
    exact W.iret (v := (zI (-2))) hx hb hr (fun t ht hW => kQS_of (by omega) ⟨cl, bo, f_sa, f_fi, q3, q4, by rw [ht]; exact hP9, hD9⟩ (hS.F ht)) hS.2.2 dX9_enough_11
