theorem kRw_le {ch fi : Nat → Int32} {fn cl wo c j : Int} (h : kRw ch fi fn cl wo c j) (hj : fn ≤ j) : kRw ch fi fn cl wo c fn := fun f a b => h f a (by omega)
theorem kBe_le {ch fi : Nat → Int32} {wo j fn b : Int} (h : kBe ch fi wo j b) (e : j = fn) : kBe ch fi wo fn b := e ▸ h
theorem kDp_eq {ch fi : Nat → Int32} {fn cl wo c c2 : Int} (h : kDp ch fi fn cl wo c) (e : c = c2) : kDp ch fi fn cl wo c2 := e ▸ h
theorem kch_at0 {ch : Nat → Int32} {f z : Int} (hz : rg z) (e : ch f.toNat = zI z) : kch ch 0 f = z := by
  unfold kch
  rw [show 4 * 0 + f = f by omega, e, zI_toInt hz]
theorem dX9_findChanges_0 : decode cX9_findChanges 0 = .ok (.aload_n 0, 1) := by decide +kernel
theorem dX9_findChanges_1 : decode cX9_findChanges 1 = .ok (.iload_n 1, 1) := by decide +kernel
theorem dX9_findChanges_2 : decode cX9_findChanges 2 = .ok (.invokevirtual 147, 3) := by decide +kernel
theorem dX9_findChanges_5 : decode cX9_findChanges 5 = .ok (.aload_n 0, 1) := by decide +kernel
theorem dX9_findChanges_6 : decode cX9_findChanges 6 = .ok (.getfield 138, 3) := by decide +kernel
theorem dX9_findChanges_9 : decode cX9_findChanges 9 = .ok (.iconst 1, 1) := by decide +kernel
theorem dX9_findChanges_10 : decode cX9_findChanges 10 = .ok (.isub, 1) := by decide +kernel
theorem dX9_findChanges_11 : decode cX9_findChanges 11 = .ok (.istore_n 2, 1) := by decide +kernel
theorem dX9_findChanges_12 : decode cX9_findChanges 12 = .ok (.iload_n 2, 1) := by decide +kernel
theorem dX9_findChanges_13 : decode cX9_findChanges 13 = .ok (.ifCond .lt 42, 3) := by decide +kernel
theorem dX9_findChanges_16 : decode cX9_findChanges 16 = .ok (.iconst 0, 1) := by decide +kernel
theorem dX9_findChanges_17 : decode cX9_findChanges 17 = .ok (.istore_n 3, 1) := by decide +kernel
theorem dX9_findChanges_18 : decode cX9_findChanges 18 = .ok (.iload_n 3, 1) := by decide +kernel
theorem dX9_findChanges_19 : decode cX9_findChanges 19 = .ok (.aload_n 0, 1) := by decide +kernel
theorem dX9_findChanges_20 : decode cX9_findChanges 20 = .ok (.getfield 74, 3) := by decide +kernel
theorem dX9_findChanges_23 : decode cX9_findChanges 23 = .ok (.if_icmp .ge 26, 3) := by decide +kernel
theorem dX9_findChanges_26 : decode cX9_findChanges 26 = .ok (.aload_n 0, 1) := by decide +kernel
theorem dX9_findChanges_27 : decode cX9_findChanges 27 = .ok (.getfield 52, 3) := by decide +kernel
theorem dX9_findChanges_30 : decode cX9_findChanges 30 = .ok (.iconst 4, 1) := by decide +kernel
theorem dX9_findChanges_31 : decode cX9_findChanges 31 = .ok (.iload_n 2, 1) := by decide +kernel
theorem dX9_findChanges_32 : decode cX9_findChanges 32 = .ok (.imul, 1) := by decide +kernel
theorem dX9_findChanges_33 : decode cX9_findChanges 33 = .ok (.iload_n 3, 1) := by decide +kernel
theorem dX9_findChanges_34 : decode cX9_findChanges 34 = .ok (.iadd, 1) := by decide +kernel
theorem dX9_findChanges_35 : decode cX9_findChanges 35 = .ok (.aload_n 0, 1) := by decide +kernel
theorem dX9_findChanges_36 : decode cX9_findChanges 36 = .ok (.iload_n 2, 1) := by decide +kernel
theorem dX9_findChanges_37 : decode cX9_findChanges 37 = .ok (.iload_n 3, 1) := by decide +kernel
theorem dX9_findChanges_38 : decode cX9_findChanges 38 = .ok (.iload_n 1, 1) := by decide +kernel
theorem dX9_findChanges_39 : decode cX9_findChanges 39 = .ok (.invokevirtual 151, 3) := by decide +kernel
theorem dX9_findChanges_42 : decode cX9_findChanges 42 = .ok (.iastore, 1) := by decide +kernel
theorem dX9_findChanges_43 : decode cX9_findChanges 43 = .ok (.iinc 3 1, 3) := by decide +kernel
theorem dX9_findChanges_46 : decode cX9_findChanges 46 = .ok (.goto (-28), 3) := by decide +kernel
theorem dX9_findChanges_49 : decode cX9_findChanges 49 = .ok (.iinc 2 (-1), 3) := by decide +kernel
theorem dX9_findChanges_52 : decode cX9_findChanges 52 = .ok (.goto (-40), 3) := by decide +kernel
theorem dX9_findChanges_55 : decode cX9_findChanges 55 = .ok (.aload_n 0, 1) := by decide +kernel
theorem dX9_findChanges_56 : decode cX9_findChanges 56 = .ok (.getfield 138, 3) := by decide +kernel
theorem dX9_findChanges_59 : decode cX9_findChanges 59 = .ok (.ifCond .ne 7, 3) := by decide +kernel
theorem dX9_findChanges_62 : decode cX9_findChanges 62 = .ok (.iconst 0, 1) := by decide +kernel
theorem dX9_findChanges_63 : decode cX9_findChanges 63 = .ok (.goto 5, 3) := by decide +kernel
theorem dX9_findChanges_66 : decode cX9_findChanges 66 = .ok (.bipush 24, 2) := by decide +kernel
theorem dX9_findChanges_68 : decode cX9_findChanges 68 = .ok (.istore_n 2, 1) := by decide +kernel
theorem dX9_findChanges_69 : decode cX9_findChanges 69 = .ok (.iconst 0, 1) := by decide +kernel
theorem dX9_findChanges_70 : decode cX9_findChanges 70 = .ok (.istore_n 3, 1) := by decide +kernel
theorem dX9_findChanges_71 : decode cX9_findChanges 71 = .ok (.iload_n 3, 1) := by decide +kernel
theorem dX9_findChanges_72 : decode cX9_findChanges 72 = .ok (.aload_n 0, 1) := by decide +kernel
theorem dX9_findChanges_73 : decode cX9_findChanges 73 = .ok (.getfield 74, 3) := by decide +kernel
theorem dX9_findChanges_76 : decode cX9_findChanges 76 = .ok (.if_icmp .ge 47, 3) := by decide +kernel
theorem dX9_findChanges_79 : decode cX9_findChanges 79 = .ok (.aload_n 0, 1) := by decide +kernel
theorem dX9_findChanges_80 : decode cX9_findChanges 80 = .ok (.getfield 138, 3) := by decide +kernel
theorem dX9_findChanges_83 : decode cX9_findChanges 83 = .ok (.ifCond .le 40, 3) := by decide +kernel
theorem dX9_findChanges_86 : decode cX9_findChanges 86 = .ok (.aload_n 0, 1) := by decide +kernel
theorem dX9_findChanges_87 : decode cX9_findChanges 87 = .ok (.iconst 0, 1) := by decide +kernel
theorem dX9_findChanges_88 : decode cX9_findChanges 88 = .ok (.iload_n 3, 1) := by decide +kernel
theorem dX9_findChanges_89 : decode cX9_findChanges 89 = .ok (.iload_n 1, 1) := by decide +kernel
theorem dX9_findChanges_90 : decode cX9_findChanges 90 = .ok (.invokevirtual 144, 3) := by decide +kernel
theorem dX9_findChanges_93 : decode cX9_findChanges 93 = .ok (.ifCond .eq 22, 3) := by decide +kernel
theorem dX9_findChanges_96 : decode cX9_findChanges 96 = .ok (.aload_n 0, 1) := by decide +kernel
theorem dX9_findChanges_97 : decode cX9_findChanges 97 = .ok (.getfield 52, 3) := by decide +kernel
theorem dX9_findChanges_100 : decode cX9_findChanges 100 = .ok (.iload_n 3, 1) := by decide +kernel
theorem dX9_findChanges_101 : decode cX9_findChanges 101 = .ok (.iaload, 1) := by decide +kernel
theorem dX9_findChanges_102 : decode cX9_findChanges 102 = .ok (.iload_n 2, 1) := by decide +kernel
theorem dX9_findChanges_103 : decode cX9_findChanges 103 = .ok (.if_icmp .ge 12, 3) := by decide +kernel
theorem dX9_findChanges_106 : decode cX9_findChanges 106 = .ok (.aload_n 0, 1) := by decide +kernel
theorem dX9_findChanges_107 : decode cX9_findChanges 107 = .ok (.getfield 52, 3) := by decide +kernel
theorem dX9_findChanges_110 : decode cX9_findChanges 110 = .ok (.iload_n 3, 1) := by decide +kernel
theorem dX9_findChanges_111 : decode cX9_findChanges 111 = .ok (.iaload, 1) := by decide +kernel
theorem dX9_findChanges_112 : decode cX9_findChanges 112 = .ok (.goto 4, 3) := by decide +kernel
theorem dX9_findChanges_115 : decode cX9_findChanges 115 = .ok (.iload_n 2, 1) := by decide +kernel
theorem dX9_findChanges_116 : decode cX9_findChanges 116 = .ok (.istore_n 2, 1) := by decide +kernel
theorem dX9_findChanges_117 : decode cX9_findChanges 117 = .ok (.iinc 3 1, 3) := by decide +kernel
theorem dX9_findChanges_120 : decode cX9_findChanges 120 = .ok (.goto (-49), 3) := by decide +kernel
theorem dX9_findChanges_123 : decode cX9_findChanges 123 = .ok (.iload_n 2, 1) := by decide +kernel
theorem dX9_findChanges_124 : decode cX9_findChanges 124 = .ok (.ireturn, 1) := by decide +kernel
set_option maxRecDepth 20000 in
theorem ggX9_findChanges_X9_canSet : GoodIn wsX9_findChanges wsX9_canSet := goodIn_4 _ (List.forall_mem_cons.mpr ⟨List.mem_cons_of_mem _ (List.mem_append_left _ (List.mem_append_left _ (List.mem_of_getElem? (i := 21) rfl))), List.forall_mem_append.mpr ⟨List.forall_mem_cons.mpr ⟨List.mem_cons_of_mem _ (List.mem_append_left _ (List.mem_append_left _ (List.mem_of_getElem? (i := 12) rfl))), List.forall_mem_cons.mpr ⟨List.mem_cons_of_mem _ (List.mem_append_left _ (List.mem_append_left _ (List.mem_of_getElem? (i := 22) rfl))), List.forall_mem_cons.mpr ⟨List.mem_cons_of_mem _ (List.mem_append_left _ (List.mem_append_left _ (List.mem_of_getElem? (i := 23) rfl))), List.forall_mem_cons.mpr ⟨List.mem_cons_of_mem _ (List.mem_append_left _ (List.mem_append_left _ (List.mem_of_getElem? (i := 6) rfl))), List.forall_mem_cons.mpr ⟨List.mem_cons_of_mem _ (List.mem_append_left _ (List.mem_append_right _ (List.mem_of_getElem? (i := 0) rfl))), fun _ h9 => absurd h9 List.not_mem_nil⟩⟩⟩⟩⟩, fun w h9 => List.mem_cons_of_mem _ (List.mem_append_right _ (h9))⟩⟩) (by decide +kernel)
set_option maxRecDepth 20000 in
theorem gX9_findChanges_X9_canSet : GoodIn wsX9_findChanges (wsV RX9 144 RX9 yX9_canSet wsX9_canSet) := goodIn_app (goodIn_4 _ (List.forall_mem_cons.mpr ⟨List.mem_cons_of_mem _ (List.mem_append_left _ (List.mem_append_left _ (List.mem_of_getElem? (i := 18) rfl))), List.forall_mem_cons.mpr ⟨List.mem_cons_of_mem _ (List.mem_append_left _ (List.mem_append_left _ (List.mem_of_getElem? (i := 19) rfl))), List.forall_mem_cons.mpr ⟨List.mem_cons_of_mem _ (List.mem_append_left _ (List.mem_append_left _ (List.mem_of_getElem? (i := 20) rfl))), List.forall_mem_cons.mpr ⟨List.mem_cons_of_mem _ (List.mem_append_left _ (List.mem_append_left _ (List.mem_of_getElem? (i := 6) rfl))), fun _ h9 => absurd h9 List.not_mem_nil⟩⟩⟩⟩) (by decide +kernel)) ggX9_findChanges_X9_canSet
set_option maxRecDepth 20000 in
theorem ggX9_findChanges_X9_fewestBehind : GoodIn wsX9_findChanges wsX9_fewestBehind := goodIn_4 _ (List.forall_mem_cons.mpr ⟨List.mem_cons_of_mem _ (List.mem_append_left _ (List.mem_append_left _ (List.mem_of_getElem? (i := 17) rfl))), List.forall_mem_append.mpr ⟨List.forall_mem_cons.mpr ⟨List.mem_cons_of_mem _ (List.mem_append_left _ (List.mem_append_left _ (List.mem_of_getElem? (i := 0) rfl))), List.forall_mem_cons.mpr ⟨List.mem_cons_of_mem _ (List.mem_append_left _ (List.mem_append_left _ (List.mem_of_getElem? (i := 1) rfl))), List.forall_mem_cons.mpr ⟨List.mem_cons_of_mem _ (List.mem_append_left _ (List.mem_append_left _ (List.mem_of_getElem? (i := 2) rfl))), List.forall_mem_cons.mpr ⟨List.mem_cons_of_mem _ (List.mem_append_left _ (List.mem_append_left _ (List.mem_of_getElem? (i := 18) rfl))), List.forall_mem_cons.mpr ⟨List.mem_cons_of_mem _ (List.mem_append_left _ (List.mem_append_left _ (List.mem_of_getElem? (i := 19) rfl))), List.forall_mem_cons.mpr ⟨List.mem_cons_of_mem _ (List.mem_append_left _ (List.mem_append_left _ (List.mem_of_getElem? (i := 20) rfl))), List.forall_mem_cons.mpr ⟨List.mem_cons_of_mem _ (List.mem_append_left _ (List.mem_append_left _ (List.mem_of_getElem? (i := 6) rfl))), List.forall_mem_cons.mpr ⟨List.mem_cons_of_mem _ (List.mem_append_left _ (List.mem_append_left _ (List.mem_of_getElem? (i := 21) rfl))), List.forall_mem_cons.mpr ⟨List.mem_cons_of_mem _ (List.mem_append_left _ (List.mem_append_left _ (List.mem_of_getElem? (i := 12) rfl))), List.forall_mem_cons.mpr ⟨List.mem_cons_of_mem _ (List.mem_append_left _ (List.mem_append_left _ (List.mem_of_getElem? (i := 22) rfl))), List.forall_mem_cons.mpr ⟨List.mem_cons_of_mem _ (List.mem_append_left _ (List.mem_append_left _ (List.mem_of_getElem? (i := 23) rfl))), List.forall_mem_cons.mpr ⟨List.mem_cons_of_mem _ (List.mem_append_left _ (List.mem_append_right _ (List.mem_of_getElem? (i := 0) rfl))), fun _ h9 => absurd h9 List.not_mem_nil⟩⟩⟩⟩⟩⟩⟩⟩⟩⟩⟩⟩, fun w h9 => List.mem_cons_of_mem _ (List.mem_append_right _ (h9))⟩⟩) (by decide +kernel)
set_option maxRecDepth 20000 in
theorem gX9_findChanges_X9_fewestBehind : GoodIn wsX9_findChanges (wsV RX9 151 RX9 yX9_fewestBehind wsX9_fewestBehind) := goodIn_app (goodIn_4 _ (List.forall_mem_cons.mpr ⟨List.mem_cons_of_mem _ (List.mem_append_left _ (List.mem_append_left _ (List.mem_of_getElem? (i := 14) rfl))), List.forall_mem_cons.mpr ⟨List.mem_cons_of_mem _ (List.mem_append_left _ (List.mem_append_left _ (List.mem_of_getElem? (i := 15) rfl))), List.forall_mem_cons.mpr ⟨List.mem_cons_of_mem _ (List.mem_append_left _ (List.mem_append_left _ (List.mem_of_getElem? (i := 16) rfl))), List.forall_mem_cons.mpr ⟨List.mem_cons_of_mem _ (List.mem_append_left _ (List.mem_append_left _ (List.mem_of_getElem? (i := 6) rfl))), fun _ h9 => absurd h9 List.not_mem_nil⟩⟩⟩⟩) (by decide +kernel)) ggX9_findChanges_X9_fewestBehind
set_option maxRecDepth 20000 in
theorem ggX9_findChanges_X9_findClusters : GoodIn wsX9_findChanges wsX9_findClusters := goodIn_4 _ (List.forall_mem_cons.mpr ⟨List.mem_cons_of_mem _ (List.mem_append_left _ (List.mem_append_left _ (List.mem_of_getElem? (i := 7) rfl))), List.forall_mem_append.mpr ⟨List.forall_mem_cons.mpr ⟨List.mem_cons_of_mem _ (List.mem_append_left _ (List.mem_append_left _ (List.mem_of_getElem? (i := 0) rfl))), List.forall_mem_cons.mpr ⟨List.mem_cons_of_mem _ (List.mem_append_left _ (List.mem_append_left _ (List.mem_of_getElem? (i := 8) rfl))), List.forall_mem_cons.mpr ⟨List.mem_cons_of_mem _ (List.mem_append_left _ (List.mem_append_left _ (List.mem_of_getElem? (i := 9) rfl))), List.forall_mem_cons.mpr ⟨List.mem_cons_of_mem _ (List.mem_append_left _ (List.mem_append_left _ (List.mem_of_getElem? (i := 10) rfl))), List.forall_mem_cons.mpr ⟨List.mem_cons_of_mem _ (List.mem_append_left _ (List.mem_append_left _ (List.mem_of_getElem? (i := 11) rfl))), List.forall_mem_cons.mpr ⟨List.mem_cons_of_mem _ (List.mem_append_left _ (List.mem_append_left _ (List.mem_of_getElem? (i := 12) rfl))), List.forall_mem_cons.mpr ⟨List.mem_cons_of_mem _ (List.mem_append_left _ (List.mem_append_left _ (List.mem_of_getElem? (i := 1) rfl))), List.forall_mem_cons.mpr ⟨List.mem_cons_of_mem _ (List.mem_append_left _ (List.mem_append_left _ (List.mem_of_getElem? (i := 13) rfl))), fun _ h9 => absurd h9 List.not_mem_nil⟩⟩⟩⟩⟩⟩⟩⟩, fun w h9 => List.mem_cons_of_mem _ (List.mem_append_right _ (h9))⟩⟩) (by decide +kernel)
set_option maxRecDepth 20000 in
theorem gX9_findChanges_X9_findClusters : GoodIn wsX9_findChanges (wsV RX9 147 RX9 yX9_findClusters wsX9_findClusters) := goodIn_app (goodIn_4 _ (List.forall_mem_cons.mpr ⟨List.mem_cons_of_mem _ (List.mem_append_left _ (List.mem_append_left _ (List.mem_of_getElem? (i := 3) rfl))), List.forall_mem_cons.mpr ⟨List.mem_cons_of_mem _ (List.mem_append_left _ (List.mem_append_left _ (List.mem_of_getElem? (i := 4) rfl))), List.forall_mem_cons.mpr ⟨List.mem_cons_of_mem _ (List.mem_append_left _ (List.mem_append_left _ (List.mem_of_getElem? (i := 5) rfl))), List.forall_mem_cons.mpr ⟨List.mem_cons_of_mem _ (List.mem_append_left _ (List.mem_append_left _ (List.mem_of_getElem? (i := 6) rfl))), fun _ h9 => absurd h9 List.not_mem_nil⟩⟩⟩⟩) (by decide +kernel)) ggX9_findChanges_X9_findClusters
set_option maxRecDepth 20000 in
theorem mw_X9_findChanges_0 : (.fieldLink RX9 138 "FontRunsModel" "clusters" "I" : Cond) ∈ wsX9_findChanges := List.mem_cons_of_mem _ (List.mem_append_left _ (List.mem_append_left _ (List.mem_of_getElem? (i := 0) rfl)))
set_option maxRecDepth 20000 in
theorem mw_X9_findChanges_1 : (.fieldLink RX9 74 "FontRunsModel" "fonts" "I" : Cond) ∈ wsX9_findChanges := List.mem_cons_of_mem _ (List.mem_append_left _ (List.mem_append_left _ (List.mem_of_getElem? (i := 1) rfl)))
set_option maxRecDepth 20000 in
theorem mw_X9_findChanges_2 : (.fieldLink RX9 52 "FontRunsModel" "changes" "[I" : Cond) ∈ wsX9_findChanges := List.mem_cons_of_mem _ (List.mem_append_left _ (List.mem_append_left _ (List.mem_of_getElem? (i := 2) rfl)))
theorem ax_X9_findChanges_0 {e0 e1 e2 e3 e4 e5 : Nat × va_E} : ([0, 1, 2, 3, 4] : List Nat).map (fun i => ([e0, e1, e2, e3, e4, e5] : va_W)[i]?) = ([e0, e1, e2, e3, e4] : va_W).map some := rfl
theorem ax_X9_findChanges_1 {e0 e1 e2 e3 e4 e5 : Nat × va_E} : ([5] : List Nat).map (fun i => ([e0, e1, e2, e3, e4, e5] : va_W)[i]?) = ([e5] : va_W).map some := rfl
theorem ax_X9_findChanges_2 {D : va_G} {cl : List vw_C} {H : Heap} {e0 f0 f1 f2 f3 f4 : Nat × va_E} (h : va_P D cl ((([e0] : va_W) ++ ([f0, f1, f2, f3, f4] : va_W))) H) : va_P D cl (([e0, f0, f1, f2, f3, f4] : va_W)) H := h
theorem ax_X9_findChanges_3 {A : Nat → Prop} {e0 f0 f1 f2 f3 f4 : Nat × va_E} (h : va_D A ((([e0] : va_W) ++ ([f0, f1, f2, f3, f4] : va_W)))) : va_D A (([e0, f0, f1, f2, f3, f4] : va_W)) := h
theorem ax_X9_findChanges_4 {e0 e1 e2 e3 e4 e5 : Nat × va_E} : ([1, 2, 3, 4, 5, 0] : List Nat).map (fun i => ([e0, e1, e2, e3, e4, e5] : va_W)[i]?) = ([e1, e2, e3, e4, e5, e0] : va_W).map some := rfl
theorem ax_X9_findChanges_5 {e0 e1 e2 e3 e4 e5 : Nat × va_E} : ([1, 4] : List Nat).map (fun i => ([e0, e1, e2, e3, e4, e5] : va_W)[i]?) = ([e1, e4] : va_W).map some := rfl
theorem ax_X9_findChanges_6 {e0 e1 e2 e3 e4 e5 : Nat × va_E} : ([1, 4, 0] : List Nat).map (fun i => ([e0, e1, e2, e3, e4, e5] : va_W)[i]?) = ([e1, e4, e0] : va_W).map some := rfl
set_option maxHeartbeats 4000000 in
set_option maxRecDepth 100000 in
theorem c_X9_findChanges (l : Launch) (D : va_G) (sz : Nat) (wo : Int) (h0 : Nat) (fa : Int) (tc : Int) (so : Nat) (sl : Nat) (ce : Nat) (fn : Int) (kd : Nat) (wd : Nat) (hs : Nat) (pf : Nat) (lt : Nat) (mn : Int) (wg : Nat) (ta : Int) (ck : Int64) (at9 : Int) (rfn : Int) (rk : Nat) (rw : Nat) (rh : Nat) (cl : Int) (sa : Nat) (fi : Nat) (bo : Int) (ch : Nat) (cn : Nat) (ad : Int) (ru : Int) (kp : Nat) (dn : Int) (rfa : Nat) (c_wg : ClassId) (f_wg : Nat → Int32) (c_sa : ClassId) (f_sa : Nat → Int32) (c_fi : ClassId) (f_fi : Nat → Int32) (c_hs : ClassId) (f_hs : Nat → Int32) (c_ch : ClassId) (f_ch : Nat → Int32) (q0 : rg wo) (q1 : 0 ≤ mn ∧ mn ≤ 24) (q2 : 0 ≤ fn ∧ fn ≤ 4) : Met l yX9_findChanges wsX9_findChanges ({ frames := 3, cells := 0, slots := 0, locals := 70 }) (kPre [.ref h0, .int (zI wo)] D [(h0, .inr (9, [.int (zI fa), .int (zI tc), .ref so, .ref sl, .ref ce, .int (zI fn), .ref kd, .ref wd, .ref hs, .ref pf, .ref lt, .int (zI mn), .ref wg, .int (zI ta), .long ck, .int (zI at9), .int (zI rfn), .ref rk, .ref rw, .ref rh, .int (zI cl), .ref sa, .ref fi, .int (zI bo), .ref ch, .ref cn, .int (zI ad), .int (zI ru), .ref kp, .int (zI dn), .ref rfa])), (wg, .inl (c_wg, 24, .inl f_wg)), (sa, .inl (c_sa, 25, .inl f_sa)), (fi, .inl (c_fi, 24, .inl f_fi)), (hs, .inl (c_hs, 4, .inl f_hs)), (ch, .inl (c_ch, 96, .inl f_ch))] [(c_wg, .int), (c_sa, .int), (c_fi, .int), (c_hs, .int), (c_ch, .int)] sz) (kQS (fun rz t => ∃ (u_cl : Int) (u_bo : Int) (u_f_sa : Nat → Int32) (u_f_fi : Nat → Int32) (u_f_ch : Nat → Int32), (0 ≤ u_cl ∧ u_cl ≤ mn) ∧ (0 ≤ u_bo ∧ u_bo ≤ 24) ∧ (kFt u_f_fi fn u_cl wo) ∧ (kDp u_f_ch u_f_fi fn u_cl wo 0) ∧ (0 ≤ rz ∧ rz ≤ 24) ∧ (u_cl = 0 ∨ kBe u_f_ch u_f_fi wo fn rz) ∧ va_P D vwCl [(h0, .inr (9, [.int (zI fa), .int (zI tc), .ref so, .ref sl, .ref ce, .int (zI fn), .ref kd, .ref wd, .ref hs, .ref pf, .ref lt, .int (zI mn), .ref wg, .int (zI ta), .long ck, .int (zI at9), .int (zI rfn), .ref rk, .ref rw, .ref rh, .int (zI u_cl), .ref sa, .ref fi, .int (zI u_bo), .ref ch, .ref cn, .int (zI ad), .int (zI ru), .ref kp, .int (zI dn), .ref rfa])), (wg, .inl (c_wg, 24, .inl f_wg)), (sa, .inl (c_sa, 25, .inl u_f_sa)), (fi, .inl (c_fi, 24, .inl u_f_fi)), (hs, .inl (c_hs, 4, .inl f_hs)), (ch, .inl (c_ch, 96, .inl u_f_ch))] t.heap ∧ va_D (va_A [(h0, .inr (9, [.int (zI fa), .int (zI tc), .ref so, .ref sl, .ref ce, .int (zI fn), .ref kd, .ref wd, .ref hs, .ref pf, .ref lt, .int (zI mn), .ref wg, .int (zI ta), .long ck, .int (zI at9), .int (zI rfn), .ref rk, .ref rw, .ref rh, .int (zI cl), .ref sa, .ref fi, .int (zI bo), .ref ch, .ref cn, .int (zI ad), .int (zI ru), .ref kp, .int (zI dn), .ref rfa])), (wg, .inl (c_wg, 24, .inl f_wg)), (sa, .inl (c_sa, 25, .inl f_sa)), (fi, .inl (c_fi, 24, .inl f_fi)), (hs, .inl (c_hs, 4, .inl f_hs)), (ch, .inl (c_ch, 96, .inl f_ch))] sz) [(h0, .inr (9, [.int (zI fa), .int (zI tc), .ref so, .ref sl, .ref ce, .int (zI fn), .ref kd, .ref wd, .ref hs, .ref pf, .ref lt, .int (zI mn), .ref wg, .int (zI ta), .long ck, .int (zI at9), .int (zI rfn), .ref rk, .ref rw, .ref rh, .int (zI u_cl), .ref sa, .ref fi, .int (zI u_bo), .ref ch, .ref cn, .int (zI ad), .int (zI ru), .ref kp, .int (zI dn), .ref rfa])), (wg, .inl (c_wg, 24, .inl f_wg)), (sa, .inl (c_sa, 25, .inl u_f_sa)), (fi, .inl (c_fi, 24, .inl u_f_fi)), (hs, .inl (c_hs, 4, .inl f_hs)), (ch, .inl (c_ch, 96, .inl u_f_ch))]) (va_A [(h0, .inr (9, [.int (zI fa), .int (zI tc), .ref so, .ref sl, .ref ce, .int (zI fn), .ref kd, .ref wd, .ref hs, .ref pf, .ref lt, .int (zI mn), .ref wg, .int (zI ta), .long ck, .int (zI at9), .int (zI rfn), .ref rk, .ref rw, .ref rh, .int (zI cl), .ref sa, .ref fi, .int (zI bo), .ref ch, .ref cn, .int (zI ad), .int (zI ru), .ref kp, .int (zI dn), .ref rfa])), (wg, .inl (c_wg, 24, .inl f_wg)), (sa, .inl (c_sa, 25, .inl f_sa)), (fi, .inl (c_fi, 24, .inl f_fi)), (hs, .inl (c_hs, 4, .inl f_hs)), (ch, .inl (c_ch, 96, .inl f_ch))] sz)) 0 0 (va_A [(h0, .inr (9, [.int (zI fa), .int (zI tc), .ref so, .ref sl, .ref ce, .int (zI fn), .ref kd, .ref wd, .ref hs, .ref pf, .ref lt, .int (zI mn), .ref wg, .int (zI ta), .long ck, .int (zI at9), .int (zI rfn), .ref rk, .ref rw, .ref rh, .int (zI cl), .ref sa, .ref fi, .int (zI bo), .ref ch, .ref cn, .int (zI ad), .int (zI ru), .ref kp, .int (zI dn), .ref rfa])), (wg, .inl (c_wg, 24, .inl f_wg)), (sa, .inl (c_sa, 25, .inl f_sa)), (fi, .inl (c_fi, 24, .inl f_fi)), (hs, .inl (c_hs, 4, .inl f_hs)), (ch, .inl (c_ch, 96, .inl f_ch))] sz) := by
  refine Met.ofW (cc := cX9_findChanges) (maxL := 4) (ret := (some .int)) (by decide) rfl ?_
  intro p e s m args below meth c s₁ B hml hv
  obtain ⟨rfl, hsz, hP, hK, hD0, hN⟩ := hv
  have hx := B.exec
  have hb := B.bytes
  have hr := B.returns
  have hts := atoms_spec (ws := wsX9_findChanges) B.pre
  have hown : s.vm.findClass RX9 = some m.cls := findClass_of_methodNamed B.named
  have hlocks := B.notSynchronized
  subst hsz
  have hD := hD0.self (sz := s.heap.size)
  generalize hAe : va_A [(h0, .inr (9, [.int (zI fa), .int (zI tc), .ref so, .ref sl, .ref ce, .int (zI fn), .ref kd, .ref wd, .ref hs, .ref pf, .ref lt, .int (zI mn), .ref wg, .int (zI ta), .long ck, .int (zI at9), .int (zI rfn), .ref rk, .ref rw, .ref rh, .int (zI cl), .ref sa, .ref fi, .int (zI bo), .ref ch, .ref cn, .int (zI ad), .int (zI ru), .ref kp, .int (zI dn), .ref rfa])), (wg, .inl (c_wg, 24, .inl f_wg)), (sa, .inl (c_sa, 25, .inl f_sa)), (fi, .inl (c_fi, 24, .inl f_fi)), (hs, .inl (c_hs, 4, .inl f_hs)), (ch, .inl (c_ch, 96, .inl f_ch))] s.heap.size = A at hD ⊢
  have hA : ∀ q : Nat, s.heap.size ≤ q → A q := fun q h => by rw [← hAe]; exact Or.inr h
  have hS : va_S A s.heap s.heap [] := va_S.rf
  have hP : va_P D vwCl [(h0, .inr (9, [.int (zI fa), .int (zI tc), .ref so, .ref sl, .ref ce, .int (zI fn), .ref kd, .ref wd, .ref hs, .ref pf, .ref lt, .int (zI mn), .ref wg, .int (zI ta), .long ck, .int (zI at9), .int (zI rfn), .ref rk, .ref rw, .ref rh, .int (zI cl), .ref sa, .ref fi, .int (zI bo), .ref ch, .ref cn, .int (zI ad), .int (zI ru), .ref kp, .int (zI dn), .ref rfa])), (wg, .inl (c_wg, 24, .inl f_wg)), (sa, .inl (c_sa, 25, .inl f_sa)), (fi, .inl (c_fi, 24, .inl f_fi)), (hs, .inl (c_hs, 4, .inl f_hs)), (ch, .inl (c_ch, 96, .inl f_ch))] s.heap := hP
  have hl := lv_entry ([.ref h0, .int (zI wo)]) (n := 4) (Nat.le_of_ble_eq_true rfl)
  rw [lg_entry_eq]
  generalize (lg_sl ([.ref h0, .int (zI wo)]) ++ List.replicate (4 - (lg_sl ([.ref h0, .int (zI wo)])).length) Slot.unset).toArray = ls at hl ⊢
  have hl : lv_has ls 4 [(0, .ref h0), (1, .int (zI wo))] := hl
  refine lv_aload_n hx hb dX9_findChanges_0 rfl (lv_at hl 0 rfl) ?_
  refine lv_iload_n hx hb dX9_findChanges_1 rfl (lv_at hl 1 rfl) ?_
  have hFc := va_free (wc := [(h0, .inr (9, [.int (zI fa), .int (zI tc), .ref so, .ref sl, .ref ce, .int (zI fn), .ref kd, .ref wd, .ref hs, .ref pf, .ref lt, .int (zI mn), .ref wg, .int (zI ta), .long ck, .int (zI at9), .int (zI rfn), .ref rk, .ref rw, .ref rh, .int (zI cl), .ref sa, .ref fi, .int (zI bo), .ref ch, .ref cn, .int (zI ad), .int (zI ru), .ref kp, .int (zI dn), .ref rfa])), (wg, .inl (c_wg, 24, .inl f_wg)), (sa, .inl (c_sa, 25, .inl f_sa)), (fi, .inl (c_fi, 24, .inl f_fi)), (hs, .inl (c_hs, 4, .inl f_hs))]) hD hS hA [0, 1, 2, 3, 4] ax_X9_findChanges_0
  refine va_callv (va_runV (As := [.int (zI wo)]) (rest := []) ⟨hx, hb, hml, hown, hts⟩ (c_X9_findClusters l D s.heap.size (wo := wo) (h0 := h0) (fa := fa) (tc := tc) (so := so) (sl := sl) (ce := ce) (fn := fn) (kd := kd) (wd := wd) (hs := hs) (pf := pf) (lt := lt) (mn := mn) (wg := wg) (ta := ta) (ck := ck) (at9 := at9) (rfn := rfn) (rk := rk) (rw := rw) (rh := rh) (cl := cl) (sa := sa) (fi := fi) (bo := bo) (ch := ch) (cn := cn) (ad := ad) (ru := ru) (kp := kp) (dn := dn) (rfa := rfa) (c_wg := c_wg) (f_wg := f_wg) (c_sa := c_sa) (f_sa := f_sa) (c_fi := c_fi) (f_fi := f_fi) (c_hs := c_hs) (f_hs := f_hs) q0 q1 q2) (cwV 1 hts gX9_findChanges_X9_findClusters rfl rfl rfl (by decide +kernel) ⟨Nat.le_of_ble_eq_true rfl, Nat.le_of_ble_eq_true rfl⟩) (kPreV hP (kD0 hD) hK hN [0, 1, 2, 3, 4] [0, 1, 2, 3] ax_X9_findChanges_0 rfl (by decide +kernel) 0 9 rfl rfl) rfl rfl hl.1 rfl (lv_room (Nat.le_of_ble_eq_true rfl)) dX9_findChanges_2 ⟨Nat.le_of_ble_eq_true rfl, Nat.le_of_ble_eq_true rfl⟩) hS (fun q _ h => hFc q h) hFc (fun u t H1 locs ht hvm hw hB hz1 hk1 hS => ?_)
  refine Exists.elim hB (fun u_cl_1 hB1 => Exists.elim hB1 (fun u_bo_2 hB2 => Exists.elim hB2 (fun u_f_sa_3 hB3 => Exists.elim hB3 (fun u_f_fi_4 hB4 => ?_))))
  have h_5 := hB4.1
  have h_6 := hB4.2.1
  have h_7 := hB4.2.2.1
  have hP1 := hB4.2.2.2.1
  have hD1 := hB4.2.2.2.2
  clear hB hB1 hB2 hB3 hB4
  rw [ht] at hP1
  obtain ⟨hP, hD⟩ := va_join (wr := [(ch, .inl (c_ch, 96, .inl f_ch))]) (w1 := [(h0, .inr (9, [.int (zI fa), .int (zI tc), .ref so, .ref sl, .ref ce, .int (zI fn), .ref kd, .ref wd, .ref hs, .ref pf, .ref lt, .int (zI mn), .ref wg, .int (zI ta), .long ck, .int (zI at9), .int (zI rfn), .ref rk, .ref rw, .ref rh, .int (zI u_cl_1), .ref sa, .ref fi, .int (zI u_bo_2), .ref ch, .ref cn, .int (zI ad), .int (zI ru), .ref kp, .int (zI dn), .ref rfa])), (wg, .inl (c_wg, 24, .inl f_wg)), (sa, .inl (c_sa, 25, .inl u_f_sa_3)), (fi, .inl (c_fi, 24, .inl u_f_fi_4)), (hs, .inl (c_hs, 4, .inl f_hs))]) hP hD [0, 1, 2, 3, 4] [5] ax_X9_findChanges_0 ax_X9_findChanges_1 (by decide +kernel) (by decide +kernel) hk1 hFc hP1 hD1
  have hP := ax_X9_findChanges_2 hP
  have hD := ax_X9_findChanges_3 hD
  generalize H1 = H at hP hS ⊢
  have hP : va_P D vwCl [(ch, .inl (c_ch, 96, .inl f_ch)), (h0, .inr (9, [.int (zI fa), .int (zI tc), .ref so, .ref sl, .ref ce, .int (zI fn), .ref kd, .ref wd, .ref hs, .ref pf, .ref lt, .int (zI mn), .ref wg, .int (zI ta), .long ck, .int (zI at9), .int (zI rfn), .ref rk, .ref rw, .ref rh, .int (zI u_cl_1), .ref sa, .ref fi, .int (zI u_bo_2), .ref ch, .ref cn, .int (zI ad), .int (zI ru), .ref kp, .int (zI dn), .ref rfa])), (wg, .inl (c_wg, 24, .inl f_wg)), (sa, .inl (c_sa, 25, .inl u_f_sa_3)), (fi, .inl (c_fi, 24, .inl u_f_fi_4)), (hs, .inl (c_hs, 4, .inl f_hs))] H := hP
  have hD : va_D A [(ch, .inl (c_ch, 96, .inl f_ch)), (h0, .inr (9, [.int (zI fa), .int (zI tc), .ref so, .ref sl, .ref ce, .int (zI fn), .ref kd, .ref wd, .ref hs, .ref pf, .ref lt, .int (zI mn), .ref wg, .int (zI ta), .long ck, .int (zI at9), .int (zI rfn), .ref rk, .ref rw, .ref rh, .int (zI u_cl_1), .ref sa, .ref fi, .int (zI u_bo_2), .ref ch, .ref cn, .int (zI ad), .int (zI ru), .ref kp, .int (zI dn), .ref rfa])), (wg, .inl (c_wg, 24, .inl f_wg)), (sa, .inl (c_sa, 25, .inl u_f_sa_3)), (fi, .inl (c_fi, 24, .inl u_f_fi_4)), (hs, .inl (c_hs, 4, .inl f_hs))] := hD
  refine lv_aload_n hx hb dX9_findChanges_5 rfl (lv_at hl 0 rfl) ?_
  refine va_get (D := D) (ci := 9) (v := .int (zI u_cl_1)) (C := RX9) (T := TX9) (N := 31) hx hb hts (fun _ h9 => List.mem_cons_of_mem _ (List.mem_append_right _ h9)) hown hK hP 1 rfl rfl 20 (by decide) (hts (.fieldLink RX9 138 "FontRunsModel" "clusters" "I") mw_X9_findChanges_0) (fun _ h9 => h9) rfl dX9_findChanges_6 ?_
  refine lv_iconst (v := zI 1) hx hb dX9_findChanges_9 rfl ?_
  refine kz_isub hx hb dX9_findChanges_10 ?_
  refine lv_istore_n (lv' := [(2, .int (zI (u_cl_1 - 1))), (0, .ref h0), (1, .int (zI wo))]) hx hb dX9_findChanges_11 rfl hl (by decide) rfl (fun ls hl => ?_)
  refine k_loopM (I := fun n9 H locs ls => ∃ (jc : Int) (ja : Nat → Int32), n9 = (jc + 1).toNat ∧ (-1 ≤ jc ∧ jc ≤ u_cl_1 - 1) ∧ (kDp ja u_f_fi_4 fn u_cl_1 wo (jc + 1)) ∧ va_P D vwCl [(ch, .inl (c_ch, 96, .inl ja)), (h0, .inr (9, [.int (zI fa), .int (zI tc), .ref so, .ref sl, .ref ce, .int (zI fn), .ref kd, .ref wd, .ref hs, .ref pf, .ref lt, .int (zI mn), .ref wg, .int (zI ta), .long ck, .int (zI at9), .int (zI rfn), .ref rk, .ref rw, .ref rh, .int (zI u_cl_1), .ref sa, .ref fi, .int (zI u_bo_2), .ref ch, .ref cn, .int (zI ad), .int (zI ru), .ref kp, .int (zI dn), .ref rfa])), (wg, .inl (c_wg, 24, .inl f_wg)), (sa, .inl (c_sa, 25, .inl u_f_sa_3)), (fi, .inl (c_fi, 24, .inl u_f_fi_4)), (hs, .inl (c_hs, 4, .inl f_hs))] H ∧ va_D A [(ch, .inl (c_ch, 96, .inl ja)), (h0, .inr (9, [.int (zI fa), .int (zI tc), .ref so, .ref sl, .ref ce, .int (zI fn), .ref kd, .ref wd, .ref hs, .ref pf, .ref lt, .int (zI mn), .ref wg, .int (zI ta), .long ck, .int (zI at9), .int (zI rfn), .ref rk, .ref rw, .ref rh, .int (zI u_cl_1), .ref sa, .ref fi, .int (zI u_bo_2), .ref ch, .ref cn, .int (zI ad), .int (zI ru), .ref kp, .int (zI dn), .ref rfa])), (wg, .inl (c_wg, 24, .inl f_wg)), (sa, .inl (c_sa, 25, .inl u_f_sa_3)), (fi, .inl (c_fi, 24, .inl u_f_fi_4)), (hs, .inl (c_hs, 4, .inl f_hs))] ∧ va_S A s.heap H locs ∧ lv_has ls 4 [(2, .int (zI jc)), (0, .ref h0), (1, .int (zI wo))]) ?_ _ ⟨(u_cl_1 - 1), f_ch, rfl, (by omega), (kDp_top (by omega)), hP, hD, hS, hl⟩
  intro n12 ih12 H locs ls hI
  obtain ⟨jc, ja, en12, v_120, v_121, hP, hD, hS, hl⟩ := hI
  refine lv_iload_n hx hb dX9_findChanges_12 rfl (lv_at hl 0 rfl) ?_
  refine kz_if_lt (tgt := 55) hx hb dX9_findChanges_13 (by decide) (by omega) (fun c_8 => ?_) (fun c_8 => ?_)
  · refine lv_aload_n hx hb dX9_findChanges_55 rfl (lv_at hl 1 rfl) ?_
    refine va_get (D := D) (ci := 9) (v := .int (zI u_cl_1)) (C := RX9) (T := TX9) (N := 31) hx hb hts (fun _ h9 => List.mem_cons_of_mem _ (List.mem_append_right _ h9)) hown hK hP 1 rfl rfl 20 (by decide) (hts (.fieldLink RX9 138 "FontRunsModel" "clusters" "I") mw_X9_findChanges_0) (fun _ h9 => h9) rfl dX9_findChanges_56 ?_
    refine kz_if_ne (tgt := 66) hx hb dX9_findChanges_59 (by decide) (by omega) (fun c_9 => ?_) (fun c_9 => ?_)
    · refine lv_bipush (v := zI 24) hx hb dX9_findChanges_66 (by decide) ?_
      refine lv_istore_n (lv' := [(2, .int (zI 24)), (0, .ref h0), (1, .int (zI wo))]) hx hb dX9_findChanges_68 rfl hl (by decide) rfl (fun ls hl => ?_)
      refine lv_iconst (v := zI 0) hx hb dX9_findChanges_69 rfl ?_
      refine lv_istore_n (lv' := [(3, .int (zI 0)), (2, .int (zI 24)), (0, .ref h0), (1, .int (zI wo))]) hx hb dX9_findChanges_70 rfl hl (by decide) rfl (fun ls hl => ?_)
      refine k_loopM (I := fun n9 H locs ls => ∃ (jb : Int) (jg2 : Int), n9 = (fn - jg2).toNat ∧ (0 ≤ jg2 ∧ jg2 ≤ fn) ∧ (0 ≤ jb ∧ jb ≤ 24) ∧ (u_cl_1 = 0 ∨ kBe ja u_f_fi_4 wo jg2 jb) ∧ va_P D vwCl [(ch, .inl (c_ch, 96, .inl ja)), (h0, .inr (9, [.int (zI fa), .int (zI tc), .ref so, .ref sl, .ref ce, .int (zI fn), .ref kd, .ref wd, .ref hs, .ref pf, .ref lt, .int (zI mn), .ref wg, .int (zI ta), .long ck, .int (zI at9), .int (zI rfn), .ref rk, .ref rw, .ref rh, .int (zI u_cl_1), .ref sa, .ref fi, .int (zI u_bo_2), .ref ch, .ref cn, .int (zI ad), .int (zI ru), .ref kp, .int (zI dn), .ref rfa])), (wg, .inl (c_wg, 24, .inl f_wg)), (sa, .inl (c_sa, 25, .inl u_f_sa_3)), (fi, .inl (c_fi, 24, .inl u_f_fi_4)), (hs, .inl (c_hs, 4, .inl f_hs))] H ∧ va_D A [(ch, .inl (c_ch, 96, .inl ja)), (h0, .inr (9, [.int (zI fa), .int (zI tc), .ref so, .ref sl, .ref ce, .int (zI fn), .ref kd, .ref wd, .ref hs, .ref pf, .ref lt, .int (zI mn), .ref wg, .int (zI ta), .long ck, .int (zI at9), .int (zI rfn), .ref rk, .ref rw, .ref rh, .int (zI u_cl_1), .ref sa, .ref fi, .int (zI u_bo_2), .ref ch, .ref cn, .int (zI ad), .int (zI ru), .ref kp, .int (zI dn), .ref rfa])), (wg, .inl (c_wg, 24, .inl f_wg)), (sa, .inl (c_sa, 25, .inl u_f_sa_3)), (fi, .inl (c_fi, 24, .inl u_f_fi_4)), (hs, .inl (c_hs, 4, .inl f_hs))] ∧ va_S A s.heap H locs ∧ lv_has ls 4 [(3, .int (zI jg2)), (2, .int (zI jb)), (0, .ref h0), (1, .int (zI wo))]) ?_ _ ⟨24, 0, rfl, (by omega), (by omega), (Or.inr kBe_0), hP, hD, hS, hl⟩
      intro n71 ih71 H locs ls hI
      obtain ⟨jb, jg2, en71, v_710, v_711, v_712, hP, hD, hS, hl⟩ := hI
      refine lv_iload_n hx hb dX9_findChanges_71 rfl (lv_at hl 0 rfl) ?_
      refine lv_aload_n hx hb dX9_findChanges_72 rfl (lv_at hl 2 rfl) ?_
      refine va_get (D := D) (ci := 9) (v := .int (zI fn)) (C := RX9) (T := TX9) (N := 31) hx hb hts (fun _ h9 => List.mem_cons_of_mem _ (List.mem_append_right _ h9)) hown hK hP 1 rfl rfl 5 (by decide) (hts (.fieldLink RX9 74 "FontRunsModel" "fonts" "I") mw_X9_findChanges_1) (fun _ h9 => h9) rfl dX9_findChanges_73 ?_
      refine kz_icmp_ge (tgt := 123) hx hb dX9_findChanges_76 (by decide) (by omega) (by omega) (fun c_10 => ?_) (fun c_10 => ?_)
      · refine lv_iload_n hx hb dX9_findChanges_123 rfl (lv_at hl 1 rfl) ?_
        have hP9 := hP.sub (ws' := [(h0, .inr (9, [.int (zI fa), .int (zI tc), .ref so, .ref sl, .ref ce, .int (zI fn), .ref kd, .ref wd, .ref hs, .ref pf, .ref lt, .int (zI mn), .ref wg, .int (zI ta), .long ck, .int (zI at9), .int (zI rfn), .ref rk, .ref rw, .ref rh, .int (zI u_cl_1), .ref sa, .ref fi, .int (zI u_bo_2), .ref ch, .ref cn, .int (zI ad), .int (zI ru), .ref kp, .int (zI dn), .ref rfa])), (wg, .inl (c_wg, 24, .inl f_wg)), (sa, .inl (c_sa, 25, .inl u_f_sa_3)), (fi, .inl (c_fi, 24, .inl u_f_fi_4)), (hs, .inl (c_hs, 4, .inl f_hs)), (ch, .inl (c_ch, 96, .inl ja))]) [1, 2, 3, 4, 5, 0] rfl
        have hD9 := hD.sub (ws' := [(h0, .inr (9, [.int (zI fa), .int (zI tc), .ref so, .ref sl, .ref ce, .int (zI fn), .ref kd, .ref wd, .ref hs, .ref pf, .ref lt, .int (zI mn), .ref wg, .int (zI ta), .long ck, .int (zI at9), .int (zI rfn), .ref rk, .ref rw, .ref rh, .int (zI u_cl_1), .ref sa, .ref fi, .int (zI u_bo_2), .ref ch, .ref cn, .int (zI ad), .int (zI ru), .ref kp, .int (zI dn), .ref rfa])), (wg, .inl (c_wg, 24, .inl f_wg)), (sa, .inl (c_sa, 25, .inl u_f_sa_3)), (fi, .inl (c_fi, 24, .inl u_f_fi_4)), (hs, .inl (c_hs, 4, .inl f_hs)), (ch, .inl (c_ch, 96, .inl ja))]) [1, 2, 3, 4, 5, 0] (by decide +kernel) rfl
        exact W.iret (v := (zI jb)) hx hb hr (fun t ht hW => kQS_of (by omega) ⟨u_cl_1, u_bo_2, u_f_sa_3, u_f_fi_4, ja, h_5, h_6, h_7, (kDp_eq v_121 (by omega)), v_711, (Or.imp_right (fun q => kBe_le q (by omega)) v_712), by rw [ht]; exact hP9, hD9⟩ (hS.F ht)) hS.2.2 dX9_findChanges_124
      · refine lv_aload_n hx hb dX9_findChanges_79 rfl (lv_at hl 2 rfl) ?_
        refine va_get (D := D) (ci := 9) (v := .int (zI u_cl_1)) (C := RX9) (T := TX9) (N := 31) hx hb hts (fun _ h9 => List.mem_cons_of_mem _ (List.mem_append_right _ h9)) hown hK hP 1 rfl rfl 20 (by decide) (hts (.fieldLink RX9 138 "FontRunsModel" "clusters" "I") mw_X9_findChanges_0) (fun _ h9 => h9) rfl dX9_findChanges_80 ?_
        refine kz_if_le (tgt := 123) hx hb dX9_findChanges_83 (by decide) (by omega) (fun c_11 => ?_) (fun c_11 => ?_)
        · refine lv_iload_n hx hb dX9_findChanges_123 rfl (lv_at hl 1 rfl) ?_
          have hP9 := hP.sub (ws' := [(h0, .inr (9, [.int (zI fa), .int (zI tc), .ref so, .ref sl, .ref ce, .int (zI fn), .ref kd, .ref wd, .ref hs, .ref pf, .ref lt, .int (zI mn), .ref wg, .int (zI ta), .long ck, .int (zI at9), .int (zI rfn), .ref rk, .ref rw, .ref rh, .int (zI u_cl_1), .ref sa, .ref fi, .int (zI u_bo_2), .ref ch, .ref cn, .int (zI ad), .int (zI ru), .ref kp, .int (zI dn), .ref rfa])), (wg, .inl (c_wg, 24, .inl f_wg)), (sa, .inl (c_sa, 25, .inl u_f_sa_3)), (fi, .inl (c_fi, 24, .inl u_f_fi_4)), (hs, .inl (c_hs, 4, .inl f_hs)), (ch, .inl (c_ch, 96, .inl ja))]) [1, 2, 3, 4, 5, 0] rfl
          have hD9 := hD.sub (ws' := [(h0, .inr (9, [.int (zI fa), .int (zI tc), .ref so, .ref sl, .ref ce, .int (zI fn), .ref kd, .ref wd, .ref hs, .ref pf, .ref lt, .int (zI mn), .ref wg, .int (zI ta), .long ck, .int (zI at9), .int (zI rfn), .ref rk, .ref rw, .ref rh, .int (zI u_cl_1), .ref sa, .ref fi, .int (zI u_bo_2), .ref ch, .ref cn, .int (zI ad), .int (zI ru), .ref kp, .int (zI dn), .ref rfa])), (wg, .inl (c_wg, 24, .inl f_wg)), (sa, .inl (c_sa, 25, .inl u_f_sa_3)), (fi, .inl (c_fi, 24, .inl u_f_fi_4)), (hs, .inl (c_hs, 4, .inl f_hs)), (ch, .inl (c_ch, 96, .inl ja))]) [1, 2, 3, 4, 5, 0] (by decide +kernel) rfl
          exact W.iret (v := (zI jb)) hx hb hr (fun t ht hW => kQS_of (by omega) ⟨u_cl_1, u_bo_2, u_f_sa_3, u_f_fi_4, ja, h_5, h_6, h_7, (kDp_eq v_121 (by omega)), v_711, (Or.inl (by omega)), by rw [ht]; exact hP9, hD9⟩ (hS.F ht)) hS.2.2 dX9_findChanges_124
        · refine lv_aload_n hx hb dX9_findChanges_86 rfl (lv_at hl 2 rfl) ?_
          refine lv_iconst (v := zI 0) hx hb dX9_findChanges_87 rfl ?_
          refine lv_iload_n hx hb dX9_findChanges_88 rfl (lv_at hl 0 rfl) ?_
          refine lv_iload_n hx hb dX9_findChanges_89 rfl (lv_at hl 3 rfl) ?_
          refine k_callR (va_runV (As := [.int (zI 0), .int (zI jg2), .int (zI wo)]) (rest := []) ⟨hx, hb, hml, hown, hts⟩ (c_X9_canSet l D H.size (kc := (0 : Int)) (f := jg2) (wo := wo) (h0 := h0) (fa := fa) (tc := tc) (so := so) (sl := sl) (ce := ce) (fn := fn) (kd := kd) (wd := wd) (hs := hs) (pf := pf) (lt := lt) (mn := mn) (wg := wg) (ta := ta) (ck := ck) (at9 := at9) (rfn := rfn) (rk := rk) (rw := rw) (rh := rh) (cl := u_cl_1) (sa := sa) (fi := fi) (bo := u_bo_2) (ch := ch) (cn := cn) (ad := ad) (ru := ru) (kp := kp) (dn := dn) (rfa := rfa) (c_fi := c_fi) (f_fi := u_f_fi_4) (by omega) (by omega) q0) (cwV 3 hts gX9_findChanges_X9_canSet rfl rfl rfl (by decide +kernel) ⟨Nat.le_of_ble_eq_true rfl, Nat.le_of_ble_eq_true rfl⟩) (kPreV hP (kD0 hD) hK hN [1, 4] [2] ax_X9_findChanges_5 rfl (by decide +kernel) 1 9 rfl rfl) rfl rfl hl.1 rfl (lv_room (Nat.le_of_ble_eq_true rfl)) dX9_findChanges_90 ⟨Nat.le_of_ble_eq_true rfl, Nat.le_of_ble_eq_true rfl⟩) ?_
          refine lv_if_eq (tgt := 115) hx hb dX9_findChanges_93 (by decide) (fun c_12 => ?_) (fun c_12 => ?_)
          · have c_12 : ¬ (kCan (u_f_fi_4 (0 : Int).toNat) jg2 wo) := b01f c_12
            refine lv_iload_n hx hb dX9_findChanges_115 rfl (lv_at hl 1 rfl) ?_
            refine lv_istore_n (lv' := [(2, .int (zI jb)), (3, .int (zI jg2)), (0, .ref h0), (1, .int (zI wo))]) hx hb dX9_findChanges_116 rfl hl (by decide) rfl (fun ls hl => ?_)
            refine lv_iinc (v := (zI (jg2 + 1))) (lv' := [(3, .int (zI (jg2 + 1))), (2, .int (zI jb)), (0, .ref h0), (1, .int (zI wo))]) hx hb dX9_findChanges_117 hl (k := 1) rfl (kz_inc _ 1) (by decide) rfl (fun ls hl => ?_)
            refine lv_goto (tgt := 71) hx hb dX9_findChanges_120 (by decide) ?_
            exact ih71 _ (by omega) _ _ _ ⟨jb, (jg2 + 1), rfl, (by omega), v_711, (Or.inr (kBe_no (Or.resolve_left v_712 (by omega)) c_12)), hP, hD, hS, lv_sub hl [0, 1, 2, 3] rfl⟩
          · have c_12 : kCan (u_f_fi_4 (0 : Int).toNat) jg2 wo := b01t c_12
            refine lv_aload_n hx hb dX9_findChanges_96 rfl (lv_at hl 2 rfl) ?_
            refine va_get (D := D) (ci := 9) (v := .ref ch) (C := RX9) (T := TX9) (N := 31) hx hb hts (fun _ h9 => List.mem_cons_of_mem _ (List.mem_append_right _ h9)) hown hK hP 1 rfl rfl 24 (by decide) (hts (.fieldLink RX9 52 "FontRunsModel" "changes" "[I") mw_X9_findChanges_2) (fun _ h9 => h9) rfl dX9_findChanges_97 ?_
            refine lv_iload_n hx hb dX9_findChanges_100 rfl (lv_at hl 0 rfl) ?_
            refine kz_iald hx hb hK hP 0 4 rfl rfl (by omega) dX9_findChanges_101 (fun z_13 rz_13 ez_13 => ?_)
            have gz_13 := v_121 0 jg2 (by omega) (by omega) (by omega) (by omega)
            have az_13 := kch_at0 rz_13 ez_13
            have bz_13 : 0 ≤ z_13 ∧ z_13 ≤ 24 := by have u1 := gz_13.1; have u2 := gz_13.2.1; rw [az_13] at u1 u2; exact ⟨u1, u2⟩
            refine lv_iload_n hx hb dX9_findChanges_102 rfl (lv_at hl 1 rfl) ?_
            refine kz_icmp_ge (tgt := 115) hx hb dX9_findChanges_103 (by decide) (by omega) (by omega) (fun c_14 => ?_) (fun c_14 => ?_)
            · refine lv_iload_n hx hb dX9_findChanges_115 rfl (lv_at hl 1 rfl) ?_
              refine lv_istore_n (lv' := [(2, .int (zI jb)), (3, .int (zI jg2)), (0, .ref h0), (1, .int (zI wo))]) hx hb dX9_findChanges_116 rfl hl (by decide) rfl (fun ls hl => ?_)
              refine lv_iinc (v := (zI (jg2 + 1))) (lv' := [(3, .int (zI (jg2 + 1))), (2, .int (zI jb)), (0, .ref h0), (1, .int (zI wo))]) hx hb dX9_findChanges_117 hl (k := 1) rfl (kz_inc _ 1) (by decide) rfl (fun ls hl => ?_)
              refine lv_goto (tgt := 71) hx hb dX9_findChanges_120 (by decide) ?_
              exact ih71 _ (by omega) _ _ _ ⟨jb, (jg2 + 1), rfl, (by omega), v_711, (Or.inr (kBe_ge (v := z_13) (Or.resolve_left v_712 (by omega)) az_13.symm (by omega))), hP, hD, hS, lv_sub hl [0, 1, 2, 3] rfl⟩
            · refine lv_aload_n hx hb dX9_findChanges_106 rfl (lv_at hl 2 rfl) ?_
              refine va_get (D := D) (ci := 9) (v := .ref ch) (C := RX9) (T := TX9) (N := 31) hx hb hts (fun _ h9 => List.mem_cons_of_mem _ (List.mem_append_right _ h9)) hown hK hP 1 rfl rfl 24 (by decide) (hts (.fieldLink RX9 52 "FontRunsModel" "changes" "[I") mw_X9_findChanges_2) (fun _ h9 => h9) rfl dX9_findChanges_107 ?_
              refine lv_iload_n hx hb dX9_findChanges_110 rfl (lv_at hl 0 rfl) ?_
              refine kz_iald hx hb hK hP 0 4 rfl rfl (by omega) dX9_findChanges_111 (fun z_15 rz_15 ez_15 => ?_)
              have q9 : z_13 = z_15 := (zI_eq rz_13 rz_15).mp (ez_13.symm.trans ez_15)
              subst q9
              refine lv_goto (tgt := 116) hx hb dX9_findChanges_112 (by decide) ?_
              refine lv_istore_n (lv' := [(2, .int (zI z_13)), (3, .int (zI jg2)), (0, .ref h0), (1, .int (zI wo))]) hx hb dX9_findChanges_116 rfl hl (by decide) rfl (fun ls hl => ?_)
              refine lv_iinc (v := (zI (jg2 + 1))) (lv' := [(3, .int (zI (jg2 + 1))), (2, .int (zI z_13)), (0, .ref h0), (1, .int (zI wo))]) hx hb dX9_findChanges_117 hl (k := 1) rfl (kz_inc _ 1) (by decide) rfl (fun ls hl => ?_)
              refine lv_goto (tgt := 71) hx hb dX9_findChanges_120 (by decide) ?_
              exact ih71 _ (by omega) _ _ _ ⟨z_13, (jg2 + 1), rfl, (by omega), (by omega), (Or.inr (kBe_lt (Or.resolve_left v_712 (by omega)) (by omega) c_12 (by omega) az_13.symm (by omega))), hP, hD, hS, lv_sub hl [0, 1, 2, 3] rfl⟩
    · refine lv_iconst (v := zI 0) hx hb dX9_findChanges_62 rfl ?_
      refine lv_goto (tgt := 68) hx hb dX9_findChanges_63 (by decide) ?_
      refine lv_istore_n (lv' := [(2, .int (zI 0)), (0, .ref h0), (1, .int (zI wo))]) hx hb dX9_findChanges_68 rfl hl (by decide) rfl (fun ls hl => ?_)
      refine lv_iconst (v := zI 0) hx hb dX9_findChanges_69 rfl ?_
      refine lv_istore_n (lv' := [(3, .int (zI 0)), (2, .int (zI 0)), (0, .ref h0), (1, .int (zI wo))]) hx hb dX9_findChanges_70 rfl hl (by decide) rfl (fun ls hl => ?_)
      refine k_loopM (I := fun n9 H locs ls => ∃ (jb : Int) (jg2 : Int), n9 = (fn - jg2).toNat ∧ (0 ≤ jg2 ∧ jg2 ≤ fn) ∧ (0 ≤ jb ∧ jb ≤ 24) ∧ (u_cl_1 = 0 ∨ kBe ja u_f_fi_4 wo jg2 jb) ∧ va_P D vwCl [(ch, .inl (c_ch, 96, .inl ja)), (h0, .inr (9, [.int (zI fa), .int (zI tc), .ref so, .ref sl, .ref ce, .int (zI fn), .ref kd, .ref wd, .ref hs, .ref pf, .ref lt, .int (zI mn), .ref wg, .int (zI ta), .long ck, .int (zI at9), .int (zI rfn), .ref rk, .ref rw, .ref rh, .int (zI u_cl_1), .ref sa, .ref fi, .int (zI u_bo_2), .ref ch, .ref cn, .int (zI ad), .int (zI ru), .ref kp, .int (zI dn), .ref rfa])), (wg, .inl (c_wg, 24, .inl f_wg)), (sa, .inl (c_sa, 25, .inl u_f_sa_3)), (fi, .inl (c_fi, 24, .inl u_f_fi_4)), (hs, .inl (c_hs, 4, .inl f_hs))] H ∧ va_D A [(ch, .inl (c_ch, 96, .inl ja)), (h0, .inr (9, [.int (zI fa), .int (zI tc), .ref so, .ref sl, .ref ce, .int (zI fn), .ref kd, .ref wd, .ref hs, .ref pf, .ref lt, .int (zI mn), .ref wg, .int (zI ta), .long ck, .int (zI at9), .int (zI rfn), .ref rk, .ref rw, .ref rh, .int (zI u_cl_1), .ref sa, .ref fi, .int (zI u_bo_2), .ref ch, .ref cn, .int (zI ad), .int (zI ru), .ref kp, .int (zI dn), .ref rfa])), (wg, .inl (c_wg, 24, .inl f_wg)), (sa, .inl (c_sa, 25, .inl u_f_sa_3)), (fi, .inl (c_fi, 24, .inl u_f_fi_4)), (hs, .inl (c_hs, 4, .inl f_hs))] ∧ va_S A s.heap H locs ∧ lv_has ls 4 [(3, .int (zI jg2)), (2, .int (zI jb)), (0, .ref h0), (1, .int (zI wo))]) ?_ _ ⟨0, 0, rfl, (by omega), (by omega), (Or.inl c_9), hP, hD, hS, hl⟩
      intro n71 ih71 H locs ls hI
      obtain ⟨jb, jg2, en71, v_710, v_711, v_712, hP, hD, hS, hl⟩ := hI
      refine lv_iload_n hx hb dX9_findChanges_71 rfl (lv_at hl 0 rfl) ?_
      refine lv_aload_n hx hb dX9_findChanges_72 rfl (lv_at hl 2 rfl) ?_
      refine va_get (D := D) (ci := 9) (v := .int (zI fn)) (C := RX9) (T := TX9) (N := 31) hx hb hts (fun _ h9 => List.mem_cons_of_mem _ (List.mem_append_right _ h9)) hown hK hP 1 rfl rfl 5 (by decide) (hts (.fieldLink RX9 74 "FontRunsModel" "fonts" "I") mw_X9_findChanges_1) (fun _ h9 => h9) rfl dX9_findChanges_73 ?_
      refine kz_icmp_ge (tgt := 123) hx hb dX9_findChanges_76 (by decide) (by omega) (by omega) (fun c_16 => ?_) (fun c_16 => ?_)
      · refine lv_iload_n hx hb dX9_findChanges_123 rfl (lv_at hl 1 rfl) ?_
        have hP9 := hP.sub (ws' := [(h0, .inr (9, [.int (zI fa), .int (zI tc), .ref so, .ref sl, .ref ce, .int (zI fn), .ref kd, .ref wd, .ref hs, .ref pf, .ref lt, .int (zI mn), .ref wg, .int (zI ta), .long ck, .int (zI at9), .int (zI rfn), .ref rk, .ref rw, .ref rh, .int (zI u_cl_1), .ref sa, .ref fi, .int (zI u_bo_2), .ref ch, .ref cn, .int (zI ad), .int (zI ru), .ref kp, .int (zI dn), .ref rfa])), (wg, .inl (c_wg, 24, .inl f_wg)), (sa, .inl (c_sa, 25, .inl u_f_sa_3)), (fi, .inl (c_fi, 24, .inl u_f_fi_4)), (hs, .inl (c_hs, 4, .inl f_hs)), (ch, .inl (c_ch, 96, .inl ja))]) [1, 2, 3, 4, 5, 0] rfl
        have hD9 := hD.sub (ws' := [(h0, .inr (9, [.int (zI fa), .int (zI tc), .ref so, .ref sl, .ref ce, .int (zI fn), .ref kd, .ref wd, .ref hs, .ref pf, .ref lt, .int (zI mn), .ref wg, .int (zI ta), .long ck, .int (zI at9), .int (zI rfn), .ref rk, .ref rw, .ref rh, .int (zI u_cl_1), .ref sa, .ref fi, .int (zI u_bo_2), .ref ch, .ref cn, .int (zI ad), .int (zI ru), .ref kp, .int (zI dn), .ref rfa])), (wg, .inl (c_wg, 24, .inl f_wg)), (sa, .inl (c_sa, 25, .inl u_f_sa_3)), (fi, .inl (c_fi, 24, .inl u_f_fi_4)), (hs, .inl (c_hs, 4, .inl f_hs)), (ch, .inl (c_ch, 96, .inl ja))]) [1, 2, 3, 4, 5, 0] (by decide +kernel) rfl
        exact W.iret (v := (zI jb)) hx hb hr (fun t ht hW => kQS_of (by omega) ⟨u_cl_1, u_bo_2, u_f_sa_3, u_f_fi_4, ja, h_5, h_6, h_7, (kDp_eq v_121 (by omega)), v_711, (Or.inl c_9), by rw [ht]; exact hP9, hD9⟩ (hS.F ht)) hS.2.2 dX9_findChanges_124
      · refine lv_aload_n hx hb dX9_findChanges_79 rfl (lv_at hl 2 rfl) ?_
        refine va_get (D := D) (ci := 9) (v := .int (zI u_cl_1)) (C := RX9) (T := TX9) (N := 31) hx hb hts (fun _ h9 => List.mem_cons_of_mem _ (List.mem_append_right _ h9)) hown hK hP 1 rfl rfl 20 (by decide) (hts (.fieldLink RX9 138 "FontRunsModel" "clusters" "I") mw_X9_findChanges_0) (fun _ h9 => h9) rfl dX9_findChanges_80 ?_
        refine kz_if_le (tgt := 123) hx hb dX9_findChanges_83 (by decide) (by omega) (fun c_17 => ?_) (fun c_17 => ?_)
        · refine lv_iload_n hx hb dX9_findChanges_123 rfl (lv_at hl 1 rfl) ?_
          have hP9 := hP.sub (ws' := [(h0, .inr (9, [.int (zI fa), .int (zI tc), .ref so, .ref sl, .ref ce, .int (zI fn), .ref kd, .ref wd, .ref hs, .ref pf, .ref lt, .int (zI mn), .ref wg, .int (zI ta), .long ck, .int (zI at9), .int (zI rfn), .ref rk, .ref rw, .ref rh, .int (zI u_cl_1), .ref sa, .ref fi, .int (zI u_bo_2), .ref ch, .ref cn, .int (zI ad), .int (zI ru), .ref kp, .int (zI dn), .ref rfa])), (wg, .inl (c_wg, 24, .inl f_wg)), (sa, .inl (c_sa, 25, .inl u_f_sa_3)), (fi, .inl (c_fi, 24, .inl u_f_fi_4)), (hs, .inl (c_hs, 4, .inl f_hs)), (ch, .inl (c_ch, 96, .inl ja))]) [1, 2, 3, 4, 5, 0] rfl
          have hD9 := hD.sub (ws' := [(h0, .inr (9, [.int (zI fa), .int (zI tc), .ref so, .ref sl, .ref ce, .int (zI fn), .ref kd, .ref wd, .ref hs, .ref pf, .ref lt, .int (zI mn), .ref wg, .int (zI ta), .long ck, .int (zI at9), .int (zI rfn), .ref rk, .ref rw, .ref rh, .int (zI u_cl_1), .ref sa, .ref fi, .int (zI u_bo_2), .ref ch, .ref cn, .int (zI ad), .int (zI ru), .ref kp, .int (zI dn), .ref rfa])), (wg, .inl (c_wg, 24, .inl f_wg)), (sa, .inl (c_sa, 25, .inl u_f_sa_3)), (fi, .inl (c_fi, 24, .inl u_f_fi_4)), (hs, .inl (c_hs, 4, .inl f_hs)), (ch, .inl (c_ch, 96, .inl ja))]) [1, 2, 3, 4, 5, 0] (by decide +kernel) rfl
          exact W.iret (v := (zI jb)) hx hb hr (fun t ht hW => kQS_of (by omega) ⟨u_cl_1, u_bo_2, u_f_sa_3, u_f_fi_4, ja, h_5, h_6, h_7, (kDp_eq v_121 (by omega)), v_711, (Or.inl c_9), by rw [ht]; exact hP9, hD9⟩ (hS.F ht)) hS.2.2 dX9_findChanges_124
        · refine lv_aload_n hx hb dX9_findChanges_86 rfl (lv_at hl 2 rfl) ?_
          refine lv_iconst (v := zI 0) hx hb dX9_findChanges_87 rfl ?_
          refine lv_iload_n hx hb dX9_findChanges_88 rfl (lv_at hl 0 rfl) ?_
          refine lv_iload_n hx hb dX9_findChanges_89 rfl (lv_at hl 3 rfl) ?_
          refine k_callR (va_runV (As := [.int (zI 0), .int (zI jg2), .int (zI wo)]) (rest := []) ⟨hx, hb, hml, hown, hts⟩ (c_X9_canSet l D H.size (kc := (0 : Int)) (f := jg2) (wo := wo) (h0 := h0) (fa := fa) (tc := tc) (so := so) (sl := sl) (ce := ce) (fn := fn) (kd := kd) (wd := wd) (hs := hs) (pf := pf) (lt := lt) (mn := mn) (wg := wg) (ta := ta) (ck := ck) (at9 := at9) (rfn := rfn) (rk := rk) (rw := rw) (rh := rh) (cl := u_cl_1) (sa := sa) (fi := fi) (bo := u_bo_2) (ch := ch) (cn := cn) (ad := ad) (ru := ru) (kp := kp) (dn := dn) (rfa := rfa) (c_fi := c_fi) (f_fi := u_f_fi_4) (by omega) (by omega) q0) (cwV 3 hts gX9_findChanges_X9_canSet rfl rfl rfl (by decide +kernel) ⟨Nat.le_of_ble_eq_true rfl, Nat.le_of_ble_eq_true rfl⟩) (kPreV hP (kD0 hD) hK hN [1, 4] [2] ax_X9_findChanges_5 rfl (by decide +kernel) 1 9 rfl rfl) rfl rfl hl.1 rfl (lv_room (Nat.le_of_ble_eq_true rfl)) dX9_findChanges_90 ⟨Nat.le_of_ble_eq_true rfl, Nat.le_of_ble_eq_true rfl⟩) ?_
          refine lv_if_eq (tgt := 115) hx hb dX9_findChanges_93 (by decide) (fun c_18 => ?_) (fun c_18 => ?_)
          · have c_18 : ¬ (kCan (u_f_fi_4 (0 : Int).toNat) jg2 wo) := b01f c_18
            refine lv_iload_n hx hb dX9_findChanges_115 rfl (lv_at hl 1 rfl) ?_
            refine lv_istore_n (lv' := [(2, .int (zI jb)), (3, .int (zI jg2)), (0, .ref h0), (1, .int (zI wo))]) hx hb dX9_findChanges_116 rfl hl (by decide) rfl (fun ls hl => ?_)
            refine lv_iinc (v := (zI (jg2 + 1))) (lv' := [(3, .int (zI (jg2 + 1))), (2, .int (zI jb)), (0, .ref h0), (1, .int (zI wo))]) hx hb dX9_findChanges_117 hl (k := 1) rfl (kz_inc _ 1) (by decide) rfl (fun ls hl => ?_)
            refine lv_goto (tgt := 71) hx hb dX9_findChanges_120 (by decide) ?_
            exact ih71 _ (by omega) _ _ _ ⟨jb, (jg2 + 1), rfl, (by omega), v_711, (Or.inl c_9), hP, hD, hS, lv_sub hl [0, 1, 2, 3] rfl⟩
          · have c_18 : kCan (u_f_fi_4 (0 : Int).toNat) jg2 wo := b01t c_18
            refine lv_aload_n hx hb dX9_findChanges_96 rfl (lv_at hl 2 rfl) ?_
            refine va_get (D := D) (ci := 9) (v := .ref ch) (C := RX9) (T := TX9) (N := 31) hx hb hts (fun _ h9 => List.mem_cons_of_mem _ (List.mem_append_right _ h9)) hown hK hP 1 rfl rfl 24 (by decide) (hts (.fieldLink RX9 52 "FontRunsModel" "changes" "[I") mw_X9_findChanges_2) (fun _ h9 => h9) rfl dX9_findChanges_97 ?_
            refine lv_iload_n hx hb dX9_findChanges_100 rfl (lv_at hl 0 rfl) ?_
            refine kz_iald hx hb hK hP 0 4 rfl rfl (by omega) dX9_findChanges_101 (fun z_19 rz_19 ez_19 => ?_)
            have gz_19 := v_121 0 jg2 (by omega) (by omega) (by omega) (by omega)
            have az_19 := kch_at0 rz_19 ez_19
            have bz_19 : 0 ≤ z_19 ∧ z_19 ≤ 24 := by have u1 := gz_19.1; have u2 := gz_19.2.1; rw [az_19] at u1 u2; exact ⟨u1, u2⟩
            refine lv_iload_n hx hb dX9_findChanges_102 rfl (lv_at hl 1 rfl) ?_
            refine kz_icmp_ge (tgt := 115) hx hb dX9_findChanges_103 (by decide) (by omega) (by omega) (fun c_20 => ?_) (fun c_20 => ?_)
            · refine lv_iload_n hx hb dX9_findChanges_115 rfl (lv_at hl 1 rfl) ?_
              refine lv_istore_n (lv' := [(2, .int (zI jb)), (3, .int (zI jg2)), (0, .ref h0), (1, .int (zI wo))]) hx hb dX9_findChanges_116 rfl hl (by decide) rfl (fun ls hl => ?_)
              refine lv_iinc (v := (zI (jg2 + 1))) (lv' := [(3, .int (zI (jg2 + 1))), (2, .int (zI jb)), (0, .ref h0), (1, .int (zI wo))]) hx hb dX9_findChanges_117 hl (k := 1) rfl (kz_inc _ 1) (by decide) rfl (fun ls hl => ?_)
              refine lv_goto (tgt := 71) hx hb dX9_findChanges_120 (by decide) ?_
              exact ih71 _ (by omega) _ _ _ ⟨jb, (jg2 + 1), rfl, (by omega), v_711, (Or.inl c_9), hP, hD, hS, lv_sub hl [0, 1, 2, 3] rfl⟩
            · refine lv_aload_n hx hb dX9_findChanges_106 rfl (lv_at hl 2 rfl) ?_
              refine va_get (D := D) (ci := 9) (v := .ref ch) (C := RX9) (T := TX9) (N := 31) hx hb hts (fun _ h9 => List.mem_cons_of_mem _ (List.mem_append_right _ h9)) hown hK hP 1 rfl rfl 24 (by decide) (hts (.fieldLink RX9 52 "FontRunsModel" "changes" "[I") mw_X9_findChanges_2) (fun _ h9 => h9) rfl dX9_findChanges_107 ?_
              refine lv_iload_n hx hb dX9_findChanges_110 rfl (lv_at hl 0 rfl) ?_
              refine kz_iald hx hb hK hP 0 4 rfl rfl (by omega) dX9_findChanges_111 (fun z_21 rz_21 ez_21 => ?_)
              have q9 : z_19 = z_21 := (zI_eq rz_19 rz_21).mp (ez_19.symm.trans ez_21)
              subst q9
              refine lv_goto (tgt := 116) hx hb dX9_findChanges_112 (by decide) ?_
              refine lv_istore_n (lv' := [(2, .int (zI z_19)), (3, .int (zI jg2)), (0, .ref h0), (1, .int (zI wo))]) hx hb dX9_findChanges_116 rfl hl (by decide) rfl (fun ls hl => ?_)
              refine lv_iinc (v := (zI (jg2 + 1))) (lv' := [(3, .int (zI (jg2 + 1))), (2, .int (zI z_19)), (0, .ref h0), (1, .int (zI wo))]) hx hb dX9_findChanges_117 hl (k := 1) rfl (kz_inc _ 1) (by decide) rfl (fun ls hl => ?_)
              refine lv_goto (tgt := 71) hx hb dX9_findChanges_120 (by decide) ?_
              exact ih71 _ (by omega) _ _ _ ⟨z_19, (jg2 + 1), rfl, (by omega), (by omega), (Or.inl c_9), hP, hD, hS, lv_sub hl [0, 1, 2, 3] rfl⟩
  · refine lv_iconst (v := zI 0) hx hb dX9_findChanges_16 rfl ?_
    refine lv_istore_n (lv' := [(3, .int (zI 0)), (2, .int (zI jc)), (0, .ref h0), (1, .int (zI wo))]) hx hb dX9_findChanges_17 rfl hl (by decide) rfl (fun ls hl => ?_)
    refine k_loopM (I := fun n9 H locs ls => ∃ (jg : Int) (jh : Nat → Int32), n9 = (fn - jg).toNat ∧ (0 ≤ jg ∧ jg ≤ fn) ∧ (kDp jh u_f_fi_4 fn u_cl_1 wo (jc + 1)) ∧ (kRw jh u_f_fi_4 fn u_cl_1 wo jc jg) ∧ va_P D vwCl [(ch, .inl (c_ch, 96, .inl jh)), (h0, .inr (9, [.int (zI fa), .int (zI tc), .ref so, .ref sl, .ref ce, .int (zI fn), .ref kd, .ref wd, .ref hs, .ref pf, .ref lt, .int (zI mn), .ref wg, .int (zI ta), .long ck, .int (zI at9), .int (zI rfn), .ref rk, .ref rw, .ref rh, .int (zI u_cl_1), .ref sa, .ref fi, .int (zI u_bo_2), .ref ch, .ref cn, .int (zI ad), .int (zI ru), .ref kp, .int (zI dn), .ref rfa])), (wg, .inl (c_wg, 24, .inl f_wg)), (sa, .inl (c_sa, 25, .inl u_f_sa_3)), (fi, .inl (c_fi, 24, .inl u_f_fi_4)), (hs, .inl (c_hs, 4, .inl f_hs))] H ∧ va_D A [(ch, .inl (c_ch, 96, .inl jh)), (h0, .inr (9, [.int (zI fa), .int (zI tc), .ref so, .ref sl, .ref ce, .int (zI fn), .ref kd, .ref wd, .ref hs, .ref pf, .ref lt, .int (zI mn), .ref wg, .int (zI ta), .long ck, .int (zI at9), .int (zI rfn), .ref rk, .ref rw, .ref rh, .int (zI u_cl_1), .ref sa, .ref fi, .int (zI u_bo_2), .ref ch, .ref cn, .int (zI ad), .int (zI ru), .ref kp, .int (zI dn), .ref rfa])), (wg, .inl (c_wg, 24, .inl f_wg)), (sa, .inl (c_sa, 25, .inl u_f_sa_3)), (fi, .inl (c_fi, 24, .inl u_f_fi_4)), (hs, .inl (c_hs, 4, .inl f_hs))] ∧ va_S A s.heap H locs ∧ lv_has ls 4 [(3, .int (zI jg)), (2, .int (zI jc)), (0, .ref h0), (1, .int (zI wo))]) ?_ _ ⟨0, ja, rfl, (by omega), v_121, kRw_0, hP, hD, hS, hl⟩
    intro n18 ih18 H locs ls hI
    obtain ⟨jg, jh, en18, v_180, v_181, v_182, hP, hD, hS, hl⟩ := hI
    refine lv_iload_n hx hb dX9_findChanges_18 rfl (lv_at hl 0 rfl) ?_
    refine lv_aload_n hx hb dX9_findChanges_19 rfl (lv_at hl 2 rfl) ?_
    refine va_get (D := D) (ci := 9) (v := .int (zI fn)) (C := RX9) (T := TX9) (N := 31) hx hb hts (fun _ h9 => List.mem_cons_of_mem _ (List.mem_append_right _ h9)) hown hK hP 1 rfl rfl 5 (by decide) (hts (.fieldLink RX9 74 "FontRunsModel" "fonts" "I") mw_X9_findChanges_1) (fun _ h9 => h9) rfl dX9_findChanges_20 ?_
    refine kz_icmp_ge (tgt := 49) hx hb dX9_findChanges_23 (by decide) (by omega) (by omega) (fun c_22 => ?_) (fun c_22 => ?_)
    · refine lv_iinc (v := (zI (jc - 1))) (lv' := [(2, .int (zI (jc - 1))), (3, .int (zI jg)), (0, .ref h0), (1, .int (zI wo))]) hx hb dX9_findChanges_49 hl (k := 1) rfl (kz_dec _ 1) (by decide) rfl (fun ls hl => ?_)
      refine lv_goto (tgt := 12) hx hb dX9_findChanges_52 (by decide) ?_
      exact ih12 _ (by omega) _ _ _ ⟨(jc - 1), jh, rfl, (by omega), (kDp_eq (kDp_dn v_181 (kRw_le v_182 (by omega))) (by omega)), hP, hD, hS, lv_sub hl [0, 2, 3] rfl⟩
    · refine lv_aload_n hx hb dX9_findChanges_26 rfl (lv_at hl 2 rfl) ?_
      refine va_get (D := D) (ci := 9) (v := .ref ch) (C := RX9) (T := TX9) (N := 31) hx hb hts (fun _ h9 => List.mem_cons_of_mem _ (List.mem_append_right _ h9)) hown hK hP 1 rfl rfl 24 (by decide) (hts (.fieldLink RX9 52 "FontRunsModel" "changes" "[I") mw_X9_findChanges_2) (fun _ h9 => h9) rfl dX9_findChanges_27 ?_
      refine lv_iconst (v := zI 4) hx hb dX9_findChanges_30 rfl ?_
      refine lv_iload_n hx hb dX9_findChanges_31 rfl (lv_at hl 1 rfl) ?_
      refine kz_imul hx hb dX9_findChanges_32 ?_
      refine lv_iload_n hx hb dX9_findChanges_33 rfl (lv_at hl 0 rfl) ?_
      refine kz_iadd hx hb dX9_findChanges_34 ?_
      refine lv_aload_n hx hb dX9_findChanges_35 rfl (lv_at hl 2 rfl) ?_
      refine lv_iload_n hx hb dX9_findChanges_36 rfl (lv_at hl 1 rfl) ?_
      refine lv_iload_n hx hb dX9_findChanges_37 rfl (lv_at hl 0 rfl) ?_
      refine lv_iload_n hx hb dX9_findChanges_38 rfl (lv_at hl 3 rfl) ?_
      refine k_callP (va_runV (As := [.int (zI jc), .int (zI jg), .int (zI wo)]) (rest := [.int (zI ((4 * jc) + jg)), .ref ch]) ⟨hx, hb, hml, hown, hts⟩ (c_X9_fewestBehind l D H.size (kc := jc) (kf := jg) (wo := wo) (h0 := h0) (fa := fa) (tc := tc) (so := so) (sl := sl) (ce := ce) (fn := fn) (kd := kd) (wd := wd) (hs := hs) (pf := pf) (lt := lt) (mn := mn) (wg := wg) (ta := ta) (ck := ck) (at9 := at9) (rfn := rfn) (rk := rk) (rw := rw) (rh := rh) (cl := u_cl_1) (sa := sa) (fi := fi) (bo := u_bo_2) (ch := ch) (cn := cn) (ad := ad) (ru := ru) (kp := kp) (dn := dn) (rfa := rfa) (c_fi := c_fi) (f_fi := u_f_fi_4) (c_ch := c_ch) (f_ch := jh) (by omega) (by omega) q0 (by omega) q2 v_181) (cwV 3 hts gX9_findChanges_X9_fewestBehind rfl rfl rfl (by decide +kernel) ⟨Nat.le_of_ble_eq_true rfl, Nat.le_of_ble_eq_true rfl⟩) (kPreV hP (kD0 hD) hK hN [1, 4, 0] [2, 4] ax_X9_findChanges_6 rfl (by decide +kernel) 1 9 rfl rfl) rfl rfl hl.1 rfl (lv_room (Nat.le_of_ble_eq_true rfl)) dX9_findChanges_39 ⟨Nat.le_of_ble_eq_true rfl, Nat.le_of_ble_eq_true rfl⟩) (fun z_23 rz_23 h_24 => ?_)
      refine kz_iast hx hb hK hP hD hS 0 4 rfl rfl (by omega) dX9_findChanges_42 (fun H locs hP hD hS => ?_)
      have hP : va_P D vwCl [(ch, .inl (c_ch, 96, .inl (upd jh ((4 * jc) + jg).toNat (zI z_23)))), (h0, .inr (9, [.int (zI fa), .int (zI tc), .ref so, .ref sl, .ref ce, .int (zI fn), .ref kd, .ref wd, .ref hs, .ref pf, .ref lt, .int (zI mn), .ref wg, .int (zI ta), .long ck, .int (zI at9), .int (zI rfn), .ref rk, .ref rw, .ref rh, .int (zI u_cl_1), .ref sa, .ref fi, .int (zI u_bo_2), .ref ch, .ref cn, .int (zI ad), .int (zI ru), .ref kp, .int (zI dn), .ref rfa])), (wg, .inl (c_wg, 24, .inl f_wg)), (sa, .inl (c_sa, 25, .inl u_f_sa_3)), (fi, .inl (c_fi, 24, .inl u_f_fi_4)), (hs, .inl (c_hs, 4, .inl f_hs))] H := hP
      have hD : va_D A [(ch, .inl (c_ch, 96, .inl (upd jh ((4 * jc) + jg).toNat (zI z_23)))), (h0, .inr (9, [.int (zI fa), .int (zI tc), .ref so, .ref sl, .ref ce, .int (zI fn), .ref kd, .ref wd, .ref hs, .ref pf, .ref lt, .int (zI mn), .ref wg, .int (zI ta), .long ck, .int (zI at9), .int (zI rfn), .ref rk, .ref rw, .ref rh, .int (zI u_cl_1), .ref sa, .ref fi, .int (zI u_bo_2), .ref ch, .ref cn, .int (zI ad), .int (zI ru), .ref kp, .int (zI dn), .ref rfa])), (wg, .inl (c_wg, 24, .inl f_wg)), (sa, .inl (c_sa, 25, .inl u_f_sa_3)), (fi, .inl (c_fi, 24, .inl u_f_fi_4)), (hs, .inl (c_hs, 4, .inl f_hs))] := hD
      generalize ef_25 : upd jh ((4 * jc) + jg).toNat (zI z_23) = f_25 at hP hD
      refine lv_iinc (v := (zI (jg + 1))) (lv' := [(3, .int (zI (jg + 1))), (2, .int (zI jc)), (0, .ref h0), (1, .int (zI wo))]) hx hb dX9_findChanges_43 hl (k := 0) rfl (kz_inc _ 1) (by decide) rfl (fun ls hl => ?_)
      refine lv_goto (tgt := 18) hx hb dX9_findChanges_46 (by decide) ?_
      exact ih18 _ (by omega) _ _ _ ⟨(jg + 1), f_25, rfl, (by omega), (by rw [← ef_25]; exact kDp_upd (by omega) v_181), (by rw [← ef_25]; exact kRw_upd (by omega) v_182 (by omega) h_24.1 h_24.2.1), hP, hD, hS, lv_sub hl [0, 1, 2, 3] rfl⟩
